theorem dX7_init_0 : decode cX7_init 0 = .ok (.aload_n 0, 1) := by decide +kernel
theorem dX7_init_1 : decode cX7_init 1 = .ok (.invokespecial 3, 3) := by decide +kernel
theorem dX7_init_4 : decode cX7_init 4 = .ok (.aload_n 0, 1) := by decide +kernel
theorem dX7_init_5 : decode cX7_init 5 = .ok (.sipush 375, 3) := by decide +kernel
theorem dX7_init_8 : decode cX7_init 8 = .ok (.newarray .int, 2) := by decide +kernel
theorem dX7_init_10 : decode cX7_init 10 = .ok (.putfield 9, 3) := by decide +kernel
theorem dX7_init_13 : decode cX7_init 13 = .ok (.aload_n 0, 1) := by decide +kernel
theorem dX7_init_14 : decode cX7_init 14 = .ok (.sipush 375, 3) := by decide +kernel
theorem dX7_init_17 : decode cX7_init 17 = .ok (.newarray .int, 2) := by decide +kernel
theorem dX7_init_19 : decode cX7_init 19 = .ok (.putfield 13, 3) := by decide +kernel
theorem dX7_init_22 : decode cX7_init 22 = .ok (.aload_n 0, 1) := by decide +kernel
theorem dX7_init_23 : decode cX7_init 23 = .ok (.bipush 7, 2) := by decide +kernel
theorem dX7_init_25 : decode cX7_init 25 = .ok (.newarray .int, 2) := by decide +kernel
theorem dX7_init_27 : decode cX7_init 27 = .ok (.putfield 16, 3) := by decide +kernel
theorem dX7_init_30 : decode cX7_init 30 = .ok (.aload_n 0, 1) := by decide +kernel
theorem dX7_init_31 : decode cX7_init 31 = .ok (.iconst 4, 1) := by decide +kernel
theorem dX7_init_32 : decode cX7_init 32 = .ok (.newarray .int, 2) := by decide +kernel
theorem dX7_init_34 : decode cX7_init 34 = .ok (.putfield 19, 3) := by decide +kernel
theorem dX7_init_37 : decode cX7_init 37 = .ok (.aload_n 0, 1) := by decide +kernel
theorem dX7_init_38 : decode cX7_init 38 = .ok (.iconst 4, 1) := by decide +kernel
theorem dX7_init_39 : decode cX7_init 39 = .ok (.newarray .int, 2) := by decide +kernel
theorem dX7_init_41 : decode cX7_init 41 = .ok (.putfield 22, 3) := by decide +kernel
theorem dX7_init_44 : decode cX7_init 44 = .ok (.aload_n 0, 1) := by decide +kernel
theorem dX7_init_45 : decode cX7_init 45 = .ok (.bipush 96, 2) := by decide +kernel
theorem dX7_init_47 : decode cX7_init 47 = .ok (.newarray .int, 2) := by decide +kernel
theorem dX7_init_49 : decode cX7_init 49 = .ok (.putfield 25, 3) := by decide +kernel
theorem dX7_init_52 : decode cX7_init 52 = .ok (.aload_n 0, 1) := by decide +kernel
theorem dX7_init_53 : decode cX7_init 53 = .ok (.sipush 480, 3) := by decide +kernel
theorem dX7_init_56 : decode cX7_init 56 = .ok (.newarray .int, 2) := by decide +kernel
theorem dX7_init_58 : decode cX7_init 58 = .ok (.putfield 28, 3) := by decide +kernel
theorem dX7_init_61 : decode cX7_init 61 = .ok (.aload_n 0, 1) := by decide +kernel
theorem dX7_init_62 : decode cX7_init 62 = .ok (.bipush 60, 2) := by decide +kernel
theorem dX7_init_64 : decode cX7_init 64 = .ok (.newarray .int, 2) := by decide +kernel
theorem dX7_init_66 : decode cX7_init 66 = .ok (.putfield 31, 3) := by decide +kernel
theorem dX7_init_69 : decode cX7_init 69 = .ok (.aload_n 0, 1) := by decide +kernel
theorem dX7_init_70 : decode cX7_init 70 = .ok (.bipush 60, 2) := by decide +kernel
theorem dX7_init_72 : decode cX7_init 72 = .ok (.newarray .int, 2) := by decide +kernel
theorem dX7_init_74 : decode cX7_init 74 = .ok (.putfield 34, 3) := by decide +kernel
theorem dX7_init_77 : decode cX7_init 77 = .ok (.aload_n 0, 1) := by decide +kernel
theorem dX7_init_78 : decode cX7_init 78 = .ok (.iconst 3, 1) := by decide +kernel
theorem dX7_init_79 : decode cX7_init 79 = .ok (.newarray .int, 2) := by decide +kernel
theorem dX7_init_81 : decode cX7_init 81 = .ok (.putfield 37, 3) := by decide +kernel
theorem dX7_init_84 : decode cX7_init 84 = .ok (.aload_n 0, 1) := by decide +kernel
theorem dX7_init_85 : decode cX7_init 85 = .ok (.bipush 60, 2) := by decide +kernel
theorem dX7_init_87 : decode cX7_init 87 = .ok (.newarray .int, 2) := by decide +kernel
theorem dX7_init_89 : decode cX7_init 89 = .ok (.putfield 40, 3) := by decide +kernel
theorem dX7_init_92 : decode cX7_init 92 = .ok (.aload_n 0, 1) := by decide +kernel
theorem dX7_init_93 : decode cX7_init 93 = .ok (.bipush 30, 2) := by decide +kernel
theorem dX7_init_95 : decode cX7_init 95 = .ok (.newarray .int, 2) := by decide +kernel
theorem dX7_init_97 : decode cX7_init 97 = .ok (.putfield 43, 3) := by decide +kernel
theorem dX7_init_100 : decode cX7_init 100 = .ok (.aload_n 0, 1) := by decide +kernel
theorem dX7_init_101 : decode cX7_init 101 = .ok (.getfield 9, 3) := by decide +kernel
theorem dX7_init_104 : decode cX7_init 104 = .ok (.iconst 1, 1) := by decide +kernel
theorem dX7_init_105 : decode cX7_init 105 = .ok (.iconst 1, 1) := by decide +kernel
theorem dX7_init_106 : decode cX7_init 106 = .ok (.iastore, 1) := by decide +kernel
theorem dX7_init_107 : decode cX7_init 107 = .ok (.return_, 1) := by decide +kernel
theorem dX7_error_0 : decode cX7_error 0 = .ok (.aload_n 0, 1) := by decide +kernel
theorem dX7_error_1 : decode cX7_error 1 = .ok (.getfield 16, 3) := by decide +kernel
theorem dX7_error_4 : decode cX7_error 4 = .ok (.ldc 46, 2) := by decide +kernel
theorem dX7_error_6 : decode cX7_error 6 = .ok (.iload_n 1, 1) := by decide +kernel
theorem dX7_error_7 : decode cX7_error 7 = .ok (.isub, 1) := by decide +kernel
theorem dX7_error_8 : decode cX7_error 8 = .ok (.dup2, 1) := by decide +kernel
theorem dX7_error_9 : decode cX7_error 9 = .ok (.iaload, 1) := by decide +kernel
theorem dX7_error_10 : decode cX7_error 10 = .ok (.iconst 1, 1) := by decide +kernel
theorem dX7_error_11 : decode cX7_error 11 = .ok (.iadd, 1) := by decide +kernel
theorem dX7_error_12 : decode cX7_error 12 = .ok (.iastore, 1) := by decide +kernel
theorem dX7_error_13 : decode cX7_error 13 = .ok (.iload_n 1, 1) := by decide +kernel
theorem dX7_error_14 : decode cX7_error 14 = .ok (.ireturn, 1) := by decide +kernel
theorem dX7_in_0 : decode cX7_in 0 = .ok (.iload_n 0, 1) := by decide +kernel
theorem dX7_in_1 : decode cX7_in 1 = .ok (.iload_n 1, 1) := by decide +kernel
theorem dX7_in_2 : decode cX7_in 2 = .ok (.if_icmp .lt 12, 3) := by decide +kernel
theorem dX7_in_5 : decode cX7_in 5 = .ok (.iload_n 0, 1) := by decide +kernel
theorem dX7_in_6 : decode cX7_in 6 = .ok (.iload_n 2, 1) := by decide +kernel
theorem dX7_in_7 : decode cX7_in 7 = .ok (.if_icmp .gt 7, 3) := by decide +kernel
theorem dX7_in_10 : decode cX7_in 10 = .ok (.iconst 1, 1) := by decide +kernel
theorem dX7_in_11 : decode cX7_in 11 = .ok (.goto 4, 3) := by decide +kernel
theorem dX7_in_14 : decode cX7_in 14 = .ok (.iconst 0, 1) := by decide +kernel
theorem dX7_in_15 : decode cX7_in 15 = .ok (.ireturn, 1) := by decide +kernel
theorem dX7_held_0 : decode cX7_held 0 = .ok (.iload_n 0, 1) := by decide +kernel
theorem dX7_held_1 : decode cX7_held 1 = .ok (.iload_n 1, 1) := by decide +kernel
theorem dX7_held_2 : decode cX7_held 2 = .ok (.if_icmp .ge 7, 3) := by decide +kernel
theorem dX7_held_5 : decode cX7_held 5 = .ok (.iload_n 1, 1) := by decide +kernel
theorem dX7_held_6 : decode cX7_held 6 = .ok (.goto 13, 3) := by decide +kernel
theorem dX7_held_9 : decode cX7_held 9 = .ok (.iload_n 0, 1) := by decide +kernel
theorem dX7_held_10 : decode cX7_held 10 = .ok (.iload_n 2, 1) := by decide +kernel
theorem dX7_held_11 : decode cX7_held 11 = .ok (.if_icmp .le 7, 3) := by decide +kernel
theorem dX7_held_14 : decode cX7_held 14 = .ok (.iload_n 2, 1) := by decide +kernel
theorem dX7_held_15 : decode cX7_held 15 = .ok (.goto 4, 3) := by decide +kernel
theorem dX7_held_18 : decode cX7_held 18 = .ok (.iload_n 0, 1) := by decide +kernel
theorem dX7_held_19 : decode cX7_held 19 = .ok (.ireturn, 1) := by decide +kernel
theorem dX7_copyAll_0 : decode cX7_copyAll 0 = .ok (.iconst 0, 1) := by decide +kernel
theorem dX7_copyAll_1 : decode cX7_copyAll 1 = .ok (.istore_n 2, 1) := by decide +kernel
theorem dX7_copyAll_2 : decode cX7_copyAll 2 = .ok (.iload_n 2, 1) := by decide +kernel
theorem dX7_copyAll_3 : decode cX7_copyAll 3 = .ok (.sipush 375, 3) := by decide +kernel
theorem dX7_copyAll_6 : decode cX7_copyAll 6 = .ok (.if_icmp .ge 15, 3) := by decide +kernel
theorem dX7_copyAll_9 : decode cX7_copyAll 9 = .ok (.aload_n 1, 1) := by decide +kernel
theorem dX7_copyAll_10 : decode cX7_copyAll 10 = .ok (.iload_n 2, 1) := by decide +kernel
theorem dX7_copyAll_11 : decode cX7_copyAll 11 = .ok (.aload_n 0, 1) := by decide +kernel
theorem dX7_copyAll_12 : decode cX7_copyAll 12 = .ok (.iload_n 2, 1) := by decide +kernel
theorem dX7_copyAll_13 : decode cX7_copyAll 13 = .ok (.iaload, 1) := by decide +kernel
theorem dX7_copyAll_14 : decode cX7_copyAll 14 = .ok (.iastore, 1) := by decide +kernel
theorem dX7_copyAll_15 : decode cX7_copyAll 15 = .ok (.iinc 2 1, 3) := by decide +kernel
theorem dX7_copyAll_18 : decode cX7_copyAll 18 = .ok (.goto (-16), 3) := by decide +kernel
theorem dX7_copyAll_21 : decode cX7_copyAll 21 = .ok (.return_, 1) := by decide +kernel
theorem dX7_bits_0 : decode cX7_bits 0 = .ok (.iconst 0, 1) := by decide +kernel
theorem dX7_bits_1 : decode cX7_bits 1 = .ok (.istore_n 1, 1) := by decide +kernel
theorem dX7_bits_2 : decode cX7_bits 2 = .ok (.iload_n 0, 1) := by decide +kernel
theorem dX7_bits_3 : decode cX7_bits 3 = .ok (.istore_n 2, 1) := by decide +kernel
theorem dX7_bits_4 : decode cX7_bits 4 = .ok (.iload_n 2, 1) := by decide +kernel
theorem dX7_bits_5 : decode cX7_bits 5 = .ok (.ifCond .eq 15, 3) := by decide +kernel
theorem dX7_bits_8 : decode cX7_bits 8 = .ok (.iinc 1 1, 3) := by decide +kernel
theorem dX7_bits_11 : decode cX7_bits 11 = .ok (.iload_n 2, 1) := by decide +kernel
theorem dX7_bits_12 : decode cX7_bits 12 = .ok (.iload_n 2, 1) := by decide +kernel
theorem dX7_bits_13 : decode cX7_bits 13 = .ok (.iconst 1, 1) := by decide +kernel
theorem dX7_bits_14 : decode cX7_bits 14 = .ok (.isub, 1) := by decide +kernel
theorem dX7_bits_15 : decode cX7_bits 15 = .ok (.iand, 1) := by decide +kernel
theorem dX7_bits_16 : decode cX7_bits 16 = .ok (.istore_n 2, 1) := by decide +kernel
theorem dX7_bits_17 : decode cX7_bits 17 = .ok (.goto (-13), 3) := by decide +kernel
theorem dX7_bits_20 : decode cX7_bits 20 = .ok (.iload_n 1, 1) := by decide +kernel
theorem dX7_bits_21 : decode cX7_bits 21 = .ok (.ireturn, 1) := by decide +kernel
theorem dX7_isHand_0 : decode cX7_isHand 0 = .ok (.iload_n 1, 1) := by decide +kernel
theorem dX7_isHand_1 : decode cX7_isHand 1 = .ok (.iconst 0, 1) := by decide +kernel
theorem dX7_isHand_2 : decode cX7_isHand 2 = .ok (.aload_n 0, 1) := by decide +kernel
theorem dX7_isHand_3 : decode cX7_isHand 3 = .ok (.getfield 9, 3) := by decide +kernel
theorem dX7_isHand_6 : decode cX7_isHand 6 = .ok (.iconst 2, 1) := by decide +kernel
theorem dX7_isHand_7 : decode cX7_isHand 7 = .ok (.iaload, 1) := by decide +kernel
theorem dX7_isHand_8 : decode cX7_isHand 8 = .ok (.iconst 1, 1) := by decide +kernel
theorem dX7_isHand_9 : decode cX7_isHand 9 = .ok (.isub, 1) := by decide +kernel
theorem dX7_isHand_10 : decode cX7_isHand 10 = .ok (.invokestatic 47, 3) := by decide +kernel
theorem dX7_isHand_13 : decode cX7_isHand 13 = .ok (.ireturn, 1) := by decide +kernel
theorem dX7_isHome_0 : decode cX7_isHome 0 = .ok (.iload_n 1, 1) := by decide +kernel
theorem dX7_isHome_1 : decode cX7_isHome 1 = .ok (.iconst 0, 1) := by decide +kernel
theorem dX7_isHome_2 : decode cX7_isHome 2 = .ok (.aload_n 0, 1) := by decide +kernel
theorem dX7_isHome_3 : decode cX7_isHome 3 = .ok (.getfield 9, 3) := by decide +kernel
theorem dX7_isHome_6 : decode cX7_isHome 6 = .ok (.iconst 3, 1) := by decide +kernel
theorem dX7_isHome_7 : decode cX7_isHome 7 = .ok (.iaload, 1) := by decide +kernel
theorem dX7_isHome_8 : decode cX7_isHome 8 = .ok (.iconst 1, 1) := by decide +kernel
theorem dX7_isHome_9 : decode cX7_isHome 9 = .ok (.isub, 1) := by decide +kernel
theorem dX7_isHome_10 : decode cX7_isHome 10 = .ok (.invokestatic 47, 3) := by decide +kernel
theorem dX7_isHome_13 : decode cX7_isHome 13 = .ok (.ireturn, 1) := by decide +kernel
theorem dX7_isPerson_0 : decode cX7_isPerson 0 = .ok (.iload_n 1, 1) := by decide +kernel
theorem dX7_isPerson_1 : decode cX7_isPerson 1 = .ok (.iconst 0, 1) := by decide +kernel
theorem dX7_isPerson_2 : decode cX7_isPerson 2 = .ok (.aload_n 0, 1) := by decide +kernel
theorem dX7_isPerson_3 : decode cX7_isPerson 3 = .ok (.getfield 9, 3) := by decide +kernel
theorem dX7_isPerson_6 : decode cX7_isPerson 6 = .ok (.iconst 4, 1) := by decide +kernel
theorem dX7_isPerson_7 : decode cX7_isPerson 7 = .ok (.iaload, 1) := by decide +kernel
theorem dX7_isPerson_8 : decode cX7_isPerson 8 = .ok (.iconst 1, 1) := by decide +kernel
theorem dX7_isPerson_9 : decode cX7_isPerson 9 = .ok (.isub, 1) := by decide +kernel
theorem dX7_isPerson_10 : decode cX7_isPerson 10 = .ok (.invokestatic 47, 3) := by decide +kernel
theorem dX7_isPerson_13 : decode cX7_isPerson 13 = .ok (.ireturn, 1) := by decide +kernel
theorem dX7_becomes_0 : decode cX7_becomes 0 = .ok (.aload_n 0, 1) := by decide +kernel
theorem dX7_becomes_1 : decode cX7_becomes 1 = .ok (.getfield 9, 3) := by decide +kernel
theorem dX7_becomes_4 : decode cX7_becomes 4 = .ok (.iload_n 1, 1) := by decide +kernel
theorem dX7_becomes_5 : decode cX7_becomes 5 = .ok (.iaload, 1) := by decide +kernel
theorem dX7_becomes_6 : decode cX7_becomes 6 = .ok (.istore_n 3, 1) := by decide +kernel
theorem dX7_becomes_7 : decode cX7_becomes 7 = .ok (.aload_n 0, 1) := by decide +kernel
theorem dX7_becomes_8 : decode cX7_becomes 8 = .ok (.getfield 9, 3) := by decide +kernel
theorem dX7_becomes_11 : decode cX7_becomes 11 = .ok (.iload_n 1, 1) := by decide +kernel
theorem dX7_becomes_12 : decode cX7_becomes 12 = .ok (.iload_n 2, 1) := by decide +kernel
theorem dX7_becomes_13 : decode cX7_becomes 13 = .ok (.iastore, 1) := by decide +kernel
theorem dX7_becomes_14 : decode cX7_becomes 14 = .ok (.iload_n 3, 1) := by decide +kernel
theorem dX7_becomes_15 : decode cX7_becomes 15 = .ok (.ireturn, 1) := by decide +kernel
theorem dX7_of_0 : decode cX7_of 0 = .ok (.aload_n 0, 1) := by decide +kernel
theorem dX7_of_1 : decode cX7_of 1 = .ok (.getfield 9, 3) := by decide +kernel
theorem dX7_of_4 : decode cX7_of 4 = .ok (.bipush 31, 2) := by decide +kernel
theorem dX7_of_6 : decode cX7_of 6 = .ok (.iconst 3, 1) := by decide +kernel
theorem dX7_of_7 : decode cX7_of 7 = .ok (.iload_n 1, 1) := by decide +kernel
theorem dX7_of_8 : decode cX7_of 8 = .ok (.imul, 1) := by decide +kernel
theorem dX7_of_9 : decode cX7_of 9 = .ok (.iadd, 1) := by decide +kernel
theorem dX7_of_10 : decode cX7_of 10 = .ok (.iload_n 2, 1) := by decide +kernel
theorem dX7_of_11 : decode cX7_of 11 = .ok (.iadd, 1) := by decide +kernel
theorem dX7_of_12 : decode cX7_of 12 = .ok (.iaload, 1) := by decide +kernel
theorem dX7_of_13 : decode cX7_of 13 = .ok (.ireturn, 1) := by decide +kernel
theorem dX7_markOf_0 : decode cX7_markOf 0 = .ok (.aload_n 0, 1) := by decide +kernel
theorem dX7_markOf_1 : decode cX7_markOf 1 = .ok (.getfield 9, 3) := by decide +kernel
theorem dX7_markOf_4 : decode cX7_markOf 4 = .ok (.bipush 7, 2) := by decide +kernel
theorem dX7_markOf_6 : decode cX7_markOf 6 = .ok (.iconst 2, 1) := by decide +kernel
theorem dX7_markOf_7 : decode cX7_markOf 7 = .ok (.iload_n 1, 1) := by decide +kernel
theorem dX7_markOf_8 : decode cX7_markOf 8 = .ok (.imul, 1) := by decide +kernel
theorem dX7_markOf_9 : decode cX7_markOf 9 = .ok (.iadd, 1) := by decide +kernel
theorem dX7_markOf_10 : decode cX7_markOf 10 = .ok (.iaload, 1) := by decide +kernel
theorem dX7_markOf_11 : decode cX7_markOf 11 = .ok (.istore_n 3, 1) := by decide +kernel
theorem dX7_markOf_12 : decode cX7_markOf 12 = .ok (.iload_n 2, 1) := by decide +kernel
theorem dX7_markOf_13 : decode cX7_markOf 13 = .ok (.aload_n 0, 1) := by decide +kernel
theorem dX7_markOf_14 : decode cX7_markOf 14 = .ok (.getfield 9, 3) := by decide +kernel
theorem dX7_markOf_17 : decode cX7_markOf 17 = .ok (.bipush 7, 2) := by decide +kernel
theorem dX7_markOf_19 : decode cX7_markOf 19 = .ok (.iconst 2, 1) := by decide +kernel
theorem dX7_markOf_20 : decode cX7_markOf 20 = .ok (.iload_n 1, 1) := by decide +kernel
theorem dX7_markOf_21 : decode cX7_markOf 21 = .ok (.imul, 1) := by decide +kernel
theorem dX7_markOf_22 : decode cX7_markOf 22 = .ok (.iadd, 1) := by decide +kernel
theorem dX7_markOf_23 : decode cX7_markOf 23 = .ok (.iconst 1, 1) := by decide +kernel
theorem dX7_markOf_24 : decode cX7_markOf 24 = .ok (.iadd, 1) := by decide +kernel
theorem dX7_markOf_25 : decode cX7_markOf 25 = .ok (.iaload, 1) := by decide +kernel
theorem dX7_markOf_26 : decode cX7_markOf 26 = .ok (.iadd, 1) := by decide +kernel
theorem dX7_markOf_27 : decode cX7_markOf 27 = .ok (.iload_n 3, 1) := by decide +kernel
theorem dX7_markOf_28 : decode cX7_markOf 28 = .ok (.irem, 1) := by decide +kernel
theorem dX7_markOf_29 : decode cX7_markOf 29 = .ok (.bipush 60, 2) := by decide +kernel
theorem dX7_markOf_31 : decode cX7_markOf 31 = .ok (.imul, 1) := by decide +kernel
theorem dX7_markOf_32 : decode cX7_markOf 32 = .ok (.iload_n 3, 1) := by decide +kernel
theorem dX7_markOf_33 : decode cX7_markOf 33 = .ok (.idiv, 1) := by decide +kernel
theorem dX7_markOf_34 : decode cX7_markOf 34 = .ok (.ireturn, 1) := by decide +kernel
theorem dX7_apart_0 : decode cX7_apart 0 = .ok (.aload_n 0, 1) := by decide +kernel
theorem dX7_apart_1 : decode cX7_apart 1 = .ok (.iload_n 1, 1) := by decide +kernel
theorem dX7_apart_2 : decode cX7_apart 2 = .ok (.iload_n 3, 1) := by decide +kernel
theorem dX7_apart_3 : decode cX7_apart 3 = .ok (.invokevirtual 51, 3) := by decide +kernel
theorem dX7_apart_6 : decode cX7_apart 6 = .ok (.aload_n 0, 1) := by decide +kernel
theorem dX7_apart_7 : decode cX7_apart 7 = .ok (.iload_n 2, 1) := by decide +kernel
theorem dX7_apart_8 : decode cX7_apart 8 = .ok (.iload_n 3, 1) := by decide +kernel
theorem dX7_apart_9 : decode cX7_apart 9 = .ok (.invokevirtual 51, 3) := by decide +kernel
theorem dX7_apart_12 : decode cX7_apart 12 = .ok (.isub, 1) := by decide +kernel
theorem dX7_apart_13 : decode cX7_apart 13 = .ok (.istore 4, 2) := by decide +kernel
theorem dX7_apart_15 : decode cX7_apart 15 = .ok (.iload 4, 2) := by decide +kernel
theorem dX7_apart_17 : decode cX7_apart 17 = .ok (.ifCond .ge 9, 3) := by decide +kernel
theorem dX7_apart_20 : decode cX7_apart 20 = .ok (.iload 4, 2) := by decide +kernel
theorem dX7_apart_22 : decode cX7_apart 22 = .ok (.ineg, 1) := by decide +kernel
theorem dX7_apart_23 : decode cX7_apart 23 = .ok (.goto 5, 3) := by decide +kernel
theorem dX7_apart_26 : decode cX7_apart 26 = .ok (.iload 4, 2) := by decide +kernel
theorem dX7_apart_28 : decode cX7_apart 28 = .ok (.istore 4, 2) := by decide +kernel
theorem dX7_apart_30 : decode cX7_apart 30 = .ok (.iload 4, 2) := by decide +kernel
theorem dX7_apart_32 : decode cX7_apart 32 = .ok (.bipush 60, 2) := by decide +kernel
theorem dX7_apart_34 : decode cX7_apart 34 = .ok (.iload 4, 2) := by decide +kernel
theorem dX7_apart_36 : decode cX7_apart 36 = .ok (.isub, 1) := by decide +kernel
theorem dX7_apart_37 : decode cX7_apart 37 = .ok (.if_icmp .ge 8, 3) := by decide +kernel
theorem dX7_apart_40 : decode cX7_apart 40 = .ok (.iload 4, 2) := by decide +kernel
theorem dX7_apart_42 : decode cX7_apart 42 = .ok (.goto 8, 3) := by decide +kernel
theorem dX7_apart_45 : decode cX7_apart 45 = .ok (.bipush 60, 2) := by decide +kernel
theorem dX7_apart_47 : decode cX7_apart 47 = .ok (.iload 4, 2) := by decide +kernel
theorem dX7_apart_49 : decode cX7_apart 49 = .ok (.isub, 1) := by decide +kernel
theorem dX7_apart_50 : decode cX7_apart 50 = .ok (.ireturn, 1) := by decide +kernel
theorem dX7_hand_0 : decode cX7_hand 0 = .ok (.iload_n 1, 1) := by decide +kernel
theorem dX7_hand_1 : decode cX7_hand 1 = .ok (.iconst 1, 1) := by decide +kernel
theorem dX7_hand_2 : decode cX7_hand 2 = .ok (.sipush 1440, 3) := by decide +kernel
theorem dX7_hand_5 : decode cX7_hand 5 = .ok (.invokestatic 47, 3) := by decide +kernel
theorem dX7_hand_8 : decode cX7_hand 8 = .ok (.ifCond .eq 14, 3) := by decide +kernel
theorem dX7_hand_11 : decode cX7_hand 11 = .ok (.iload_n 2, 1) := by decide +kernel
theorem dX7_hand_12 : decode cX7_hand 12 = .ok (.iconst 0, 1) := by decide +kernel
theorem dX7_hand_13 : decode cX7_hand 13 = .ok (.sipush 1439, 3) := by decide +kernel
theorem dX7_hand_16 : decode cX7_hand 16 = .ok (.invokestatic 47, 3) := by decide +kernel
theorem dX7_hand_19 : decode cX7_hand 19 = .ok (.ifCond .ne 10, 3) := by decide +kernel
theorem dX7_hand_22 : decode cX7_hand 22 = .ok (.aload_n 0, 1) := by decide +kernel
theorem dX7_hand_23 : decode cX7_hand 23 = .ok (.ldc 55, 2) := by decide +kernel
theorem dX7_hand_25 : decode cX7_hand 25 = .ok (.invokevirtual 56, 3) := by decide +kernel
theorem dX7_hand_28 : decode cX7_hand 28 = .ok (.ireturn, 1) := by decide +kernel
theorem dX7_hand_29 : decode cX7_hand 29 = .ok (.aload_n 0, 1) := by decide +kernel
theorem dX7_hand_30 : decode cX7_hand 30 = .ok (.getfield 9, 3) := by decide +kernel
theorem dX7_hand_33 : decode cX7_hand 33 = .ok (.iconst 2, 1) := by decide +kernel
theorem dX7_hand_34 : decode cX7_hand 34 = .ok (.iaload, 1) := by decide +kernel
theorem dX7_hand_35 : decode cX7_hand 35 = .ok (.istore_n 3, 1) := by decide +kernel
theorem dX7_hand_36 : decode cX7_hand 36 = .ok (.iload_n 3, 1) := by decide +kernel
theorem dX7_hand_37 : decode cX7_hand 37 = .ok (.iconst 4, 1) := by decide +kernel
theorem dX7_hand_38 : decode cX7_hand 38 = .ok (.if_icmp .ne 10, 3) := by decide +kernel
theorem dX7_hand_41 : decode cX7_hand 41 = .ok (.aload_n 0, 1) := by decide +kernel
theorem dX7_hand_42 : decode cX7_hand 42 = .ok (.ldc 60, 2) := by decide +kernel
theorem dX7_hand_44 : decode cX7_hand 44 = .ok (.invokevirtual 56, 3) := by decide +kernel
theorem dX7_hand_47 : decode cX7_hand 47 = .ok (.ireturn, 1) := by decide +kernel
theorem dX7_hand_48 : decode cX7_hand 48 = .ok (.aload_n 0, 1) := by decide +kernel
theorem dX7_hand_49 : decode cX7_hand 49 = .ok (.getfield 9, 3) := by decide +kernel
theorem dX7_hand_52 : decode cX7_hand 52 = .ok (.iconst 2, 1) := by decide +kernel
theorem dX7_hand_53 : decode cX7_hand 53 = .ok (.dup2, 1) := by decide +kernel
theorem dX7_hand_54 : decode cX7_hand 54 = .ok (.iaload, 1) := by decide +kernel
theorem dX7_hand_55 : decode cX7_hand 55 = .ok (.iconst 1, 1) := by decide +kernel
theorem dX7_hand_56 : decode cX7_hand 56 = .ok (.iadd, 1) := by decide +kernel
theorem dX7_hand_57 : decode cX7_hand 57 = .ok (.iastore, 1) := by decide +kernel
theorem dX7_hand_58 : decode cX7_hand 58 = .ok (.aload_n 0, 1) := by decide +kernel
theorem dX7_hand_59 : decode cX7_hand 59 = .ok (.getfield 9, 3) := by decide +kernel
theorem dX7_hand_62 : decode cX7_hand 62 = .ok (.bipush 7, 2) := by decide +kernel
theorem dX7_hand_64 : decode cX7_hand 64 = .ok (.iconst 2, 1) := by decide +kernel
theorem dX7_hand_65 : decode cX7_hand 65 = .ok (.iload_n 3, 1) := by decide +kernel
theorem dX7_hand_66 : decode cX7_hand 66 = .ok (.imul, 1) := by decide +kernel
theorem dX7_hand_67 : decode cX7_hand 67 = .ok (.iadd, 1) := by decide +kernel
theorem dX7_hand_68 : decode cX7_hand 68 = .ok (.iload_n 1, 1) := by decide +kernel
theorem dX7_hand_69 : decode cX7_hand 69 = .ok (.iastore, 1) := by decide +kernel
theorem dX7_hand_70 : decode cX7_hand 70 = .ok (.aload_n 0, 1) := by decide +kernel
theorem dX7_hand_71 : decode cX7_hand 71 = .ok (.getfield 9, 3) := by decide +kernel
theorem dX7_hand_74 : decode cX7_hand 74 = .ok (.bipush 7, 2) := by decide +kernel
theorem dX7_hand_76 : decode cX7_hand 76 = .ok (.iconst 2, 1) := by decide +kernel
theorem dX7_hand_77 : decode cX7_hand 77 = .ok (.iload_n 3, 1) := by decide +kernel
theorem dX7_hand_78 : decode cX7_hand 78 = .ok (.imul, 1) := by decide +kernel
theorem dX7_hand_79 : decode cX7_hand 79 = .ok (.iadd, 1) := by decide +kernel
theorem dX7_hand_80 : decode cX7_hand 80 = .ok (.iconst 1, 1) := by decide +kernel
theorem dX7_hand_81 : decode cX7_hand 81 = .ok (.iadd, 1) := by decide +kernel
theorem dX7_hand_82 : decode cX7_hand 82 = .ok (.iload_n 2, 1) := by decide +kernel
theorem dX7_hand_83 : decode cX7_hand 83 = .ok (.iastore, 1) := by decide +kernel
theorem dX7_hand_84 : decode cX7_hand 84 = .ok (.iload_n 3, 1) := by decide +kernel
theorem dX7_hand_85 : decode cX7_hand 85 = .ok (.ireturn, 1) := by decide +kernel
theorem dX7_homesOn_0 : decode cX7_homesOn 0 = .ok (.iconst 0, 1) := by decide +kernel
theorem dX7_homesOn_1 : decode cX7_homesOn 1 = .ok (.istore_n 2, 1) := by decide +kernel
theorem dX7_homesOn_2 : decode cX7_homesOn 2 = .ok (.iconst 0, 1) := by decide +kernel
theorem dX7_homesOn_3 : decode cX7_homesOn 3 = .ok (.istore_n 3, 1) := by decide +kernel
theorem dX7_homesOn_4 : decode cX7_homesOn 4 = .ok (.iload_n 3, 1) := by decide +kernel
theorem dX7_homesOn_5 : decode cX7_homesOn 5 = .ok (.aload_n 0, 1) := by decide +kernel
theorem dX7_homesOn_6 : decode cX7_homesOn 6 = .ok (.getfield 9, 3) := by decide +kernel
theorem dX7_homesOn_9 : decode cX7_homesOn 9 = .ok (.iconst 3, 1) := by decide +kernel
theorem dX7_homesOn_10 : decode cX7_homesOn 10 = .ok (.iaload, 1) := by decide +kernel
theorem dX7_homesOn_11 : decode cX7_homesOn 11 = .ok (.if_icmp .ge 34, 3) := by decide +kernel
theorem dX7_homesOn_14 : decode cX7_homesOn 14 = .ok (.iload_n 2, 1) := by decide +kernel
theorem dX7_homesOn_15 : decode cX7_homesOn 15 = .ok (.aload_n 0, 1) := by decide +kernel
theorem dX7_homesOn_16 : decode cX7_homesOn 16 = .ok (.getfield 9, 3) := by decide +kernel
theorem dX7_homesOn_19 : decode cX7_homesOn 19 = .ok (.bipush 15, 2) := by decide +kernel
theorem dX7_homesOn_21 : decode cX7_homesOn 21 = .ok (.iconst 2, 1) := by decide +kernel
theorem dX7_homesOn_22 : decode cX7_homesOn 22 = .ok (.iload_n 3, 1) := by decide +kernel
theorem dX7_homesOn_23 : decode cX7_homesOn 23 = .ok (.imul, 1) := by decide +kernel
theorem dX7_homesOn_24 : decode cX7_homesOn 24 = .ok (.iadd, 1) := by decide +kernel
theorem dX7_homesOn_25 : decode cX7_homesOn 25 = .ok (.iaload, 1) := by decide +kernel
theorem dX7_homesOn_26 : decode cX7_homesOn 26 = .ok (.iload_n 1, 1) := by decide +kernel
theorem dX7_homesOn_27 : decode cX7_homesOn 27 = .ok (.if_icmp .ne 9, 3) := by decide +kernel
theorem dX7_homesOn_30 : decode cX7_homesOn 30 = .ok (.iconst 1, 1) := by decide +kernel
theorem dX7_homesOn_31 : decode cX7_homesOn 31 = .ok (.iload_n 3, 1) := by decide +kernel
theorem dX7_homesOn_32 : decode cX7_homesOn 32 = .ok (.ishl, 1) := by decide +kernel
theorem dX7_homesOn_33 : decode cX7_homesOn 33 = .ok (.goto 4, 3) := by decide +kernel
theorem dX7_homesOn_36 : decode cX7_homesOn 36 = .ok (.iconst 0, 1) := by decide +kernel
theorem dX7_homesOn_37 : decode cX7_homesOn 37 = .ok (.ior, 1) := by decide +kernel
theorem dX7_homesOn_38 : decode cX7_homesOn 38 = .ok (.istore_n 2, 1) := by decide +kernel
theorem dX7_homesOn_39 : decode cX7_homesOn 39 = .ok (.iinc 3 1, 3) := by decide +kernel
theorem dX7_homesOn_42 : decode cX7_homesOn 42 = .ok (.goto (-38), 3) := by decide +kernel
theorem dX7_homesOn_45 : decode cX7_homesOn 45 = .ok (.iload_n 2, 1) := by decide +kernel
theorem dX7_homesOn_46 : decode cX7_homesOn 46 = .ok (.ireturn, 1) := by decide +kernel
theorem dX7_handIs_0 : decode cX7_handIs 0 = .ok (.aload_n 0, 1) := by decide +kernel
theorem dX7_handIs_1 : decode cX7_handIs 1 = .ok (.iload_n 1, 1) := by decide +kernel
theorem dX7_handIs_2 : decode cX7_handIs 2 = .ok (.invokevirtual 61, 3) := by decide +kernel
theorem dX7_handIs_5 : decode cX7_handIs 5 = .ok (.ifCond .eq 12, 3) := by decide +kernel
theorem dX7_handIs_8 : decode cX7_handIs 8 = .ok (.iload_n 2, 1) := by decide +kernel
theorem dX7_handIs_9 : decode cX7_handIs 9 = .ok (.iconst 0, 1) := by decide +kernel
theorem dX7_handIs_10 : decode cX7_handIs 10 = .ok (.iconst 3, 1) := by decide +kernel
theorem dX7_handIs_11 : decode cX7_handIs 11 = .ok (.invokestatic 47, 3) := by decide +kernel
theorem dX7_handIs_14 : decode cX7_handIs 14 = .ok (.ifCond .ne 10, 3) := by decide +kernel
theorem dX7_handIs_17 : decode cX7_handIs 17 = .ok (.aload_n 0, 1) := by decide +kernel
theorem dX7_handIs_18 : decode cX7_handIs 18 = .ok (.ldc 55, 2) := by decide +kernel
theorem dX7_handIs_20 : decode cX7_handIs 20 = .ok (.invokevirtual 56, 3) := by decide +kernel
theorem dX7_handIs_23 : decode cX7_handIs 23 = .ok (.ireturn, 1) := by decide +kernel
theorem dX7_handIs_24 : decode cX7_handIs 24 = .ok (.iload_n 2, 1) := by decide +kernel
theorem dX7_handIs_25 : decode cX7_handIs 25 = .ok (.iconst 2, 1) := by decide +kernel
theorem dX7_handIs_26 : decode cX7_handIs 26 = .ok (.if_icmp .ge 19, 3) := by decide +kernel
theorem dX7_handIs_29 : decode cX7_handIs 29 = .ok (.aload_n 0, 1) := by decide +kernel
theorem dX7_handIs_30 : decode cX7_handIs 30 = .ok (.getfield 9, 3) := by decide +kernel
theorem dX7_handIs_33 : decode cX7_handIs 33 = .ok (.bipush 7, 2) := by decide +kernel
theorem dX7_handIs_35 : decode cX7_handIs 35 = .ok (.iconst 2, 1) := by decide +kernel
theorem dX7_handIs_36 : decode cX7_handIs 36 = .ok (.iload_n 1, 1) := by decide +kernel
theorem dX7_handIs_37 : decode cX7_handIs 37 = .ok (.imul, 1) := by decide +kernel
theorem dX7_handIs_38 : decode cX7_handIs 38 = .ok (.iadd, 1) := by decide +kernel
theorem dX7_handIs_39 : decode cX7_handIs 39 = .ok (.iload_n 2, 1) := by decide +kernel
theorem dX7_handIs_40 : decode cX7_handIs 40 = .ok (.iadd, 1) := by decide +kernel
theorem dX7_handIs_41 : decode cX7_handIs 41 = .ok (.iaload, 1) := by decide +kernel
theorem dX7_handIs_42 : decode cX7_handIs 42 = .ok (.goto 27, 3) := by decide +kernel
theorem dX7_handIs_45 : decode cX7_handIs 45 = .ok (.iload_n 2, 1) := by decide +kernel
theorem dX7_handIs_46 : decode cX7_handIs 46 = .ok (.iconst 2, 1) := by decide +kernel
theorem dX7_handIs_47 : decode cX7_handIs 47 = .ok (.if_icmp .ne 17, 3) := by decide +kernel
theorem dX7_handIs_50 : decode cX7_handIs 50 = .ok (.aload_n 0, 1) := by decide +kernel
theorem dX7_handIs_51 : decode cX7_handIs 51 = .ok (.iload_n 1, 1) := by decide +kernel
theorem dX7_handIs_52 : decode cX7_handIs 52 = .ok (.aload_n 0, 1) := by decide +kernel
theorem dX7_handIs_53 : decode cX7_handIs 53 = .ok (.getfield 9, 3) := by decide +kernel
theorem dX7_handIs_56 : decode cX7_handIs 56 = .ok (.iconst 0, 1) := by decide +kernel
theorem dX7_handIs_57 : decode cX7_handIs 57 = .ok (.iaload, 1) := by decide +kernel
theorem dX7_handIs_58 : decode cX7_handIs 58 = .ok (.invokevirtual 51, 3) := by decide +kernel
theorem dX7_handIs_61 : decode cX7_handIs 61 = .ok (.goto 8, 3) := by decide +kernel
theorem dX7_handIs_64 : decode cX7_handIs 64 = .ok (.aload_n 0, 1) := by decide +kernel
theorem dX7_handIs_65 : decode cX7_handIs 65 = .ok (.iload_n 1, 1) := by decide +kernel
theorem dX7_handIs_66 : decode cX7_handIs 66 = .ok (.invokevirtual 65, 3) := by decide +kernel
theorem dX7_handIs_69 : decode cX7_handIs 69 = .ok (.ireturn, 1) := by decide +kernel
theorem dX7_frost_0 : decode cX7_frost 0 = .ok (.aload_n 0, 1) := by decide +kernel
theorem dX7_frost_1 : decode cX7_frost 1 = .ok (.iload_n 1, 1) := by decide +kernel
theorem dX7_frost_2 : decode cX7_frost 2 = .ok (.invokevirtual 61, 3) := by decide +kernel
theorem dX7_frost_5 : decode cX7_frost 5 = .ok (.ifCond .eq 13, 3) := by decide +kernel
theorem dX7_frost_8 : decode cX7_frost 8 = .ok (.iload_n 2, 1) := by decide +kernel
theorem dX7_frost_9 : decode cX7_frost 9 = .ok (.iconst 1, 1) := by decide +kernel
theorem dX7_frost_10 : decode cX7_frost 10 = .ok (.bipush 99, 2) := by decide +kernel
theorem dX7_frost_12 : decode cX7_frost 12 = .ok (.invokestatic 47, 3) := by decide +kernel
theorem dX7_frost_15 : decode cX7_frost 15 = .ok (.ifCond .ne 10, 3) := by decide +kernel
theorem dX7_frost_18 : decode cX7_frost 18 = .ok (.aload_n 0, 1) := by decide +kernel
theorem dX7_frost_19 : decode cX7_frost 19 = .ok (.ldc 55, 2) := by decide +kernel
theorem dX7_frost_21 : decode cX7_frost 21 = .ok (.invokevirtual 56, 3) := by decide +kernel
theorem dX7_frost_24 : decode cX7_frost 24 = .ok (.ireturn, 1) := by decide +kernel
theorem dX7_frost_25 : decode cX7_frost 25 = .ok (.aload_n 0, 1) := by decide +kernel
theorem dX7_frost_26 : decode cX7_frost 26 = .ok (.getfield 9, 3) := by decide +kernel
theorem dX7_frost_29 : decode cX7_frost 29 = .ok (.bipush 7, 2) := by decide +kernel
theorem dX7_frost_31 : decode cX7_frost 31 = .ok (.iconst 2, 1) := by decide +kernel
theorem dX7_frost_32 : decode cX7_frost 32 = .ok (.iload_n 1, 1) := by decide +kernel
theorem dX7_frost_33 : decode cX7_frost 33 = .ok (.imul, 1) := by decide +kernel
theorem dX7_frost_34 : decode cX7_frost 34 = .ok (.iadd, 1) := by decide +kernel
theorem dX7_frost_35 : decode cX7_frost 35 = .ok (.iaload, 1) := by decide +kernel
theorem dX7_frost_36 : decode cX7_frost 36 = .ok (.istore_n 3, 1) := by decide +kernel
theorem dX7_frost_37 : decode cX7_frost 37 = .ok (.aload_n 0, 1) := by decide +kernel
theorem dX7_frost_38 : decode cX7_frost 38 = .ok (.getfield 9, 3) := by decide +kernel
theorem dX7_frost_41 : decode cX7_frost 41 = .ok (.bipush 7, 2) := by decide +kernel
theorem dX7_frost_43 : decode cX7_frost 43 = .ok (.iconst 2, 1) := by decide +kernel
theorem dX7_frost_44 : decode cX7_frost 44 = .ok (.iload_n 1, 1) := by decide +kernel
theorem dX7_frost_45 : decode cX7_frost 45 = .ok (.imul, 1) := by decide +kernel
theorem dX7_frost_46 : decode cX7_frost 46 = .ok (.iadd, 1) := by decide +kernel
theorem dX7_frost_47 : decode cX7_frost 47 = .ok (.iconst 1, 1) := by decide +kernel
theorem dX7_frost_48 : decode cX7_frost 48 = .ok (.iadd, 1) := by decide +kernel
theorem dX7_frost_49 : decode cX7_frost 49 = .ok (.iaload, 1) := by decide +kernel
theorem dX7_frost_50 : decode cX7_frost 50 = .ok (.iload_n 2, 1) := by decide +kernel
theorem dX7_frost_51 : decode cX7_frost 51 = .ok (.isub, 1) := by decide +kernel
theorem dX7_frost_52 : decode cX7_frost 52 = .ok (.iload_n 3, 1) := by decide +kernel
theorem dX7_frost_53 : decode cX7_frost 53 = .ok (.irem, 1) := by decide +kernel
theorem dX7_frost_54 : decode cX7_frost 54 = .ok (.istore 4, 2) := by decide +kernel
theorem dX7_frost_56 : decode cX7_frost 56 = .ok (.aload_n 0, 1) := by decide +kernel
theorem dX7_frost_57 : decode cX7_frost 57 = .ok (.getfield 9, 3) := by decide +kernel
theorem dX7_frost_60 : decode cX7_frost 60 = .ok (.bipush 7, 2) := by decide +kernel
theorem dX7_frost_62 : decode cX7_frost 62 = .ok (.iconst 2, 1) := by decide +kernel
theorem dX7_frost_63 : decode cX7_frost 63 = .ok (.iload_n 1, 1) := by decide +kernel
theorem dX7_frost_64 : decode cX7_frost 64 = .ok (.imul, 1) := by decide +kernel
theorem dX7_frost_65 : decode cX7_frost 65 = .ok (.iadd, 1) := by decide +kernel
theorem dX7_frost_66 : decode cX7_frost 66 = .ok (.iconst 1, 1) := by decide +kernel
theorem dX7_frost_67 : decode cX7_frost 67 = .ok (.iadd, 1) := by decide +kernel
theorem dX7_frost_68 : decode cX7_frost 68 = .ok (.iload 4, 2) := by decide +kernel
theorem dX7_frost_70 : decode cX7_frost 70 = .ok (.ifCond .ge 10, 3) := by decide +kernel
theorem dX7_frost_73 : decode cX7_frost 73 = .ok (.iload 4, 2) := by decide +kernel
theorem dX7_frost_75 : decode cX7_frost 75 = .ok (.iload_n 3, 1) := by decide +kernel
theorem dX7_frost_76 : decode cX7_frost 76 = .ok (.iadd, 1) := by decide +kernel
theorem dX7_frost_77 : decode cX7_frost 77 = .ok (.goto 5, 3) := by decide +kernel
theorem dX7_frost_80 : decode cX7_frost 80 = .ok (.iload 4, 2) := by decide +kernel
theorem dX7_frost_82 : decode cX7_frost 82 = .ok (.iastore, 1) := by decide +kernel
theorem dX7_frost_83 : decode cX7_frost 83 = .ok (.aload_n 0, 1) := by decide +kernel
theorem dX7_frost_84 : decode cX7_frost 84 = .ok (.getfield 9, 3) := by decide +kernel
theorem dX7_frost_87 : decode cX7_frost 87 = .ok (.bipush 7, 2) := by decide +kernel
theorem dX7_frost_89 : decode cX7_frost 89 = .ok (.iconst 2, 1) := by decide +kernel
theorem dX7_frost_90 : decode cX7_frost 90 = .ok (.iload_n 1, 1) := by decide +kernel
theorem dX7_frost_91 : decode cX7_frost 91 = .ok (.imul, 1) := by decide +kernel
theorem dX7_frost_92 : decode cX7_frost 92 = .ok (.iadd, 1) := by decide +kernel
theorem dX7_frost_93 : decode cX7_frost 93 = .ok (.iconst 1, 1) := by decide +kernel
theorem dX7_frost_94 : decode cX7_frost 94 = .ok (.iadd, 1) := by decide +kernel
theorem dX7_frost_95 : decode cX7_frost 95 = .ok (.iaload, 1) := by decide +kernel
theorem dX7_frost_96 : decode cX7_frost 96 = .ok (.ireturn, 1) := by decide +kernel
theorem dX7_home_0 : decode cX7_home 0 = .ok (.aload_n 0, 1) := by decide +kernel
theorem dX7_home_1 : decode cX7_home 1 = .ok (.iload_n 1, 1) := by decide +kernel
theorem dX7_home_2 : decode cX7_home 2 = .ok (.invokevirtual 61, 3) := by decide +kernel
theorem dX7_home_5 : decode cX7_home 5 = .ok (.ifCond .eq 13, 3) := by decide +kernel
theorem dX7_home_8 : decode cX7_home 8 = .ok (.iload_n 2, 1) := by decide +kernel
theorem dX7_home_9 : decode cX7_home 9 = .ok (.iconst 0, 1) := by decide +kernel
theorem dX7_home_10 : decode cX7_home 10 = .ok (.bipush 9, 2) := by decide +kernel
theorem dX7_home_12 : decode cX7_home 12 = .ok (.invokestatic 47, 3) := by decide +kernel
theorem dX7_home_15 : decode cX7_home 15 = .ok (.ifCond .ne 10, 3) := by decide +kernel
theorem dX7_home_18 : decode cX7_home 18 = .ok (.aload_n 0, 1) := by decide +kernel
theorem dX7_home_19 : decode cX7_home 19 = .ok (.ldc 55, 2) := by decide +kernel
theorem dX7_home_21 : decode cX7_home 21 = .ok (.invokevirtual 56, 3) := by decide +kernel
theorem dX7_home_24 : decode cX7_home 24 = .ok (.ireturn, 1) := by decide +kernel
theorem dX7_home_25 : decode cX7_home 25 = .ok (.aload_n 0, 1) := by decide +kernel
theorem dX7_home_26 : decode cX7_home 26 = .ok (.getfield 9, 3) := by decide +kernel
theorem dX7_home_29 : decode cX7_home 29 = .ok (.iconst 3, 1) := by decide +kernel
theorem dX7_home_30 : decode cX7_home 30 = .ok (.iaload, 1) := by decide +kernel
theorem dX7_home_31 : decode cX7_home 31 = .ok (.istore_n 3, 1) := by decide +kernel
theorem dX7_home_32 : decode cX7_home 32 = .ok (.iload_n 3, 1) := by decide +kernel
theorem dX7_home_33 : decode cX7_home 33 = .ok (.bipush 8, 2) := by decide +kernel
theorem dX7_home_35 : decode cX7_home 35 = .ok (.if_icmp .ne 10, 3) := by decide +kernel
theorem dX7_home_38 : decode cX7_home 38 = .ok (.aload_n 0, 1) := by decide +kernel
theorem dX7_home_39 : decode cX7_home 39 = .ok (.ldc 60, 2) := by decide +kernel
theorem dX7_home_41 : decode cX7_home 41 = .ok (.invokevirtual 56, 3) := by decide +kernel
theorem dX7_home_44 : decode cX7_home 44 = .ok (.ireturn, 1) := by decide +kernel
theorem dX7_home_45 : decode cX7_home 45 = .ok (.aload_n 0, 1) := by decide +kernel
theorem dX7_home_46 : decode cX7_home 46 = .ok (.getfield 9, 3) := by decide +kernel
theorem dX7_home_49 : decode cX7_home 49 = .ok (.iconst 3, 1) := by decide +kernel
theorem dX7_home_50 : decode cX7_home 50 = .ok (.dup2, 1) := by decide +kernel
theorem dX7_home_51 : decode cX7_home 51 = .ok (.iaload, 1) := by decide +kernel
theorem dX7_home_52 : decode cX7_home 52 = .ok (.iconst 1, 1) := by decide +kernel
theorem dX7_home_53 : decode cX7_home 53 = .ok (.iadd, 1) := by decide +kernel
theorem dX7_home_54 : decode cX7_home 54 = .ok (.iastore, 1) := by decide +kernel
theorem dX7_home_55 : decode cX7_home 55 = .ok (.aload_n 0, 1) := by decide +kernel
theorem dX7_home_56 : decode cX7_home 56 = .ok (.getfield 9, 3) := by decide +kernel
theorem dX7_home_59 : decode cX7_home 59 = .ok (.bipush 15, 2) := by decide +kernel
theorem dX7_home_61 : decode cX7_home 61 = .ok (.iconst 2, 1) := by decide +kernel
theorem dX7_home_62 : decode cX7_home 62 = .ok (.iload_n 3, 1) := by decide +kernel
theorem dX7_home_63 : decode cX7_home 63 = .ok (.imul, 1) := by decide +kernel
theorem dX7_home_64 : decode cX7_home 64 = .ok (.iadd, 1) := by decide +kernel
theorem dX7_home_65 : decode cX7_home 65 = .ok (.iload_n 1, 1) := by decide +kernel
theorem dX7_home_66 : decode cX7_home 66 = .ok (.iastore, 1) := by decide +kernel
theorem dX7_home_67 : decode cX7_home 67 = .ok (.aload_n 0, 1) := by decide +kernel
theorem dX7_home_68 : decode cX7_home 68 = .ok (.getfield 9, 3) := by decide +kernel
theorem dX7_home_71 : decode cX7_home 71 = .ok (.bipush 15, 2) := by decide +kernel
theorem dX7_home_73 : decode cX7_home 73 = .ok (.iconst 2, 1) := by decide +kernel
theorem dX7_home_74 : decode cX7_home 74 = .ok (.iload_n 3, 1) := by decide +kernel
theorem dX7_home_75 : decode cX7_home 75 = .ok (.imul, 1) := by decide +kernel
theorem dX7_home_76 : decode cX7_home 76 = .ok (.iadd, 1) := by decide +kernel
theorem dX7_home_77 : decode cX7_home 77 = .ok (.iconst 1, 1) := by decide +kernel
theorem dX7_home_78 : decode cX7_home 78 = .ok (.iadd, 1) := by decide +kernel
theorem dX7_home_79 : decode cX7_home 79 = .ok (.iload_n 2, 1) := by decide +kernel
theorem dX7_home_80 : decode cX7_home 80 = .ok (.iastore, 1) := by decide +kernel
theorem dX7_home_81 : decode cX7_home 81 = .ok (.iload_n 3, 1) := by decide +kernel
theorem dX7_home_82 : decode cX7_home 82 = .ok (.ireturn, 1) := by decide +kernel
theorem dX7_worthOf_0 : decode cX7_worthOf 0 = .ok (.aload_n 0, 1) := by decide +kernel
theorem dX7_worthOf_1 : decode cX7_worthOf 1 = .ok (.iconst 1, 1) := by decide +kernel
theorem dX7_worthOf_2 : decode cX7_worthOf 2 = .ok (.aload_n 0, 1) := by decide +kernel
theorem dX7_worthOf_3 : decode cX7_worthOf 3 = .ok (.getfield 9, 3) := by decide +kernel
theorem dX7_worthOf_6 : decode cX7_worthOf 6 = .ok (.bipush 15, 2) := by decide +kernel
theorem dX7_worthOf_8 : decode cX7_worthOf 8 = .ok (.iconst 2, 1) := by decide +kernel
theorem dX7_worthOf_9 : decode cX7_worthOf 9 = .ok (.iload_n 1, 1) := by decide +kernel
theorem dX7_worthOf_10 : decode cX7_worthOf 10 = .ok (.imul, 1) := by decide +kernel
theorem dX7_worthOf_11 : decode cX7_worthOf 11 = .ok (.iadd, 1) := by decide +kernel
theorem dX7_worthOf_12 : decode cX7_worthOf 12 = .ok (.iconst 1, 1) := by decide +kernel
theorem dX7_worthOf_13 : decode cX7_worthOf 13 = .ok (.iadd, 1) := by decide +kernel
theorem dX7_worthOf_14 : decode cX7_worthOf 14 = .ok (.iaload, 1) := by decide +kernel
theorem dX7_worthOf_15 : decode cX7_worthOf 15 = .ok (.aload_n 0, 1) := by decide +kernel
theorem dX7_worthOf_16 : decode cX7_worthOf 16 = .ok (.aload_n 0, 1) := by decide +kernel
theorem dX7_worthOf_17 : decode cX7_worthOf 17 = .ok (.getfield 9, 3) := by decide +kernel
theorem dX7_worthOf_20 : decode cX7_worthOf 20 = .ok (.bipush 15, 2) := by decide +kernel
theorem dX7_worthOf_22 : decode cX7_worthOf 22 = .ok (.iconst 2, 1) := by decide +kernel
theorem dX7_worthOf_23 : decode cX7_worthOf 23 = .ok (.iload_n 1, 1) := by decide +kernel
theorem dX7_worthOf_24 : decode cX7_worthOf 24 = .ok (.imul, 1) := by decide +kernel
theorem dX7_worthOf_25 : decode cX7_worthOf 25 = .ok (.iadd, 1) := by decide +kernel
theorem dX7_worthOf_26 : decode cX7_worthOf 26 = .ok (.iaload, 1) := by decide +kernel
theorem dX7_worthOf_27 : decode cX7_worthOf 27 = .ok (.iload_n 2, 1) := by decide +kernel
theorem dX7_worthOf_28 : decode cX7_worthOf 28 = .ok (.invokevirtual 51, 3) := by decide +kernel
theorem dX7_worthOf_31 : decode cX7_worthOf 31 = .ok (.iload_n 1, 1) := by decide +kernel
theorem dX7_worthOf_32 : decode cX7_worthOf 32 = .ok (.invokevirtual 68, 3) := by decide +kernel
theorem dX7_worthOf_35 : decode cX7_worthOf 35 = .ok (.ireturn, 1) := by decide +kernel
theorem dX7_whoIn_0 : decode cX7_whoIn 0 = .ok (.iconst 0, 1) := by decide +kernel
theorem dX7_whoIn_1 : decode cX7_whoIn 1 = .ok (.istore_n 2, 1) := by decide +kernel
theorem dX7_whoIn_2 : decode cX7_whoIn 2 = .ok (.iconst 0, 1) := by decide +kernel
theorem dX7_whoIn_3 : decode cX7_whoIn 3 = .ok (.istore_n 3, 1) := by decide +kernel
theorem dX7_whoIn_4 : decode cX7_whoIn 4 = .ok (.iload_n 3, 1) := by decide +kernel
theorem dX7_whoIn_5 : decode cX7_whoIn 5 = .ok (.aload_n 0, 1) := by decide +kernel
theorem dX7_whoIn_6 : decode cX7_whoIn 6 = .ok (.getfield 9, 3) := by decide +kernel
theorem dX7_whoIn_9 : decode cX7_whoIn 9 = .ok (.iconst 4, 1) := by decide +kernel
theorem dX7_whoIn_10 : decode cX7_whoIn 10 = .ok (.iaload, 1) := by decide +kernel
theorem dX7_whoIn_11 : decode cX7_whoIn 11 = .ok (.if_icmp .ge 29, 3) := by decide +kernel
theorem dX7_whoIn_14 : decode cX7_whoIn 14 = .ok (.iload_n 2, 1) := by decide +kernel
theorem dX7_whoIn_15 : decode cX7_whoIn 15 = .ok (.aload_n 0, 1) := by decide +kernel
theorem dX7_whoIn_16 : decode cX7_whoIn 16 = .ok (.iload_n 3, 1) := by decide +kernel
theorem dX7_whoIn_17 : decode cX7_whoIn 17 = .ok (.iconst 2, 1) := by decide +kernel
theorem dX7_whoIn_18 : decode cX7_whoIn 18 = .ok (.invokevirtual 72, 3) := by decide +kernel
theorem dX7_whoIn_21 : decode cX7_whoIn 21 = .ok (.iload_n 1, 1) := by decide +kernel
theorem dX7_whoIn_22 : decode cX7_whoIn 22 = .ok (.if_icmp .ne 9, 3) := by decide +kernel
theorem dX7_whoIn_25 : decode cX7_whoIn 25 = .ok (.iconst 1, 1) := by decide +kernel
theorem dX7_whoIn_26 : decode cX7_whoIn 26 = .ok (.iload_n 3, 1) := by decide +kernel
theorem dX7_whoIn_27 : decode cX7_whoIn 27 = .ok (.ishl, 1) := by decide +kernel
theorem dX7_whoIn_28 : decode cX7_whoIn 28 = .ok (.goto 4, 3) := by decide +kernel
theorem dX7_whoIn_31 : decode cX7_whoIn 31 = .ok (.iconst 0, 1) := by decide +kernel
theorem dX7_whoIn_32 : decode cX7_whoIn 32 = .ok (.ior, 1) := by decide +kernel
theorem dX7_whoIn_33 : decode cX7_whoIn 33 = .ok (.istore_n 2, 1) := by decide +kernel
theorem dX7_whoIn_34 : decode cX7_whoIn 34 = .ok (.iinc 3 1, 3) := by decide +kernel
theorem dX7_whoIn_37 : decode cX7_whoIn 37 = .ok (.goto (-33), 3) := by decide +kernel
theorem dX7_whoIn_40 : decode cX7_whoIn 40 = .ok (.iload_n 2, 1) := by decide +kernel
theorem dX7_whoIn_41 : decode cX7_whoIn 41 = .ok (.ireturn, 1) := by decide +kernel
theorem dX7_homeIs_0 : decode cX7_homeIs 0 = .ok (.aload_n 0, 1) := by decide +kernel
theorem dX7_homeIs_1 : decode cX7_homeIs 1 = .ok (.iload_n 1, 1) := by decide +kernel
theorem dX7_homeIs_2 : decode cX7_homeIs 2 = .ok (.invokevirtual 75, 3) := by decide +kernel
theorem dX7_homeIs_5 : decode cX7_homeIs 5 = .ok (.ifCond .ne 10, 3) := by decide +kernel
theorem dX7_homeIs_8 : decode cX7_homeIs 8 = .ok (.aload_n 0, 1) := by decide +kernel
theorem dX7_homeIs_9 : decode cX7_homeIs 9 = .ok (.ldc 55, 2) := by decide +kernel
theorem dX7_homeIs_11 : decode cX7_homeIs 11 = .ok (.invokevirtual 56, 3) := by decide +kernel
theorem dX7_homeIs_14 : decode cX7_homeIs 14 = .ok (.ireturn, 1) := by decide +kernel
theorem dX7_homeIs_15 : decode cX7_homeIs 15 = .ok (.iload_n 2, 1) := by decide +kernel
theorem dX7_homeIs_16 : decode cX7_homeIs 16 = .ok (.tableswitch 90 0 4 #[36, 36, 50, 72, 84], 36) := by decide +kernel
theorem dX7_homeIs_52 : decode cX7_homeIs 52 = .ok (.aload_n 0, 1) := by decide +kernel
theorem dX7_homeIs_53 : decode cX7_homeIs 53 = .ok (.getfield 9, 3) := by decide +kernel
theorem dX7_homeIs_56 : decode cX7_homeIs 56 = .ok (.bipush 15, 2) := by decide +kernel
theorem dX7_homeIs_58 : decode cX7_homeIs 58 = .ok (.iconst 2, 1) := by decide +kernel
theorem dX7_homeIs_59 : decode cX7_homeIs 59 = .ok (.iload_n 1, 1) := by decide +kernel
theorem dX7_homeIs_60 : decode cX7_homeIs 60 = .ok (.imul, 1) := by decide +kernel
theorem dX7_homeIs_61 : decode cX7_homeIs 61 = .ok (.iadd, 1) := by decide +kernel
theorem dX7_homeIs_62 : decode cX7_homeIs 62 = .ok (.iload_n 2, 1) := by decide +kernel
theorem dX7_homeIs_63 : decode cX7_homeIs 63 = .ok (.iadd, 1) := by decide +kernel
theorem dX7_homeIs_64 : decode cX7_homeIs 64 = .ok (.iaload, 1) := by decide +kernel
theorem dX7_homeIs_65 : decode cX7_homeIs 65 = .ok (.ireturn, 1) := by decide +kernel
theorem dX7_homeIs_66 : decode cX7_homeIs 66 = .ok (.aload_n 0, 1) := by decide +kernel
theorem dX7_homeIs_67 : decode cX7_homeIs 67 = .ok (.aload_n 0, 1) := by decide +kernel
theorem dX7_homeIs_68 : decode cX7_homeIs 68 = .ok (.getfield 9, 3) := by decide +kernel
theorem dX7_homeIs_71 : decode cX7_homeIs 71 = .ok (.bipush 15, 2) := by decide +kernel
theorem dX7_homeIs_73 : decode cX7_homeIs 73 = .ok (.iconst 2, 1) := by decide +kernel
theorem dX7_homeIs_74 : decode cX7_homeIs 74 = .ok (.iload_n 1, 1) := by decide +kernel
theorem dX7_homeIs_75 : decode cX7_homeIs 75 = .ok (.imul, 1) := by decide +kernel
theorem dX7_homeIs_76 : decode cX7_homeIs 76 = .ok (.iadd, 1) := by decide +kernel
theorem dX7_homeIs_77 : decode cX7_homeIs 77 = .ok (.iaload, 1) := by decide +kernel
theorem dX7_homeIs_78 : decode cX7_homeIs 78 = .ok (.aload_n 0, 1) := by decide +kernel
theorem dX7_homeIs_79 : decode cX7_homeIs 79 = .ok (.getfield 9, 3) := by decide +kernel
theorem dX7_homeIs_82 : decode cX7_homeIs 82 = .ok (.iconst 0, 1) := by decide +kernel
theorem dX7_homeIs_83 : decode cX7_homeIs 83 = .ok (.iaload, 1) := by decide +kernel
theorem dX7_homeIs_84 : decode cX7_homeIs 84 = .ok (.invokevirtual 51, 3) := by decide +kernel
theorem dX7_homeIs_87 : decode cX7_homeIs 87 = .ok (.ireturn, 1) := by decide +kernel
theorem dX7_homeIs_88 : decode cX7_homeIs 88 = .ok (.aload_n 0, 1) := by decide +kernel
theorem dX7_homeIs_89 : decode cX7_homeIs 89 = .ok (.iload_n 1, 1) := by decide +kernel
theorem dX7_homeIs_90 : decode cX7_homeIs 90 = .ok (.aload_n 0, 1) := by decide +kernel
theorem dX7_homeIs_91 : decode cX7_homeIs 91 = .ok (.getfield 9, 3) := by decide +kernel
theorem dX7_homeIs_94 : decode cX7_homeIs 94 = .ok (.iconst 0, 1) := by decide +kernel
theorem dX7_homeIs_95 : decode cX7_homeIs 95 = .ok (.iaload, 1) := by decide +kernel
theorem dX7_homeIs_96 : decode cX7_homeIs 96 = .ok (.invokevirtual 78, 3) := by decide +kernel
theorem dX7_homeIs_99 : decode cX7_homeIs 99 = .ok (.ireturn, 1) := by decide +kernel
theorem dX7_homeIs_100 : decode cX7_homeIs 100 = .ok (.aload_n 0, 1) := by decide +kernel
theorem dX7_homeIs_101 : decode cX7_homeIs 101 = .ok (.iload_n 1, 1) := by decide +kernel
theorem dX7_homeIs_102 : decode cX7_homeIs 102 = .ok (.invokevirtual 81, 3) := by decide +kernel
theorem dX7_homeIs_105 : decode cX7_homeIs 105 = .ok (.ireturn, 1) := by decide +kernel
theorem dX7_homeIs_106 : decode cX7_homeIs 106 = .ok (.aload_n 0, 1) := by decide +kernel
theorem dX7_homeIs_107 : decode cX7_homeIs 107 = .ok (.ldc 55, 2) := by decide +kernel
theorem dX7_homeIs_109 : decode cX7_homeIs 109 = .ok (.invokevirtual 56, 3) := by decide +kernel
theorem dX7_homeIs_112 : decode cX7_homeIs 112 = .ok (.ireturn, 1) := by decide +kernel
theorem dX7_isKm_0 : decode cX7_isKm 0 = .ok (.iload_n 0, 1) := by decide +kernel
theorem dX7_isKm_1 : decode cX7_isKm 1 = .ok (.iconst 0, 1) := by decide +kernel
theorem dX7_isKm_2 : decode cX7_isKm 2 = .ok (.bipush 69, 2) := by decide +kernel
theorem dX7_isKm_4 : decode cX7_isKm 4 = .ok (.invokestatic 47, 3) := by decide +kernel
theorem dX7_isKm_7 : decode cX7_isKm 7 = .ok (.ireturn, 1) := by decide +kernel
theorem dX7_person_0 : decode cX7_person 0 = .ok (.iload_n 1, 1) := by decide +kernel
theorem dX7_person_1 : decode cX7_person 1 = .ok (.invokestatic 84, 3) := by decide +kernel
theorem dX7_person_4 : decode cX7_person 4 = .ok (.ifCond .eq 11, 3) := by decide +kernel
theorem dX7_person_7 : decode cX7_person 7 = .ok (.aload_n 0, 1) := by decide +kernel
theorem dX7_person_8 : decode cX7_person 8 = .ok (.iload_n 2, 1) := by decide +kernel
theorem dX7_person_9 : decode cX7_person 9 = .ok (.invokevirtual 75, 3) := by decide +kernel
theorem dX7_person_12 : decode cX7_person 12 = .ok (.ifCond .ne 10, 3) := by decide +kernel
theorem dX7_person_15 : decode cX7_person 15 = .ok (.aload_n 0, 1) := by decide +kernel
theorem dX7_person_16 : decode cX7_person 16 = .ok (.ldc 55, 2) := by decide +kernel
theorem dX7_person_18 : decode cX7_person 18 = .ok (.invokevirtual 56, 3) := by decide +kernel
theorem dX7_person_21 : decode cX7_person 21 = .ok (.ireturn, 1) := by decide +kernel
theorem dX7_person_22 : decode cX7_person 22 = .ok (.aload_n 0, 1) := by decide +kernel
theorem dX7_person_23 : decode cX7_person 23 = .ok (.getfield 9, 3) := by decide +kernel
theorem dX7_person_26 : decode cX7_person 26 = .ok (.iconst 4, 1) := by decide +kernel
theorem dX7_person_27 : decode cX7_person 27 = .ok (.iaload, 1) := by decide +kernel
theorem dX7_person_28 : decode cX7_person 28 = .ok (.istore_n 3, 1) := by decide +kernel
theorem dX7_person_29 : decode cX7_person 29 = .ok (.iload_n 3, 1) := by decide +kernel
theorem dX7_person_30 : decode cX7_person 30 = .ok (.bipush 6, 2) := by decide +kernel
theorem dX7_person_32 : decode cX7_person 32 = .ok (.if_icmp .ne 10, 3) := by decide +kernel
theorem dX7_person_35 : decode cX7_person 35 = .ok (.aload_n 0, 1) := by decide +kernel
theorem dX7_person_36 : decode cX7_person 36 = .ok (.ldc 60, 2) := by decide +kernel
theorem dX7_person_38 : decode cX7_person 38 = .ok (.invokevirtual 56, 3) := by decide +kernel
theorem dX7_person_41 : decode cX7_person 41 = .ok (.ireturn, 1) := by decide +kernel
theorem dX7_person_42 : decode cX7_person 42 = .ok (.aload_n 0, 1) := by decide +kernel
theorem dX7_person_43 : decode cX7_person 43 = .ok (.getfield 9, 3) := by decide +kernel
theorem dX7_person_46 : decode cX7_person 46 = .ok (.iconst 4, 1) := by decide +kernel
theorem dX7_person_47 : decode cX7_person 47 = .ok (.dup2, 1) := by decide +kernel
theorem dX7_person_48 : decode cX7_person 48 = .ok (.iaload, 1) := by decide +kernel
theorem dX7_person_49 : decode cX7_person 49 = .ok (.iconst 1, 1) := by decide +kernel
theorem dX7_person_50 : decode cX7_person 50 = .ok (.iadd, 1) := by decide +kernel
theorem dX7_person_51 : decode cX7_person 51 = .ok (.iastore, 1) := by decide +kernel
theorem dX7_person_52 : decode cX7_person 52 = .ok (.aload_n 0, 1) := by decide +kernel
theorem dX7_person_53 : decode cX7_person 53 = .ok (.getfield 9, 3) := by decide +kernel
theorem dX7_person_56 : decode cX7_person 56 = .ok (.bipush 31, 2) := by decide +kernel
theorem dX7_person_58 : decode cX7_person 58 = .ok (.iconst 3, 1) := by decide +kernel
theorem dX7_person_59 : decode cX7_person 59 = .ok (.iload_n 3, 1) := by decide +kernel
theorem dX7_person_60 : decode cX7_person 60 = .ok (.imul, 1) := by decide +kernel
theorem dX7_person_61 : decode cX7_person 61 = .ok (.iadd, 1) := by decide +kernel
theorem dX7_person_62 : decode cX7_person 62 = .ok (.iload_n 1, 1) := by decide +kernel
theorem dX7_person_63 : decode cX7_person 63 = .ok (.bipush 10, 2) := by decide +kernel
theorem dX7_person_65 : decode cX7_person 65 = .ok (.idiv, 1) := by decide +kernel
theorem dX7_person_66 : decode cX7_person 66 = .ok (.iastore, 1) := by decide +kernel
theorem dX7_person_67 : decode cX7_person 67 = .ok (.aload_n 0, 1) := by decide +kernel
theorem dX7_person_68 : decode cX7_person 68 = .ok (.getfield 9, 3) := by decide +kernel
theorem dX7_person_71 : decode cX7_person 71 = .ok (.bipush 31, 2) := by decide +kernel
theorem dX7_person_73 : decode cX7_person 73 = .ok (.iconst 3, 1) := by decide +kernel
theorem dX7_person_74 : decode cX7_person 74 = .ok (.iload_n 3, 1) := by decide +kernel
theorem dX7_person_75 : decode cX7_person 75 = .ok (.imul, 1) := by decide +kernel
theorem dX7_person_76 : decode cX7_person 76 = .ok (.iadd, 1) := by decide +kernel
theorem dX7_person_77 : decode cX7_person 77 = .ok (.iconst 1, 1) := by decide +kernel
theorem dX7_person_78 : decode cX7_person 78 = .ok (.iadd, 1) := by decide +kernel
theorem dX7_person_79 : decode cX7_person 79 = .ok (.iload_n 1, 1) := by decide +kernel
theorem dX7_person_80 : decode cX7_person 80 = .ok (.bipush 10, 2) := by decide +kernel
theorem dX7_person_82 : decode cX7_person 82 = .ok (.irem, 1) := by decide +kernel
theorem dX7_person_83 : decode cX7_person 83 = .ok (.iastore, 1) := by decide +kernel
theorem dX7_person_84 : decode cX7_person 84 = .ok (.aload_n 0, 1) := by decide +kernel
theorem dX7_person_85 : decode cX7_person 85 = .ok (.getfield 9, 3) := by decide +kernel
theorem dX7_person_88 : decode cX7_person 88 = .ok (.bipush 31, 2) := by decide +kernel
theorem dX7_person_90 : decode cX7_person 90 = .ok (.iconst 3, 1) := by decide +kernel
theorem dX7_person_91 : decode cX7_person 91 = .ok (.iload_n 3, 1) := by decide +kernel
theorem dX7_person_92 : decode cX7_person 92 = .ok (.imul, 1) := by decide +kernel
theorem dX7_person_93 : decode cX7_person 93 = .ok (.iadd, 1) := by decide +kernel
theorem dX7_person_94 : decode cX7_person 94 = .ok (.iconst 2, 1) := by decide +kernel
theorem dX7_person_95 : decode cX7_person 95 = .ok (.iadd, 1) := by decide +kernel
theorem dX7_person_96 : decode cX7_person 96 = .ok (.iload_n 2, 1) := by decide +kernel
theorem dX7_person_97 : decode cX7_person 97 = .ok (.iastore, 1) := by decide +kernel
theorem dX7_person_98 : decode cX7_person 98 = .ok (.iload_n 3, 1) := by decide +kernel
theorem dX7_person_99 : decode cX7_person 99 = .ok (.ireturn, 1) := by decide +kernel
theorem dX7_leapsOf_0 : decode cX7_leapsOf 0 = .ok (.aload_n 0, 1) := by decide +kernel
theorem dX7_leapsOf_1 : decode cX7_leapsOf 1 = .ok (.iload_n 1, 1) := by decide +kernel
theorem dX7_leapsOf_2 : decode cX7_leapsOf 2 = .ok (.iconst 1, 1) := by decide +kernel
theorem dX7_leapsOf_3 : decode cX7_leapsOf 3 = .ok (.invokevirtual 72, 3) := by decide +kernel
theorem dX7_leapsOf_6 : decode cX7_leapsOf 6 = .ok (.istore_n 3, 1) := by decide +kernel
theorem dX7_leapsOf_7 : decode cX7_leapsOf 7 = .ok (.aload_n 0, 1) := by decide +kernel
theorem dX7_leapsOf_8 : decode cX7_leapsOf 8 = .ok (.iconst 0, 1) := by decide +kernel
theorem dX7_leapsOf_9 : decode cX7_leapsOf 9 = .ok (.iload_n 3, 1) := by decide +kernel
theorem dX7_leapsOf_10 : decode cX7_leapsOf 10 = .ok (.iload_n 2, 1) := by decide +kernel
theorem dX7_leapsOf_11 : decode cX7_leapsOf 11 = .ok (.aload_n 0, 1) := by decide +kernel
theorem dX7_leapsOf_12 : decode cX7_leapsOf 12 = .ok (.getfield 9, 3) := by decide +kernel
theorem dX7_leapsOf_15 : decode cX7_leapsOf 15 = .ok (.iconst 3, 1) := by decide +kernel
theorem dX7_leapsOf_16 : decode cX7_leapsOf 16 = .ok (.iaload, 1) := by decide +kernel
theorem dX7_leapsOf_17 : decode cX7_leapsOf 17 = .ok (.invokevirtual 68, 3) := by decide +kernel
theorem dX7_leapsOf_20 : decode cX7_leapsOf 20 = .ok (.istore 4, 2) := by decide +kernel
theorem dX7_leapsOf_22 : decode cX7_leapsOf 22 = .ok (.aload_n 0, 1) := by decide +kernel
theorem dX7_leapsOf_23 : decode cX7_leapsOf 23 = .ok (.iload_n 1, 1) := by decide +kernel
theorem dX7_leapsOf_24 : decode cX7_leapsOf 24 = .ok (.iconst 0, 1) := by decide +kernel
theorem dX7_leapsOf_25 : decode cX7_leapsOf 25 = .ok (.invokevirtual 72, 3) := by decide +kernel
theorem dX7_leapsOf_28 : decode cX7_leapsOf 28 = .ok (.tableswitch 83 1 6 #[40, 45, 50, 66, 73, 80], 40) := by decide +kernel
theorem dX7_leapsOf_68 : decode cX7_leapsOf 68 = .ok (.iload 4, 2) := by decide +kernel
theorem dX7_leapsOf_70 : decode cX7_leapsOf 70 = .ok (.iconst 1, 1) := by decide +kernel
theorem dX7_leapsOf_71 : decode cX7_leapsOf 71 = .ok (.iadd, 1) := by decide +kernel
theorem dX7_leapsOf_72 : decode cX7_leapsOf 72 = .ok (.ireturn, 1) := by decide +kernel
theorem dX7_leapsOf_73 : decode cX7_leapsOf 73 = .ok (.iload 4, 2) := by decide +kernel
theorem dX7_leapsOf_75 : decode cX7_leapsOf 75 = .ok (.iconst 2, 1) := by decide +kernel
theorem dX7_leapsOf_76 : decode cX7_leapsOf 76 = .ok (.idiv, 1) := by decide +kernel
theorem dX7_leapsOf_77 : decode cX7_leapsOf 77 = .ok (.ireturn, 1) := by decide +kernel
theorem dX7_leapsOf_78 : decode cX7_leapsOf 78 = .ok (.iload_n 2, 1) := by decide +kernel
theorem dX7_leapsOf_79 : decode cX7_leapsOf 79 = .ok (.iconst 2, 1) := by decide +kernel
theorem dX7_leapsOf_80 : decode cX7_leapsOf 80 = .ok (.irem, 1) := by decide +kernel
theorem dX7_leapsOf_81 : decode cX7_leapsOf 81 = .ok (.ifCond .ne 10, 3) := by decide +kernel
theorem dX7_leapsOf_84 : decode cX7_leapsOf 84 = .ok (.iload 4, 2) := by decide +kernel
theorem dX7_leapsOf_86 : decode cX7_leapsOf 86 = .ok (.iconst 2, 1) := by decide +kernel
theorem dX7_leapsOf_87 : decode cX7_leapsOf 87 = .ok (.iadd, 1) := by decide +kernel
theorem dX7_leapsOf_88 : decode cX7_leapsOf 88 = .ok (.goto 5, 3) := by decide +kernel
theorem dX7_leapsOf_91 : decode cX7_leapsOf 91 = .ok (.iload 4, 2) := by decide +kernel
theorem dX7_leapsOf_93 : decode cX7_leapsOf 93 = .ok (.ireturn, 1) := by decide +kernel
theorem dX7_leapsOf_94 : decode cX7_leapsOf 94 = .ok (.iload 4, 2) := by decide +kernel
theorem dX7_leapsOf_96 : decode cX7_leapsOf 96 = .ok (.iconst 1, 1) := by decide +kernel
theorem dX7_leapsOf_97 : decode cX7_leapsOf 97 = .ok (.iadd, 1) := by decide +kernel
theorem dX7_leapsOf_98 : decode cX7_leapsOf 98 = .ok (.iload_n 3, 1) := by decide +kernel
theorem dX7_leapsOf_99 : decode cX7_leapsOf 99 = .ok (.iadd, 1) := by decide +kernel
theorem dX7_leapsOf_100 : decode cX7_leapsOf 100 = .ok (.ireturn, 1) := by decide +kernel
theorem dX7_leapsOf_101 : decode cX7_leapsOf 101 = .ok (.iload 4, 2) := by decide +kernel
theorem dX7_leapsOf_103 : decode cX7_leapsOf 103 = .ok (.iconst 2, 1) := by decide +kernel
theorem dX7_leapsOf_104 : decode cX7_leapsOf 104 = .ok (.idiv, 1) := by decide +kernel
theorem dX7_leapsOf_105 : decode cX7_leapsOf 105 = .ok (.iload_n 3, 1) := by decide +kernel
theorem dX7_leapsOf_106 : decode cX7_leapsOf 106 = .ok (.iadd, 1) := by decide +kernel
theorem dX7_leapsOf_107 : decode cX7_leapsOf 107 = .ok (.ireturn, 1) := by decide +kernel
theorem dX7_leapsOf_108 : decode cX7_leapsOf 108 = .ok (.bipush 30, 2) := by decide +kernel
theorem dX7_leapsOf_110 : decode cX7_leapsOf 110 = .ok (.ireturn, 1) := by decide +kernel
theorem dX7_leapsOf_111 : decode cX7_leapsOf 111 = .ok (.iload 4, 2) := by decide +kernel
theorem dX7_leapsOf_113 : decode cX7_leapsOf 113 = .ok (.ireturn, 1) := by decide +kernel
theorem dX7_spansOf_0 : decode cX7_spansOf 0 = .ok (.aload_n 0, 1) := by decide +kernel
theorem dX7_spansOf_1 : decode cX7_spansOf 1 = .ok (.iload_n 1, 1) := by decide +kernel
theorem dX7_spansOf_2 : decode cX7_spansOf 2 = .ok (.iconst 1, 1) := by decide +kernel
theorem dX7_spansOf_3 : decode cX7_spansOf 3 = .ok (.invokevirtual 72, 3) := by decide +kernel
theorem dX7_spansOf_6 : decode cX7_spansOf 6 = .ok (.istore_n 2, 1) := by decide +kernel
theorem dX7_spansOf_7 : decode cX7_spansOf 7 = .ok (.aload_n 0, 1) := by decide +kernel
theorem dX7_spansOf_8 : decode cX7_spansOf 8 = .ok (.iload_n 1, 1) := by decide +kernel
theorem dX7_spansOf_9 : decode cX7_spansOf 9 = .ok (.iconst 0, 1) := by decide +kernel
theorem dX7_spansOf_10 : decode cX7_spansOf 10 = .ok (.invokevirtual 72, 3) := by decide +kernel
theorem dX7_spansOf_13 : decode cX7_spansOf 13 = .ok (.tableswitch 52 1 6 #[39, 45, 52, 39, 47, 49], 39) := by decide +kernel
theorem dX7_spansOf_52 : decode cX7_spansOf 52 = .ok (.iconst 1, 1) := by decide +kernel
theorem dX7_spansOf_53 : decode cX7_spansOf 53 = .ok (.iload_n 2, 1) := by decide +kernel
theorem dX7_spansOf_54 : decode cX7_spansOf 54 = .ok (.iconst 3, 1) := by decide +kernel
theorem dX7_spansOf_55 : decode cX7_spansOf 55 = .ok (.irem, 1) := by decide +kernel
theorem dX7_spansOf_56 : decode cX7_spansOf 56 = .ok (.iadd, 1) := by decide +kernel
theorem dX7_spansOf_57 : decode cX7_spansOf 57 = .ok (.ireturn, 1) := by decide +kernel
theorem dX7_spansOf_58 : decode cX7_spansOf 58 = .ok (.iconst 0, 1) := by decide +kernel
theorem dX7_spansOf_59 : decode cX7_spansOf 59 = .ok (.ireturn, 1) := by decide +kernel
theorem dX7_spansOf_60 : decode cX7_spansOf 60 = .ok (.iload_n 2, 1) := by decide +kernel
theorem dX7_spansOf_61 : decode cX7_spansOf 61 = .ok (.ireturn, 1) := by decide +kernel
theorem dX7_spansOf_62 : decode cX7_spansOf 62 = .ok (.bipush 9, 2) := by decide +kernel
theorem dX7_spansOf_64 : decode cX7_spansOf 64 = .ok (.ireturn, 1) := by decide +kernel
theorem dX7_spansOf_65 : decode cX7_spansOf 65 = .ok (.iconst 1, 1) := by decide +kernel
theorem dX7_spansOf_66 : decode cX7_spansOf 66 = .ok (.ireturn, 1) := by decide +kernel
theorem dX7_isInReach_0 : decode cX7_isInReach 0 = .ok (.aload_n 0, 1) := by decide +kernel
theorem dX7_isInReach_1 : decode cX7_isInReach 1 = .ok (.getfield 9, 3) := by decide +kernel
theorem dX7_isInReach_4 : decode cX7_isInReach 4 = .ok (.bipush 15, 2) := by decide +kernel
theorem dX7_isInReach_6 : decode cX7_isInReach 6 = .ok (.iconst 2, 1) := by decide +kernel
theorem dX7_isInReach_7 : decode cX7_isInReach 7 = .ok (.iload_n 2, 1) := by decide +kernel
theorem dX7_isInReach_8 : decode cX7_isInReach 8 = .ok (.imul, 1) := by decide +kernel
theorem dX7_isInReach_9 : decode cX7_isInReach 9 = .ok (.iadd, 1) := by decide +kernel
theorem dX7_isInReach_10 : decode cX7_isInReach 10 = .ok (.iconst 1, 1) := by decide +kernel
theorem dX7_isInReach_11 : decode cX7_isInReach 11 = .ok (.iadd, 1) := by decide +kernel
theorem dX7_isInReach_12 : decode cX7_isInReach 12 = .ok (.iaload, 1) := by decide +kernel
theorem dX7_isInReach_13 : decode cX7_isInReach 13 = .ok (.aload_n 0, 1) := by decide +kernel
theorem dX7_isInReach_14 : decode cX7_isInReach 14 = .ok (.getfield 9, 3) := by decide +kernel
theorem dX7_isInReach_17 : decode cX7_isInReach 17 = .ok (.bipush 15, 2) := by decide +kernel
theorem dX7_isInReach_19 : decode cX7_isInReach 19 = .ok (.iconst 2, 1) := by decide +kernel
theorem dX7_isInReach_20 : decode cX7_isInReach 20 = .ok (.iload_n 3, 1) := by decide +kernel
theorem dX7_isInReach_21 : decode cX7_isInReach 21 = .ok (.imul, 1) := by decide +kernel
theorem dX7_isInReach_22 : decode cX7_isInReach 22 = .ok (.iadd, 1) := by decide +kernel
theorem dX7_isInReach_23 : decode cX7_isInReach 23 = .ok (.iconst 1, 1) := by decide +kernel
theorem dX7_isInReach_24 : decode cX7_isInReach 24 = .ok (.iadd, 1) := by decide +kernel
theorem dX7_isInReach_25 : decode cX7_isInReach 25 = .ok (.iaload, 1) := by decide +kernel
theorem dX7_isInReach_26 : decode cX7_isInReach 26 = .ok (.isub, 1) := by decide +kernel
theorem dX7_isInReach_27 : decode cX7_isInReach 27 = .ok (.istore 6, 2) := by decide +kernel
theorem dX7_isInReach_29 : decode cX7_isInReach 29 = .ok (.iload 6, 2) := by decide +kernel
theorem dX7_isInReach_31 : decode cX7_isInReach 31 = .ok (.ifCond .ge 9, 3) := by decide +kernel
theorem dX7_isInReach_34 : decode cX7_isInReach 34 = .ok (.iload 6, 2) := by decide +kernel
theorem dX7_isInReach_36 : decode cX7_isInReach 36 = .ok (.ineg, 1) := by decide +kernel
theorem dX7_isInReach_37 : decode cX7_isInReach 37 = .ok (.goto 5, 3) := by decide +kernel
theorem dX7_isInReach_40 : decode cX7_isInReach 40 = .ok (.iload 6, 2) := by decide +kernel
theorem dX7_isInReach_42 : decode cX7_isInReach 42 = .ok (.aload_n 0, 1) := by decide +kernel
theorem dX7_isInReach_43 : decode cX7_isInReach 43 = .ok (.iload_n 1, 1) := by decide +kernel
theorem dX7_isInReach_44 : decode cX7_isInReach 44 = .ok (.invokevirtual 87, 3) := by decide +kernel
theorem dX7_isInReach_47 : decode cX7_isInReach 47 = .ok (.if_icmp .gt 7, 3) := by decide +kernel
theorem dX7_isInReach_50 : decode cX7_isInReach 50 = .ok (.iconst 1, 1) := by decide +kernel
theorem dX7_isInReach_51 : decode cX7_isInReach 51 = .ok (.goto 4, 3) := by decide +kernel
theorem dX7_isInReach_54 : decode cX7_isInReach 54 = .ok (.iconst 0, 1) := by decide +kernel
theorem dX7_isInReach_55 : decode cX7_isInReach 55 = .ok (.istore 7, 2) := by decide +kernel
theorem dX7_isInReach_57 : decode cX7_isInReach 57 = .ok (.iload 7, 2) := by decide +kernel
theorem dX7_isInReach_59 : decode cX7_isInReach 59 = .ok (.ifCond .eq 40, 3) := by decide +kernel
theorem dX7_isInReach_62 : decode cX7_isInReach 62 = .ok (.aload_n 0, 1) := by decide +kernel
theorem dX7_isInReach_63 : decode cX7_isInReach 63 = .ok (.aload_n 0, 1) := by decide +kernel
theorem dX7_isInReach_64 : decode cX7_isInReach 64 = .ok (.getfield 9, 3) := by decide +kernel
theorem dX7_isInReach_67 : decode cX7_isInReach 67 = .ok (.bipush 15, 2) := by decide +kernel
theorem dX7_isInReach_69 : decode cX7_isInReach 69 = .ok (.iconst 2, 1) := by decide +kernel
theorem dX7_isInReach_70 : decode cX7_isInReach 70 = .ok (.iload_n 2, 1) := by decide +kernel
theorem dX7_isInReach_71 : decode cX7_isInReach 71 = .ok (.imul, 1) := by decide +kernel
theorem dX7_isInReach_72 : decode cX7_isInReach 72 = .ok (.iadd, 1) := by decide +kernel
theorem dX7_isInReach_73 : decode cX7_isInReach 73 = .ok (.iaload, 1) := by decide +kernel
theorem dX7_isInReach_74 : decode cX7_isInReach 74 = .ok (.aload_n 0, 1) := by decide +kernel
theorem dX7_isInReach_75 : decode cX7_isInReach 75 = .ok (.getfield 9, 3) := by decide +kernel
theorem dX7_isInReach_78 : decode cX7_isInReach 78 = .ok (.bipush 15, 2) := by decide +kernel
theorem dX7_isInReach_80 : decode cX7_isInReach 80 = .ok (.iconst 2, 1) := by decide +kernel
theorem dX7_isInReach_81 : decode cX7_isInReach 81 = .ok (.iload_n 3, 1) := by decide +kernel
theorem dX7_isInReach_82 : decode cX7_isInReach 82 = .ok (.imul, 1) := by decide +kernel
theorem dX7_isInReach_83 : decode cX7_isInReach 83 = .ok (.iadd, 1) := by decide +kernel
theorem dX7_isInReach_84 : decode cX7_isInReach 84 = .ok (.iaload, 1) := by decide +kernel
theorem dX7_isInReach_85 : decode cX7_isInReach 85 = .ok (.iload 4, 2) := by decide +kernel
theorem dX7_isInReach_87 : decode cX7_isInReach 87 = .ok (.invokevirtual 90, 3) := by decide +kernel
theorem dX7_isInReach_90 : decode cX7_isInReach 90 = .ok (.iload 5, 2) := by decide +kernel
theorem dX7_isInReach_92 : decode cX7_isInReach 92 = .ok (.if_icmp .gt 7, 3) := by decide +kernel
theorem dX7_isInReach_95 : decode cX7_isInReach 95 = .ok (.iconst 1, 1) := by decide +kernel
theorem dX7_isInReach_96 : decode cX7_isInReach 96 = .ok (.goto 4, 3) := by decide +kernel
theorem dX7_isInReach_99 : decode cX7_isInReach 99 = .ok (.iconst 0, 1) := by decide +kernel
theorem dX7_isInReach_100 : decode cX7_isInReach 100 = .ok (.ireturn, 1) := by decide +kernel
theorem dX7_doesGet_0 : decode cX7_doesGet 0 = .ok (.aload_n 0, 1) := by decide +kernel
theorem dX7_doesGet_1 : decode cX7_doesGet 1 = .ok (.iload_n 1, 1) := by decide +kernel
theorem dX7_doesGet_2 : decode cX7_doesGet 2 = .ok (.iload_n 2, 1) := by decide +kernel
theorem dX7_doesGet_3 : decode cX7_doesGet 3 = .ok (.iload_n 3, 1) := by decide +kernel
theorem dX7_doesGet_4 : decode cX7_doesGet 4 = .ok (.iload 4, 2) := by decide +kernel
theorem dX7_doesGet_6 : decode cX7_doesGet 6 = .ok (.aload_n 0, 1) := by decide +kernel
theorem dX7_doesGet_7 : decode cX7_doesGet 7 = .ok (.iload_n 1, 1) := by decide +kernel
theorem dX7_doesGet_8 : decode cX7_doesGet 8 = .ok (.iload 4, 2) := by decide +kernel
theorem dX7_doesGet_10 : decode cX7_doesGet 10 = .ok (.invokevirtual 94, 3) := by decide +kernel
theorem dX7_doesGet_13 : decode cX7_doesGet 13 = .ok (.invokevirtual 97, 3) := by decide +kernel
theorem dX7_doesGet_16 : decode cX7_doesGet 16 = .ok (.ireturn, 1) := by decide +kernel
theorem dX7_onward_0 : decode cX7_onward 0 = .ok (.aload_n 0, 1) := by decide +kernel
theorem dX7_onward_1 : decode cX7_onward 1 = .ok (.iload_n 1, 1) := by decide +kernel
theorem dX7_onward_2 : decode cX7_onward 2 = .ok (.iload_n 3, 1) := by decide +kernel
theorem dX7_onward_3 : decode cX7_onward 3 = .ok (.invokevirtual 94, 3) := by decide +kernel
theorem dX7_onward_6 : decode cX7_onward 6 = .ok (.istore 4, 2) := by decide +kernel
theorem dX7_onward_8 : decode cX7_onward 8 = .ok (.iload_n 2, 1) := by decide +kernel
theorem dX7_onward_9 : decode cX7_onward 9 = .ok (.istore 5, 2) := by decide +kernel
theorem dX7_onward_11 : decode cX7_onward 11 = .ok (.iconst 0, 1) := by decide +kernel
theorem dX7_onward_12 : decode cX7_onward 12 = .ok (.istore 6, 2) := by decide +kernel
theorem dX7_onward_14 : decode cX7_onward 14 = .ok (.iload 6, 2) := by decide +kernel
theorem dX7_onward_16 : decode cX7_onward 16 = .ok (.aload_n 0, 1) := by decide +kernel
theorem dX7_onward_17 : decode cX7_onward 17 = .ok (.getfield 9, 3) := by decide +kernel
theorem dX7_onward_20 : decode cX7_onward 20 = .ok (.iconst 3, 1) := by decide +kernel
theorem dX7_onward_21 : decode cX7_onward 21 = .ok (.iaload, 1) := by decide +kernel
theorem dX7_onward_22 : decode cX7_onward 22 = .ok (.if_icmp .ge 89, 3) := by decide +kernel
theorem dX7_onward_25 : decode cX7_onward 25 = .ok (.iconst 0, 1) := by decide +kernel
theorem dX7_onward_26 : decode cX7_onward 26 = .ok (.istore 7, 2) := by decide +kernel
theorem dX7_onward_28 : decode cX7_onward 28 = .ok (.iload 7, 2) := by decide +kernel
theorem dX7_onward_30 : decode cX7_onward 30 = .ok (.aload_n 0, 1) := by decide +kernel
theorem dX7_onward_31 : decode cX7_onward 31 = .ok (.getfield 9, 3) := by decide +kernel
theorem dX7_onward_34 : decode cX7_onward 34 = .ok (.iconst 3, 1) := by decide +kernel
theorem dX7_onward_35 : decode cX7_onward 35 = .ok (.iaload, 1) := by decide +kernel
theorem dX7_onward_36 : decode cX7_onward 36 = .ok (.if_icmp .ge 69, 3) := by decide +kernel
theorem dX7_onward_39 : decode cX7_onward 39 = .ok (.iload_n 2, 1) := by decide +kernel
theorem dX7_onward_40 : decode cX7_onward 40 = .ok (.iload 6, 2) := by decide +kernel
theorem dX7_onward_42 : decode cX7_onward 42 = .ok (.ishr, 1) := by decide +kernel
theorem dX7_onward_43 : decode cX7_onward 43 = .ok (.iconst 1, 1) := by decide +kernel
theorem dX7_onward_44 : decode cX7_onward 44 = .ok (.iand, 1) := by decide +kernel
theorem dX7_onward_45 : decode cX7_onward 45 = .ok (.iconst 1, 1) := by decide +kernel
theorem dX7_onward_46 : decode cX7_onward 46 = .ok (.if_icmp .ne 17, 3) := by decide +kernel
theorem dX7_onward_49 : decode cX7_onward 49 = .ok (.iload 5, 2) := by decide +kernel
theorem dX7_onward_51 : decode cX7_onward 51 = .ok (.iload 7, 2) := by decide +kernel
theorem dX7_onward_53 : decode cX7_onward 53 = .ok (.ishr, 1) := by decide +kernel
theorem dX7_onward_54 : decode cX7_onward 54 = .ok (.iconst 1, 1) := by decide +kernel
theorem dX7_onward_55 : decode cX7_onward 55 = .ok (.iand, 1) := by decide +kernel
theorem dX7_onward_56 : decode cX7_onward 56 = .ok (.ifCond .ne 7, 3) := by decide +kernel
theorem dX7_onward_59 : decode cX7_onward 59 = .ok (.iconst 1, 1) := by decide +kernel
theorem dX7_onward_60 : decode cX7_onward 60 = .ok (.goto 4, 3) := by decide +kernel
theorem dX7_onward_63 : decode cX7_onward 63 = .ok (.iconst 0, 1) := by decide +kernel
theorem dX7_onward_64 : decode cX7_onward 64 = .ok (.istore 8, 2) := by decide +kernel
theorem dX7_onward_66 : decode cX7_onward 66 = .ok (.iload 5, 2) := by decide +kernel
theorem dX7_onward_68 : decode cX7_onward 68 = .ok (.iload 8, 2) := by decide +kernel
theorem dX7_onward_70 : decode cX7_onward 70 = .ok (.ifCond .eq 25, 3) := by decide +kernel
theorem dX7_onward_73 : decode cX7_onward 73 = .ok (.aload_n 0, 1) := by decide +kernel
theorem dX7_onward_74 : decode cX7_onward 74 = .ok (.iload_n 1, 1) := by decide +kernel
theorem dX7_onward_75 : decode cX7_onward 75 = .ok (.iload 6, 2) := by decide +kernel
theorem dX7_onward_77 : decode cX7_onward 77 = .ok (.iload 7, 2) := by decide +kernel
theorem dX7_onward_79 : decode cX7_onward 79 = .ok (.iload_n 3, 1) := by decide +kernel
theorem dX7_onward_80 : decode cX7_onward 80 = .ok (.iload 4, 2) := by decide +kernel
theorem dX7_onward_82 : decode cX7_onward 82 = .ok (.invokevirtual 97, 3) := by decide +kernel
theorem dX7_onward_85 : decode cX7_onward 85 = .ok (.ifCond .eq 10, 3) := by decide +kernel
theorem dX7_onward_88 : decode cX7_onward 88 = .ok (.iconst 1, 1) := by decide +kernel
theorem dX7_onward_89 : decode cX7_onward 89 = .ok (.iload 7, 2) := by decide +kernel
theorem dX7_onward_91 : decode cX7_onward 91 = .ok (.ishl, 1) := by decide +kernel
theorem dX7_onward_92 : decode cX7_onward 92 = .ok (.goto 4, 3) := by decide +kernel
theorem dX7_onward_95 : decode cX7_onward 95 = .ok (.iconst 0, 1) := by decide +kernel
theorem dX7_onward_96 : decode cX7_onward 96 = .ok (.ior, 1) := by decide +kernel
theorem dX7_onward_97 : decode cX7_onward 97 = .ok (.istore 5, 2) := by decide +kernel
theorem dX7_onward_99 : decode cX7_onward 99 = .ok (.iinc 7 1, 3) := by decide +kernel
theorem dX7_onward_102 : decode cX7_onward 102 = .ok (.goto (-74), 3) := by decide +kernel
theorem dX7_onward_105 : decode cX7_onward 105 = .ok (.iinc 6 1, 3) := by decide +kernel
theorem dX7_onward_108 : decode cX7_onward 108 = .ok (.goto (-94), 3) := by decide +kernel
theorem dX7_onward_111 : decode cX7_onward 111 = .ok (.iload 5, 2) := by decide +kernel
theorem dX7_onward_113 : decode cX7_onward 113 = .ok (.ireturn, 1) := by decide +kernel
theorem dX7_findReach_0 : decode cX7_findReach 0 = .ok (.iconst 0, 1) := by decide +kernel
theorem dX7_findReach_1 : decode cX7_findReach 1 = .ok (.istore_n 3, 1) := by decide +kernel
theorem dX7_findReach_2 : decode cX7_findReach 2 = .ok (.iload_n 3, 1) := by decide +kernel
theorem dX7_findReach_3 : decode cX7_findReach 3 = .ok (.iload_n 2, 1) := by decide +kernel
theorem dX7_findReach_4 : decode cX7_findReach 4 = .ok (.if_icmp .ge 114, 3) := by decide +kernel
theorem dX7_findReach_7 : decode cX7_findReach 7 = .ok (.aload_n 0, 1) := by decide +kernel
theorem dX7_findReach_8 : decode cX7_findReach 8 = .ok (.getfield 9, 3) := by decide +kernel
theorem dX7_findReach_11 : decode cX7_findReach 11 = .ok (.iconst 0, 1) := by decide +kernel
theorem dX7_findReach_12 : decode cX7_findReach 12 = .ok (.iaload, 1) := by decide +kernel
theorem dX7_findReach_13 : decode cX7_findReach 13 = .ok (.iload_n 3, 1) := by decide +kernel
theorem dX7_findReach_14 : decode cX7_findReach 14 = .ok (.iadd, 1) := by decide +kernel
theorem dX7_findReach_15 : decode cX7_findReach 15 = .ok (.istore 4, 2) := by decide +kernel
theorem dX7_findReach_17 : decode cX7_findReach 17 = .ok (.aload_n 0, 1) := by decide +kernel
theorem dX7_findReach_18 : decode cX7_findReach 18 = .ok (.iload_n 1, 1) := by decide +kernel
theorem dX7_findReach_19 : decode cX7_findReach 19 = .ok (.iload 4, 2) := by decide +kernel
theorem dX7_findReach_21 : decode cX7_findReach 21 = .ok (.invokevirtual 94, 3) := by decide +kernel
theorem dX7_findReach_24 : decode cX7_findReach 24 = .ok (.istore 5, 2) := by decide +kernel
theorem dX7_findReach_26 : decode cX7_findReach 26 = .ok (.iconst 0, 1) := by decide +kernel
theorem dX7_findReach_27 : decode cX7_findReach 27 = .ok (.istore 6, 2) := by decide +kernel
theorem dX7_findReach_29 : decode cX7_findReach 29 = .ok (.iload 6, 2) := by decide +kernel
theorem dX7_findReach_31 : decode cX7_findReach 31 = .ok (.aload_n 0, 1) := by decide +kernel
theorem dX7_findReach_32 : decode cX7_findReach 32 = .ok (.getfield 9, 3) := by decide +kernel
theorem dX7_findReach_35 : decode cX7_findReach 35 = .ok (.iconst 3, 1) := by decide +kernel
theorem dX7_findReach_36 : decode cX7_findReach 36 = .ok (.iaload, 1) := by decide +kernel
theorem dX7_findReach_37 : decode cX7_findReach 37 = .ok (.if_icmp .ge 75, 3) := by decide +kernel
theorem dX7_findReach_40 : decode cX7_findReach 40 = .ok (.iconst 0, 1) := by decide +kernel
theorem dX7_findReach_41 : decode cX7_findReach 41 = .ok (.istore 7, 2) := by decide +kernel
theorem dX7_findReach_43 : decode cX7_findReach 43 = .ok (.iconst 0, 1) := by decide +kernel
theorem dX7_findReach_44 : decode cX7_findReach 44 = .ok (.istore 8, 2) := by decide +kernel
theorem dX7_findReach_46 : decode cX7_findReach 46 = .ok (.iload 8, 2) := by decide +kernel
theorem dX7_findReach_48 : decode cX7_findReach 48 = .ok (.aload_n 0, 1) := by decide +kernel
theorem dX7_findReach_49 : decode cX7_findReach 49 = .ok (.getfield 9, 3) := by decide +kernel
theorem dX7_findReach_52 : decode cX7_findReach 52 = .ok (.iconst 3, 1) := by decide +kernel
theorem dX7_findReach_53 : decode cX7_findReach 53 = .ok (.iaload, 1) := by decide +kernel
theorem dX7_findReach_54 : decode cX7_findReach 54 = .ok (.if_icmp .ge 38, 3) := by decide +kernel
theorem dX7_findReach_57 : decode cX7_findReach 57 = .ok (.iload 7, 2) := by decide +kernel
theorem dX7_findReach_59 : decode cX7_findReach 59 = .ok (.aload_n 0, 1) := by decide +kernel
theorem dX7_findReach_60 : decode cX7_findReach 60 = .ok (.iload_n 1, 1) := by decide +kernel
theorem dX7_findReach_61 : decode cX7_findReach 61 = .ok (.iload 6, 2) := by decide +kernel
theorem dX7_findReach_63 : decode cX7_findReach 63 = .ok (.iload 8, 2) := by decide +kernel
theorem dX7_findReach_65 : decode cX7_findReach 65 = .ok (.iload 4, 2) := by decide +kernel
theorem dX7_findReach_67 : decode cX7_findReach 67 = .ok (.iload 5, 2) := by decide +kernel
theorem dX7_findReach_69 : decode cX7_findReach 69 = .ok (.invokevirtual 97, 3) := by decide +kernel
theorem dX7_findReach_72 : decode cX7_findReach 72 = .ok (.ifCond .eq 10, 3) := by decide +kernel
theorem dX7_findReach_75 : decode cX7_findReach 75 = .ok (.iconst 1, 1) := by decide +kernel
theorem dX7_findReach_76 : decode cX7_findReach 76 = .ok (.iload 8, 2) := by decide +kernel
theorem dX7_findReach_78 : decode cX7_findReach 78 = .ok (.ishl, 1) := by decide +kernel
theorem dX7_findReach_79 : decode cX7_findReach 79 = .ok (.goto 4, 3) := by decide +kernel
theorem dX7_findReach_82 : decode cX7_findReach 82 = .ok (.iconst 0, 1) := by decide +kernel
theorem dX7_findReach_83 : decode cX7_findReach 83 = .ok (.ior, 1) := by decide +kernel
theorem dX7_findReach_84 : decode cX7_findReach 84 = .ok (.istore 7, 2) := by decide +kernel
theorem dX7_findReach_86 : decode cX7_findReach 86 = .ok (.iinc 8 1, 3) := by decide +kernel
theorem dX7_findReach_89 : decode cX7_findReach 89 = .ok (.goto (-43), 3) := by decide +kernel
theorem dX7_findReach_92 : decode cX7_findReach 92 = .ok (.aload_n 0, 1) := by decide +kernel
theorem dX7_findReach_93 : decode cX7_findReach 93 = .ok (.getfield 28, 3) := by decide +kernel
theorem dX7_findReach_96 : decode cX7_findReach 96 = .ok (.bipush 8, 2) := by decide +kernel
theorem dX7_findReach_98 : decode cX7_findReach 98 = .ok (.iload_n 3, 1) := by decide +kernel
theorem dX7_findReach_99 : decode cX7_findReach 99 = .ok (.imul, 1) := by decide +kernel
theorem dX7_findReach_100 : decode cX7_findReach 100 = .ok (.iload 6, 2) := by decide +kernel
theorem dX7_findReach_102 : decode cX7_findReach 102 = .ok (.iadd, 1) := by decide +kernel
theorem dX7_findReach_103 : decode cX7_findReach 103 = .ok (.iload 7, 2) := by decide +kernel
theorem dX7_findReach_105 : decode cX7_findReach 105 = .ok (.iastore, 1) := by decide +kernel
theorem dX7_findReach_106 : decode cX7_findReach 106 = .ok (.iinc 6 1, 3) := by decide +kernel
theorem dX7_findReach_109 : decode cX7_findReach 109 = .ok (.goto (-80), 3) := by decide +kernel
theorem dX7_findReach_112 : decode cX7_findReach 112 = .ok (.iinc 3 1, 3) := by decide +kernel
theorem dX7_findReach_115 : decode cX7_findReach 115 = .ok (.goto (-113), 3) := by decide +kernel
theorem dX7_findReach_118 : decode cX7_findReach 118 = .ok (.return_, 1) := by decide +kernel
theorem dX7_roomsBut_0 : decode cX7_roomsBut 0 = .ok (.iconst 1, 1) := by decide +kernel
theorem dX7_roomsBut_1 : decode cX7_roomsBut 1 = .ok (.aload_n 0, 1) := by decide +kernel
theorem dX7_roomsBut_2 : decode cX7_roomsBut 2 = .ok (.iload_n 1, 1) := by decide +kernel
theorem dX7_roomsBut_3 : decode cX7_roomsBut 3 = .ok (.iconst 2, 1) := by decide +kernel
theorem dX7_roomsBut_4 : decode cX7_roomsBut 4 = .ok (.invokevirtual 72, 3) := by decide +kernel
theorem dX7_roomsBut_7 : decode cX7_roomsBut 7 = .ok (.ishl, 1) := by decide +kernel
theorem dX7_roomsBut_8 : decode cX7_roomsBut 8 = .ok (.istore 4, 2) := by decide +kernel
theorem dX7_roomsBut_10 : decode cX7_roomsBut 10 = .ok (.iconst 0, 1) := by decide +kernel
theorem dX7_roomsBut_11 : decode cX7_roomsBut 11 = .ok (.istore 5, 2) := by decide +kernel
theorem dX7_roomsBut_13 : decode cX7_roomsBut 13 = .ok (.iload 5, 2) := by decide +kernel
theorem dX7_roomsBut_15 : decode cX7_roomsBut 15 = .ok (.iload_n 2, 1) := by decide +kernel
theorem dX7_roomsBut_16 : decode cX7_roomsBut 16 = .ok (.if_icmp .ge 74, 3) := by decide +kernel
theorem dX7_roomsBut_19 : decode cX7_roomsBut 19 = .ok (.iload 4, 2) := by decide +kernel
theorem dX7_roomsBut_21 : decode cX7_roomsBut 21 = .ok (.istore 6, 2) := by decide +kernel
theorem dX7_roomsBut_23 : decode cX7_roomsBut 23 = .ok (.iconst 0, 1) := by decide +kernel
theorem dX7_roomsBut_24 : decode cX7_roomsBut 24 = .ok (.istore 7, 2) := by decide +kernel
theorem dX7_roomsBut_26 : decode cX7_roomsBut 26 = .ok (.iload 7, 2) := by decide +kernel
theorem dX7_roomsBut_28 : decode cX7_roomsBut 28 = .ok (.aload_n 0, 1) := by decide +kernel
theorem dX7_roomsBut_29 : decode cX7_roomsBut 29 = .ok (.getfield 9, 3) := by decide +kernel
theorem dX7_roomsBut_32 : decode cX7_roomsBut 32 = .ok (.iconst 3, 1) := by decide +kernel
theorem dX7_roomsBut_33 : decode cX7_roomsBut 33 = .ok (.iaload, 1) := by decide +kernel
theorem dX7_roomsBut_34 : decode cX7_roomsBut 34 = .ok (.if_icmp .ge 46, 3) := by decide +kernel
theorem dX7_roomsBut_37 : decode cX7_roomsBut 37 = .ok (.iload 6, 2) := by decide +kernel
theorem dX7_roomsBut_39 : decode cX7_roomsBut 39 = .ok (.iload 4, 2) := by decide +kernel
theorem dX7_roomsBut_41 : decode cX7_roomsBut 41 = .ok (.iload 7, 2) := by decide +kernel
theorem dX7_roomsBut_43 : decode cX7_roomsBut 43 = .ok (.ishr, 1) := by decide +kernel
theorem dX7_roomsBut_44 : decode cX7_roomsBut 44 = .ok (.iconst 1, 1) := by decide +kernel
theorem dX7_roomsBut_45 : decode cX7_roomsBut 45 = .ok (.iand, 1) := by decide +kernel
theorem dX7_roomsBut_46 : decode cX7_roomsBut 46 = .ok (.iconst 1, 1) := by decide +kernel
theorem dX7_roomsBut_47 : decode cX7_roomsBut 47 = .ok (.if_icmp .ne 23, 3) := by decide +kernel
theorem dX7_roomsBut_50 : decode cX7_roomsBut 50 = .ok (.aload_n 0, 1) := by decide +kernel
theorem dX7_roomsBut_51 : decode cX7_roomsBut 51 = .ok (.getfield 28, 3) := by decide +kernel
theorem dX7_roomsBut_54 : decode cX7_roomsBut 54 = .ok (.bipush 8, 2) := by decide +kernel
theorem dX7_roomsBut_56 : decode cX7_roomsBut 56 = .ok (.iload 5, 2) := by decide +kernel
theorem dX7_roomsBut_58 : decode cX7_roomsBut 58 = .ok (.imul, 1) := by decide +kernel
theorem dX7_roomsBut_59 : decode cX7_roomsBut 59 = .ok (.iload 7, 2) := by decide +kernel
theorem dX7_roomsBut_61 : decode cX7_roomsBut 61 = .ok (.iadd, 1) := by decide +kernel
theorem dX7_roomsBut_62 : decode cX7_roomsBut 62 = .ok (.iaload, 1) := by decide +kernel
theorem dX7_roomsBut_63 : decode cX7_roomsBut 63 = .ok (.iload_n 3, 1) := by decide +kernel
theorem dX7_roomsBut_64 : decode cX7_roomsBut 64 = .ok (.iconst (-1), 1) := by decide +kernel
theorem dX7_roomsBut_65 : decode cX7_roomsBut 65 = .ok (.ixor, 1) := by decide +kernel
theorem dX7_roomsBut_66 : decode cX7_roomsBut 66 = .ok (.iand, 1) := by decide +kernel
theorem dX7_roomsBut_67 : decode cX7_roomsBut 67 = .ok (.goto 4, 3) := by decide +kernel
theorem dX7_roomsBut_70 : decode cX7_roomsBut 70 = .ok (.iconst 0, 1) := by decide +kernel
theorem dX7_roomsBut_71 : decode cX7_roomsBut 71 = .ok (.ior, 1) := by decide +kernel
theorem dX7_roomsBut_72 : decode cX7_roomsBut 72 = .ok (.istore 6, 2) := by decide +kernel
theorem dX7_roomsBut_74 : decode cX7_roomsBut 74 = .ok (.iinc 7 1, 3) := by decide +kernel
theorem dX7_roomsBut_77 : decode cX7_roomsBut 77 = .ok (.goto (-51), 3) := by decide +kernel
theorem dX7_roomsBut_80 : decode cX7_roomsBut 80 = .ok (.iload 6, 2) := by decide +kernel
theorem dX7_roomsBut_82 : decode cX7_roomsBut 82 = .ok (.istore 4, 2) := by decide +kernel
theorem dX7_roomsBut_84 : decode cX7_roomsBut 84 = .ok (.iinc 5 1, 3) := by decide +kernel
theorem dX7_roomsBut_87 : decode cX7_roomsBut 87 = .ok (.goto (-74), 3) := by decide +kernel
theorem dX7_roomsBut_90 : decode cX7_roomsBut 90 = .ok (.iload 4, 2) := by decide +kernel
theorem dX7_roomsBut_92 : decode cX7_roomsBut 92 = .ok (.ireturn, 1) := by decide +kernel
theorem dX7_roomsBy_0 : decode cX7_roomsBy 0 = .ok (.iconst 1, 1) := by decide +kernel
theorem dX7_roomsBy_1 : decode cX7_roomsBy 1 = .ok (.aload_n 0, 1) := by decide +kernel
theorem dX7_roomsBy_2 : decode cX7_roomsBy 2 = .ok (.iload_n 1, 1) := by decide +kernel
theorem dX7_roomsBy_3 : decode cX7_roomsBy 3 = .ok (.iconst 2, 1) := by decide +kernel
theorem dX7_roomsBy_4 : decode cX7_roomsBy 4 = .ok (.invokevirtual 72, 3) := by decide +kernel
theorem dX7_roomsBy_7 : decode cX7_roomsBy 7 = .ok (.ishl, 1) := by decide +kernel
theorem dX7_roomsBy_8 : decode cX7_roomsBy 8 = .ok (.istore_n 3, 1) := by decide +kernel
theorem dX7_roomsBy_9 : decode cX7_roomsBy 9 = .ok (.iconst 0, 1) := by decide +kernel
theorem dX7_roomsBy_10 : decode cX7_roomsBy 10 = .ok (.istore 4, 2) := by decide +kernel
theorem dX7_roomsBy_12 : decode cX7_roomsBy 12 = .ok (.iload 4, 2) := by decide +kernel
theorem dX7_roomsBy_14 : decode cX7_roomsBy 14 = .ok (.iload_n 2, 1) := by decide +kernel
theorem dX7_roomsBy_15 : decode cX7_roomsBy 15 = .ok (.if_icmp .ge 25, 3) := by decide +kernel
theorem dX7_roomsBy_18 : decode cX7_roomsBy 18 = .ok (.aload_n 0, 1) := by decide +kernel
theorem dX7_roomsBy_19 : decode cX7_roomsBy 19 = .ok (.iload_n 1, 1) := by decide +kernel
theorem dX7_roomsBy_20 : decode cX7_roomsBy 20 = .ok (.iload_n 3, 1) := by decide +kernel
theorem dX7_roomsBy_21 : decode cX7_roomsBy 21 = .ok (.aload_n 0, 1) := by decide +kernel
theorem dX7_roomsBy_22 : decode cX7_roomsBy 22 = .ok (.getfield 9, 3) := by decide +kernel
theorem dX7_roomsBy_25 : decode cX7_roomsBy 25 = .ok (.iconst 0, 1) := by decide +kernel
theorem dX7_roomsBy_26 : decode cX7_roomsBy 26 = .ok (.iaload, 1) := by decide +kernel
theorem dX7_roomsBy_27 : decode cX7_roomsBy 27 = .ok (.iload 4, 2) := by decide +kernel
theorem dX7_roomsBy_29 : decode cX7_roomsBy 29 = .ok (.iadd, 1) := by decide +kernel
theorem dX7_roomsBy_30 : decode cX7_roomsBy 30 = .ok (.invokevirtual 101, 3) := by decide +kernel
theorem dX7_roomsBy_33 : decode cX7_roomsBy 33 = .ok (.istore_n 3, 1) := by decide +kernel
theorem dX7_roomsBy_34 : decode cX7_roomsBy 34 = .ok (.iinc 4 1, 3) := by decide +kernel
theorem dX7_roomsBy_37 : decode cX7_roomsBy 37 = .ok (.goto (-25), 3) := by decide +kernel
theorem dX7_roomsBy_40 : decode cX7_roomsBy 40 = .ok (.iload_n 3, 1) := by decide +kernel
theorem dX7_roomsBy_41 : decode cX7_roomsBy 41 = .ok (.ireturn, 1) := by decide +kernel
theorem dX7_personIs_0 : decode cX7_personIs 0 = .ok (.aload_n 0, 1) := by decide +kernel
theorem dX7_personIs_1 : decode cX7_personIs 1 = .ok (.iload_n 1, 1) := by decide +kernel
theorem dX7_personIs_2 : decode cX7_personIs 2 = .ok (.invokevirtual 104, 3) := by decide +kernel
theorem dX7_personIs_5 : decode cX7_personIs 5 = .ok (.ifCond .ne 10, 3) := by decide +kernel
theorem dX7_personIs_8 : decode cX7_personIs 8 = .ok (.aload_n 0, 1) := by decide +kernel
theorem dX7_personIs_9 : decode cX7_personIs 9 = .ok (.ldc 55, 2) := by decide +kernel
theorem dX7_personIs_11 : decode cX7_personIs 11 = .ok (.invokevirtual 56, 3) := by decide +kernel
theorem dX7_personIs_14 : decode cX7_personIs 14 = .ok (.ireturn, 1) := by decide +kernel
theorem dX7_personIs_15 : decode cX7_personIs 15 = .ok (.iload_n 2, 1) := by decide +kernel
theorem dX7_personIs_16 : decode cX7_personIs 16 = .ok (.tableswitch 72 0 5 #[40, 40, 40, 47, 59, 65], 40) := by decide +kernel
theorem dX7_personIs_56 : decode cX7_personIs 56 = .ok (.aload_n 0, 1) := by decide +kernel
theorem dX7_personIs_57 : decode cX7_personIs 57 = .ok (.iload_n 1, 1) := by decide +kernel
theorem dX7_personIs_58 : decode cX7_personIs 58 = .ok (.iload_n 2, 1) := by decide +kernel
theorem dX7_personIs_59 : decode cX7_personIs 59 = .ok (.invokevirtual 72, 3) := by decide +kernel
theorem dX7_personIs_62 : decode cX7_personIs 62 = .ok (.ireturn, 1) := by decide +kernel
theorem dX7_personIs_63 : decode cX7_personIs 63 = .ok (.aload_n 0, 1) := by decide +kernel
theorem dX7_personIs_64 : decode cX7_personIs 64 = .ok (.iload_n 1, 1) := by decide +kernel
theorem dX7_personIs_65 : decode cX7_personIs 65 = .ok (.aload_n 0, 1) := by decide +kernel
theorem dX7_personIs_66 : decode cX7_personIs 66 = .ok (.getfield 9, 3) := by decide +kernel
theorem dX7_personIs_69 : decode cX7_personIs 69 = .ok (.iconst 0, 1) := by decide +kernel
theorem dX7_personIs_70 : decode cX7_personIs 70 = .ok (.iaload, 1) := by decide +kernel
theorem dX7_personIs_71 : decode cX7_personIs 71 = .ok (.invokevirtual 94, 3) := by decide +kernel
theorem dX7_personIs_74 : decode cX7_personIs 74 = .ok (.ireturn, 1) := by decide +kernel
theorem dX7_personIs_75 : decode cX7_personIs 75 = .ok (.aload_n 0, 1) := by decide +kernel
theorem dX7_personIs_76 : decode cX7_personIs 76 = .ok (.iload_n 1, 1) := by decide +kernel
theorem dX7_personIs_77 : decode cX7_personIs 77 = .ok (.invokevirtual 87, 3) := by decide +kernel
theorem dX7_personIs_80 : decode cX7_personIs 80 = .ok (.ireturn, 1) := by decide +kernel
theorem dX7_personIs_81 : decode cX7_personIs 81 = .ok (.aload_n 0, 1) := by decide +kernel
theorem dX7_personIs_82 : decode cX7_personIs 82 = .ok (.iload_n 1, 1) := by decide +kernel
theorem dX7_personIs_83 : decode cX7_personIs 83 = .ok (.iconst 1, 1) := by decide +kernel
theorem dX7_personIs_84 : decode cX7_personIs 84 = .ok (.invokevirtual 107, 3) := by decide +kernel
theorem dX7_personIs_87 : decode cX7_personIs 87 = .ok (.ireturn, 1) := by decide +kernel
theorem dX7_personIs_88 : decode cX7_personIs 88 = .ok (.aload_n 0, 1) := by decide +kernel
theorem dX7_personIs_89 : decode cX7_personIs 89 = .ok (.ldc 55, 2) := by decide +kernel
theorem dX7_personIs_91 : decode cX7_personIs 91 = .ok (.invokevirtual 56, 3) := by decide +kernel
theorem dX7_personIs_94 : decode cX7_personIs 94 = .ok (.ireturn, 1) := by decide +kernel
theorem dX7_become_0 : decode cX7_become 0 = .ok (.aload_n 0, 1) := by decide +kernel
theorem dX7_become_1 : decode cX7_become 1 = .ok (.iload_n 1, 1) := by decide +kernel
theorem dX7_become_2 : decode cX7_become 2 = .ok (.invokevirtual 104, 3) := by decide +kernel
theorem dX7_become_5 : decode cX7_become 5 = .ok (.ifCond .eq 10, 3) := by decide +kernel
theorem dX7_become_8 : decode cX7_become 8 = .ok (.iload_n 2, 1) := by decide +kernel
theorem dX7_become_9 : decode cX7_become 9 = .ok (.invokestatic 84, 3) := by decide +kernel
theorem dX7_become_12 : decode cX7_become 12 = .ok (.ifCond .ne 10, 3) := by decide +kernel
theorem dX7_become_15 : decode cX7_become 15 = .ok (.aload_n 0, 1) := by decide +kernel
theorem dX7_become_16 : decode cX7_become 16 = .ok (.ldc 55, 2) := by decide +kernel
theorem dX7_become_18 : decode cX7_become 18 = .ok (.invokevirtual 56, 3) := by decide +kernel
theorem dX7_become_21 : decode cX7_become 21 = .ok (.ireturn, 1) := by decide +kernel
theorem dX7_become_22 : decode cX7_become 22 = .ok (.aload_n 0, 1) := by decide +kernel
theorem dX7_become_23 : decode cX7_become 23 = .ok (.getfield 9, 3) := by decide +kernel
theorem dX7_become_26 : decode cX7_become 26 = .ok (.bipush 31, 2) := by decide +kernel
theorem dX7_become_28 : decode cX7_become 28 = .ok (.iconst 3, 1) := by decide +kernel
theorem dX7_become_29 : decode cX7_become 29 = .ok (.iload_n 1, 1) := by decide +kernel
theorem dX7_become_30 : decode cX7_become 30 = .ok (.imul, 1) := by decide +kernel
theorem dX7_become_31 : decode cX7_become 31 = .ok (.iadd, 1) := by decide +kernel
theorem dX7_become_32 : decode cX7_become 32 = .ok (.iconst 1, 1) := by decide +kernel
theorem dX7_become_33 : decode cX7_become 33 = .ok (.iadd, 1) := by decide +kernel
theorem dX7_become_34 : decode cX7_become 34 = .ok (.iload_n 2, 1) := by decide +kernel
theorem dX7_become_35 : decode cX7_become 35 = .ok (.bipush 10, 2) := by decide +kernel
theorem dX7_become_37 : decode cX7_become 37 = .ok (.irem, 1) := by decide +kernel
theorem dX7_become_38 : decode cX7_become 38 = .ok (.iastore, 1) := by decide +kernel
theorem dX7_become_39 : decode cX7_become 39 = .ok (.aload_n 0, 1) := by decide +kernel
theorem dX7_become_40 : decode cX7_become 40 = .ok (.bipush 31, 2) := by decide +kernel
theorem dX7_become_42 : decode cX7_become 42 = .ok (.iconst 3, 1) := by decide +kernel
theorem dX7_become_43 : decode cX7_become 43 = .ok (.iload_n 1, 1) := by decide +kernel
theorem dX7_become_44 : decode cX7_become 44 = .ok (.imul, 1) := by decide +kernel
theorem dX7_become_45 : decode cX7_become 45 = .ok (.iadd, 1) := by decide +kernel
theorem dX7_become_46 : decode cX7_become 46 = .ok (.iload_n 2, 1) := by decide +kernel
theorem dX7_become_47 : decode cX7_become 47 = .ok (.bipush 10, 2) := by decide +kernel
theorem dX7_become_49 : decode cX7_become 49 = .ok (.idiv, 1) := by decide +kernel
theorem dX7_become_50 : decode cX7_become 50 = .ok (.invokevirtual 110, 3) := by decide +kernel
theorem dX7_become_53 : decode cX7_become 53 = .ok (.ireturn, 1) := by decide +kernel
theorem dX7_as_0 : decode cX7_as 0 = .ok (.aload_n 0, 1) := by decide +kernel
theorem dX7_as_1 : decode cX7_as 1 = .ok (.iload_n 1, 1) := by decide +kernel
theorem dX7_as_2 : decode cX7_as 2 = .ok (.invokevirtual 104, 3) := by decide +kernel
theorem dX7_as_5 : decode cX7_as 5 = .ok (.ifCond .eq 13, 3) := by decide +kernel
theorem dX7_as_8 : decode cX7_as 8 = .ok (.iload_n 2, 1) := by decide +kernel
theorem dX7_as_9 : decode cX7_as 9 = .ok (.iconst 0, 1) := by decide +kernel
theorem dX7_as_10 : decode cX7_as 10 = .ok (.bipush 6, 2) := by decide +kernel
theorem dX7_as_12 : decode cX7_as 12 = .ok (.invokestatic 47, 3) := by decide +kernel
theorem dX7_as_15 : decode cX7_as 15 = .ok (.ifCond .ne 10, 3) := by decide +kernel
theorem dX7_as_18 : decode cX7_as 18 = .ok (.aload_n 0, 1) := by decide +kernel
theorem dX7_as_19 : decode cX7_as 19 = .ok (.ldc 55, 2) := by decide +kernel
theorem dX7_as_21 : decode cX7_as 21 = .ok (.invokevirtual 56, 3) := by decide +kernel
theorem dX7_as_24 : decode cX7_as 24 = .ok (.ireturn, 1) := by decide +kernel
theorem dX7_as_25 : decode cX7_as 25 = .ok (.aload_n 0, 1) := by decide +kernel
theorem dX7_as_26 : decode cX7_as 26 = .ok (.iload_n 1, 1) := by decide +kernel
theorem dX7_as_27 : decode cX7_as 27 = .ok (.iconst 0, 1) := by decide +kernel
theorem dX7_as_28 : decode cX7_as 28 = .ok (.invokevirtual 72, 3) := by decide +kernel
theorem dX7_as_31 : decode cX7_as 31 = .ok (.istore_n 3, 1) := by decide +kernel
theorem dX7_as_32 : decode cX7_as 32 = .ok (.iload_n 2, 1) := by decide +kernel
theorem dX7_as_33 : decode cX7_as 33 = .ok (.ifCond .eq 28, 3) := by decide +kernel
theorem dX7_as_36 : decode cX7_as 36 = .ok (.iload_n 2, 1) := by decide +kernel
theorem dX7_as_37 : decode cX7_as 37 = .ok (.iload_n 3, 1) := by decide +kernel
theorem dX7_as_38 : decode cX7_as 38 = .ok (.if_icmp .eq 23, 3) := by decide +kernel
theorem dX7_as_41 : decode cX7_as 41 = .ok (.iload_n 2, 1) := by decide +kernel
theorem dX7_as_42 : decode cX7_as 42 = .ok (.iconst 1, 1) := by decide +kernel
theorem dX7_as_43 : decode cX7_as 43 = .ok (.if_icmp .ne 8, 3) := by decide +kernel
theorem dX7_as_46 : decode cX7_as 46 = .ok (.iload_n 3, 1) := by decide +kernel
theorem dX7_as_47 : decode cX7_as 47 = .ok (.iconst 4, 1) := by decide +kernel
theorem dX7_as_48 : decode cX7_as 48 = .ok (.if_icmp .eq 13, 3) := by decide +kernel
theorem dX7_as_51 : decode cX7_as 51 = .ok (.iload_n 2, 1) := by decide +kernel
theorem dX7_as_52 : decode cX7_as 52 = .ok (.iconst 2, 1) := by decide +kernel
theorem dX7_as_53 : decode cX7_as 53 = .ok (.if_icmp .ne 12, 3) := by decide +kernel
theorem dX7_as_56 : decode cX7_as 56 = .ok (.iload_n 3, 1) := by decide +kernel
theorem dX7_as_57 : decode cX7_as 57 = .ok (.iconst 5, 1) := by decide +kernel
theorem dX7_as_58 : decode cX7_as 58 = .ok (.if_icmp .ne 7, 3) := by decide +kernel
theorem dX7_as_61 : decode cX7_as 61 = .ok (.iconst 1, 1) := by decide +kernel
theorem dX7_as_62 : decode cX7_as 62 = .ok (.goto 4, 3) := by decide +kernel
theorem dX7_as_65 : decode cX7_as 65 = .ok (.iconst 0, 1) := by decide +kernel
theorem dX7_as_66 : decode cX7_as 66 = .ok (.istore 4, 2) := by decide +kernel
theorem dX7_as_68 : decode cX7_as 68 = .ok (.iload 4, 2) := by decide +kernel
theorem dX7_as_70 : decode cX7_as 70 = .ok (.ifCond .eq 12, 3) := by decide +kernel
theorem dX7_as_73 : decode cX7_as 73 = .ok (.aload_n 0, 1) := by decide +kernel
theorem dX7_as_74 : decode cX7_as 74 = .ok (.iload_n 1, 1) := by decide +kernel
theorem dX7_as_75 : decode cX7_as 75 = .ok (.iconst 1, 1) := by decide +kernel
theorem dX7_as_76 : decode cX7_as 76 = .ok (.invokevirtual 72, 3) := by decide +kernel
theorem dX7_as_79 : decode cX7_as 79 = .ok (.goto 9, 3) := by decide +kernel
theorem dX7_as_82 : decode cX7_as 82 = .ok (.aload_n 0, 1) := by decide +kernel
theorem dX7_as_83 : decode cX7_as 83 = .ok (.ldc 113, 2) := by decide +kernel
theorem dX7_as_85 : decode cX7_as 85 = .ok (.invokevirtual 56, 3) := by decide +kernel
theorem dX7_as_88 : decode cX7_as 88 = .ok (.ireturn, 1) := by decide +kernel
theorem dX7_jump_0 : decode cX7_jump 0 = .ok (.aload_n 0, 1) := by decide +kernel
theorem dX7_jump_1 : decode cX7_jump 1 = .ok (.iload_n 1, 1) := by decide +kernel
theorem dX7_jump_2 : decode cX7_jump 2 = .ok (.invokevirtual 104, 3) := by decide +kernel
theorem dX7_jump_5 : decode cX7_jump 5 = .ok (.ifCond .eq 11, 3) := by decide +kernel
theorem dX7_jump_8 : decode cX7_jump 8 = .ok (.aload_n 0, 1) := by decide +kernel
theorem dX7_jump_9 : decode cX7_jump 9 = .ok (.iload_n 2, 1) := by decide +kernel
theorem dX7_jump_10 : decode cX7_jump 10 = .ok (.invokevirtual 75, 3) := by decide +kernel
theorem dX7_jump_13 : decode cX7_jump 13 = .ok (.ifCond .ne 10, 3) := by decide +kernel
theorem dX7_jump_16 : decode cX7_jump 16 = .ok (.aload_n 0, 1) := by decide +kernel
theorem dX7_jump_17 : decode cX7_jump 17 = .ok (.ldc 55, 2) := by decide +kernel
theorem dX7_jump_19 : decode cX7_jump 19 = .ok (.invokevirtual 56, 3) := by decide +kernel
theorem dX7_jump_22 : decode cX7_jump 22 = .ok (.ireturn, 1) := by decide +kernel
theorem dX7_jump_23 : decode cX7_jump 23 = .ok (.aload_n 0, 1) := by decide +kernel
theorem dX7_jump_24 : decode cX7_jump 24 = .ok (.iload_n 1, 1) := by decide +kernel
theorem dX7_jump_25 : decode cX7_jump 25 = .ok (.iconst 2, 1) := by decide +kernel
theorem dX7_jump_26 : decode cX7_jump 26 = .ok (.invokevirtual 72, 3) := by decide +kernel
theorem dX7_jump_29 : decode cX7_jump 29 = .ok (.iload_n 2, 1) := by decide +kernel
theorem dX7_jump_30 : decode cX7_jump 30 = .ok (.if_icmp .eq 24, 3) := by decide +kernel
theorem dX7_jump_33 : decode cX7_jump 33 = .ok (.aload_n 0, 1) := by decide +kernel
theorem dX7_jump_34 : decode cX7_jump 34 = .ok (.iload_n 1, 1) := by decide +kernel
theorem dX7_jump_35 : decode cX7_jump 35 = .ok (.aload_n 0, 1) := by decide +kernel
theorem dX7_jump_36 : decode cX7_jump 36 = .ok (.iload_n 1, 1) := by decide +kernel
theorem dX7_jump_37 : decode cX7_jump 37 = .ok (.iconst 2, 1) := by decide +kernel
theorem dX7_jump_38 : decode cX7_jump 38 = .ok (.invokevirtual 72, 3) := by decide +kernel
theorem dX7_jump_41 : decode cX7_jump 41 = .ok (.iload_n 2, 1) := by decide +kernel
theorem dX7_jump_42 : decode cX7_jump 42 = .ok (.aload_n 0, 1) := by decide +kernel
theorem dX7_jump_43 : decode cX7_jump 43 = .ok (.getfield 9, 3) := by decide +kernel
theorem dX7_jump_46 : decode cX7_jump 46 = .ok (.iconst 0, 1) := by decide +kernel
theorem dX7_jump_47 : decode cX7_jump 47 = .ok (.iaload, 1) := by decide +kernel
theorem dX7_jump_48 : decode cX7_jump 48 = .ok (.invokevirtual 114, 3) := by decide +kernel
theorem dX7_jump_51 : decode cX7_jump 51 = .ok (.ifCond .eq 7, 3) := by decide +kernel
theorem dX7_jump_54 : decode cX7_jump 54 = .ok (.iconst 1, 1) := by decide +kernel
theorem dX7_jump_55 : decode cX7_jump 55 = .ok (.goto 4, 3) := by decide +kernel
theorem dX7_jump_58 : decode cX7_jump 58 = .ok (.iconst 0, 1) := by decide +kernel
theorem dX7_jump_59 : decode cX7_jump 59 = .ok (.istore_n 3, 1) := by decide +kernel
theorem dX7_jump_60 : decode cX7_jump 60 = .ok (.iload_n 3, 1) := by decide +kernel
theorem dX7_jump_61 : decode cX7_jump 61 = .ok (.ifCond .eq 19, 3) := by decide +kernel
theorem dX7_jump_64 : decode cX7_jump 64 = .ok (.aload_n 0, 1) := by decide +kernel
theorem dX7_jump_65 : decode cX7_jump 65 = .ok (.bipush 31, 2) := by decide +kernel
theorem dX7_jump_67 : decode cX7_jump 67 = .ok (.iconst 3, 1) := by decide +kernel
theorem dX7_jump_68 : decode cX7_jump 68 = .ok (.iload_n 1, 1) := by decide +kernel
theorem dX7_jump_69 : decode cX7_jump 69 = .ok (.imul, 1) := by decide +kernel
theorem dX7_jump_70 : decode cX7_jump 70 = .ok (.iadd, 1) := by decide +kernel
theorem dX7_jump_71 : decode cX7_jump 71 = .ok (.iconst 2, 1) := by decide +kernel
theorem dX7_jump_72 : decode cX7_jump 72 = .ok (.iadd, 1) := by decide +kernel
theorem dX7_jump_73 : decode cX7_jump 73 = .ok (.iload_n 2, 1) := by decide +kernel
theorem dX7_jump_74 : decode cX7_jump 74 = .ok (.invokevirtual 110, 3) := by decide +kernel
theorem dX7_jump_77 : decode cX7_jump 77 = .ok (.goto 9, 3) := by decide +kernel
theorem dX7_jump_80 : decode cX7_jump 80 = .ok (.aload_n 0, 1) := by decide +kernel
theorem dX7_jump_81 : decode cX7_jump 81 = .ok (.ldc 118, 2) := by decide +kernel
theorem dX7_jump_83 : decode cX7_jump 83 = .ok (.invokevirtual 56, 3) := by decide +kernel
theorem dX7_jump_86 : decode cX7_jump 86 = .ok (.ireturn, 1) := by decide +kernel
theorem dX7_feed_0 : decode cX7_feed 0 = .ok (.iload_n 3, 1) := by decide +kernel
theorem dX7_feed_1 : decode cX7_feed 1 = .ok (.iconst 1, 1) := by decide +kernel
theorem dX7_feed_2 : decode cX7_feed 2 = .ok (.bipush 8, 2) := by decide +kernel
theorem dX7_feed_4 : decode cX7_feed 4 = .ok (.invokestatic 47, 3) := by decide +kernel
theorem dX7_feed_7 : decode cX7_feed 7 = .ok (.ifCond .ne 10, 3) := by decide +kernel
theorem dX7_feed_10 : decode cX7_feed 10 = .ok (.aload_n 0, 1) := by decide +kernel
theorem dX7_feed_11 : decode cX7_feed 11 = .ok (.ldc 55, 2) := by decide +kernel
theorem dX7_feed_13 : decode cX7_feed 13 = .ok (.invokevirtual 56, 3) := by decide +kernel
theorem dX7_feed_16 : decode cX7_feed 16 = .ok (.ireturn, 1) := by decide +kernel
theorem dX7_feed_17 : decode cX7_feed 17 = .ok (.aload_n 0, 1) := by decide +kernel
theorem dX7_feed_18 : decode cX7_feed 18 = .ok (.getfield 9, 3) := by decide +kernel
theorem dX7_feed_21 : decode cX7_feed 21 = .ok (.iconst 5, 1) := by decide +kernel
theorem dX7_feed_22 : decode cX7_feed 22 = .ok (.iaload, 1) := by decide +kernel
theorem dX7_feed_23 : decode cX7_feed 23 = .ok (.iload_n 3, 1) := by decide +kernel
theorem dX7_feed_24 : decode cX7_feed 24 = .ok (.iadd, 1) := by decide +kernel
theorem dX7_feed_25 : decode cX7_feed 25 = .ok (.bipush 60, 2) := by decide +kernel
theorem dX7_feed_27 : decode cX7_feed 27 = .ok (.if_icmp .le 10, 3) := by decide +kernel
theorem dX7_feed_30 : decode cX7_feed 30 = .ok (.aload_n 0, 1) := by decide +kernel
theorem dX7_feed_31 : decode cX7_feed 31 = .ok (.ldc 60, 2) := by decide +kernel
theorem dX7_feed_33 : decode cX7_feed 33 = .ok (.invokevirtual 56, 3) := by decide +kernel
theorem dX7_feed_36 : decode cX7_feed 36 = .ok (.ireturn, 1) := by decide +kernel
theorem dX7_feed_37 : decode cX7_feed 37 = .ok (.iconst 0, 1) := by decide +kernel
theorem dX7_feed_38 : decode cX7_feed 38 = .ok (.istore 4, 2) := by decide +kernel
theorem dX7_feed_40 : decode cX7_feed 40 = .ok (.iload 4, 2) := by decide +kernel
theorem dX7_feed_42 : decode cX7_feed 42 = .ok (.iload_n 3, 1) := by decide +kernel
theorem dX7_feed_43 : decode cX7_feed 43 = .ok (.if_icmp .ge 45, 3) := by decide +kernel
theorem dX7_feed_46 : decode cX7_feed 46 = .ok (.aload_n 0, 1) := by decide +kernel
theorem dX7_feed_47 : decode cX7_feed 47 = .ok (.getfield 9, 3) := by decide +kernel
theorem dX7_feed_50 : decode cX7_feed 50 = .ok (.bipush 49, 2) := by decide +kernel
theorem dX7_feed_52 : decode cX7_feed 52 = .ok (.aload_n 0, 1) := by decide +kernel
theorem dX7_feed_53 : decode cX7_feed 53 = .ok (.getfield 9, 3) := by decide +kernel
theorem dX7_feed_56 : decode cX7_feed 56 = .ok (.iconst 5, 1) := by decide +kernel
theorem dX7_feed_57 : decode cX7_feed 57 = .ok (.iaload, 1) := by decide +kernel
theorem dX7_feed_58 : decode cX7_feed 58 = .ok (.iadd, 1) := by decide +kernel
theorem dX7_feed_59 : decode cX7_feed 59 = .ok (.lload_n 1, 1) := by decide +kernel
theorem dX7_feed_60 : decode cX7_feed 60 = .ok (.bipush 8, 2) := by decide +kernel
theorem dX7_feed_62 : decode cX7_feed 62 = .ok (.iload 4, 2) := by decide +kernel
theorem dX7_feed_64 : decode cX7_feed 64 = .ok (.imul, 1) := by decide +kernel
theorem dX7_feed_65 : decode cX7_feed 65 = .ok (.lshr, 1) := by decide +kernel
theorem dX7_feed_66 : decode cX7_feed 66 = .ok (.ldc2_w 119, 3) := by decide +kernel
theorem dX7_feed_69 : decode cX7_feed 69 = .ok (.land, 1) := by decide +kernel
theorem dX7_feed_70 : decode cX7_feed 70 = .ok (.l2i, 1) := by decide +kernel
theorem dX7_feed_71 : decode cX7_feed 71 = .ok (.iastore, 1) := by decide +kernel
theorem dX7_feed_72 : decode cX7_feed 72 = .ok (.aload_n 0, 1) := by decide +kernel
theorem dX7_feed_73 : decode cX7_feed 73 = .ok (.getfield 9, 3) := by decide +kernel
theorem dX7_feed_76 : decode cX7_feed 76 = .ok (.iconst 5, 1) := by decide +kernel
theorem dX7_feed_77 : decode cX7_feed 77 = .ok (.dup2, 1) := by decide +kernel
theorem dX7_feed_78 : decode cX7_feed 78 = .ok (.iaload, 1) := by decide +kernel
theorem dX7_feed_79 : decode cX7_feed 79 = .ok (.iconst 1, 1) := by decide +kernel
theorem dX7_feed_80 : decode cX7_feed 80 = .ok (.iadd, 1) := by decide +kernel
theorem dX7_feed_81 : decode cX7_feed 81 = .ok (.iastore, 1) := by decide +kernel
theorem dX7_feed_82 : decode cX7_feed 82 = .ok (.iinc 4 1, 3) := by decide +kernel
theorem dX7_feed_85 : decode cX7_feed 85 = .ok (.goto (-45), 3) := by decide +kernel
theorem dX7_feed_88 : decode cX7_feed 88 = .ok (.aload_n 0, 1) := by decide +kernel
theorem dX7_feed_89 : decode cX7_feed 89 = .ok (.getfield 9, 3) := by decide +kernel
theorem dX7_feed_92 : decode cX7_feed 92 = .ok (.iconst 5, 1) := by decide +kernel
theorem dX7_feed_93 : decode cX7_feed 93 = .ok (.iaload, 1) := by decide +kernel
theorem dX7_feed_94 : decode cX7_feed 94 = .ok (.ireturn, 1) := by decide +kernel
theorem dX7_look_0 : decode cX7_look 0 = .ok (.aload_n 0, 1) := by decide +kernel
theorem dX7_look_1 : decode cX7_look 1 = .ok (.getfield 121, 3) := by decide +kernel
theorem dX7_look_4 : decode cX7_look 4 = .ok (.aload_n 0, 1) := by decide +kernel
theorem dX7_look_5 : decode cX7_look 5 = .ok (.getfield 9, 3) := by decide +kernel
theorem dX7_look_8 : decode cX7_look 8 = .ok (.iconst 5, 1) := by decide +kernel
theorem dX7_look_9 : decode cX7_look 9 = .ok (.iaload, 1) := by decide +kernel
theorem dX7_look_10 : decode cX7_look 10 = .ok (.if_icmp .ge 18, 3) := by decide +kernel
theorem dX7_look_13 : decode cX7_look 13 = .ok (.aload_n 0, 1) := by decide +kernel
theorem dX7_look_14 : decode cX7_look 14 = .ok (.getfield 9, 3) := by decide +kernel
theorem dX7_look_17 : decode cX7_look 17 = .ok (.bipush 49, 2) := by decide +kernel
theorem dX7_look_19 : decode cX7_look 19 = .ok (.aload_n 0, 1) := by decide +kernel
theorem dX7_look_20 : decode cX7_look 20 = .ok (.getfield 121, 3) := by decide +kernel
theorem dX7_look_23 : decode cX7_look 23 = .ok (.iadd, 1) := by decide +kernel
theorem dX7_look_24 : decode cX7_look 24 = .ok (.iaload, 1) := by decide +kernel
theorem dX7_look_25 : decode cX7_look 25 = .ok (.goto 4, 3) := by decide +kernel
theorem dX7_look_28 : decode cX7_look 28 = .ok (.iconst (-1), 1) := by decide +kernel
theorem dX7_look_29 : decode cX7_look 29 = .ok (.ireturn, 1) := by decide +kernel
theorem dX7_step_0 : decode cX7_step 0 = .ok (.aload_n 0, 1) := by decide +kernel
theorem dX7_step_1 : decode cX7_step 1 = .ok (.getfield 125, 3) := by decide +kernel
theorem dX7_step_4 : decode cX7_step 4 = .ok (.aload_n 0, 1) := by decide +kernel
theorem dX7_step_5 : decode cX7_step 5 = .ok (.getfield 31, 3) := by decide +kernel
theorem dX7_step_8 : decode cX7_step 8 = .ok (.arraylength, 1) := by decide +kernel
theorem dX7_step_9 : decode cX7_step 9 = .ok (.if_icmp .ge 33, 3) := by decide +kernel
theorem dX7_step_12 : decode cX7_step 12 = .ok (.aload_n 0, 1) := by decide +kernel
theorem dX7_step_13 : decode cX7_step 13 = .ok (.getfield 31, 3) := by decide +kernel
theorem dX7_step_16 : decode cX7_step 16 = .ok (.aload_n 0, 1) := by decide +kernel
theorem dX7_step_17 : decode cX7_step 17 = .ok (.getfield 125, 3) := by decide +kernel
theorem dX7_step_20 : decode cX7_step 20 = .ok (.iload_n 1, 1) := by decide +kernel
theorem dX7_step_21 : decode cX7_step 21 = .ok (.iastore, 1) := by decide +kernel
theorem dX7_step_22 : decode cX7_step 22 = .ok (.aload_n 0, 1) := by decide +kernel
theorem dX7_step_23 : decode cX7_step 23 = .ok (.getfield 34, 3) := by decide +kernel
theorem dX7_step_26 : decode cX7_step 26 = .ok (.aload_n 0, 1) := by decide +kernel
theorem dX7_step_27 : decode cX7_step 27 = .ok (.getfield 125, 3) := by decide +kernel
theorem dX7_step_30 : decode cX7_step 30 = .ok (.iload_n 2, 1) := by decide +kernel
theorem dX7_step_31 : decode cX7_step 31 = .ok (.iastore, 1) := by decide +kernel
theorem dX7_step_32 : decode cX7_step 32 = .ok (.aload_n 0, 1) := by decide +kernel
theorem dX7_step_33 : decode cX7_step 33 = .ok (.dup, 1) := by decide +kernel
theorem dX7_step_34 : decode cX7_step 34 = .ok (.getfield 125, 3) := by decide +kernel
theorem dX7_step_37 : decode cX7_step 37 = .ok (.iconst 1, 1) := by decide +kernel
theorem dX7_step_38 : decode cX7_step 38 = .ok (.iadd, 1) := by decide +kernel
theorem dX7_step_39 : decode cX7_step 39 = .ok (.putfield 125, 3) := by decide +kernel
theorem dX7_step_42 : decode cX7_step 42 = .ok (.return_, 1) := by decide +kernel
theorem dX7_nameOf_0 : decode cX7_nameOf 0 = .ok (.iload_n 1, 1) := by decide +kernel
theorem dX7_nameOf_1 : decode cX7_nameOf 1 = .ok (.tableswitch 134 104 116 #[67, 134, 134, 100, 134, 67, 100, 134, 134, 134, 100, 134, 67], 67) := by decide +kernel
theorem dX7_nameOf_68 : decode cX7_nameOf 68 = .ok (.aload_n 0, 1) := by decide +kernel
theorem dX7_nameOf_69 : decode cX7_nameOf 69 = .ok (.getfield 128, 3) := by decide +kernel
theorem dX7_nameOf_72 : decode cX7_nameOf 72 = .ok (.ifCond .eq 7, 3) := by decide +kernel
theorem dX7_nameOf_75 : decode cX7_nameOf 75 = .ok (.iconst (-1), 1) := by decide +kernel
theorem dX7_nameOf_76 : decode cX7_nameOf 76 = .ok (.goto 24, 3) := by decide +kernel
theorem dX7_nameOf_79 : decode cX7_nameOf 79 = .ok (.iload_n 1, 1) := by decide +kernel
theorem dX7_nameOf_80 : decode cX7_nameOf 80 = .ok (.bipush 109, 2) := by decide +kernel
theorem dX7_nameOf_82 : decode cX7_nameOf 82 = .ok (.if_icmp .ne 7, 3) := by decide +kernel
theorem dX7_nameOf_85 : decode cX7_nameOf 85 = .ok (.iconst 0, 1) := by decide +kernel
theorem dX7_nameOf_86 : decode cX7_nameOf 86 = .ok (.goto 14, 3) := by decide +kernel
theorem dX7_nameOf_89 : decode cX7_nameOf 89 = .ok (.iload_n 1, 1) := by decide +kernel
theorem dX7_nameOf_90 : decode cX7_nameOf 90 = .ok (.bipush 116, 2) := by decide +kernel
theorem dX7_nameOf_92 : decode cX7_nameOf 92 = .ok (.if_icmp .ne 7, 3) := by decide +kernel
theorem dX7_nameOf_95 : decode cX7_nameOf 95 = .ok (.iconst 1, 1) := by decide +kernel
theorem dX7_nameOf_96 : decode cX7_nameOf 96 = .ok (.goto 4, 3) := by decide +kernel
theorem dX7_nameOf_99 : decode cX7_nameOf 99 = .ok (.iconst 2, 1) := by decide +kernel
theorem dX7_nameOf_100 : decode cX7_nameOf 100 = .ok (.ireturn, 1) := by decide +kernel
theorem dX7_nameOf_101 : decode cX7_nameOf 101 = .ok (.aload_n 0, 1) := by decide +kernel
theorem dX7_nameOf_102 : decode cX7_nameOf 102 = .ok (.getfield 128, 3) := by decide +kernel
theorem dX7_nameOf_105 : decode cX7_nameOf 105 = .ok (.iconst 1, 1) := by decide +kernel
theorem dX7_nameOf_106 : decode cX7_nameOf 106 = .ok (.if_icmp .eq 7, 3) := by decide +kernel
theorem dX7_nameOf_109 : decode cX7_nameOf 109 = .ok (.iconst (-1), 1) := by decide +kernel
theorem dX7_nameOf_110 : decode cX7_nameOf 110 = .ok (.goto 24, 3) := by decide +kernel
theorem dX7_nameOf_113 : decode cX7_nameOf 113 = .ok (.iload_n 1, 1) := by decide +kernel
theorem dX7_nameOf_114 : decode cX7_nameOf 114 = .ok (.bipush 114, 2) := by decide +kernel
theorem dX7_nameOf_116 : decode cX7_nameOf 116 = .ok (.if_icmp .ne 7, 3) := by decide +kernel
theorem dX7_nameOf_119 : decode cX7_nameOf 119 = .ok (.iconst 0, 1) := by decide +kernel
theorem dX7_nameOf_120 : decode cX7_nameOf 120 = .ok (.goto 14, 3) := by decide +kernel
theorem dX7_nameOf_123 : decode cX7_nameOf 123 = .ok (.iload_n 1, 1) := by decide +kernel
theorem dX7_nameOf_124 : decode cX7_nameOf 124 = .ok (.bipush 107, 2) := by decide +kernel
theorem dX7_nameOf_126 : decode cX7_nameOf 126 = .ok (.if_icmp .ne 7, 3) := by decide +kernel
theorem dX7_nameOf_129 : decode cX7_nameOf 129 = .ok (.iconst 1, 1) := by decide +kernel
theorem dX7_nameOf_130 : decode cX7_nameOf 130 = .ok (.goto 4, 3) := by decide +kernel
theorem dX7_nameOf_133 : decode cX7_nameOf 133 = .ok (.iconst 2, 1) := by decide +kernel
theorem dX7_nameOf_134 : decode cX7_nameOf 134 = .ok (.ireturn, 1) := by decide +kernel
theorem dX7_nameOf_135 : decode cX7_nameOf 135 = .ok (.iconst (-1), 1) := by decide +kernel
theorem dX7_nameOf_136 : decode cX7_nameOf 136 = .ok (.ireturn, 1) := by decide +kernel
theorem dX7_number_0 : decode cX7_number 0 = .ok (.iconst 0, 1) := by decide +kernel
theorem dX7_number_1 : decode cX7_number 1 = .ok (.istore_n 1, 1) := by decide +kernel
theorem dX7_number_2 : decode cX7_number 2 = .ok (.iconst 0, 1) := by decide +kernel
theorem dX7_number_3 : decode cX7_number 3 = .ok (.istore_n 2, 1) := by decide +kernel
theorem dX7_number_4 : decode cX7_number 4 = .ok (.iload_n 2, 1) := by decide +kernel
theorem dX7_number_5 : decode cX7_number 5 = .ok (.iconst 4, 1) := by decide +kernel
theorem dX7_number_6 : decode cX7_number 6 = .ok (.if_icmp .ge 46, 3) := by decide +kernel
theorem dX7_number_9 : decode cX7_number 9 = .ok (.aload_n 0, 1) := by decide +kernel
theorem dX7_number_10 : decode cX7_number 10 = .ok (.invokevirtual 131, 3) := by decide +kernel
theorem dX7_number_13 : decode cX7_number 13 = .ok (.bipush 48, 2) := by decide +kernel
theorem dX7_number_15 : decode cX7_number 15 = .ok (.bipush 57, 2) := by decide +kernel
theorem dX7_number_17 : decode cX7_number 17 = .ok (.invokestatic 47, 3) := by decide +kernel
theorem dX7_number_20 : decode cX7_number 20 = .ok (.ifCond .eq 32, 3) := by decide +kernel
theorem dX7_number_23 : decode cX7_number 23 = .ok (.bipush 10, 2) := by decide +kernel
theorem dX7_number_25 : decode cX7_number 25 = .ok (.iload_n 1, 1) := by decide +kernel
theorem dX7_number_26 : decode cX7_number 26 = .ok (.imul, 1) := by decide +kernel
theorem dX7_number_27 : decode cX7_number 27 = .ok (.aload_n 0, 1) := by decide +kernel
theorem dX7_number_28 : decode cX7_number 28 = .ok (.invokevirtual 131, 3) := by decide +kernel
theorem dX7_number_31 : decode cX7_number 31 = .ok (.iadd, 1) := by decide +kernel
theorem dX7_number_32 : decode cX7_number 32 = .ok (.bipush 48, 2) := by decide +kernel
theorem dX7_number_34 : decode cX7_number 34 = .ok (.isub, 1) := by decide +kernel
theorem dX7_number_35 : decode cX7_number 35 = .ok (.istore_n 1, 1) := by decide +kernel
theorem dX7_number_36 : decode cX7_number 36 = .ok (.aload_n 0, 1) := by decide +kernel
theorem dX7_number_37 : decode cX7_number 37 = .ok (.dup, 1) := by decide +kernel
theorem dX7_number_38 : decode cX7_number 38 = .ok (.getfield 121, 3) := by decide +kernel
theorem dX7_number_41 : decode cX7_number 41 = .ok (.iconst 1, 1) := by decide +kernel
theorem dX7_number_42 : decode cX7_number 42 = .ok (.iadd, 1) := by decide +kernel
theorem dX7_number_43 : decode cX7_number 43 = .ok (.putfield 121, 3) := by decide +kernel
theorem dX7_number_46 : decode cX7_number 46 = .ok (.iinc 2 1, 3) := by decide +kernel
theorem dX7_number_49 : decode cX7_number 49 = .ok (.goto (-45), 3) := by decide +kernel
theorem dX7_number_52 : decode cX7_number 52 = .ok (.aload_n 0, 1) := by decide +kernel
theorem dX7_number_53 : decode cX7_number 53 = .ok (.iload_n 2, 1) := by decide +kernel
theorem dX7_number_54 : decode cX7_number 54 = .ok (.ifCond .ne 7, 3) := by decide +kernel
theorem dX7_number_57 : decode cX7_number 57 = .ok (.iconst 1, 1) := by decide +kernel
theorem dX7_number_58 : decode cX7_number 58 = .ok (.goto 4, 3) := by decide +kernel
theorem dX7_number_61 : decode cX7_number 61 = .ok (.iconst 0, 1) := by decide +kernel
theorem dX7_number_62 : decode cX7_number 62 = .ok (.putfield 135, 3) := by decide +kernel
theorem dX7_number_65 : decode cX7_number 65 = .ok (.aload_n 0, 1) := by decide +kernel
theorem dX7_number_66 : decode cX7_number 66 = .ok (.iconst 1, 1) := by decide +kernel
theorem dX7_number_67 : decode cX7_number 67 = .ok (.iload_n 1, 1) := by decide +kernel
theorem dX7_number_68 : decode cX7_number 68 = .ok (.invokevirtual 139, 3) := by decide +kernel
theorem dX7_number_71 : decode cX7_number 71 = .ok (.return_, 1) := by decide +kernel
theorem dX7_opens_0 : decode cX7_opens 0 = .ok (.aload_n 0, 1) := by decide +kernel
theorem dX7_opens_1 : decode cX7_opens 1 = .ok (.getfield 143, 3) := by decide +kernel
theorem dX7_opens_4 : decode cX7_opens 4 = .ok (.iconst 5, 1) := by decide +kernel
theorem dX7_opens_5 : decode cX7_opens 5 = .ok (.if_icmp .ne 9, 3) := by decide +kernel
theorem dX7_opens_8 : decode cX7_opens 8 = .ok (.aload_n 0, 1) := by decide +kernel
theorem dX7_opens_9 : decode cX7_opens 9 = .ok (.iconst 1, 1) := by decide +kernel
theorem dX7_opens_10 : decode cX7_opens 10 = .ok (.putfield 135, 3) := by decide +kernel
theorem dX7_opens_13 : decode cX7_opens 13 = .ok (.return_, 1) := by decide +kernel
theorem dX7_opens_14 : decode cX7_opens 14 = .ok (.aload_n 0, 1) := by decide +kernel
theorem dX7_opens_15 : decode cX7_opens 15 = .ok (.dup, 1) := by decide +kernel
theorem dX7_opens_16 : decode cX7_opens 16 = .ok (.getfield 143, 3) := by decide +kernel
theorem dX7_opens_19 : decode cX7_opens 19 = .ok (.iconst 1, 1) := by decide +kernel
theorem dX7_opens_20 : decode cX7_opens 20 = .ok (.iadd, 1) := by decide +kernel
theorem dX7_opens_21 : decode cX7_opens 21 = .ok (.putfield 143, 3) := by decide +kernel
theorem dX7_opens_24 : decode cX7_opens 24 = .ok (.aload_n 0, 1) := by decide +kernel
theorem dX7_opens_25 : decode cX7_opens 25 = .ok (.dup, 1) := by decide +kernel
theorem dX7_opens_26 : decode cX7_opens 26 = .ok (.getfield 121, 3) := by decide +kernel
theorem dX7_opens_29 : decode cX7_opens 29 = .ok (.iconst 1, 1) := by decide +kernel
theorem dX7_opens_30 : decode cX7_opens 30 = .ok (.iadd, 1) := by decide +kernel
theorem dX7_opens_31 : decode cX7_opens 31 = .ok (.putfield 121, 3) := by decide +kernel
theorem dX7_opens_34 : decode cX7_opens 34 = .ok (.iload_n 1, 1) := by decide +kernel
theorem dX7_opens_35 : decode cX7_opens 35 = .ok (.bipush 33, 2) := by decide +kernel
theorem dX7_opens_37 : decode cX7_opens 37 = .ok (.if_icmp .ne 16, 3) := by decide +kernel
theorem dX7_opens_40 : decode cX7_opens 40 = .ok (.aload_n 0, 1) := by decide +kernel
theorem dX7_opens_41 : decode cX7_opens 41 = .ok (.invokevirtual 146, 3) := by decide +kernel
theorem dX7_opens_44 : decode cX7_opens 44 = .ok (.aload_n 0, 1) := by decide +kernel
theorem dX7_opens_45 : decode cX7_opens 45 = .ok (.iconst 3, 1) := by decide +kernel
theorem dX7_opens_46 : decode cX7_opens 46 = .ok (.iconst 0, 1) := by decide +kernel
theorem dX7_opens_47 : decode cX7_opens 47 = .ok (.invokevirtual 139, 3) := by decide +kernel
theorem dX7_opens_50 : decode cX7_opens 50 = .ok (.goto 53, 3) := by decide +kernel
theorem dX7_opens_53 : decode cX7_opens 53 = .ok (.aload_n 0, 1) := by decide +kernel
theorem dX7_opens_54 : decode cX7_opens 54 = .ok (.invokevirtual 149, 3) := by decide +kernel
theorem dX7_opens_57 : decode cX7_opens 57 = .ok (.aload_n 0, 1) := by decide +kernel
theorem dX7_opens_58 : decode cX7_opens 58 = .ok (.aload_n 0, 1) := by decide +kernel
theorem dX7_opens_59 : decode cX7_opens 59 = .ok (.getfield 135, 3) := by decide +kernel
theorem dX7_opens_62 : decode cX7_opens 62 = .ok (.ifCond .ne 12, 3) := by decide +kernel
theorem dX7_opens_65 : decode cX7_opens 65 = .ok (.aload_n 0, 1) := by decide +kernel
theorem dX7_opens_66 : decode cX7_opens 66 = .ok (.invokevirtual 131, 3) := by decide +kernel
theorem dX7_opens_69 : decode cX7_opens 69 = .ok (.bipush 41, 2) := by decide +kernel
theorem dX7_opens_71 : decode cX7_opens 71 = .ok (.if_icmp .eq 7, 3) := by decide +kernel
theorem dX7_opens_74 : decode cX7_opens 74 = .ok (.iconst 1, 1) := by decide +kernel
theorem dX7_opens_75 : decode cX7_opens 75 = .ok (.goto 4, 3) := by decide +kernel
theorem dX7_opens_78 : decode cX7_opens 78 = .ok (.iconst 0, 1) := by decide +kernel
theorem dX7_opens_79 : decode cX7_opens 79 = .ok (.putfield 135, 3) := by decide +kernel
theorem dX7_opens_82 : decode cX7_opens 82 = .ok (.aload_n 0, 1) := by decide +kernel
theorem dX7_opens_83 : decode cX7_opens 83 = .ok (.dup, 1) := by decide +kernel
theorem dX7_opens_84 : decode cX7_opens 84 = .ok (.getfield 121, 3) := by decide +kernel
theorem dX7_opens_87 : decode cX7_opens 87 = .ok (.aload_n 0, 1) := by decide +kernel
theorem dX7_opens_88 : decode cX7_opens 88 = .ok (.getfield 135, 3) := by decide +kernel
theorem dX7_opens_91 : decode cX7_opens 91 = .ok (.ifCond .eq 7, 3) := by decide +kernel
theorem dX7_opens_94 : decode cX7_opens 94 = .ok (.iconst 0, 1) := by decide +kernel
theorem dX7_opens_95 : decode cX7_opens 95 = .ok (.goto 4, 3) := by decide +kernel
theorem dX7_opens_98 : decode cX7_opens 98 = .ok (.iconst 1, 1) := by decide +kernel
theorem dX7_opens_99 : decode cX7_opens 99 = .ok (.iadd, 1) := by decide +kernel
theorem dX7_opens_100 : decode cX7_opens 100 = .ok (.putfield 121, 3) := by decide +kernel
theorem dX7_opens_103 : decode cX7_opens 103 = .ok (.aload_n 0, 1) := by decide +kernel
theorem dX7_opens_104 : decode cX7_opens 104 = .ok (.dup, 1) := by decide +kernel
theorem dX7_opens_105 : decode cX7_opens 105 = .ok (.getfield 143, 3) := by decide +kernel
theorem dX7_opens_108 : decode cX7_opens 108 = .ok (.iconst 1, 1) := by decide +kernel
theorem dX7_opens_109 : decode cX7_opens 109 = .ok (.isub, 1) := by decide +kernel
theorem dX7_opens_110 : decode cX7_opens 110 = .ok (.putfield 143, 3) := by decide +kernel
theorem dX7_opens_113 : decode cX7_opens 113 = .ok (.return_, 1) := by decide +kernel
theorem dX7_one_0 : decode cX7_one 0 = .ok (.aload_n 0, 1) := by decide +kernel
theorem dX7_one_1 : decode cX7_one 1 = .ok (.invokevirtual 131, 3) := by decide +kernel
theorem dX7_one_4 : decode cX7_one 4 = .ok (.istore_n 1, 1) := by decide +kernel
theorem dX7_one_5 : decode cX7_one 5 = .ok (.aload_n 0, 1) := by decide +kernel
theorem dX7_one_6 : decode cX7_one 6 = .ok (.iload_n 1, 1) := by decide +kernel
theorem dX7_one_7 : decode cX7_one 7 = .ok (.invokevirtual 152, 3) := by decide +kernel
theorem dX7_one_10 : decode cX7_one 10 = .ok (.istore_n 2, 1) := by decide +kernel
theorem dX7_one_11 : decode cX7_one 11 = .ok (.iload_n 2, 1) := by decide +kernel
theorem dX7_one_12 : decode cX7_one 12 = .ok (.ifCond .lt 22, 3) := by decide +kernel
theorem dX7_one_15 : decode cX7_one 15 = .ok (.aload_n 0, 1) := by decide +kernel
theorem dX7_one_16 : decode cX7_one 16 = .ok (.dup, 1) := by decide +kernel
theorem dX7_one_17 : decode cX7_one 17 = .ok (.getfield 121, 3) := by decide +kernel
theorem dX7_one_20 : decode cX7_one 20 = .ok (.iconst 1, 1) := by decide +kernel
theorem dX7_one_21 : decode cX7_one 21 = .ok (.iadd, 1) := by decide +kernel
theorem dX7_one_22 : decode cX7_one 22 = .ok (.putfield 121, 3) := by decide +kernel
theorem dX7_one_25 : decode cX7_one 25 = .ok (.aload_n 0, 1) := by decide +kernel
theorem dX7_one_26 : decode cX7_one 26 = .ok (.iconst 2, 1) := by decide +kernel
theorem dX7_one_27 : decode cX7_one 27 = .ok (.iload_n 2, 1) := by decide +kernel
theorem dX7_one_28 : decode cX7_one 28 = .ok (.invokevirtual 139, 3) := by decide +kernel
theorem dX7_one_31 : decode cX7_one 31 = .ok (.goto 27, 3) := by decide +kernel
theorem dX7_one_34 : decode cX7_one 34 = .ok (.iload_n 1, 1) := by decide +kernel
theorem dX7_one_35 : decode cX7_one 35 = .ok (.bipush 33, 2) := by decide +kernel
theorem dX7_one_37 : decode cX7_one 37 = .ok (.if_icmp .eq 9, 3) := by decide +kernel
theorem dX7_one_40 : decode cX7_one 40 = .ok (.iload_n 1, 1) := by decide +kernel
theorem dX7_one_41 : decode cX7_one 41 = .ok (.bipush 40, 2) := by decide +kernel
theorem dX7_one_43 : decode cX7_one 43 = .ok (.if_icmp .ne 11, 3) := by decide +kernel
theorem dX7_one_46 : decode cX7_one 46 = .ok (.aload_n 0, 1) := by decide +kernel
theorem dX7_one_47 : decode cX7_one 47 = .ok (.iload_n 1, 1) := by decide +kernel
theorem dX7_one_48 : decode cX7_one 48 = .ok (.invokevirtual 155, 3) := by decide +kernel
theorem dX7_one_51 : decode cX7_one 51 = .ok (.goto 7, 3) := by decide +kernel
theorem dX7_one_54 : decode cX7_one 54 = .ok (.aload_n 0, 1) := by decide +kernel
theorem dX7_one_55 : decode cX7_one 55 = .ok (.invokevirtual 159, 3) := by decide +kernel
theorem dX7_one_58 : decode cX7_one 58 = .ok (.return_, 1) := by decide +kernel
theorem dX7_times_0 : decode cX7_times 0 = .ok (.aload_n 0, 1) := by decide +kernel
theorem dX7_times_1 : decode cX7_times 1 = .ok (.invokevirtual 146, 3) := by decide +kernel
theorem dX7_times_4 : decode cX7_times 4 = .ok (.aload_n 0, 1) := by decide +kernel
theorem dX7_times_5 : decode cX7_times 5 = .ok (.getfield 135, 3) := by decide +kernel
theorem dX7_times_8 : decode cX7_times 8 = .ok (.ifCond .ne 58, 3) := by decide +kernel
theorem dX7_times_11 : decode cX7_times 11 = .ok (.aload_n 0, 1) := by decide +kernel
theorem dX7_times_12 : decode cX7_times 12 = .ok (.invokevirtual 131, 3) := by decide +kernel
theorem dX7_times_15 : decode cX7_times 15 = .ok (.bipush 42, 2) := by decide +kernel
theorem dX7_times_17 : decode cX7_times 17 = .ok (.if_icmp .eq 21, 3) := by decide +kernel
theorem dX7_times_20 : decode cX7_times 20 = .ok (.aload_n 0, 1) := by decide +kernel
theorem dX7_times_21 : decode cX7_times 21 = .ok (.invokevirtual 131, 3) := by decide +kernel
theorem dX7_times_24 : decode cX7_times 24 = .ok (.bipush 47, 2) := by decide +kernel
theorem dX7_times_26 : decode cX7_times 26 = .ok (.if_icmp .eq 12, 3) := by decide +kernel
theorem dX7_times_29 : decode cX7_times 29 = .ok (.aload_n 0, 1) := by decide +kernel
theorem dX7_times_30 : decode cX7_times 30 = .ok (.invokevirtual 131, 3) := by decide +kernel
theorem dX7_times_33 : decode cX7_times 33 = .ok (.bipush 37, 2) := by decide +kernel
theorem dX7_times_35 : decode cX7_times 35 = .ok (.if_icmp .ne 31, 3) := by decide +kernel
theorem dX7_times_38 : decode cX7_times 38 = .ok (.aload_n 0, 1) := by decide +kernel
theorem dX7_times_39 : decode cX7_times 39 = .ok (.invokevirtual 131, 3) := by decide +kernel
theorem dX7_times_42 : decode cX7_times 42 = .ok (.istore_n 1, 1) := by decide +kernel
theorem dX7_times_43 : decode cX7_times 43 = .ok (.aload_n 0, 1) := by decide +kernel
theorem dX7_times_44 : decode cX7_times 44 = .ok (.dup, 1) := by decide +kernel
theorem dX7_times_45 : decode cX7_times 45 = .ok (.getfield 121, 3) := by decide +kernel
theorem dX7_times_48 : decode cX7_times 48 = .ok (.iconst 1, 1) := by decide +kernel
theorem dX7_times_49 : decode cX7_times 49 = .ok (.iadd, 1) := by decide +kernel
theorem dX7_times_50 : decode cX7_times 50 = .ok (.putfield 121, 3) := by decide +kernel
theorem dX7_times_53 : decode cX7_times 53 = .ok (.aload_n 0, 1) := by decide +kernel
theorem dX7_times_54 : decode cX7_times 54 = .ok (.invokevirtual 146, 3) := by decide +kernel
theorem dX7_times_57 : decode cX7_times 57 = .ok (.aload_n 0, 1) := by decide +kernel
theorem dX7_times_58 : decode cX7_times 58 = .ok (.iload_n 1, 1) := by decide +kernel
theorem dX7_times_59 : decode cX7_times 59 = .ok (.iconst 0, 1) := by decide +kernel
theorem dX7_times_60 : decode cX7_times 60 = .ok (.invokevirtual 139, 3) := by decide +kernel
theorem dX7_times_63 : decode cX7_times 63 = .ok (.goto (-59), 3) := by decide +kernel
theorem dX7_times_66 : decode cX7_times 66 = .ok (.return_, 1) := by decide +kernel
theorem dX7_sum_0 : decode cX7_sum 0 = .ok (.aload_n 0, 1) := by decide +kernel
theorem dX7_sum_1 : decode cX7_sum 1 = .ok (.invokevirtual 162, 3) := by decide +kernel
theorem dX7_sum_4 : decode cX7_sum 4 = .ok (.aload_n 0, 1) := by decide +kernel
theorem dX7_sum_5 : decode cX7_sum 5 = .ok (.getfield 135, 3) := by decide +kernel
theorem dX7_sum_8 : decode cX7_sum 8 = .ok (.ifCond .ne 49, 3) := by decide +kernel
theorem dX7_sum_11 : decode cX7_sum 11 = .ok (.aload_n 0, 1) := by decide +kernel
theorem dX7_sum_12 : decode cX7_sum 12 = .ok (.invokevirtual 131, 3) := by decide +kernel
theorem dX7_sum_15 : decode cX7_sum 15 = .ok (.bipush 43, 2) := by decide +kernel
theorem dX7_sum_17 : decode cX7_sum 17 = .ok (.if_icmp .eq 12, 3) := by decide +kernel
theorem dX7_sum_20 : decode cX7_sum 20 = .ok (.aload_n 0, 1) := by decide +kernel
theorem dX7_sum_21 : decode cX7_sum 21 = .ok (.invokevirtual 131, 3) := by decide +kernel
theorem dX7_sum_24 : decode cX7_sum 24 = .ok (.bipush 45, 2) := by decide +kernel
theorem dX7_sum_26 : decode cX7_sum 26 = .ok (.if_icmp .ne 31, 3) := by decide +kernel
theorem dX7_sum_29 : decode cX7_sum 29 = .ok (.aload_n 0, 1) := by decide +kernel
theorem dX7_sum_30 : decode cX7_sum 30 = .ok (.invokevirtual 131, 3) := by decide +kernel
theorem dX7_sum_33 : decode cX7_sum 33 = .ok (.istore_n 1, 1) := by decide +kernel
theorem dX7_sum_34 : decode cX7_sum 34 = .ok (.aload_n 0, 1) := by decide +kernel
theorem dX7_sum_35 : decode cX7_sum 35 = .ok (.dup, 1) := by decide +kernel
theorem dX7_sum_36 : decode cX7_sum 36 = .ok (.getfield 121, 3) := by decide +kernel
theorem dX7_sum_39 : decode cX7_sum 39 = .ok (.iconst 1, 1) := by decide +kernel
theorem dX7_sum_40 : decode cX7_sum 40 = .ok (.iadd, 1) := by decide +kernel
theorem dX7_sum_41 : decode cX7_sum 41 = .ok (.putfield 121, 3) := by decide +kernel
theorem dX7_sum_44 : decode cX7_sum 44 = .ok (.aload_n 0, 1) := by decide +kernel
theorem dX7_sum_45 : decode cX7_sum 45 = .ok (.invokevirtual 162, 3) := by decide +kernel
theorem dX7_sum_48 : decode cX7_sum 48 = .ok (.aload_n 0, 1) := by decide +kernel
theorem dX7_sum_49 : decode cX7_sum 49 = .ok (.iload_n 1, 1) := by decide +kernel
theorem dX7_sum_50 : decode cX7_sum 50 = .ok (.iconst 0, 1) := by decide +kernel
theorem dX7_sum_51 : decode cX7_sum 51 = .ok (.invokevirtual 139, 3) := by decide +kernel
theorem dX7_sum_54 : decode cX7_sum 54 = .ok (.goto (-50), 3) := by decide +kernel
theorem dX7_sum_57 : decode cX7_sum 57 = .ok (.return_, 1) := by decide +kernel
theorem dX7_compares_0 : decode cX7_compares 0 = .ok (.aload_n 0, 1) := by decide +kernel
theorem dX7_compares_1 : decode cX7_compares 1 = .ok (.invokevirtual 165, 3) := by decide +kernel
theorem dX7_compares_4 : decode cX7_compares 4 = .ok (.aload_n 0, 1) := by decide +kernel
theorem dX7_compares_5 : decode cX7_compares 5 = .ok (.invokevirtual 131, 3) := by decide +kernel
theorem dX7_compares_8 : decode cX7_compares 8 = .ok (.istore_n 1, 1) := by decide +kernel
theorem dX7_compares_9 : decode cX7_compares 9 = .ok (.aload_n 0, 1) := by decide +kernel
theorem dX7_compares_10 : decode cX7_compares 10 = .ok (.getfield 135, 3) := by decide +kernel
theorem dX7_compares_13 : decode cX7_compares 13 = .ok (.ifCond .ne 41, 3) := by decide +kernel
theorem dX7_compares_16 : decode cX7_compares 16 = .ok (.iload_n 1, 1) := by decide +kernel
theorem dX7_compares_17 : decode cX7_compares 17 = .ok (.bipush 60, 2) := by decide +kernel
theorem dX7_compares_19 : decode cX7_compares 19 = .ok (.if_icmp .eq 15, 3) := by decide +kernel
theorem dX7_compares_22 : decode cX7_compares 22 = .ok (.iload_n 1, 1) := by decide +kernel
theorem dX7_compares_23 : decode cX7_compares 23 = .ok (.bipush 61, 2) := by decide +kernel
theorem dX7_compares_25 : decode cX7_compares 25 = .ok (.if_icmp .eq 9, 3) := by decide +kernel
theorem dX7_compares_28 : decode cX7_compares 28 = .ok (.iload_n 1, 1) := by decide +kernel
theorem dX7_compares_29 : decode cX7_compares 29 = .ok (.bipush 62, 2) := by decide +kernel
theorem dX7_compares_31 : decode cX7_compares 31 = .ok (.if_icmp .ne 23, 3) := by decide +kernel
theorem dX7_compares_34 : decode cX7_compares 34 = .ok (.aload_n 0, 1) := by decide +kernel
theorem dX7_compares_35 : decode cX7_compares 35 = .ok (.dup, 1) := by decide +kernel
theorem dX7_compares_36 : decode cX7_compares 36 = .ok (.getfield 121, 3) := by decide +kernel
theorem dX7_compares_39 : decode cX7_compares 39 = .ok (.iconst 1, 1) := by decide +kernel
theorem dX7_compares_40 : decode cX7_compares 40 = .ok (.iadd, 1) := by decide +kernel
theorem dX7_compares_41 : decode cX7_compares 41 = .ok (.putfield 121, 3) := by decide +kernel
theorem dX7_compares_44 : decode cX7_compares 44 = .ok (.aload_n 0, 1) := by decide +kernel
theorem dX7_compares_45 : decode cX7_compares 45 = .ok (.invokevirtual 165, 3) := by decide +kernel
theorem dX7_compares_48 : decode cX7_compares 48 = .ok (.aload_n 0, 1) := by decide +kernel
theorem dX7_compares_49 : decode cX7_compares 49 = .ok (.iload_n 1, 1) := by decide +kernel
theorem dX7_compares_50 : decode cX7_compares 50 = .ok (.iconst 0, 1) := by decide +kernel
theorem dX7_compares_51 : decode cX7_compares 51 = .ok (.invokevirtual 139, 3) := by decide +kernel
theorem dX7_compares_54 : decode cX7_compares 54 = .ok (.return_, 1) := by decide +kernel
theorem dX7_all_0 : decode cX7_all 0 = .ok (.aload_n 0, 1) := by decide +kernel
theorem dX7_all_1 : decode cX7_all 1 = .ok (.invokevirtual 168, 3) := by decide +kernel
theorem dX7_all_4 : decode cX7_all 4 = .ok (.aload_n 0, 1) := by decide +kernel
theorem dX7_all_5 : decode cX7_all 5 = .ok (.getfield 135, 3) := by decide +kernel
theorem dX7_all_8 : decode cX7_all 8 = .ok (.ifCond .ne 36, 3) := by decide +kernel
theorem dX7_all_11 : decode cX7_all 11 = .ok (.aload_n 0, 1) := by decide +kernel
theorem dX7_all_12 : decode cX7_all 12 = .ok (.invokevirtual 131, 3) := by decide +kernel
theorem dX7_all_15 : decode cX7_all 15 = .ok (.bipush 38, 2) := by decide +kernel
theorem dX7_all_17 : decode cX7_all 17 = .ok (.if_icmp .ne 27, 3) := by decide +kernel
theorem dX7_all_20 : decode cX7_all 20 = .ok (.aload_n 0, 1) := by decide +kernel
theorem dX7_all_21 : decode cX7_all 21 = .ok (.dup, 1) := by decide +kernel
theorem dX7_all_22 : decode cX7_all 22 = .ok (.getfield 121, 3) := by decide +kernel
theorem dX7_all_25 : decode cX7_all 25 = .ok (.iconst 1, 1) := by decide +kernel
theorem dX7_all_26 : decode cX7_all 26 = .ok (.iadd, 1) := by decide +kernel
theorem dX7_all_27 : decode cX7_all 27 = .ok (.putfield 121, 3) := by decide +kernel
theorem dX7_all_30 : decode cX7_all 30 = .ok (.aload_n 0, 1) := by decide +kernel
theorem dX7_all_31 : decode cX7_all 31 = .ok (.invokevirtual 168, 3) := by decide +kernel
theorem dX7_all_34 : decode cX7_all 34 = .ok (.aload_n 0, 1) := by decide +kernel
theorem dX7_all_35 : decode cX7_all 35 = .ok (.bipush 38, 2) := by decide +kernel
theorem dX7_all_37 : decode cX7_all 37 = .ok (.iconst 0, 1) := by decide +kernel
theorem dX7_all_38 : decode cX7_all 38 = .ok (.invokevirtual 139, 3) := by decide +kernel
theorem dX7_all_41 : decode cX7_all 41 = .ok (.goto (-37), 3) := by decide +kernel
theorem dX7_all_44 : decode cX7_all 44 = .ok (.return_, 1) := by decide +kernel
theorem dX7_any_0 : decode cX7_any 0 = .ok (.aload_n 0, 1) := by decide +kernel
theorem dX7_any_1 : decode cX7_any 1 = .ok (.invokevirtual 171, 3) := by decide +kernel
theorem dX7_any_4 : decode cX7_any 4 = .ok (.aload_n 0, 1) := by decide +kernel
theorem dX7_any_5 : decode cX7_any 5 = .ok (.getfield 135, 3) := by decide +kernel
theorem dX7_any_8 : decode cX7_any 8 = .ok (.ifCond .ne 36, 3) := by decide +kernel
theorem dX7_any_11 : decode cX7_any 11 = .ok (.aload_n 0, 1) := by decide +kernel
theorem dX7_any_12 : decode cX7_any 12 = .ok (.invokevirtual 131, 3) := by decide +kernel
theorem dX7_any_15 : decode cX7_any 15 = .ok (.bipush 124, 2) := by decide +kernel
theorem dX7_any_17 : decode cX7_any 17 = .ok (.if_icmp .ne 27, 3) := by decide +kernel
theorem dX7_any_20 : decode cX7_any 20 = .ok (.aload_n 0, 1) := by decide +kernel
theorem dX7_any_21 : decode cX7_any 21 = .ok (.dup, 1) := by decide +kernel
theorem dX7_any_22 : decode cX7_any 22 = .ok (.getfield 121, 3) := by decide +kernel
theorem dX7_any_25 : decode cX7_any 25 = .ok (.iconst 1, 1) := by decide +kernel
theorem dX7_any_26 : decode cX7_any 26 = .ok (.iadd, 1) := by decide +kernel
theorem dX7_any_27 : decode cX7_any 27 = .ok (.putfield 121, 3) := by decide +kernel
theorem dX7_any_30 : decode cX7_any 30 = .ok (.aload_n 0, 1) := by decide +kernel
theorem dX7_any_31 : decode cX7_any 31 = .ok (.invokevirtual 171, 3) := by decide +kernel
theorem dX7_any_34 : decode cX7_any 34 = .ok (.aload_n 0, 1) := by decide +kernel
theorem dX7_any_35 : decode cX7_any 35 = .ok (.bipush 124, 2) := by decide +kernel
theorem dX7_any_37 : decode cX7_any 37 = .ok (.iconst 0, 1) := by decide +kernel
theorem dX7_any_38 : decode cX7_any 38 = .ok (.invokevirtual 139, 3) := by decide +kernel
theorem dX7_any_41 : decode cX7_any 41 = .ok (.goto (-37), 3) := by decide +kernel
theorem dX7_any_44 : decode cX7_any 44 = .ok (.return_, 1) := by decide +kernel
theorem dX7_text_0 : decode cX7_text 0 = .ok (.iload_n 1, 1) := by decide +kernel
theorem dX7_text_1 : decode cX7_text 1 = .ok (.iconst 0, 1) := by decide +kernel
theorem dX7_text_2 : decode cX7_text 2 = .ok (.iconst 1, 1) := by decide +kernel
theorem dX7_text_3 : decode cX7_text 3 = .ok (.invokestatic 47, 3) := by decide +kernel
theorem dX7_text_6 : decode cX7_text 6 = .ok (.ifCond .ne 10, 3) := by decide +kernel
theorem dX7_text_9 : decode cX7_text 9 = .ok (.aload_n 0, 1) := by decide +kernel
theorem dX7_text_10 : decode cX7_text 10 = .ok (.ldc 55, 2) := by decide +kernel
theorem dX7_text_12 : decode cX7_text 12 = .ok (.invokevirtual 56, 3) := by decide +kernel
theorem dX7_text_15 : decode cX7_text 15 = .ok (.ireturn, 1) := by decide +kernel
theorem dX7_text_16 : decode cX7_text 16 = .ok (.aload_n 0, 1) := by decide +kernel
theorem dX7_text_17 : decode cX7_text 17 = .ok (.iload_n 1, 1) := by decide +kernel
theorem dX7_text_18 : decode cX7_text 18 = .ok (.putfield 128, 3) := by decide +kernel
theorem dX7_text_21 : decode cX7_text 21 = .ok (.aload_n 0, 1) := by decide +kernel
theorem dX7_text_22 : decode cX7_text 22 = .ok (.iconst 0, 1) := by decide +kernel
theorem dX7_text_23 : decode cX7_text 23 = .ok (.putfield 125, 3) := by decide +kernel
theorem dX7_text_26 : decode cX7_text 26 = .ok (.aload_n 0, 1) := by decide +kernel
theorem dX7_text_27 : decode cX7_text 27 = .ok (.iconst 0, 1) := by decide +kernel
theorem dX7_text_28 : decode cX7_text 28 = .ok (.putfield 121, 3) := by decide +kernel
theorem dX7_text_31 : decode cX7_text 31 = .ok (.aload_n 0, 1) := by decide +kernel
theorem dX7_text_32 : decode cX7_text 32 = .ok (.iconst 0, 1) := by decide +kernel
theorem dX7_text_33 : decode cX7_text 33 = .ok (.putfield 143, 3) := by decide +kernel
theorem dX7_text_36 : decode cX7_text 36 = .ok (.aload_n 0, 1) := by decide +kernel
theorem dX7_text_37 : decode cX7_text 37 = .ok (.iconst 0, 1) := by decide +kernel
theorem dX7_text_38 : decode cX7_text 38 = .ok (.putfield 135, 3) := by decide +kernel
theorem dX7_text_41 : decode cX7_text 41 = .ok (.aload_n 0, 1) := by decide +kernel
theorem dX7_text_42 : decode cX7_text 42 = .ok (.invokevirtual 149, 3) := by decide +kernel
theorem dX7_text_45 : decode cX7_text 45 = .ok (.aload_n 0, 1) := by decide +kernel
theorem dX7_text_46 : decode cX7_text 46 = .ok (.aload_n 0, 1) := by decide +kernel
theorem dX7_text_47 : decode cX7_text 47 = .ok (.getfield 135, 3) := by decide +kernel
theorem dX7_text_50 : decode cX7_text 50 = .ok (.ifCond .ne 16, 3) := by decide +kernel
theorem dX7_text_53 : decode cX7_text 53 = .ok (.aload_n 0, 1) := by decide +kernel
theorem dX7_text_54 : decode cX7_text 54 = .ok (.getfield 121, 3) := by decide +kernel
theorem dX7_text_57 : decode cX7_text 57 = .ok (.aload_n 0, 1) := by decide +kernel
theorem dX7_text_58 : decode cX7_text 58 = .ok (.getfield 9, 3) := by decide +kernel
theorem dX7_text_61 : decode cX7_text 61 = .ok (.iconst 5, 1) := by decide +kernel
theorem dX7_text_62 : decode cX7_text 62 = .ok (.iaload, 1) := by decide +kernel
theorem dX7_text_63 : decode cX7_text 63 = .ok (.if_icmp .ge 7, 3) := by decide +kernel
theorem dX7_text_66 : decode cX7_text 66 = .ok (.iconst 1, 1) := by decide +kernel
theorem dX7_text_67 : decode cX7_text 67 = .ok (.goto 4, 3) := by decide +kernel
theorem dX7_text_70 : decode cX7_text 70 = .ok (.iconst 0, 1) := by decide +kernel
theorem dX7_text_71 : decode cX7_text 71 = .ok (.putfield 135, 3) := by decide +kernel
theorem dX7_text_74 : decode cX7_text 74 = .ok (.aload_n 0, 1) := by decide +kernel
theorem dX7_text_75 : decode cX7_text 75 = .ok (.getfield 9, 3) := by decide +kernel
theorem dX7_text_78 : decode cX7_text 78 = .ok (.iconst 5, 1) := by decide +kernel
theorem dX7_text_79 : decode cX7_text 79 = .ok (.iconst 0, 1) := by decide +kernel
theorem dX7_text_80 : decode cX7_text 80 = .ok (.iastore, 1) := by decide +kernel
theorem dX7_text_81 : decode cX7_text 81 = .ok (.aload_n 0, 1) := by decide +kernel
theorem dX7_text_82 : decode cX7_text 82 = .ok (.getfield 135, 3) := by decide +kernel
theorem dX7_text_85 : decode cX7_text 85 = .ok (.ifCond .eq 11, 3) := by decide +kernel
theorem dX7_text_88 : decode cX7_text 88 = .ok (.bipush (-10), 2) := by decide +kernel
theorem dX7_text_90 : decode cX7_text 90 = .ok (.aload_n 0, 1) := by decide +kernel
theorem dX7_text_91 : decode cX7_text 91 = .ok (.getfield 121, 3) := by decide +kernel
theorem dX7_text_94 : decode cX7_text 94 = .ok (.isub, 1) := by decide +kernel
theorem dX7_text_95 : decode cX7_text 95 = .ok (.ireturn, 1) := by decide +kernel
theorem dX7_text_96 : decode cX7_text 96 = .ok (.sipush 133, 3) := by decide +kernel
theorem dX7_text_99 : decode cX7_text 99 = .ok (.bipush 121, 2) := by decide +kernel
theorem dX7_text_101 : decode cX7_text 101 = .ok (.iload_n 1, 1) := by decide +kernel
theorem dX7_text_102 : decode cX7_text 102 = .ok (.imul, 1) := by decide +kernel
theorem dX7_text_103 : decode cX7_text 103 = .ok (.iadd, 1) := by decide +kernel
theorem dX7_text_104 : decode cX7_text 104 = .ok (.istore_n 2, 1) := by decide +kernel
theorem dX7_text_105 : decode cX7_text 105 = .ok (.aload_n 0, 1) := by decide +kernel
theorem dX7_text_106 : decode cX7_text 106 = .ok (.getfield 9, 3) := by decide +kernel
theorem dX7_text_109 : decode cX7_text 109 = .ok (.iload_n 2, 1) := by decide +kernel
theorem dX7_text_110 : decode cX7_text 110 = .ok (.aload_n 0, 1) := by decide +kernel
theorem dX7_text_111 : decode cX7_text 111 = .ok (.getfield 125, 3) := by decide +kernel
theorem dX7_text_114 : decode cX7_text 114 = .ok (.iastore, 1) := by decide +kernel
theorem dX7_text_115 : decode cX7_text 115 = .ok (.iconst 0, 1) := by decide +kernel
theorem dX7_text_116 : decode cX7_text 116 = .ok (.istore_n 3, 1) := by decide +kernel
theorem dX7_text_117 : decode cX7_text 117 = .ok (.iload_n 3, 1) := by decide +kernel
theorem dX7_text_118 : decode cX7_text 118 = .ok (.aload_n 0, 1) := by decide +kernel
theorem dX7_text_119 : decode cX7_text 119 = .ok (.getfield 125, 3) := by decide +kernel
theorem dX7_text_122 : decode cX7_text 122 = .ok (.if_icmp .ge 42, 3) := by decide +kernel
theorem dX7_text_125 : decode cX7_text 125 = .ok (.aload_n 0, 1) := by decide +kernel
theorem dX7_text_126 : decode cX7_text 126 = .ok (.getfield 9, 3) := by decide +kernel
theorem dX7_text_129 : decode cX7_text 129 = .ok (.iload_n 2, 1) := by decide +kernel
theorem dX7_text_130 : decode cX7_text 130 = .ok (.iconst 1, 1) := by decide +kernel
theorem dX7_text_131 : decode cX7_text 131 = .ok (.iadd, 1) := by decide +kernel
theorem dX7_text_132 : decode cX7_text 132 = .ok (.iload_n 3, 1) := by decide +kernel
theorem dX7_text_133 : decode cX7_text 133 = .ok (.iadd, 1) := by decide +kernel
theorem dX7_text_134 : decode cX7_text 134 = .ok (.aload_n 0, 1) := by decide +kernel
theorem dX7_text_135 : decode cX7_text 135 = .ok (.getfield 31, 3) := by decide +kernel
theorem dX7_text_138 : decode cX7_text 138 = .ok (.iload_n 3, 1) := by decide +kernel
theorem dX7_text_139 : decode cX7_text 139 = .ok (.iaload, 1) := by decide +kernel
theorem dX7_text_140 : decode cX7_text 140 = .ok (.iastore, 1) := by decide +kernel
theorem dX7_text_141 : decode cX7_text 141 = .ok (.aload_n 0, 1) := by decide +kernel
theorem dX7_text_142 : decode cX7_text 142 = .ok (.getfield 9, 3) := by decide +kernel
theorem dX7_text_145 : decode cX7_text 145 = .ok (.iload_n 2, 1) := by decide +kernel
theorem dX7_text_146 : decode cX7_text 146 = .ok (.bipush 61, 2) := by decide +kernel
theorem dX7_text_148 : decode cX7_text 148 = .ok (.iadd, 1) := by decide +kernel
theorem dX7_text_149 : decode cX7_text 149 = .ok (.iload_n 3, 1) := by decide +kernel
theorem dX7_text_150 : decode cX7_text 150 = .ok (.iadd, 1) := by decide +kernel
theorem dX7_text_151 : decode cX7_text 151 = .ok (.aload_n 0, 1) := by decide +kernel
theorem dX7_text_152 : decode cX7_text 152 = .ok (.getfield 34, 3) := by decide +kernel
theorem dX7_text_155 : decode cX7_text 155 = .ok (.iload_n 3, 1) := by decide +kernel
theorem dX7_text_156 : decode cX7_text 156 = .ok (.iaload, 1) := by decide +kernel
theorem dX7_text_157 : decode cX7_text 157 = .ok (.iastore, 1) := by decide +kernel
theorem dX7_text_158 : decode cX7_text 158 = .ok (.iinc 3 1, 3) := by decide +kernel
theorem dX7_text_161 : decode cX7_text 161 = .ok (.goto (-44), 3) := by decide +kernel
theorem dX7_text_164 : decode cX7_text 164 = .ok (.iconst 1, 1) := by decide +kernel
theorem dX7_text_165 : decode cX7_text 165 = .ok (.ireturn, 1) := by decide +kernel
theorem dX7_untell_0 : decode cX7_untell 0 = .ok (.iload_n 1, 1) := by decide +kernel
theorem dX7_untell_1 : decode cX7_untell 1 = .ok (.iconst 0, 1) := by decide +kernel
theorem dX7_untell_2 : decode cX7_untell 2 = .ok (.iconst 1, 1) := by decide +kernel
theorem dX7_untell_3 : decode cX7_untell 3 = .ok (.invokestatic 47, 3) := by decide +kernel
theorem dX7_untell_6 : decode cX7_untell 6 = .ok (.ifCond .ne 10, 3) := by decide +kernel
theorem dX7_untell_9 : decode cX7_untell 9 = .ok (.aload_n 0, 1) := by decide +kernel
theorem dX7_untell_10 : decode cX7_untell 10 = .ok (.ldc 55, 2) := by decide +kernel
theorem dX7_untell_12 : decode cX7_untell 12 = .ok (.invokevirtual 56, 3) := by decide +kernel
theorem dX7_untell_15 : decode cX7_untell 15 = .ok (.ireturn, 1) := by decide +kernel
theorem dX7_untell_16 : decode cX7_untell 16 = .ok (.aload_n 0, 1) := by decide +kernel
theorem dX7_untell_17 : decode cX7_untell 17 = .ok (.sipush 133, 3) := by decide +kernel
theorem dX7_untell_20 : decode cX7_untell 20 = .ok (.bipush 121, 2) := by decide +kernel
theorem dX7_untell_22 : decode cX7_untell 22 = .ok (.iload_n 1, 1) := by decide +kernel
theorem dX7_untell_23 : decode cX7_untell 23 = .ok (.imul, 1) := by decide +kernel
theorem dX7_untell_24 : decode cX7_untell 24 = .ok (.iadd, 1) := by decide +kernel
theorem dX7_untell_25 : decode cX7_untell 25 = .ok (.iconst 0, 1) := by decide +kernel
theorem dX7_untell_26 : decode cX7_untell 26 = .ok (.invokevirtual 110, 3) := by decide +kernel
theorem dX7_untell_29 : decode cX7_untell 29 = .ok (.ifCond .le 7, 3) := by decide +kernel
theorem dX7_untell_32 : decode cX7_untell 32 = .ok (.iconst 1, 1) := by decide +kernel
theorem dX7_untell_33 : decode cX7_untell 33 = .ok (.goto 4, 3) := by decide +kernel
theorem dX7_untell_36 : decode cX7_untell 36 = .ok (.iconst 0, 1) := by decide +kernel
theorem dX7_untell_37 : decode cX7_untell 37 = .ok (.ireturn, 1) := by decide +kernel
theorem dX7_twoOf_0 : decode cX7_twoOf 0 = .ok (.iload_n 0, 1) := by decide +kernel
theorem dX7_twoOf_1 : decode cX7_twoOf 1 = .ok (.tableswitch 202 37 62 #[143, 188, 202, 202, 202, 127, 119, 202, 123, 202, 131, 202, 202, 202, 202, 202, 202, 202, 202, 202, 202, 202, 202, 155, 166, 177], 119) := by decide +kernel
theorem dX7_twoOf_120 : decode cX7_twoOf 120 = .ok (.iload_n 1, 1) := by decide +kernel
theorem dX7_twoOf_121 : decode cX7_twoOf 121 = .ok (.iload_n 2, 1) := by decide +kernel
theorem dX7_twoOf_122 : decode cX7_twoOf 122 = .ok (.iadd, 1) := by decide +kernel
theorem dX7_twoOf_123 : decode cX7_twoOf 123 = .ok (.ireturn, 1) := by decide +kernel
theorem dX7_twoOf_124 : decode cX7_twoOf 124 = .ok (.iload_n 1, 1) := by decide +kernel
theorem dX7_twoOf_125 : decode cX7_twoOf 125 = .ok (.iload_n 2, 1) := by decide +kernel
theorem dX7_twoOf_126 : decode cX7_twoOf 126 = .ok (.isub, 1) := by decide +kernel
theorem dX7_twoOf_127 : decode cX7_twoOf 127 = .ok (.ireturn, 1) := by decide +kernel
theorem dX7_twoOf_128 : decode cX7_twoOf 128 = .ok (.iload_n 1, 1) := by decide +kernel
theorem dX7_twoOf_129 : decode cX7_twoOf 129 = .ok (.iload_n 2, 1) := by decide +kernel
theorem dX7_twoOf_130 : decode cX7_twoOf 130 = .ok (.imul, 1) := by decide +kernel
theorem dX7_twoOf_131 : decode cX7_twoOf 131 = .ok (.ireturn, 1) := by decide +kernel
theorem dX7_twoOf_132 : decode cX7_twoOf 132 = .ok (.iload_n 2, 1) := by decide +kernel
theorem dX7_twoOf_133 : decode cX7_twoOf 133 = .ok (.ifCond .ne 7, 3) := by decide +kernel
theorem dX7_twoOf_136 : decode cX7_twoOf 136 = .ok (.iconst 0, 1) := by decide +kernel
theorem dX7_twoOf_137 : decode cX7_twoOf 137 = .ok (.goto 6, 3) := by decide +kernel
theorem dX7_twoOf_140 : decode cX7_twoOf 140 = .ok (.iload_n 1, 1) := by decide +kernel
theorem dX7_twoOf_141 : decode cX7_twoOf 141 = .ok (.iload_n 2, 1) := by decide +kernel
theorem dX7_twoOf_142 : decode cX7_twoOf 142 = .ok (.idiv, 1) := by decide +kernel
theorem dX7_twoOf_143 : decode cX7_twoOf 143 = .ok (.ireturn, 1) := by decide +kernel
theorem dX7_twoOf_144 : decode cX7_twoOf 144 = .ok (.iload_n 2, 1) := by decide +kernel
theorem dX7_twoOf_145 : decode cX7_twoOf 145 = .ok (.ifCond .ne 7, 3) := by decide +kernel
theorem dX7_twoOf_148 : decode cX7_twoOf 148 = .ok (.iconst 0, 1) := by decide +kernel
theorem dX7_twoOf_149 : decode cX7_twoOf 149 = .ok (.goto 6, 3) := by decide +kernel
theorem dX7_twoOf_152 : decode cX7_twoOf 152 = .ok (.iload_n 1, 1) := by decide +kernel
theorem dX7_twoOf_153 : decode cX7_twoOf 153 = .ok (.iload_n 2, 1) := by decide +kernel
theorem dX7_twoOf_154 : decode cX7_twoOf 154 = .ok (.irem, 1) := by decide +kernel
theorem dX7_twoOf_155 : decode cX7_twoOf 155 = .ok (.ireturn, 1) := by decide +kernel
theorem dX7_twoOf_156 : decode cX7_twoOf 156 = .ok (.iload_n 1, 1) := by decide +kernel
theorem dX7_twoOf_157 : decode cX7_twoOf 157 = .ok (.iload_n 2, 1) := by decide +kernel
theorem dX7_twoOf_158 : decode cX7_twoOf 158 = .ok (.if_icmp .ge 7, 3) := by decide +kernel
theorem dX7_twoOf_161 : decode cX7_twoOf 161 = .ok (.iconst 1, 1) := by decide +kernel
theorem dX7_twoOf_162 : decode cX7_twoOf 162 = .ok (.goto 4, 3) := by decide +kernel
theorem dX7_twoOf_165 : decode cX7_twoOf 165 = .ok (.iconst 0, 1) := by decide +kernel
theorem dX7_twoOf_166 : decode cX7_twoOf 166 = .ok (.ireturn, 1) := by decide +kernel
theorem dX7_twoOf_167 : decode cX7_twoOf 167 = .ok (.iload_n 1, 1) := by decide +kernel
theorem dX7_twoOf_168 : decode cX7_twoOf 168 = .ok (.iload_n 2, 1) := by decide +kernel
theorem dX7_twoOf_169 : decode cX7_twoOf 169 = .ok (.if_icmp .ne 7, 3) := by decide +kernel
theorem dX7_twoOf_172 : decode cX7_twoOf 172 = .ok (.iconst 1, 1) := by decide +kernel
theorem dX7_twoOf_173 : decode cX7_twoOf 173 = .ok (.goto 4, 3) := by decide +kernel
theorem dX7_twoOf_176 : decode cX7_twoOf 176 = .ok (.iconst 0, 1) := by decide +kernel
theorem dX7_twoOf_177 : decode cX7_twoOf 177 = .ok (.ireturn, 1) := by decide +kernel
theorem dX7_twoOf_178 : decode cX7_twoOf 178 = .ok (.iload_n 1, 1) := by decide +kernel
theorem dX7_twoOf_179 : decode cX7_twoOf 179 = .ok (.iload_n 2, 1) := by decide +kernel
theorem dX7_twoOf_180 : decode cX7_twoOf 180 = .ok (.if_icmp .le 7, 3) := by decide +kernel
theorem dX7_twoOf_183 : decode cX7_twoOf 183 = .ok (.iconst 1, 1) := by decide +kernel
theorem dX7_twoOf_184 : decode cX7_twoOf 184 = .ok (.goto 4, 3) := by decide +kernel
theorem dX7_twoOf_187 : decode cX7_twoOf 187 = .ok (.iconst 0, 1) := by decide +kernel
theorem dX7_twoOf_188 : decode cX7_twoOf 188 = .ok (.ireturn, 1) := by decide +kernel
theorem dX7_twoOf_189 : decode cX7_twoOf 189 = .ok (.iload_n 1, 1) := by decide +kernel
theorem dX7_twoOf_190 : decode cX7_twoOf 190 = .ok (.ifCond .eq 11, 3) := by decide +kernel
theorem dX7_twoOf_193 : decode cX7_twoOf 193 = .ok (.iload_n 2, 1) := by decide +kernel
theorem dX7_twoOf_194 : decode cX7_twoOf 194 = .ok (.ifCond .eq 7, 3) := by decide +kernel
theorem dX7_twoOf_197 : decode cX7_twoOf 197 = .ok (.iconst 1, 1) := by decide +kernel
theorem dX7_twoOf_198 : decode cX7_twoOf 198 = .ok (.goto 4, 3) := by decide +kernel
theorem dX7_twoOf_201 : decode cX7_twoOf 201 = .ok (.iconst 0, 1) := by decide +kernel
theorem dX7_twoOf_202 : decode cX7_twoOf 202 = .ok (.ireturn, 1) := by decide +kernel
theorem dX7_twoOf_203 : decode cX7_twoOf 203 = .ok (.iload_n 1, 1) := by decide +kernel
theorem dX7_twoOf_204 : decode cX7_twoOf 204 = .ok (.ifCond .ne 7, 3) := by decide +kernel
theorem dX7_twoOf_207 : decode cX7_twoOf 207 = .ok (.iload_n 2, 1) := by decide +kernel
theorem dX7_twoOf_208 : decode cX7_twoOf 208 = .ok (.ifCond .eq 7, 3) := by decide +kernel
theorem dX7_twoOf_211 : decode cX7_twoOf 211 = .ok (.iconst 1, 1) := by decide +kernel
theorem dX7_twoOf_212 : decode cX7_twoOf 212 = .ok (.goto 4, 3) := by decide +kernel
theorem dX7_twoOf_215 : decode cX7_twoOf 215 = .ok (.iconst 0, 1) := by decide +kernel
theorem dX7_twoOf_216 : decode cX7_twoOf 216 = .ok (.ireturn, 1) := by decide +kernel
theorem dX7_works_0 : decode cX7_works 0 = .ok (.iconst 0, 1) := by decide +kernel
theorem dX7_works_1 : decode cX7_works 1 = .ok (.istore_n 2, 1) := by decide +kernel
theorem dX7_works_2 : decode cX7_works 2 = .ok (.iconst 0, 1) := by decide +kernel
theorem dX7_works_3 : decode cX7_works 3 = .ok (.istore_n 3, 1) := by decide +kernel
theorem dX7_works_4 : decode cX7_works 4 = .ok (.iload_n 3, 1) := by decide +kernel
theorem dX7_works_5 : decode cX7_works 5 = .ok (.aload_n 0, 1) := by decide +kernel
theorem dX7_works_6 : decode cX7_works 6 = .ok (.getfield 9, 3) := by decide +kernel
theorem dX7_works_9 : decode cX7_works 9 = .ok (.iload_n 1, 1) := by decide +kernel
theorem dX7_works_10 : decode cX7_works 10 = .ok (.iaload, 1) := by decide +kernel
theorem dX7_works_11 : decode cX7_works 11 = .ok (.if_icmp .ge 144, 3) := by decide +kernel
theorem dX7_works_14 : decode cX7_works 14 = .ok (.aload_n 0, 1) := by decide +kernel
theorem dX7_works_15 : decode cX7_works 15 = .ok (.getfield 9, 3) := by decide +kernel
theorem dX7_works_18 : decode cX7_works 18 = .ok (.iload_n 1, 1) := by decide +kernel
theorem dX7_works_19 : decode cX7_works 19 = .ok (.iconst 1, 1) := by decide +kernel
theorem dX7_works_20 : decode cX7_works 20 = .ok (.iadd, 1) := by decide +kernel
theorem dX7_works_21 : decode cX7_works 21 = .ok (.iload_n 3, 1) := by decide +kernel
theorem dX7_works_22 : decode cX7_works 22 = .ok (.iadd, 1) := by decide +kernel
theorem dX7_works_23 : decode cX7_works 23 = .ok (.iaload, 1) := by decide +kernel
theorem dX7_works_24 : decode cX7_works 24 = .ok (.istore 4, 2) := by decide +kernel
theorem dX7_works_26 : decode cX7_works 26 = .ok (.iload 4, 2) := by decide +kernel
theorem dX7_works_28 : decode cX7_works 28 = .ok (.iconst 1, 1) := by decide +kernel
theorem dX7_works_29 : decode cX7_works 29 = .ok (.if_icmp .eq 9, 3) := by decide +kernel
theorem dX7_works_32 : decode cX7_works 32 = .ok (.iload 4, 2) := by decide +kernel
theorem dX7_works_34 : decode cX7_works 34 = .ok (.iconst 2, 1) := by decide +kernel
theorem dX7_works_35 : decode cX7_works 35 = .ok (.if_icmp .ne 51, 3) := by decide +kernel
theorem dX7_works_38 : decode cX7_works 38 = .ok (.aload_n 0, 1) := by decide +kernel
theorem dX7_works_39 : decode cX7_works 39 = .ok (.getfield 40, 3) := by decide +kernel
theorem dX7_works_42 : decode cX7_works 42 = .ok (.iload_n 2, 1) := by decide +kernel
theorem dX7_works_43 : decode cX7_works 43 = .ok (.iload 4, 2) := by decide +kernel
theorem dX7_works_45 : decode cX7_works 45 = .ok (.iconst 1, 1) := by decide +kernel
theorem dX7_works_46 : decode cX7_works 46 = .ok (.if_icmp .ne 17, 3) := by decide +kernel
theorem dX7_works_49 : decode cX7_works 49 = .ok (.aload_n 0, 1) := by decide +kernel
theorem dX7_works_50 : decode cX7_works 50 = .ok (.getfield 9, 3) := by decide +kernel
theorem dX7_works_53 : decode cX7_works 53 = .ok (.iload_n 1, 1) := by decide +kernel
theorem dX7_works_54 : decode cX7_works 54 = .ok (.bipush 61, 2) := by decide +kernel
theorem dX7_works_56 : decode cX7_works 56 = .ok (.iadd, 1) := by decide +kernel
theorem dX7_works_57 : decode cX7_works 57 = .ok (.iload_n 3, 1) := by decide +kernel
theorem dX7_works_58 : decode cX7_works 58 = .ok (.iadd, 1) := by decide +kernel
theorem dX7_works_59 : decode cX7_works 59 = .ok (.iaload, 1) := by decide +kernel
theorem dX7_works_60 : decode cX7_works 60 = .ok (.goto 19, 3) := by decide +kernel
theorem dX7_works_63 : decode cX7_works 63 = .ok (.aload_n 0, 1) := by decide +kernel
theorem dX7_works_64 : decode cX7_works 64 = .ok (.getfield 37, 3) := by decide +kernel
theorem dX7_works_67 : decode cX7_works 67 = .ok (.aload_n 0, 1) := by decide +kernel
theorem dX7_works_68 : decode cX7_works 68 = .ok (.getfield 9, 3) := by decide +kernel
theorem dX7_works_71 : decode cX7_works 71 = .ok (.iload_n 1, 1) := by decide +kernel
theorem dX7_works_72 : decode cX7_works 72 = .ok (.bipush 61, 2) := by decide +kernel
theorem dX7_works_74 : decode cX7_works 74 = .ok (.iadd, 1) := by decide +kernel
theorem dX7_works_75 : decode cX7_works 75 = .ok (.iload_n 3, 1) := by decide +kernel
theorem dX7_works_76 : decode cX7_works 76 = .ok (.iadd, 1) := by decide +kernel
theorem dX7_works_77 : decode cX7_works 77 = .ok (.iaload, 1) := by decide +kernel
theorem dX7_works_78 : decode cX7_works 78 = .ok (.iaload, 1) := by decide +kernel
theorem dX7_works_79 : decode cX7_works 79 = .ok (.iastore, 1) := by decide +kernel
theorem dX7_works_80 : decode cX7_works 80 = .ok (.iinc 2 1, 3) := by decide +kernel
theorem dX7_works_83 : decode cX7_works 83 = .ok (.goto 66, 3) := by decide +kernel
theorem dX7_works_86 : decode cX7_works 86 = .ok (.iload 4, 2) := by decide +kernel
theorem dX7_works_88 : decode cX7_works 88 = .ok (.iconst 3, 1) := by decide +kernel
theorem dX7_works_89 : decode cX7_works 89 = .ok (.if_icmp .ne 30, 3) := by decide +kernel
theorem dX7_works_92 : decode cX7_works 92 = .ok (.aload_n 0, 1) := by decide +kernel
theorem dX7_works_93 : decode cX7_works 93 = .ok (.getfield 40, 3) := by decide +kernel
theorem dX7_works_96 : decode cX7_works 96 = .ok (.iload_n 2, 1) := by decide +kernel
theorem dX7_works_97 : decode cX7_works 97 = .ok (.iconst 1, 1) := by decide +kernel
theorem dX7_works_98 : decode cX7_works 98 = .ok (.isub, 1) := by decide +kernel
theorem dX7_works_99 : decode cX7_works 99 = .ok (.aload_n 0, 1) := by decide +kernel
theorem dX7_works_100 : decode cX7_works 100 = .ok (.getfield 40, 3) := by decide +kernel
theorem dX7_works_103 : decode cX7_works 103 = .ok (.iload_n 2, 1) := by decide +kernel
theorem dX7_works_104 : decode cX7_works 104 = .ok (.iconst 1, 1) := by decide +kernel
theorem dX7_works_105 : decode cX7_works 105 = .ok (.isub, 1) := by decide +kernel
theorem dX7_works_106 : decode cX7_works 106 = .ok (.iaload, 1) := by decide +kernel
theorem dX7_works_107 : decode cX7_works 107 = .ok (.ifCond .ne 7, 3) := by decide +kernel
theorem dX7_works_110 : decode cX7_works 110 = .ok (.iconst 1, 1) := by decide +kernel
theorem dX7_works_111 : decode cX7_works 111 = .ok (.goto 4, 3) := by decide +kernel
theorem dX7_works_114 : decode cX7_works 114 = .ok (.iconst 0, 1) := by decide +kernel
theorem dX7_works_115 : decode cX7_works 115 = .ok (.iastore, 1) := by decide +kernel
theorem dX7_works_116 : decode cX7_works 116 = .ok (.goto 33, 3) := by decide +kernel
theorem dX7_works_119 : decode cX7_works 119 = .ok (.iinc 2 (-1), 3) := by decide +kernel
theorem dX7_works_122 : decode cX7_works 122 = .ok (.aload_n 0, 1) := by decide +kernel
theorem dX7_works_123 : decode cX7_works 123 = .ok (.getfield 40, 3) := by decide +kernel
theorem dX7_works_126 : decode cX7_works 126 = .ok (.iload_n 2, 1) := by decide +kernel
theorem dX7_works_127 : decode cX7_works 127 = .ok (.iconst 1, 1) := by decide +kernel
theorem dX7_works_128 : decode cX7_works 128 = .ok (.isub, 1) := by decide +kernel
theorem dX7_works_129 : decode cX7_works 129 = .ok (.iload 4, 2) := by decide +kernel
theorem dX7_works_131 : decode cX7_works 131 = .ok (.aload_n 0, 1) := by decide +kernel
theorem dX7_works_132 : decode cX7_works 132 = .ok (.getfield 40, 3) := by decide +kernel
theorem dX7_works_135 : decode cX7_works 135 = .ok (.iload_n 2, 1) := by decide +kernel
theorem dX7_works_136 : decode cX7_works 136 = .ok (.iconst 1, 1) := by decide +kernel
theorem dX7_works_137 : decode cX7_works 137 = .ok (.isub, 1) := by decide +kernel
theorem dX7_works_138 : decode cX7_works 138 = .ok (.iaload, 1) := by decide +kernel
theorem dX7_works_139 : decode cX7_works 139 = .ok (.aload_n 0, 1) := by decide +kernel
theorem dX7_works_140 : decode cX7_works 140 = .ok (.getfield 40, 3) := by decide +kernel
theorem dX7_works_143 : decode cX7_works 143 = .ok (.iload_n 2, 1) := by decide +kernel
theorem dX7_works_144 : decode cX7_works 144 = .ok (.iaload, 1) := by decide +kernel
theorem dX7_works_145 : decode cX7_works 145 = .ok (.invokestatic 174, 3) := by decide +kernel
theorem dX7_works_148 : decode cX7_works 148 = .ok (.iastore, 1) := by decide +kernel
theorem dX7_works_149 : decode cX7_works 149 = .ok (.iinc 3 1, 3) := by decide +kernel
theorem dX7_works_152 : decode cX7_works 152 = .ok (.goto (-148), 3) := by decide +kernel
theorem dX7_works_155 : decode cX7_works 155 = .ok (.aload_n 0, 1) := by decide +kernel
theorem dX7_works_156 : decode cX7_works 156 = .ok (.getfield 40, 3) := by decide +kernel
theorem dX7_works_159 : decode cX7_works 159 = .ok (.iconst 0, 1) := by decide +kernel
theorem dX7_works_160 : decode cX7_works 160 = .ok (.iaload, 1) := by decide +kernel
theorem dX7_works_161 : decode cX7_works 161 = .ok (.ireturn, 1) := by decide +kernel
theorem dX7_gives_0 : decode cX7_gives 0 = .ok (.sipush 133, 3) := by decide +kernel
theorem dX7_gives_3 : decode cX7_gives 3 = .ok (.bipush 121, 2) := by decide +kernel
theorem dX7_gives_5 : decode cX7_gives 5 = .ok (.iload_n 1, 1) := by decide +kernel
theorem dX7_gives_6 : decode cX7_gives 6 = .ok (.imul, 1) := by decide +kernel
theorem dX7_gives_7 : decode cX7_gives 7 = .ok (.iadd, 1) := by decide +kernel
theorem dX7_gives_8 : decode cX7_gives 8 = .ok (.istore 5, 2) := by decide +kernel
theorem dX7_gives_10 : decode cX7_gives 10 = .ok (.aload_n 0, 1) := by decide +kernel
theorem dX7_gives_11 : decode cX7_gives 11 = .ok (.getfield 37, 3) := by decide +kernel
theorem dX7_gives_14 : decode cX7_gives 14 = .ok (.iconst 0, 1) := by decide +kernel
theorem dX7_gives_15 : decode cX7_gives 15 = .ok (.iload_n 2, 1) := by decide +kernel
theorem dX7_gives_16 : decode cX7_gives 16 = .ok (.iastore, 1) := by decide +kernel
theorem dX7_gives_17 : decode cX7_gives 17 = .ok (.aload_n 0, 1) := by decide +kernel
theorem dX7_gives_18 : decode cX7_gives 18 = .ok (.getfield 37, 3) := by decide +kernel
theorem dX7_gives_21 : decode cX7_gives 21 = .ok (.iconst 1, 1) := by decide +kernel
theorem dX7_gives_22 : decode cX7_gives 22 = .ok (.iload_n 3, 1) := by decide +kernel
theorem dX7_gives_23 : decode cX7_gives 23 = .ok (.iastore, 1) := by decide +kernel
theorem dX7_gives_24 : decode cX7_gives 24 = .ok (.aload_n 0, 1) := by decide +kernel
theorem dX7_gives_25 : decode cX7_gives 25 = .ok (.getfield 37, 3) := by decide +kernel
theorem dX7_gives_28 : decode cX7_gives 28 = .ok (.iconst 2, 1) := by decide +kernel
theorem dX7_gives_29 : decode cX7_gives 29 = .ok (.iload 4, 2) := by decide +kernel
theorem dX7_gives_31 : decode cX7_gives 31 = .ok (.iastore, 1) := by decide +kernel
theorem dX7_gives_32 : decode cX7_gives 32 = .ok (.aload_n 0, 1) := by decide +kernel
theorem dX7_gives_33 : decode cX7_gives 33 = .ok (.getfield 9, 3) := by decide +kernel
theorem dX7_gives_36 : decode cX7_gives 36 = .ok (.iload 5, 2) := by decide +kernel
theorem dX7_gives_38 : decode cX7_gives 38 = .ok (.iaload, 1) := by decide +kernel
theorem dX7_gives_39 : decode cX7_gives 39 = .ok (.ifCond .le 12, 3) := by decide +kernel
theorem dX7_gives_42 : decode cX7_gives 42 = .ok (.aload_n 0, 1) := by decide +kernel
theorem dX7_gives_43 : decode cX7_gives 43 = .ok (.iload 5, 2) := by decide +kernel
theorem dX7_gives_45 : decode cX7_gives 45 = .ok (.invokevirtual 177, 3) := by decide +kernel
theorem dX7_gives_48 : decode cX7_gives 48 = .ok (.goto 19, 3) := by decide +kernel
theorem dX7_gives_51 : decode cX7_gives 51 = .ok (.iload_n 1, 1) := by decide +kernel
theorem dX7_gives_52 : decode cX7_gives 52 = .ok (.ifCond .ne 9, 3) := by decide +kernel
theorem dX7_gives_55 : decode cX7_gives 55 = .ok (.iload_n 2, 1) := by decide +kernel
theorem dX7_gives_56 : decode cX7_gives 56 = .ok (.iconst 3, 1) := by decide +kernel
theorem dX7_gives_57 : decode cX7_gives 57 = .ok (.idiv, 1) := by decide +kernel
theorem dX7_gives_58 : decode cX7_gives 58 = .ok (.goto 9, 3) := by decide +kernel
theorem dX7_gives_61 : decode cX7_gives 61 = .ok (.bipush 10, 2) := by decide +kernel
theorem dX7_gives_63 : decode cX7_gives 63 = .ok (.iload_n 2, 1) := by decide +kernel
theorem dX7_gives_64 : decode cX7_gives 64 = .ok (.imul, 1) := by decide +kernel
theorem dX7_gives_65 : decode cX7_gives 65 = .ok (.iload_n 3, 1) := by decide +kernel
theorem dX7_gives_66 : decode cX7_gives 66 = .ok (.isub, 1) := by decide +kernel
theorem dX7_gives_67 : decode cX7_gives 67 = .ok (.istore 6, 2) := by decide +kernel
theorem dX7_gives_69 : decode cX7_gives 69 = .ok (.iload_n 1, 1) := by decide +kernel
theorem dX7_gives_70 : decode cX7_gives 70 = .ok (.ifCond .ne 14, 3) := by decide +kernel
theorem dX7_gives_73 : decode cX7_gives 73 = .ok (.iload 6, 2) := by decide +kernel
theorem dX7_gives_75 : decode cX7_gives 75 = .ok (.iconst 0, 1) := by decide +kernel
theorem dX7_gives_76 : decode cX7_gives 76 = .ok (.bipush 30, 2) := by decide +kernel
theorem dX7_gives_78 : decode cX7_gives 78 = .ok (.invokestatic 180, 3) := by decide +kernel
theorem dX7_gives_81 : decode cX7_gives 81 = .ok (.goto 14, 3) := by decide +kernel
theorem dX7_gives_84 : decode cX7_gives 84 = .ok (.iload 6, 2) := by decide +kernel
theorem dX7_gives_86 : decode cX7_gives 86 = .ok (.sipush (-999), 3) := by decide +kernel
theorem dX7_gives_89 : decode cX7_gives 89 = .ok (.sipush 999, 3) := by decide +kernel
theorem dX7_gives_92 : decode cX7_gives 92 = .ok (.invokestatic 180, 3) := by decide +kernel
theorem dX7_gives_95 : decode cX7_gives 95 = .ok (.ireturn, 1) := by decide +kernel
theorem dX7_law_0 : decode cX7_law 0 = .ok (.iload_n 1, 1) := by decide +kernel
theorem dX7_law_1 : decode cX7_law 1 = .ok (.iconst 0, 1) := by decide +kernel
theorem dX7_law_2 : decode cX7_law 2 = .ok (.iconst 1, 1) := by decide +kernel
theorem dX7_law_3 : decode cX7_law 3 = .ok (.invokestatic 47, 3) := by decide +kernel
theorem dX7_law_6 : decode cX7_law 6 = .ok (.ifCond .eq 15, 3) := by decide +kernel
theorem dX7_law_9 : decode cX7_law 9 = .ok (.aload_n 0, 1) := by decide +kernel
theorem dX7_law_10 : decode cX7_law 10 = .ok (.iload_n 1, 1) := by decide +kernel
theorem dX7_law_11 : decode cX7_law 11 = .ok (.iload_n 2, 1) := by decide +kernel
theorem dX7_law_12 : decode cX7_law 12 = .ok (.iload_n 3, 1) := by decide +kernel
theorem dX7_law_13 : decode cX7_law 13 = .ok (.iload 4, 2) := by decide +kernel
theorem dX7_law_15 : decode cX7_law 15 = .ok (.invokevirtual 68, 3) := by decide +kernel
theorem dX7_law_18 : decode cX7_law 18 = .ok (.goto 9, 3) := by decide +kernel
theorem dX7_law_21 : decode cX7_law 21 = .ok (.aload_n 0, 1) := by decide +kernel
theorem dX7_law_22 : decode cX7_law 22 = .ok (.ldc 55, 2) := by decide +kernel
theorem dX7_law_24 : decode cX7_law 24 = .ok (.invokevirtual 56, 3) := by decide +kernel
theorem dX7_law_27 : decode cX7_law 27 = .ok (.ireturn, 1) := by decide +kernel
theorem dX7_minutes_0 : decode cX7_minutes 0 = .ok (.iload_n 1, 1) := by decide +kernel
theorem dX7_minutes_1 : decode cX7_minutes 1 = .ok (.iconst 1, 1) := by decide +kernel
theorem dX7_minutes_2 : decode cX7_minutes 2 = .ok (.sipush 720, 3) := by decide +kernel
theorem dX7_minutes_5 : decode cX7_minutes 5 = .ok (.invokestatic 47, 3) := by decide +kernel
theorem dX7_minutes_8 : decode cX7_minutes 8 = .ok (.ifCond .ne 10, 3) := by decide +kernel
theorem dX7_minutes_11 : decode cX7_minutes 11 = .ok (.aload_n 0, 1) := by decide +kernel
theorem dX7_minutes_12 : decode cX7_minutes 12 = .ok (.ldc 55, 2) := by decide +kernel
theorem dX7_minutes_14 : decode cX7_minutes 14 = .ok (.invokevirtual 56, 3) := by decide +kernel
theorem dX7_minutes_17 : decode cX7_minutes 17 = .ok (.ireturn, 1) := by decide +kernel
theorem dX7_minutes_18 : decode cX7_minutes 18 = .ok (.aload_n 0, 1) := by decide +kernel
theorem dX7_minutes_19 : decode cX7_minutes 19 = .ok (.getfield 9, 3) := by decide +kernel
theorem dX7_minutes_22 : decode cX7_minutes 22 = .ok (.iconst 0, 1) := by decide +kernel
theorem dX7_minutes_23 : decode cX7_minutes 23 = .ok (.iaload, 1) := by decide +kernel
theorem dX7_minutes_24 : decode cX7_minutes 24 = .ok (.iload_n 1, 1) := by decide +kernel
theorem dX7_minutes_25 : decode cX7_minutes 25 = .ok (.iadd, 1) := by decide +kernel
theorem dX7_minutes_26 : decode cX7_minutes 26 = .ok (.sipush 9999, 3) := by decide +kernel
theorem dX7_minutes_29 : decode cX7_minutes 29 = .ok (.if_icmp .le 10, 3) := by decide +kernel
theorem dX7_minutes_32 : decode cX7_minutes 32 = .ok (.aload_n 0, 1) := by decide +kernel
theorem dX7_minutes_33 : decode cX7_minutes 33 = .ok (.ldc 118, 2) := by decide +kernel
theorem dX7_minutes_35 : decode cX7_minutes 35 = .ok (.invokevirtual 56, 3) := by decide +kernel
theorem dX7_minutes_38 : decode cX7_minutes 38 = .ok (.ireturn, 1) := by decide +kernel
theorem dX7_minutes_39 : decode cX7_minutes 39 = .ok (.aload_n 0, 1) := by decide +kernel
theorem dX7_minutes_40 : decode cX7_minutes 40 = .ok (.getfield 9, 3) := by decide +kernel
theorem dX7_minutes_43 : decode cX7_minutes 43 = .ok (.iconst 0, 1) := by decide +kernel
theorem dX7_minutes_44 : decode cX7_minutes 44 = .ok (.dup2, 1) := by decide +kernel
theorem dX7_minutes_45 : decode cX7_minutes 45 = .ok (.iaload, 1) := by decide +kernel
theorem dX7_minutes_46 : decode cX7_minutes 46 = .ok (.iload_n 1, 1) := by decide +kernel
theorem dX7_minutes_47 : decode cX7_minutes 47 = .ok (.iadd, 1) := by decide +kernel
theorem dX7_minutes_48 : decode cX7_minutes 48 = .ok (.iastore, 1) := by decide +kernel
theorem dX7_minutes_49 : decode cX7_minutes 49 = .ok (.aload_n 0, 1) := by decide +kernel
theorem dX7_minutes_50 : decode cX7_minutes 50 = .ok (.getfield 9, 3) := by decide +kernel
theorem dX7_minutes_53 : decode cX7_minutes 53 = .ok (.iconst 0, 1) := by decide +kernel
theorem dX7_minutes_54 : decode cX7_minutes 54 = .ok (.iaload, 1) := by decide +kernel
theorem dX7_minutes_55 : decode cX7_minutes 55 = .ok (.ireturn, 1) := by decide +kernel
theorem dX7_draw_0 : decode cX7_draw 0 = .ok (.aload_n 0, 1) := by decide +kernel
theorem dX7_draw_1 : decode cX7_draw 1 = .ok (.getfield 9, 3) := by decide +kernel
theorem dX7_draw_4 : decode cX7_draw 4 = .ok (.iconst 1, 1) := by decide +kernel
theorem dX7_draw_5 : decode cX7_draw 5 = .ok (.aload_n 0, 1) := by decide +kernel
theorem dX7_draw_6 : decode cX7_draw 6 = .ok (.getfield 9, 3) := by decide +kernel
theorem dX7_draw_9 : decode cX7_draw 9 = .ok (.iconst 1, 1) := by decide +kernel
theorem dX7_draw_10 : decode cX7_draw 10 = .ok (.iaload, 1) := by decide +kernel
theorem dX7_draw_11 : decode cX7_draw 11 = .ok (.ldc 183, 2) := by decide +kernel
theorem dX7_draw_13 : decode cX7_draw 13 = .ok (.imul, 1) := by decide +kernel
theorem dX7_draw_14 : decode cX7_draw 14 = .ok (.sipush 12345, 3) := by decide +kernel
theorem dX7_draw_17 : decode cX7_draw 17 = .ok (.iadd, 1) := by decide +kernel
theorem dX7_draw_18 : decode cX7_draw 18 = .ok (.iastore, 1) := by decide +kernel
theorem dX7_draw_19 : decode cX7_draw 19 = .ok (.aload_n 0, 1) := by decide +kernel
theorem dX7_draw_20 : decode cX7_draw 20 = .ok (.getfield 9, 3) := by decide +kernel
theorem dX7_draw_23 : decode cX7_draw 23 = .ok (.iconst 1, 1) := by decide +kernel
theorem dX7_draw_24 : decode cX7_draw 24 = .ok (.iaload, 1) := by decide +kernel
theorem dX7_draw_25 : decode cX7_draw 25 = .ok (.bipush 8, 2) := by decide +kernel
theorem dX7_draw_27 : decode cX7_draw 27 = .ok (.iushr, 1) := by decide +kernel
theorem dX7_draw_28 : decode cX7_draw 28 = .ok (.ireturn, 1) := by decide +kernel
theorem dX7_drawn_0 : decode cX7_drawn 0 = .ok (.aload_n 0, 1) := by decide +kernel
theorem dX7_drawn_1 : decode cX7_drawn 1 = .ok (.invokevirtual 184, 3) := by decide +kernel
theorem dX7_drawn_4 : decode cX7_drawn 4 = .ok (.aload_n 0, 1) := by decide +kernel
theorem dX7_drawn_5 : decode cX7_drawn 5 = .ok (.getfield 9, 3) := by decide +kernel
theorem dX7_drawn_8 : decode cX7_drawn 8 = .ok (.iconst 4, 1) := by decide +kernel
theorem dX7_drawn_9 : decode cX7_drawn 9 = .ok (.iaload, 1) := by decide +kernel
theorem dX7_drawn_10 : decode cX7_drawn 10 = .ok (.irem, 1) := by decide +kernel
theorem dX7_drawn_11 : decode cX7_drawn 11 = .ok (.istore_n 1, 1) := by decide +kernel
theorem dX7_drawn_12 : decode cX7_drawn 12 = .ok (.aload_n 0, 1) := by decide +kernel
theorem dX7_drawn_13 : decode cX7_drawn 13 = .ok (.invokevirtual 184, 3) := by decide +kernel
theorem dX7_drawn_16 : decode cX7_drawn 16 = .ok (.aload_n 0, 1) := by decide +kernel
theorem dX7_drawn_17 : decode cX7_drawn 17 = .ok (.getfield 9, 3) := by decide +kernel
theorem dX7_drawn_20 : decode cX7_drawn 20 = .ok (.iconst 3, 1) := by decide +kernel
theorem dX7_drawn_21 : decode cX7_drawn 21 = .ok (.iaload, 1) := by decide +kernel
theorem dX7_drawn_22 : decode cX7_drawn 22 = .ok (.irem, 1) := by decide +kernel
theorem dX7_drawn_23 : decode cX7_drawn 23 = .ok (.istore_n 2, 1) := by decide +kernel
theorem dX7_drawn_24 : decode cX7_drawn 24 = .ok (.aload_n 0, 1) := by decide +kernel
theorem dX7_drawn_25 : decode cX7_drawn 25 = .ok (.iload_n 1, 1) := by decide +kernel
theorem dX7_drawn_26 : decode cX7_drawn 26 = .ok (.iconst 2, 1) := by decide +kernel
theorem dX7_drawn_27 : decode cX7_drawn 27 = .ok (.invokevirtual 72, 3) := by decide +kernel
theorem dX7_drawn_30 : decode cX7_drawn 30 = .ok (.istore_n 3, 1) := by decide +kernel
theorem dX7_drawn_31 : decode cX7_drawn 31 = .ok (.iload_n 2, 1) := by decide +kernel
theorem dX7_drawn_32 : decode cX7_drawn 32 = .ok (.iload_n 3, 1) := by decide +kernel
theorem dX7_drawn_33 : decode cX7_drawn 33 = .ok (.if_icmp .eq 19, 3) := by decide +kernel
theorem dX7_drawn_36 : decode cX7_drawn 36 = .ok (.aload_n 0, 1) := by decide +kernel
theorem dX7_drawn_37 : decode cX7_drawn 37 = .ok (.iload_n 1, 1) := by decide +kernel
theorem dX7_drawn_38 : decode cX7_drawn 38 = .ok (.iload_n 3, 1) := by decide +kernel
theorem dX7_drawn_39 : decode cX7_drawn 39 = .ok (.iload_n 2, 1) := by decide +kernel
theorem dX7_drawn_40 : decode cX7_drawn 40 = .ok (.aload_n 0, 1) := by decide +kernel
theorem dX7_drawn_41 : decode cX7_drawn 41 = .ok (.getfield 9, 3) := by decide +kernel
theorem dX7_drawn_44 : decode cX7_drawn 44 = .ok (.iconst 0, 1) := by decide +kernel
theorem dX7_drawn_45 : decode cX7_drawn 45 = .ok (.iaload, 1) := by decide +kernel
theorem dX7_drawn_46 : decode cX7_drawn 46 = .ok (.invokevirtual 114, 3) := by decide +kernel
theorem dX7_drawn_49 : decode cX7_drawn 49 = .ok (.ifCond .ne 5, 3) := by decide +kernel
theorem dX7_drawn_52 : decode cX7_drawn 52 = .ok (.iconst 0, 1) := by decide +kernel
theorem dX7_drawn_53 : decode cX7_drawn 53 = .ok (.ireturn, 1) := by decide +kernel
theorem dX7_drawn_54 : decode cX7_drawn 54 = .ok (.aload_n 0, 1) := by decide +kernel
theorem dX7_drawn_55 : decode cX7_drawn 55 = .ok (.getfield 9, 3) := by decide +kernel
theorem dX7_drawn_58 : decode cX7_drawn 58 = .ok (.bipush 31, 2) := by decide +kernel
theorem dX7_drawn_60 : decode cX7_drawn 60 = .ok (.iconst 3, 1) := by decide +kernel
theorem dX7_drawn_61 : decode cX7_drawn 61 = .ok (.iload_n 1, 1) := by decide +kernel
theorem dX7_drawn_62 : decode cX7_drawn 62 = .ok (.imul, 1) := by decide +kernel
theorem dX7_drawn_63 : decode cX7_drawn 63 = .ok (.iadd, 1) := by decide +kernel
theorem dX7_drawn_64 : decode cX7_drawn 64 = .ok (.iconst 2, 1) := by decide +kernel
theorem dX7_drawn_65 : decode cX7_drawn 65 = .ok (.iadd, 1) := by decide +kernel
theorem dX7_drawn_66 : decode cX7_drawn 66 = .ok (.iload_n 2, 1) := by decide +kernel
theorem dX7_drawn_67 : decode cX7_drawn 67 = .ok (.iastore, 1) := by decide +kernel
theorem dX7_drawn_68 : decode cX7_drawn 68 = .ok (.iconst 1, 1) := by decide +kernel
theorem dX7_drawn_69 : decode cX7_drawn 69 = .ok (.ireturn, 1) := by decide +kernel
theorem dX7_loose_0 : decode cX7_loose 0 = .ok (.iload_n 1, 1) := by decide +kernel
theorem dX7_loose_1 : decode cX7_loose 1 = .ok (.iconst 1, 1) := by decide +kernel
theorem dX7_loose_2 : decode cX7_loose 2 = .ok (.bipush 40, 2) := by decide +kernel
theorem dX7_loose_4 : decode cX7_loose 4 = .ok (.invokestatic 47, 3) := by decide +kernel
theorem dX7_loose_7 : decode cX7_loose 7 = .ok (.ifCond .ne 10, 3) := by decide +kernel
theorem dX7_loose_10 : decode cX7_loose 10 = .ok (.aload_n 0, 1) := by decide +kernel
theorem dX7_loose_11 : decode cX7_loose 11 = .ok (.ldc 55, 2) := by decide +kernel
theorem dX7_loose_13 : decode cX7_loose 13 = .ok (.invokevirtual 56, 3) := by decide +kernel
theorem dX7_loose_16 : decode cX7_loose 16 = .ok (.ireturn, 1) := by decide +kernel
theorem dX7_loose_17 : decode cX7_loose 17 = .ok (.aload_n 0, 1) := by decide +kernel
theorem dX7_loose_18 : decode cX7_loose 18 = .ok (.getfield 9, 3) := by decide +kernel
theorem dX7_loose_21 : decode cX7_loose 21 = .ok (.iconst 0, 1) := by decide +kernel
theorem dX7_loose_22 : decode cX7_loose 22 = .ok (.iaload, 1) := by decide +kernel
theorem dX7_loose_23 : decode cX7_loose 23 = .ok (.iload_n 1, 1) := by decide +kernel
theorem dX7_loose_24 : decode cX7_loose 24 = .ok (.iadd, 1) := by decide +kernel
theorem dX7_loose_25 : decode cX7_loose 25 = .ok (.sipush 9999, 3) := by decide +kernel
theorem dX7_loose_28 : decode cX7_loose 28 = .ok (.if_icmp .le 10, 3) := by decide +kernel
theorem dX7_loose_31 : decode cX7_loose 31 = .ok (.aload_n 0, 1) := by decide +kernel
theorem dX7_loose_32 : decode cX7_loose 32 = .ok (.ldc 118, 2) := by decide +kernel
theorem dX7_loose_34 : decode cX7_loose 34 = .ok (.invokevirtual 56, 3) := by decide +kernel
theorem dX7_loose_37 : decode cX7_loose 37 = .ok (.ireturn, 1) := by decide +kernel
theorem dX7_loose_38 : decode cX7_loose 38 = .ok (.iconst 0, 1) := by decide +kernel
theorem dX7_loose_39 : decode cX7_loose 39 = .ok (.istore_n 2, 1) := by decide +kernel
theorem dX7_loose_40 : decode cX7_loose 40 = .ok (.iconst 0, 1) := by decide +kernel
theorem dX7_loose_41 : decode cX7_loose 41 = .ok (.istore_n 3, 1) := by decide +kernel
theorem dX7_loose_42 : decode cX7_loose 42 = .ok (.iload_n 3, 1) := by decide +kernel
theorem dX7_loose_43 : decode cX7_loose 43 = .ok (.iload_n 1, 1) := by decide +kernel
theorem dX7_loose_44 : decode cX7_loose 44 = .ok (.if_icmp .ge 39, 3) := by decide +kernel
theorem dX7_loose_47 : decode cX7_loose 47 = .ok (.iload_n 2, 1) := by decide +kernel
theorem dX7_loose_48 : decode cX7_loose 48 = .ok (.aload_n 0, 1) := by decide +kernel
theorem dX7_loose_49 : decode cX7_loose 49 = .ok (.getfield 9, 3) := by decide +kernel
theorem dX7_loose_52 : decode cX7_loose 52 = .ok (.iconst 4, 1) := by decide +kernel
theorem dX7_loose_53 : decode cX7_loose 53 = .ok (.iaload, 1) := by decide +kernel
theorem dX7_loose_54 : decode cX7_loose 54 = .ok (.ifCond .le 10, 3) := by decide +kernel
theorem dX7_loose_57 : decode cX7_loose 57 = .ok (.aload_n 0, 1) := by decide +kernel
theorem dX7_loose_58 : decode cX7_loose 58 = .ok (.invokevirtual 187, 3) := by decide +kernel
theorem dX7_loose_61 : decode cX7_loose 61 = .ok (.goto 4, 3) := by decide +kernel
theorem dX7_loose_64 : decode cX7_loose 64 = .ok (.iconst 0, 1) := by decide +kernel
theorem dX7_loose_65 : decode cX7_loose 65 = .ok (.iadd, 1) := by decide +kernel
theorem dX7_loose_66 : decode cX7_loose 66 = .ok (.istore_n 2, 1) := by decide +kernel
theorem dX7_loose_67 : decode cX7_loose 67 = .ok (.aload_n 0, 1) := by decide +kernel
theorem dX7_loose_68 : decode cX7_loose 68 = .ok (.getfield 9, 3) := by decide +kernel
theorem dX7_loose_71 : decode cX7_loose 71 = .ok (.iconst 0, 1) := by decide +kernel
theorem dX7_loose_72 : decode cX7_loose 72 = .ok (.dup2, 1) := by decide +kernel
theorem dX7_loose_73 : decode cX7_loose 73 = .ok (.iaload, 1) := by decide +kernel
theorem dX7_loose_74 : decode cX7_loose 74 = .ok (.iconst 1, 1) := by decide +kernel
theorem dX7_loose_75 : decode cX7_loose 75 = .ok (.iadd, 1) := by decide +kernel
theorem dX7_loose_76 : decode cX7_loose 76 = .ok (.iastore, 1) := by decide +kernel
theorem dX7_loose_77 : decode cX7_loose 77 = .ok (.iinc 3 1, 3) := by decide +kernel
theorem dX7_loose_80 : decode cX7_loose 80 = .ok (.goto (-38), 3) := by decide +kernel
theorem dX7_loose_83 : decode cX7_loose 83 = .ok (.iload_n 2, 1) := by decide +kernel
theorem dX7_loose_84 : decode cX7_loose 84 = .ok (.ireturn, 1) := by decide +kernel
theorem dX7_seed_0 : decode cX7_seed 0 = .ok (.aload_n 0, 1) := by decide +kernel
theorem dX7_seed_1 : decode cX7_seed 1 = .ok (.iconst 1, 1) := by decide +kernel
theorem dX7_seed_2 : decode cX7_seed 2 = .ok (.iload_n 1, 1) := by decide +kernel
theorem dX7_seed_3 : decode cX7_seed 3 = .ok (.invokevirtual 110, 3) := by decide +kernel
theorem dX7_seed_6 : decode cX7_seed 6 = .ok (.ireturn, 1) := by decide +kernel
theorem dX7_markAt_0 : decode cX7_markAt 0 = .ok (.aload_n 0, 1) := by decide +kernel
theorem dX7_markAt_1 : decode cX7_markAt 1 = .ok (.iload_n 1, 1) := by decide +kernel
theorem dX7_markAt_2 : decode cX7_markAt 2 = .ok (.invokevirtual 61, 3) := by decide +kernel
theorem dX7_markAt_5 : decode cX7_markAt 5 = .ok (.ifCond .eq 30, 3) := by decide +kernel
theorem dX7_markAt_8 : decode cX7_markAt 8 = .ok (.iload_n 2, 1) := by decide +kernel
theorem dX7_markAt_9 : decode cX7_markAt 9 = .ok (.iconst 0, 1) := by decide +kernel
theorem dX7_markAt_10 : decode cX7_markAt 10 = .ok (.sipush 9999, 3) := by decide +kernel
theorem dX7_markAt_13 : decode cX7_markAt 13 = .ok (.invokestatic 47, 3) := by decide +kernel
theorem dX7_markAt_16 : decode cX7_markAt 16 = .ok (.ifCond .eq 19, 3) := by decide +kernel
theorem dX7_markAt_19 : decode cX7_markAt 19 = .ok (.aload_n 0, 1) := by decide +kernel
theorem dX7_markAt_20 : decode cX7_markAt 20 = .ok (.iload_n 1, 1) := by decide +kernel
theorem dX7_markAt_21 : decode cX7_markAt 21 = .ok (.aload_n 0, 1) := by decide +kernel
theorem dX7_markAt_22 : decode cX7_markAt 22 = .ok (.getfield 9, 3) := by decide +kernel
theorem dX7_markAt_25 : decode cX7_markAt 25 = .ok (.iconst 0, 1) := by decide +kernel
theorem dX7_markAt_26 : decode cX7_markAt 26 = .ok (.iaload, 1) := by decide +kernel
theorem dX7_markAt_27 : decode cX7_markAt 27 = .ok (.iload_n 2, 1) := by decide +kernel
theorem dX7_markAt_28 : decode cX7_markAt 28 = .ok (.iadd, 1) := by decide +kernel
theorem dX7_markAt_29 : decode cX7_markAt 29 = .ok (.invokevirtual 51, 3) := by decide +kernel
theorem dX7_markAt_32 : decode cX7_markAt 32 = .ok (.goto 9, 3) := by decide +kernel
theorem dX7_markAt_35 : decode cX7_markAt 35 = .ok (.aload_n 0, 1) := by decide +kernel
theorem dX7_markAt_36 : decode cX7_markAt 36 = .ok (.ldc 55, 2) := by decide +kernel
theorem dX7_markAt_38 : decode cX7_markAt 38 = .ok (.invokevirtual 56, 3) := by decide +kernel
theorem dX7_markAt_41 : decode cX7_markAt 41 = .ok (.ireturn, 1) := by decide +kernel
theorem dX7_meet_0 : decode cX7_meet 0 = .ok (.aload_n 0, 1) := by decide +kernel
theorem dX7_meet_1 : decode cX7_meet 1 = .ok (.iload_n 1, 1) := by decide +kernel
theorem dX7_meet_2 : decode cX7_meet 2 = .ok (.invokevirtual 61, 3) := by decide +kernel
theorem dX7_meet_5 : decode cX7_meet 5 = .ok (.ifCond .eq 16, 3) := by decide +kernel
theorem dX7_meet_8 : decode cX7_meet 8 = .ok (.aload_n 0, 1) := by decide +kernel
theorem dX7_meet_9 : decode cX7_meet 9 = .ok (.iload_n 2, 1) := by decide +kernel
theorem dX7_meet_10 : decode cX7_meet 10 = .ok (.invokevirtual 61, 3) := by decide +kernel
theorem dX7_meet_13 : decode cX7_meet 13 = .ok (.ifCond .eq 8, 3) := by decide +kernel
theorem dX7_meet_16 : decode cX7_meet 16 = .ok (.iload_n 1, 1) := by decide +kernel
theorem dX7_meet_17 : decode cX7_meet 17 = .ok (.iload_n 2, 1) := by decide +kernel
theorem dX7_meet_18 : decode cX7_meet 18 = .ok (.if_icmp .ne 10, 3) := by decide +kernel
theorem dX7_meet_21 : decode cX7_meet 21 = .ok (.aload_n 0, 1) := by decide +kernel
theorem dX7_meet_22 : decode cX7_meet 22 = .ok (.ldc 55, 2) := by decide +kernel
theorem dX7_meet_24 : decode cX7_meet 24 = .ok (.invokevirtual 56, 3) := by decide +kernel
theorem dX7_meet_27 : decode cX7_meet 27 = .ok (.ireturn, 1) := by decide +kernel
theorem dX7_meet_28 : decode cX7_meet 28 = .ok (.iconst 0, 1) := by decide +kernel
theorem dX7_meet_29 : decode cX7_meet 29 = .ok (.istore_n 3, 1) := by decide +kernel
theorem dX7_meet_30 : decode cX7_meet 30 = .ok (.iload_n 3, 1) := by decide +kernel
theorem dX7_meet_31 : decode cX7_meet 31 = .ok (.sipush 1440, 3) := by decide +kernel
theorem dX7_meet_34 : decode cX7_meet 34 = .ok (.if_icmp .gt 26, 3) := by decide +kernel
theorem dX7_meet_37 : decode cX7_meet 37 = .ok (.aload_n 0, 1) := by decide +kernel
theorem dX7_meet_38 : decode cX7_meet 38 = .ok (.iload_n 1, 1) := by decide +kernel
theorem dX7_meet_39 : decode cX7_meet 39 = .ok (.iload_n 2, 1) := by decide +kernel
theorem dX7_meet_40 : decode cX7_meet 40 = .ok (.aload_n 0, 1) := by decide +kernel
theorem dX7_meet_41 : decode cX7_meet 41 = .ok (.getfield 9, 3) := by decide +kernel
theorem dX7_meet_44 : decode cX7_meet 44 = .ok (.iconst 0, 1) := by decide +kernel
theorem dX7_meet_45 : decode cX7_meet 45 = .ok (.iaload, 1) := by decide +kernel
theorem dX7_meet_46 : decode cX7_meet 46 = .ok (.iload_n 3, 1) := by decide +kernel
theorem dX7_meet_47 : decode cX7_meet 47 = .ok (.iadd, 1) := by decide +kernel
theorem dX7_meet_48 : decode cX7_meet 48 = .ok (.invokevirtual 90, 3) := by decide +kernel
theorem dX7_meet_51 : decode cX7_meet 51 = .ok (.ifCond .le 9, 3) := by decide +kernel
theorem dX7_meet_54 : decode cX7_meet 54 = .ok (.iinc 3 1, 3) := by decide +kernel
theorem dX7_meet_57 : decode cX7_meet 57 = .ok (.goto (-27), 3) := by decide +kernel
theorem dX7_meet_60 : decode cX7_meet 60 = .ok (.iload_n 3, 1) := by decide +kernel
theorem dX7_meet_61 : decode cX7_meet 61 = .ok (.sipush 1440, 3) := by decide +kernel
theorem dX7_meet_64 : decode cX7_meet 64 = .ok (.if_icmp .le 12, 3) := by decide +kernel
theorem dX7_meet_67 : decode cX7_meet 67 = .ok (.aload_n 0, 1) := by decide +kernel
theorem dX7_meet_68 : decode cX7_meet 68 = .ok (.ldc 190, 2) := by decide +kernel
theorem dX7_meet_70 : decode cX7_meet 70 = .ok (.invokevirtual 56, 3) := by decide +kernel
theorem dX7_meet_73 : decode cX7_meet 73 = .ok (.goto 4, 3) := by decide +kernel
theorem dX7_meet_76 : decode cX7_meet 76 = .ok (.iload_n 3, 1) := by decide +kernel
theorem dX7_meet_77 : decode cX7_meet 77 = .ok (.ireturn, 1) := by decide +kernel
theorem dX7_doAllMeet_0 : decode cX7_doAllMeet 0 = .ok (.iconst 1, 1) := by decide +kernel
theorem dX7_doAllMeet_1 : decode cX7_doAllMeet 1 = .ok (.istore_n 2, 1) := by decide +kernel
theorem dX7_doAllMeet_2 : decode cX7_doAllMeet 2 = .ok (.iconst 1, 1) := by decide +kernel
theorem dX7_doAllMeet_3 : decode cX7_doAllMeet 3 = .ok (.istore_n 3, 1) := by decide +kernel
theorem dX7_doAllMeet_4 : decode cX7_doAllMeet 4 = .ok (.iload_n 3, 1) := by decide +kernel
theorem dX7_doAllMeet_5 : decode cX7_doAllMeet 5 = .ok (.aload_n 0, 1) := by decide +kernel
theorem dX7_doAllMeet_6 : decode cX7_doAllMeet 6 = .ok (.getfield 9, 3) := by decide +kernel
theorem dX7_doAllMeet_9 : decode cX7_doAllMeet 9 = .ok (.iconst 2, 1) := by decide +kernel
theorem dX7_doAllMeet_10 : decode cX7_doAllMeet 10 = .ok (.iaload, 1) := by decide +kernel
theorem dX7_doAllMeet_11 : decode cX7_doAllMeet 11 = .ok (.if_icmp .ge 29, 3) := by decide +kernel
theorem dX7_doAllMeet_14 : decode cX7_doAllMeet 14 = .ok (.iload_n 2, 1) := by decide +kernel
theorem dX7_doAllMeet_15 : decode cX7_doAllMeet 15 = .ok (.ifCond .eq 25, 3) := by decide +kernel
theorem dX7_doAllMeet_18 : decode cX7_doAllMeet 18 = .ok (.aload_n 0, 1) := by decide +kernel
theorem dX7_doAllMeet_19 : decode cX7_doAllMeet 19 = .ok (.iconst 0, 1) := by decide +kernel
theorem dX7_doAllMeet_20 : decode cX7_doAllMeet 20 = .ok (.iload_n 3, 1) := by decide +kernel
theorem dX7_doAllMeet_21 : decode cX7_doAllMeet 21 = .ok (.iload_n 1, 1) := by decide +kernel
theorem dX7_doAllMeet_22 : decode cX7_doAllMeet 22 = .ok (.invokevirtual 90, 3) := by decide +kernel
theorem dX7_doAllMeet_25 : decode cX7_doAllMeet 25 = .ok (.ifCond .ne 7, 3) := by decide +kernel
theorem dX7_doAllMeet_28 : decode cX7_doAllMeet 28 = .ok (.iconst 1, 1) := by decide +kernel
theorem dX7_doAllMeet_29 : decode cX7_doAllMeet 29 = .ok (.goto 4, 3) := by decide +kernel
theorem dX7_doAllMeet_32 : decode cX7_doAllMeet 32 = .ok (.iconst 0, 1) := by decide +kernel
theorem dX7_doAllMeet_33 : decode cX7_doAllMeet 33 = .ok (.istore_n 2, 1) := by decide +kernel
theorem dX7_doAllMeet_34 : decode cX7_doAllMeet 34 = .ok (.iinc 3 1, 3) := by decide +kernel
theorem dX7_doAllMeet_37 : decode cX7_doAllMeet 37 = .ok (.goto (-33), 3) := by decide +kernel
theorem dX7_doAllMeet_40 : decode cX7_doAllMeet 40 = .ok (.iload_n 2, 1) := by decide +kernel
theorem dX7_doAllMeet_41 : decode cX7_doAllMeet 41 = .ok (.ireturn, 1) := by decide +kernel
theorem dX7_council_0 : decode cX7_council 0 = .ok (.aload_n 0, 1) := by decide +kernel
theorem dX7_council_1 : decode cX7_council 1 = .ok (.getfield 9, 3) := by decide +kernel
theorem dX7_council_4 : decode cX7_council 4 = .ok (.iconst 2, 1) := by decide +kernel
theorem dX7_council_5 : decode cX7_council 5 = .ok (.iaload, 1) := by decide +kernel
theorem dX7_council_6 : decode cX7_council 6 = .ok (.ifCond .ne 10, 3) := by decide +kernel
theorem dX7_council_9 : decode cX7_council 9 = .ok (.aload_n 0, 1) := by decide +kernel
theorem dX7_council_10 : decode cX7_council 10 = .ok (.ldc 118, 2) := by decide +kernel
theorem dX7_council_12 : decode cX7_council 12 = .ok (.invokevirtual 56, 3) := by decide +kernel
theorem dX7_council_15 : decode cX7_council 15 = .ok (.ireturn, 1) := by decide +kernel
theorem dX7_council_16 : decode cX7_council 16 = .ok (.iconst 0, 1) := by decide +kernel
theorem dX7_council_17 : decode cX7_council 17 = .ok (.istore_n 1, 1) := by decide +kernel
theorem dX7_council_18 : decode cX7_council 18 = .ok (.iload_n 1, 1) := by decide +kernel
theorem dX7_council_19 : decode cX7_council 19 = .ok (.sipush 9999, 3) := by decide +kernel
theorem dX7_council_22 : decode cX7_council 22 = .ok (.if_icmp .gt 24, 3) := by decide +kernel
theorem dX7_council_25 : decode cX7_council 25 = .ok (.aload_n 0, 1) := by decide +kernel
theorem dX7_council_26 : decode cX7_council 26 = .ok (.aload_n 0, 1) := by decide +kernel
theorem dX7_council_27 : decode cX7_council 27 = .ok (.getfield 9, 3) := by decide +kernel
theorem dX7_council_30 : decode cX7_council 30 = .ok (.iconst 0, 1) := by decide +kernel
theorem dX7_council_31 : decode cX7_council 31 = .ok (.iaload, 1) := by decide +kernel
theorem dX7_council_32 : decode cX7_council 32 = .ok (.iload_n 1, 1) := by decide +kernel
theorem dX7_council_33 : decode cX7_council 33 = .ok (.iadd, 1) := by decide +kernel
theorem dX7_council_34 : decode cX7_council 34 = .ok (.invokevirtual 191, 3) := by decide +kernel
theorem dX7_council_37 : decode cX7_council 37 = .ok (.ifCond .ne 9, 3) := by decide +kernel
theorem dX7_council_40 : decode cX7_council 40 = .ok (.iinc 1 1, 3) := by decide +kernel
theorem dX7_council_43 : decode cX7_council 43 = .ok (.goto (-25), 3) := by decide +kernel
theorem dX7_council_46 : decode cX7_council 46 = .ok (.iload_n 1, 1) := by decide +kernel
theorem dX7_council_47 : decode cX7_council 47 = .ok (.sipush 9999, 3) := by decide +kernel
theorem dX7_council_50 : decode cX7_council 50 = .ok (.if_icmp .le 12, 3) := by decide +kernel
theorem dX7_council_53 : decode cX7_council 53 = .ok (.aload_n 0, 1) := by decide +kernel
theorem dX7_council_54 : decode cX7_council 54 = .ok (.ldc 190, 2) := by decide +kernel
theorem dX7_council_56 : decode cX7_council 56 = .ok (.invokevirtual 56, 3) := by decide +kernel
theorem dX7_council_59 : decode cX7_council 59 = .ok (.goto 4, 3) := by decide +kernel
theorem dX7_council_62 : decode cX7_council 62 = .ok (.iload_n 1, 1) := by decide +kernel
theorem dX7_council_63 : decode cX7_council 63 = .ok (.ireturn, 1) := by decide +kernel
theorem dX7_soonest_0 : decode cX7_soonest 0 = .ok (.aload_n 0, 1) := by decide +kernel
theorem dX7_soonest_1 : decode cX7_soonest 1 = .ok (.iload_n 1, 1) := by decide +kernel
theorem dX7_soonest_2 : decode cX7_soonest 2 = .ok (.invokevirtual 104, 3) := by decide +kernel
theorem dX7_soonest_5 : decode cX7_soonest 5 = .ok (.ifCond .eq 11, 3) := by decide +kernel
theorem dX7_soonest_8 : decode cX7_soonest 8 = .ok (.aload_n 0, 1) := by decide +kernel
theorem dX7_soonest_9 : decode cX7_soonest 9 = .ok (.iload_n 2, 1) := by decide +kernel
theorem dX7_soonest_10 : decode cX7_soonest 10 = .ok (.invokevirtual 75, 3) := by decide +kernel
theorem dX7_soonest_13 : decode cX7_soonest 13 = .ok (.ifCond .ne 10, 3) := by decide +kernel
theorem dX7_soonest_16 : decode cX7_soonest 16 = .ok (.aload_n 0, 1) := by decide +kernel
theorem dX7_soonest_17 : decode cX7_soonest 17 = .ok (.ldc 55, 2) := by decide +kernel
theorem dX7_soonest_19 : decode cX7_soonest 19 = .ok (.invokevirtual 56, 3) := by decide +kernel
theorem dX7_soonest_22 : decode cX7_soonest 22 = .ok (.ireturn, 1) := by decide +kernel
theorem dX7_soonest_23 : decode cX7_soonest 23 = .ok (.iconst 1, 1) := by decide +kernel
theorem dX7_soonest_24 : decode cX7_soonest 24 = .ok (.aload_n 0, 1) := by decide +kernel
theorem dX7_soonest_25 : decode cX7_soonest 25 = .ok (.iload_n 1, 1) := by decide +kernel
theorem dX7_soonest_26 : decode cX7_soonest 26 = .ok (.iconst 2, 1) := by decide +kernel
theorem dX7_soonest_27 : decode cX7_soonest 27 = .ok (.invokevirtual 72, 3) := by decide +kernel
theorem dX7_soonest_30 : decode cX7_soonest 30 = .ok (.ishl, 1) := by decide +kernel
theorem dX7_soonest_31 : decode cX7_soonest 31 = .ok (.istore_n 3, 1) := by decide +kernel
theorem dX7_soonest_32 : decode cX7_soonest 32 = .ok (.iconst 0, 1) := by decide +kernel
theorem dX7_soonest_33 : decode cX7_soonest 33 = .ok (.istore 4, 2) := by decide +kernel
theorem dX7_soonest_35 : decode cX7_soonest 35 = .ok (.iload 4, 2) := by decide +kernel
theorem dX7_soonest_37 : decode cX7_soonest 37 = .ok (.sipush 720, 3) := by decide +kernel
theorem dX7_soonest_40 : decode cX7_soonest 40 = .ok (.if_icmp .gt 33, 3) := by decide +kernel
theorem dX7_soonest_43 : decode cX7_soonest 43 = .ok (.iload_n 3, 1) := by decide +kernel
theorem dX7_soonest_44 : decode cX7_soonest 44 = .ok (.iload_n 2, 1) := by decide +kernel
theorem dX7_soonest_45 : decode cX7_soonest 45 = .ok (.ishr, 1) := by decide +kernel
theorem dX7_soonest_46 : decode cX7_soonest 46 = .ok (.iconst 1, 1) := by decide +kernel
theorem dX7_soonest_47 : decode cX7_soonest 47 = .ok (.iand, 1) := by decide +kernel
theorem dX7_soonest_48 : decode cX7_soonest 48 = .ok (.ifCond .ne 25, 3) := by decide +kernel
theorem dX7_soonest_51 : decode cX7_soonest 51 = .ok (.aload_n 0, 1) := by decide +kernel
theorem dX7_soonest_52 : decode cX7_soonest 52 = .ok (.iload_n 1, 1) := by decide +kernel
theorem dX7_soonest_53 : decode cX7_soonest 53 = .ok (.iload_n 3, 1) := by decide +kernel
theorem dX7_soonest_54 : decode cX7_soonest 54 = .ok (.aload_n 0, 1) := by decide +kernel
theorem dX7_soonest_55 : decode cX7_soonest 55 = .ok (.getfield 9, 3) := by decide +kernel
theorem dX7_soonest_58 : decode cX7_soonest 58 = .ok (.iconst 0, 1) := by decide +kernel
theorem dX7_soonest_59 : decode cX7_soonest 59 = .ok (.iaload, 1) := by decide +kernel
theorem dX7_soonest_60 : decode cX7_soonest 60 = .ok (.iload 4, 2) := by decide +kernel
theorem dX7_soonest_62 : decode cX7_soonest 62 = .ok (.iadd, 1) := by decide +kernel
theorem dX7_soonest_63 : decode cX7_soonest 63 = .ok (.invokevirtual 101, 3) := by decide +kernel
theorem dX7_soonest_66 : decode cX7_soonest 66 = .ok (.istore_n 3, 1) := by decide +kernel
theorem dX7_soonest_67 : decode cX7_soonest 67 = .ok (.iinc 4 1, 3) := by decide +kernel
theorem dX7_soonest_70 : decode cX7_soonest 70 = .ok (.goto (-35), 3) := by decide +kernel
theorem dX7_soonest_73 : decode cX7_soonest 73 = .ok (.iload 4, 2) := by decide +kernel
theorem dX7_soonest_75 : decode cX7_soonest 75 = .ok (.sipush 720, 3) := by decide +kernel
theorem dX7_soonest_78 : decode cX7_soonest 78 = .ok (.if_icmp .le 12, 3) := by decide +kernel
theorem dX7_soonest_81 : decode cX7_soonest 81 = .ok (.aload_n 0, 1) := by decide +kernel
theorem dX7_soonest_82 : decode cX7_soonest 82 = .ok (.ldc 190, 2) := by decide +kernel
theorem dX7_soonest_84 : decode cX7_soonest 84 = .ok (.invokevirtual 56, 3) := by decide +kernel
theorem dX7_soonest_87 : decode cX7_soonest 87 = .ok (.goto 5, 3) := by decide +kernel
theorem dX7_soonest_90 : decode cX7_soonest 90 = .ok (.iload 4, 2) := by decide +kernel
theorem dX7_soonest_92 : decode cX7_soonest 92 = .ok (.ireturn, 1) := by decide +kernel
theorem dX7_rooms_0 : decode cX7_rooms 0 = .ok (.aload_n 0, 1) := by decide +kernel
theorem dX7_rooms_1 : decode cX7_rooms 1 = .ok (.iload_n 1, 1) := by decide +kernel
theorem dX7_rooms_2 : decode cX7_rooms 2 = .ok (.invokevirtual 104, 3) := by decide +kernel
theorem dX7_rooms_5 : decode cX7_rooms 5 = .ok (.ifCond .eq 23, 3) := by decide +kernel
theorem dX7_rooms_8 : decode cX7_rooms 8 = .ok (.iload_n 2, 1) := by decide +kernel
theorem dX7_rooms_9 : decode cX7_rooms 9 = .ok (.iconst 0, 1) := by decide +kernel
theorem dX7_rooms_10 : decode cX7_rooms 10 = .ok (.sipush 720, 3) := by decide +kernel
theorem dX7_rooms_13 : decode cX7_rooms 13 = .ok (.invokestatic 47, 3) := by decide +kernel
theorem dX7_rooms_16 : decode cX7_rooms 16 = .ok (.ifCond .eq 12, 3) := by decide +kernel
theorem dX7_rooms_19 : decode cX7_rooms 19 = .ok (.aload_n 0, 1) := by decide +kernel
theorem dX7_rooms_20 : decode cX7_rooms 20 = .ok (.iload_n 1, 1) := by decide +kernel
theorem dX7_rooms_21 : decode cX7_rooms 21 = .ok (.iload_n 2, 1) := by decide +kernel
theorem dX7_rooms_22 : decode cX7_rooms 22 = .ok (.invokevirtual 107, 3) := by decide +kernel
theorem dX7_rooms_25 : decode cX7_rooms 25 = .ok (.goto 9, 3) := by decide +kernel
theorem dX7_rooms_28 : decode cX7_rooms 28 = .ok (.aload_n 0, 1) := by decide +kernel
theorem dX7_rooms_29 : decode cX7_rooms 29 = .ok (.ldc 55, 2) := by decide +kernel
theorem dX7_rooms_31 : decode cX7_rooms 31 = .ok (.invokevirtual 56, 3) := by decide +kernel
theorem dX7_rooms_34 : decode cX7_rooms 34 = .ok (.ireturn, 1) := by decide +kernel
theorem dX7_watch_0 : decode cX7_watch 0 = .ok (.aload_n 0, 1) := by decide +kernel
theorem dX7_watch_1 : decode cX7_watch 1 = .ok (.iload_n 1, 1) := by decide +kernel
theorem dX7_watch_2 : decode cX7_watch 2 = .ok (.invokevirtual 104, 3) := by decide +kernel
theorem dX7_watch_5 : decode cX7_watch 5 = .ok (.ifCond .eq 31, 3) := by decide +kernel
theorem dX7_watch_8 : decode cX7_watch 8 = .ok (.aload_n 0, 1) := by decide +kernel
theorem dX7_watch_9 : decode cX7_watch 9 = .ok (.iload_n 2, 1) := by decide +kernel
theorem dX7_watch_10 : decode cX7_watch 10 = .ok (.invokevirtual 75, 3) := by decide +kernel
theorem dX7_watch_13 : decode cX7_watch 13 = .ok (.ifCond .eq 23, 3) := by decide +kernel
theorem dX7_watch_16 : decode cX7_watch 16 = .ok (.iload_n 3, 1) := by decide +kernel
theorem dX7_watch_17 : decode cX7_watch 17 = .ok (.iconst 1, 1) := by decide +kernel
theorem dX7_watch_18 : decode cX7_watch 18 = .ok (.bipush 60, 2) := by decide +kernel
theorem dX7_watch_20 : decode cX7_watch 20 = .ok (.invokestatic 47, 3) := by decide +kernel
theorem dX7_watch_23 : decode cX7_watch 23 = .ok (.ifCond .eq 13, 3) := by decide +kernel
theorem dX7_watch_26 : decode cX7_watch 26 = .ok (.iload 4, 2) := by decide +kernel
theorem dX7_watch_28 : decode cX7_watch 28 = .ok (.iconst 0, 1) := by decide +kernel
theorem dX7_watch_29 : decode cX7_watch 29 = .ok (.iconst 1, 1) := by decide +kernel
theorem dX7_watch_30 : decode cX7_watch 30 = .ok (.invokestatic 47, 3) := by decide +kernel
theorem dX7_watch_33 : decode cX7_watch 33 = .ok (.ifCond .ne 10, 3) := by decide +kernel
theorem dX7_watch_36 : decode cX7_watch 36 = .ok (.aload_n 0, 1) := by decide +kernel
theorem dX7_watch_37 : decode cX7_watch 37 = .ok (.ldc 55, 2) := by decide +kernel
theorem dX7_watch_39 : decode cX7_watch 39 = .ok (.invokevirtual 56, 3) := by decide +kernel
theorem dX7_watch_42 : decode cX7_watch 42 = .ok (.ireturn, 1) := by decide +kernel
theorem dX7_watch_43 : decode cX7_watch 43 = .ok (.aload_n 0, 1) := by decide +kernel
theorem dX7_watch_44 : decode cX7_watch 44 = .ok (.iload_n 1, 1) := by decide +kernel
theorem dX7_watch_45 : decode cX7_watch 45 = .ok (.iconst 2, 1) := by decide +kernel
theorem dX7_watch_46 : decode cX7_watch 46 = .ok (.invokevirtual 72, 3) := by decide +kernel
theorem dX7_watch_49 : decode cX7_watch 49 = .ok (.iload_n 2, 1) := by decide +kernel
theorem dX7_watch_50 : decode cX7_watch 50 = .ok (.if_icmp .ne 10, 3) := by decide +kernel
theorem dX7_watch_53 : decode cX7_watch 53 = .ok (.aload_n 0, 1) := by decide +kernel
theorem dX7_watch_54 : decode cX7_watch 54 = .ok (.ldc 118, 2) := by decide +kernel
theorem dX7_watch_56 : decode cX7_watch 56 = .ok (.invokevirtual 56, 3) := by decide +kernel
theorem dX7_watch_59 : decode cX7_watch 59 = .ok (.ireturn, 1) := by decide +kernel
theorem dX7_watch_60 : decode cX7_watch 60 = .ok (.iconst 1, 1) := by decide +kernel
theorem dX7_watch_61 : decode cX7_watch 61 = .ok (.iload_n 2, 1) := by decide +kernel
theorem dX7_watch_62 : decode cX7_watch 62 = .ok (.ishl, 1) := by decide +kernel
theorem dX7_watch_63 : decode cX7_watch 63 = .ok (.iconst 1, 1) := by decide +kernel
theorem dX7_watch_64 : decode cX7_watch 64 = .ok (.aload_n 0, 1) := by decide +kernel
theorem dX7_watch_65 : decode cX7_watch 65 = .ok (.iload_n 1, 1) := by decide +kernel
theorem dX7_watch_66 : decode cX7_watch 66 = .ok (.iconst 2, 1) := by decide +kernel
theorem dX7_watch_67 : decode cX7_watch 67 = .ok (.invokevirtual 72, 3) := by decide +kernel
theorem dX7_watch_70 : decode cX7_watch 70 = .ok (.ishl, 1) := by decide +kernel
theorem dX7_watch_71 : decode cX7_watch 71 = .ok (.ior, 1) := by decide +kernel
theorem dX7_watch_72 : decode cX7_watch 72 = .ok (.istore 5, 2) := by decide +kernel
theorem dX7_watch_74 : decode cX7_watch 74 = .ok (.aload_n 0, 1) := by decide +kernel
theorem dX7_watch_75 : decode cX7_watch 75 = .ok (.iload_n 1, 1) := by decide +kernel
theorem dX7_watch_76 : decode cX7_watch 76 = .ok (.iload_n 3, 1) := by decide +kernel
theorem dX7_watch_77 : decode cX7_watch 77 = .ok (.invokevirtual 194, 3) := by decide +kernel
theorem dX7_watch_80 : decode cX7_watch 80 = .ok (.iconst (-1), 1) := by decide +kernel
theorem dX7_watch_81 : decode cX7_watch 81 = .ok (.istore 6, 2) := by decide +kernel
theorem dX7_watch_83 : decode cX7_watch 83 = .ok (.iconst 0, 1) := by decide +kernel
theorem dX7_watch_84 : decode cX7_watch 84 = .ok (.istore 7, 2) := by decide +kernel
theorem dX7_watch_86 : decode cX7_watch 86 = .ok (.iload 7, 2) := by decide +kernel
theorem dX7_watch_88 : decode cX7_watch 88 = .ok (.iconst 1, 1) := by decide +kernel
theorem dX7_watch_89 : decode cX7_watch 89 = .ok (.aload_n 0, 1) := by decide +kernel
theorem dX7_watch_90 : decode cX7_watch 90 = .ok (.getfield 9, 3) := by decide +kernel
theorem dX7_watch_93 : decode cX7_watch 93 = .ok (.iconst 3, 1) := by decide +kernel
theorem dX7_watch_94 : decode cX7_watch 94 = .ok (.iaload, 1) := by decide +kernel
theorem dX7_watch_95 : decode cX7_watch 95 = .ok (.ishl, 1) := by decide +kernel
theorem dX7_watch_96 : decode cX7_watch 96 = .ok (.if_icmp .ge 59, 3) := by decide +kernel
theorem dX7_watch_99 : decode cX7_watch 99 = .ok (.iload 7, 2) := by decide +kernel
theorem dX7_watch_101 : decode cX7_watch 101 = .ok (.iload 5, 2) := by decide +kernel
theorem dX7_watch_103 : decode cX7_watch 103 = .ok (.iand, 1) := by decide +kernel
theorem dX7_watch_104 : decode cX7_watch 104 = .ok (.ifCond .ne 45, 3) := by decide +kernel
theorem dX7_watch_107 : decode cX7_watch 107 = .ok (.iload 6, 2) := by decide +kernel
theorem dX7_watch_109 : decode cX7_watch 109 = .ok (.ifCond .lt 16, 3) := by decide +kernel
theorem dX7_watch_112 : decode cX7_watch 112 = .ok (.iload 7, 2) := by decide +kernel
theorem dX7_watch_114 : decode cX7_watch 114 = .ok (.invokestatic 197, 3) := by decide +kernel
theorem dX7_watch_117 : decode cX7_watch 117 = .ok (.iload 6, 2) := by decide +kernel
theorem dX7_watch_119 : decode cX7_watch 119 = .ok (.invokestatic 197, 3) := by decide +kernel
theorem dX7_watch_122 : decode cX7_watch 122 = .ok (.if_icmp .ge 27, 3) := by decide +kernel
theorem dX7_watch_125 : decode cX7_watch 125 = .ok (.aload_n 0, 1) := by decide +kernel
theorem dX7_watch_126 : decode cX7_watch 126 = .ok (.iload_n 1, 1) := by decide +kernel
theorem dX7_watch_127 : decode cX7_watch 127 = .ok (.iload_n 3, 1) := by decide +kernel
theorem dX7_watch_128 : decode cX7_watch 128 = .ok (.iload 7, 2) := by decide +kernel
theorem dX7_watch_130 : decode cX7_watch 130 = .ok (.invokevirtual 200, 3) := by decide +kernel
theorem dX7_watch_133 : decode cX7_watch 133 = .ok (.iload_n 2, 1) := by decide +kernel
theorem dX7_watch_134 : decode cX7_watch 134 = .ok (.ishr, 1) := by decide +kernel
theorem dX7_watch_135 : decode cX7_watch 135 = .ok (.iconst 1, 1) := by decide +kernel
theorem dX7_watch_136 : decode cX7_watch 136 = .ok (.iand, 1) := by decide +kernel
theorem dX7_watch_137 : decode cX7_watch 137 = .ok (.ifCond .ne 8, 3) := by decide +kernel
theorem dX7_watch_140 : decode cX7_watch 140 = .ok (.iload 7, 2) := by decide +kernel
theorem dX7_watch_142 : decode cX7_watch 142 = .ok (.goto 5, 3) := by decide +kernel
theorem dX7_watch_145 : decode cX7_watch 145 = .ok (.iload 6, 2) := by decide +kernel
theorem dX7_watch_147 : decode cX7_watch 147 = .ok (.istore 6, 2) := by decide +kernel
theorem dX7_watch_149 : decode cX7_watch 149 = .ok (.iinc 7 1, 3) := by decide +kernel
theorem dX7_watch_152 : decode cX7_watch 152 = .ok (.goto (-66), 3) := by decide +kernel
theorem dX7_watch_155 : decode cX7_watch 155 = .ok (.iload 6, 2) := by decide +kernel
theorem dX7_watch_157 : decode cX7_watch 157 = .ok (.ifCond .ge 12, 3) := by decide +kernel
theorem dX7_watch_160 : decode cX7_watch 160 = .ok (.aload_n 0, 1) := by decide +kernel
theorem dX7_watch_161 : decode cX7_watch 161 = .ok (.ldc 190, 2) := by decide +kernel
theorem dX7_watch_163 : decode cX7_watch 163 = .ok (.invokevirtual 56, 3) := by decide +kernel
theorem dX7_watch_166 : decode cX7_watch 166 = .ok (.goto 18, 3) := by decide +kernel
theorem dX7_watch_169 : decode cX7_watch 169 = .ok (.iload 4, 2) := by decide +kernel
theorem dX7_watch_171 : decode cX7_watch 171 = .ok (.ifCond .ne 11, 3) := by decide +kernel
theorem dX7_watch_174 : decode cX7_watch 174 = .ok (.iload 6, 2) := by decide +kernel
theorem dX7_watch_176 : decode cX7_watch 176 = .ok (.invokestatic 197, 3) := by decide +kernel
theorem dX7_watch_179 : decode cX7_watch 179 = .ok (.goto 5, 3) := by decide +kernel
theorem dX7_watch_182 : decode cX7_watch 182 = .ok (.iload 6, 2) := by decide +kernel
theorem dX7_watch_184 : decode cX7_watch 184 = .ok (.ireturn, 1) := by decide +kernel
theorem dX7_best_0 : decode cX7_best 0 = .ok (.aload_n 0, 1) := by decide +kernel
theorem dX7_best_1 : decode cX7_best 1 = .ok (.iload_n 1, 1) := by decide +kernel
theorem dX7_best_2 : decode cX7_best 2 = .ok (.invokevirtual 104, 3) := by decide +kernel
theorem dX7_best_5 : decode cX7_best 5 = .ok (.ifCond .eq 22, 3) := by decide +kernel
theorem dX7_best_8 : decode cX7_best 8 = .ok (.iload_n 2, 1) := by decide +kernel
theorem dX7_best_9 : decode cX7_best 9 = .ok (.iconst 0, 1) := by decide +kernel
theorem dX7_best_10 : decode cX7_best 10 = .ok (.bipush 60, 2) := by decide +kernel
theorem dX7_best_12 : decode cX7_best 12 = .ok (.invokestatic 47, 3) := by decide +kernel
theorem dX7_best_15 : decode cX7_best 15 = .ok (.ifCond .eq 12, 3) := by decide +kernel
theorem dX7_best_18 : decode cX7_best 18 = .ok (.iload_n 3, 1) := by decide +kernel
theorem dX7_best_19 : decode cX7_best 19 = .ok (.iconst 0, 1) := by decide +kernel
theorem dX7_best_20 : decode cX7_best 20 = .ok (.iconst 1, 1) := by decide +kernel
theorem dX7_best_21 : decode cX7_best 21 = .ok (.invokestatic 47, 3) := by decide +kernel
theorem dX7_best_24 : decode cX7_best 24 = .ok (.ifCond .ne 10, 3) := by decide +kernel
theorem dX7_best_27 : decode cX7_best 27 = .ok (.aload_n 0, 1) := by decide +kernel
theorem dX7_best_28 : decode cX7_best 28 = .ok (.ldc 55, 2) := by decide +kernel
theorem dX7_best_30 : decode cX7_best 30 = .ok (.invokevirtual 56, 3) := by decide +kernel
theorem dX7_best_33 : decode cX7_best 33 = .ok (.ireturn, 1) := by decide +kernel
theorem dX7_best_34 : decode cX7_best 34 = .ok (.aload_n 0, 1) := by decide +kernel
theorem dX7_best_35 : decode cX7_best 35 = .ok (.iload_n 1, 1) := by decide +kernel
theorem dX7_best_36 : decode cX7_best 36 = .ok (.iload_n 2, 1) := by decide +kernel
theorem dX7_best_37 : decode cX7_best 37 = .ok (.invokevirtual 107, 3) := by decide +kernel
theorem dX7_best_40 : decode cX7_best 40 = .ok (.istore 4, 2) := by decide +kernel
theorem dX7_best_42 : decode cX7_best 42 = .ok (.aload_n 0, 1) := by decide +kernel
theorem dX7_best_43 : decode cX7_best 43 = .ok (.getfield 9, 3) := by decide +kernel
theorem dX7_best_46 : decode cX7_best 46 = .ok (.iconst 0, 1) := by decide +kernel
theorem dX7_best_47 : decode cX7_best 47 = .ok (.iaload, 1) := by decide +kernel
theorem dX7_best_48 : decode cX7_best 48 = .ok (.iload_n 2, 1) := by decide +kernel
theorem dX7_best_49 : decode cX7_best 49 = .ok (.iadd, 1) := by decide +kernel
theorem dX7_best_50 : decode cX7_best 50 = .ok (.istore 5, 2) := by decide +kernel
theorem dX7_best_52 : decode cX7_best 52 = .ok (.iconst (-1), 1) := by decide +kernel
theorem dX7_best_53 : decode cX7_best 53 = .ok (.istore 6, 2) := by decide +kernel
theorem dX7_best_55 : decode cX7_best 55 = .ok (.iconst 0, 1) := by decide +kernel
theorem dX7_best_56 : decode cX7_best 56 = .ok (.istore 7, 2) := by decide +kernel
theorem dX7_best_58 : decode cX7_best 58 = .ok (.iload 7, 2) := by decide +kernel
theorem dX7_best_60 : decode cX7_best 60 = .ok (.aload_n 0, 1) := by decide +kernel
theorem dX7_best_61 : decode cX7_best 61 = .ok (.getfield 9, 3) := by decide +kernel
theorem dX7_best_64 : decode cX7_best 64 = .ok (.iconst 3, 1) := by decide +kernel
theorem dX7_best_65 : decode cX7_best 65 = .ok (.iaload, 1) := by decide +kernel
theorem dX7_best_66 : decode cX7_best 66 = .ok (.if_icmp .ge 65, 3) := by decide +kernel
theorem dX7_best_69 : decode cX7_best 69 = .ok (.iload 4, 2) := by decide +kernel
theorem dX7_best_71 : decode cX7_best 71 = .ok (.iload 7, 2) := by decide +kernel
theorem dX7_best_73 : decode cX7_best 73 = .ok (.ishr, 1) := by decide +kernel
theorem dX7_best_74 : decode cX7_best 74 = .ok (.iconst 1, 1) := by decide +kernel
theorem dX7_best_75 : decode cX7_best 75 = .ok (.iand, 1) := by decide +kernel
theorem dX7_best_76 : decode cX7_best 76 = .ok (.iconst 1, 1) := by decide +kernel
theorem dX7_best_77 : decode cX7_best 77 = .ok (.if_icmp .ne 31, 3) := by decide +kernel
theorem dX7_best_80 : decode cX7_best 80 = .ok (.iload 6, 2) := by decide +kernel
theorem dX7_best_82 : decode cX7_best 82 = .ok (.ifCond .lt 22, 3) := by decide +kernel
theorem dX7_best_85 : decode cX7_best 85 = .ok (.aload_n 0, 1) := by decide +kernel
theorem dX7_best_86 : decode cX7_best 86 = .ok (.iload 7, 2) := by decide +kernel
theorem dX7_best_88 : decode cX7_best 88 = .ok (.iload 5, 2) := by decide +kernel
theorem dX7_best_90 : decode cX7_best 90 = .ok (.invokevirtual 78, 3) := by decide +kernel
theorem dX7_best_93 : decode cX7_best 93 = .ok (.aload_n 0, 1) := by decide +kernel
theorem dX7_best_94 : decode cX7_best 94 = .ok (.iload 6, 2) := by decide +kernel
theorem dX7_best_96 : decode cX7_best 96 = .ok (.iload 5, 2) := by decide +kernel
theorem dX7_best_98 : decode cX7_best 98 = .ok (.invokevirtual 78, 3) := by decide +kernel
theorem dX7_best_101 : decode cX7_best 101 = .ok (.if_icmp .le 7, 3) := by decide +kernel
theorem dX7_best_104 : decode cX7_best 104 = .ok (.iconst 1, 1) := by decide +kernel
theorem dX7_best_105 : decode cX7_best 105 = .ok (.goto 4, 3) := by decide +kernel
theorem dX7_best_108 : decode cX7_best 108 = .ok (.iconst 0, 1) := by decide +kernel
theorem dX7_best_109 : decode cX7_best 109 = .ok (.istore 8, 2) := by decide +kernel
theorem dX7_best_111 : decode cX7_best 111 = .ok (.iload 8, 2) := by decide +kernel
theorem dX7_best_113 : decode cX7_best 113 = .ok (.ifCond .eq 8, 3) := by decide +kernel
theorem dX7_best_116 : decode cX7_best 116 = .ok (.iload 7, 2) := by decide +kernel
theorem dX7_best_118 : decode cX7_best 118 = .ok (.goto 5, 3) := by decide +kernel
theorem dX7_best_121 : decode cX7_best 121 = .ok (.iload 6, 2) := by decide +kernel
theorem dX7_best_123 : decode cX7_best 123 = .ok (.istore 6, 2) := by decide +kernel
theorem dX7_best_125 : decode cX7_best 125 = .ok (.iinc 7 1, 3) := by decide +kernel
theorem dX7_best_128 : decode cX7_best 128 = .ok (.goto (-70), 3) := by decide +kernel
theorem dX7_best_131 : decode cX7_best 131 = .ok (.iload_n 3, 1) := by decide +kernel
theorem dX7_best_132 : decode cX7_best 132 = .ok (.ifCond .ne 8, 3) := by decide +kernel
theorem dX7_best_135 : decode cX7_best 135 = .ok (.iload 6, 2) := by decide +kernel
theorem dX7_best_137 : decode cX7_best 137 = .ok (.goto 11, 3) := by decide +kernel
theorem dX7_best_140 : decode cX7_best 140 = .ok (.aload_n 0, 1) := by decide +kernel
theorem dX7_best_141 : decode cX7_best 141 = .ok (.iload 6, 2) := by decide +kernel
theorem dX7_best_143 : decode cX7_best 143 = .ok (.iload 5, 2) := by decide +kernel
theorem dX7_best_145 : decode cX7_best 145 = .ok (.invokevirtual 78, 3) := by decide +kernel
theorem dX7_best_148 : decode cX7_best 148 = .ok (.ireturn, 1) := by decide +kernel
theorem dX7_odds_0 : decode cX7_odds 0 = .ok (.aload_n 0, 1) := by decide +kernel
theorem dX7_odds_1 : decode cX7_odds 1 = .ok (.iload_n 1, 1) := by decide +kernel
theorem dX7_odds_2 : decode cX7_odds 2 = .ok (.invokevirtual 104, 3) := by decide +kernel
theorem dX7_odds_5 : decode cX7_odds 5 = .ok (.ifCond .eq 20, 3) := by decide +kernel
theorem dX7_odds_8 : decode cX7_odds 8 = .ok (.aload_n 0, 1) := by decide +kernel
theorem dX7_odds_9 : decode cX7_odds 9 = .ok (.iload_n 2, 1) := by decide +kernel
theorem dX7_odds_10 : decode cX7_odds 10 = .ok (.invokevirtual 75, 3) := by decide +kernel
theorem dX7_odds_13 : decode cX7_odds 13 = .ok (.ifCond .eq 12, 3) := by decide +kernel
theorem dX7_odds_16 : decode cX7_odds 16 = .ok (.iload_n 3, 1) := by decide +kernel
theorem dX7_odds_17 : decode cX7_odds 17 = .ok (.iconst 0, 1) := by decide +kernel
theorem dX7_odds_18 : decode cX7_odds 18 = .ok (.iconst 1, 1) := by decide +kernel
theorem dX7_odds_19 : decode cX7_odds 19 = .ok (.invokestatic 47, 3) := by decide +kernel
theorem dX7_odds_22 : decode cX7_odds 22 = .ok (.ifCond .ne 10, 3) := by decide +kernel
theorem dX7_odds_25 : decode cX7_odds 25 = .ok (.aload_n 0, 1) := by decide +kernel
theorem dX7_odds_26 : decode cX7_odds 26 = .ok (.ldc 55, 2) := by decide +kernel
theorem dX7_odds_28 : decode cX7_odds 28 = .ok (.invokevirtual 56, 3) := by decide +kernel
theorem dX7_odds_31 : decode cX7_odds 31 = .ok (.ireturn, 1) := by decide +kernel
theorem dX7_odds_32 : decode cX7_odds 32 = .ok (.aload_n 0, 1) := by decide +kernel
theorem dX7_odds_33 : decode cX7_odds 33 = .ok (.iload_n 1, 1) := by decide +kernel
theorem dX7_odds_34 : decode cX7_odds 34 = .ok (.iconst 2, 1) := by decide +kernel
theorem dX7_odds_35 : decode cX7_odds 35 = .ok (.invokevirtual 72, 3) := by decide +kernel
theorem dX7_odds_38 : decode cX7_odds 38 = .ok (.istore 4, 2) := by decide +kernel
theorem dX7_odds_40 : decode cX7_odds 40 = .ok (.iconst 0, 1) := by decide +kernel
theorem dX7_odds_41 : decode cX7_odds 41 = .ok (.istore 5, 2) := by decide +kernel
theorem dX7_odds_43 : decode cX7_odds 43 = .ok (.iconst 0, 1) := by decide +kernel
theorem dX7_odds_44 : decode cX7_odds 44 = .ok (.istore 6, 2) := by decide +kernel
theorem dX7_odds_46 : decode cX7_odds 46 = .ok (.iload 6, 2) := by decide +kernel
theorem dX7_odds_48 : decode cX7_odds 48 = .ok (.bipush 60, 2) := by decide +kernel
theorem dX7_odds_50 : decode cX7_odds 50 = .ok (.if_icmp .ge 45, 3) := by decide +kernel
theorem dX7_odds_53 : decode cX7_odds 53 = .ok (.iload 5, 2) := by decide +kernel
theorem dX7_odds_55 : decode cX7_odds 55 = .ok (.iload 4, 2) := by decide +kernel
theorem dX7_odds_57 : decode cX7_odds 57 = .ok (.iload_n 2, 1) := by decide +kernel
theorem dX7_odds_58 : decode cX7_odds 58 = .ok (.if_icmp .eq 23, 3) := by decide +kernel
theorem dX7_odds_61 : decode cX7_odds 61 = .ok (.aload_n 0, 1) := by decide +kernel
theorem dX7_odds_62 : decode cX7_odds 62 = .ok (.iload_n 1, 1) := by decide +kernel
theorem dX7_odds_63 : decode cX7_odds 63 = .ok (.iload 4, 2) := by decide +kernel
theorem dX7_odds_65 : decode cX7_odds 65 = .ok (.iload_n 2, 1) := by decide +kernel
theorem dX7_odds_66 : decode cX7_odds 66 = .ok (.aload_n 0, 1) := by decide +kernel
theorem dX7_odds_67 : decode cX7_odds 67 = .ok (.getfield 9, 3) := by decide +kernel
theorem dX7_odds_70 : decode cX7_odds 70 = .ok (.iconst 0, 1) := by decide +kernel
theorem dX7_odds_71 : decode cX7_odds 71 = .ok (.iaload, 1) := by decide +kernel
theorem dX7_odds_72 : decode cX7_odds 72 = .ok (.iload 6, 2) := by decide +kernel
theorem dX7_odds_74 : decode cX7_odds 74 = .ok (.iadd, 1) := by decide +kernel
theorem dX7_odds_75 : decode cX7_odds 75 = .ok (.invokevirtual 114, 3) := by decide +kernel
theorem dX7_odds_78 : decode cX7_odds 78 = .ok (.ifCond .eq 7, 3) := by decide +kernel
theorem dX7_odds_81 : decode cX7_odds 81 = .ok (.iconst 1, 1) := by decide +kernel
theorem dX7_odds_82 : decode cX7_odds 82 = .ok (.goto 4, 3) := by decide +kernel
theorem dX7_odds_85 : decode cX7_odds 85 = .ok (.iconst 0, 1) := by decide +kernel
theorem dX7_odds_86 : decode cX7_odds 86 = .ok (.iadd, 1) := by decide +kernel
theorem dX7_odds_87 : decode cX7_odds 87 = .ok (.istore 5, 2) := by decide +kernel
theorem dX7_odds_89 : decode cX7_odds 89 = .ok (.iinc 6 1, 3) := by decide +kernel
theorem dX7_odds_92 : decode cX7_odds 92 = .ok (.goto (-46), 3) := by decide +kernel
theorem dX7_odds_95 : decode cX7_odds 95 = .ok (.bipush 60, 2) := by decide +kernel
theorem dX7_odds_97 : decode cX7_odds 97 = .ok (.istore 6, 2) := by decide +kernel
theorem dX7_odds_99 : decode cX7_odds 99 = .ok (.bipush 60, 2) := by decide +kernel
theorem dX7_odds_101 : decode cX7_odds 101 = .ok (.istore 7, 2) := by decide +kernel
theorem dX7_odds_103 : decode cX7_odds 103 = .ok (.iload 7, 2) := by decide +kernel
theorem dX7_odds_105 : decode cX7_odds 105 = .ok (.iconst 1, 1) := by decide +kernel
theorem dX7_odds_106 : decode cX7_odds 106 = .ok (.if_icmp .le 39, 3) := by decide +kernel
theorem dX7_odds_109 : decode cX7_odds 109 = .ok (.iload 5, 2) := by decide +kernel
theorem dX7_odds_111 : decode cX7_odds 111 = .ok (.iload 7, 2) := by decide +kernel
theorem dX7_odds_113 : decode cX7_odds 113 = .ok (.irem, 1) := by decide +kernel
theorem dX7_odds_114 : decode cX7_odds 114 = .ok (.ifCond .ne 25, 3) := by decide +kernel
theorem dX7_odds_117 : decode cX7_odds 117 = .ok (.iload 6, 2) := by decide +kernel
theorem dX7_odds_119 : decode cX7_odds 119 = .ok (.iload 7, 2) := by decide +kernel
theorem dX7_odds_121 : decode cX7_odds 121 = .ok (.irem, 1) := by decide +kernel
theorem dX7_odds_122 : decode cX7_odds 122 = .ok (.ifCond .ne 17, 3) := by decide +kernel
theorem dX7_odds_125 : decode cX7_odds 125 = .ok (.iload 5, 2) := by decide +kernel
theorem dX7_odds_127 : decode cX7_odds 127 = .ok (.iload 7, 2) := by decide +kernel
theorem dX7_odds_129 : decode cX7_odds 129 = .ok (.idiv, 1) := by decide +kernel
theorem dX7_odds_130 : decode cX7_odds 130 = .ok (.istore 5, 2) := by decide +kernel
theorem dX7_odds_132 : decode cX7_odds 132 = .ok (.iload 6, 2) := by decide +kernel
theorem dX7_odds_134 : decode cX7_odds 134 = .ok (.iload 7, 2) := by decide +kernel
theorem dX7_odds_136 : decode cX7_odds 136 = .ok (.idiv, 1) := by decide +kernel
theorem dX7_odds_137 : decode cX7_odds 137 = .ok (.istore 6, 2) := by decide +kernel
theorem dX7_odds_139 : decode cX7_odds 139 = .ok (.iinc 7 (-1), 3) := by decide +kernel
theorem dX7_odds_142 : decode cX7_odds 142 = .ok (.goto (-39), 3) := by decide +kernel
theorem dX7_odds_145 : decode cX7_odds 145 = .ok (.iload_n 3, 1) := by decide +kernel
theorem dX7_odds_146 : decode cX7_odds 146 = .ok (.ifCond .ne 8, 3) := by decide +kernel
theorem dX7_odds_149 : decode cX7_odds 149 = .ok (.iload 5, 2) := by decide +kernel
theorem dX7_odds_151 : decode cX7_odds 151 = .ok (.goto 5, 3) := by decide +kernel
theorem dX7_odds_154 : decode cX7_odds 154 = .ok (.iload 6, 2) := by decide +kernel
theorem dX7_odds_156 : decode cX7_odds 156 = .ok (.ireturn, 1) := by decide +kernel
theorem dX7_fits_0 : decode cX7_fits 0 = .ok (.aload_n 0, 1) := by decide +kernel
theorem dX7_fits_1 : decode cX7_fits 1 = .ok (.iload_n 1, 1) := by decide +kernel
theorem dX7_fits_2 : decode cX7_fits 2 = .ok (.invokevirtual 203, 3) := by decide +kernel
theorem dX7_fits_5 : decode cX7_fits 5 = .ok (.istore_n 2, 1) := by decide +kernel
theorem dX7_fits_6 : decode cX7_fits 6 = .ok (.iload_n 2, 1) := by decide +kernel
theorem dX7_fits_7 : decode cX7_fits 7 = .ok (.ifCond .eq 9, 3) := by decide +kernel
theorem dX7_fits_10 : decode cX7_fits 10 = .ok (.aload_n 0, 1) := by decide +kernel
theorem dX7_fits_11 : decode cX7_fits 11 = .ok (.iload_n 2, 1) := by decide +kernel
theorem dX7_fits_12 : decode cX7_fits 12 = .ok (.invokevirtual 56, 3) := by decide +kernel
theorem dX7_fits_15 : decode cX7_fits 15 = .ok (.ireturn, 1) := by decide +kernel
theorem dX7_fits_16 : decode cX7_fits 16 = .ok (.iconst 0, 1) := by decide +kernel
theorem dX7_fits_17 : decode cX7_fits 17 = .ok (.istore_n 3, 1) := by decide +kernel
theorem dX7_fits_18 : decode cX7_fits 18 = .ok (.iconst 0, 1) := by decide +kernel
theorem dX7_fits_19 : decode cX7_fits 19 = .ok (.istore 4, 2) := by decide +kernel
theorem dX7_fits_21 : decode cX7_fits 21 = .ok (.iload 4, 2) := by decide +kernel
theorem dX7_fits_23 : decode cX7_fits 23 = .ok (.aload_n 0, 1) := by decide +kernel
theorem dX7_fits_24 : decode cX7_fits 24 = .ok (.getfield 9, 3) := by decide +kernel
theorem dX7_fits_27 : decode cX7_fits 27 = .ok (.iconst 2, 1) := by decide +kernel
theorem dX7_fits_28 : decode cX7_fits 28 = .ok (.iaload, 1) := by decide +kernel
theorem dX7_fits_29 : decode cX7_fits 29 = .ok (.if_icmp .ge 90, 3) := by decide +kernel
theorem dX7_fits_32 : decode cX7_fits 32 = .ok (.iconst 1, 1) := by decide +kernel
theorem dX7_fits_33 : decode cX7_fits 33 = .ok (.istore 5, 2) := by decide +kernel
theorem dX7_fits_35 : decode cX7_fits 35 = .ok (.iconst 0, 1) := by decide +kernel
theorem dX7_fits_36 : decode cX7_fits 36 = .ok (.istore 6, 2) := by decide +kernel
theorem dX7_fits_38 : decode cX7_fits 38 = .ok (.iload 6, 2) := by decide +kernel
theorem dX7_fits_40 : decode cX7_fits 40 = .ok (.aload_n 0, 1) := by decide +kernel
theorem dX7_fits_41 : decode cX7_fits 41 = .ok (.getfield 22, 3) := by decide +kernel
theorem dX7_fits_44 : decode cX7_fits 44 = .ok (.iload_n 1, 1) := by decide +kernel
theorem dX7_fits_45 : decode cX7_fits 45 = .ok (.iaload, 1) := by decide +kernel
theorem dX7_fits_46 : decode cX7_fits 46 = .ok (.if_icmp .ge 51, 3) := by decide +kernel
theorem dX7_fits_49 : decode cX7_fits 49 = .ok (.iload 5, 2) := by decide +kernel
theorem dX7_fits_51 : decode cX7_fits 51 = .ok (.ifCond .eq 37, 3) := by decide +kernel
theorem dX7_fits_54 : decode cX7_fits 54 = .ok (.aload_n 0, 1) := by decide +kernel
theorem dX7_fits_55 : decode cX7_fits 55 = .ok (.getfield 25, 3) := by decide +kernel
theorem dX7_fits_58 : decode cX7_fits 58 = .ok (.bipush 24, 2) := by decide +kernel
theorem dX7_fits_60 : decode cX7_fits 60 = .ok (.iload_n 1, 1) := by decide +kernel
theorem dX7_fits_61 : decode cX7_fits 61 = .ok (.imul, 1) := by decide +kernel
theorem dX7_fits_62 : decode cX7_fits 62 = .ok (.iload 6, 2) := by decide +kernel
theorem dX7_fits_64 : decode cX7_fits 64 = .ok (.iadd, 1) := by decide +kernel
theorem dX7_fits_65 : decode cX7_fits 65 = .ok (.iaload, 1) := by decide +kernel
theorem dX7_fits_66 : decode cX7_fits 66 = .ok (.aload_n 0, 1) := by decide +kernel
theorem dX7_fits_67 : decode cX7_fits 67 = .ok (.iload 4, 2) := by decide +kernel
theorem dX7_fits_69 : decode cX7_fits 69 = .ok (.aload_n 0, 1) := by decide +kernel
theorem dX7_fits_70 : decode cX7_fits 70 = .ok (.getfield 9, 3) := by decide +kernel
theorem dX7_fits_73 : decode cX7_fits 73 = .ok (.iconst 0, 1) := by decide +kernel
theorem dX7_fits_74 : decode cX7_fits 74 = .ok (.iaload, 1) := by decide +kernel
theorem dX7_fits_75 : decode cX7_fits 75 = .ok (.iload 6, 2) := by decide +kernel
theorem dX7_fits_77 : decode cX7_fits 77 = .ok (.iadd, 1) := by decide +kernel
theorem dX7_fits_78 : decode cX7_fits 78 = .ok (.invokevirtual 51, 3) := by decide +kernel
theorem dX7_fits_81 : decode cX7_fits 81 = .ok (.if_icmp .ne 7, 3) := by decide +kernel
theorem dX7_fits_84 : decode cX7_fits 84 = .ok (.iconst 1, 1) := by decide +kernel
theorem dX7_fits_85 : decode cX7_fits 85 = .ok (.goto 4, 3) := by decide +kernel
theorem dX7_fits_88 : decode cX7_fits 88 = .ok (.iconst 0, 1) := by decide +kernel
theorem dX7_fits_89 : decode cX7_fits 89 = .ok (.istore 5, 2) := by decide +kernel
theorem dX7_fits_91 : decode cX7_fits 91 = .ok (.iinc 6 1, 3) := by decide +kernel
theorem dX7_fits_94 : decode cX7_fits 94 = .ok (.goto (-56), 3) := by decide +kernel
theorem dX7_fits_97 : decode cX7_fits 97 = .ok (.iload_n 3, 1) := by decide +kernel
theorem dX7_fits_98 : decode cX7_fits 98 = .ok (.iload 5, 2) := by decide +kernel
theorem dX7_fits_100 : decode cX7_fits 100 = .ok (.ifCond .eq 10, 3) := by decide +kernel
theorem dX7_fits_103 : decode cX7_fits 103 = .ok (.iconst 1, 1) := by decide +kernel
theorem dX7_fits_104 : decode cX7_fits 104 = .ok (.iload 4, 2) := by decide +kernel
theorem dX7_fits_106 : decode cX7_fits 106 = .ok (.ishl, 1) := by decide +kernel
theorem dX7_fits_107 : decode cX7_fits 107 = .ok (.goto 4, 3) := by decide +kernel
theorem dX7_fits_110 : decode cX7_fits 110 = .ok (.iconst 0, 1) := by decide +kernel
theorem dX7_fits_111 : decode cX7_fits 111 = .ok (.ior, 1) := by decide +kernel
theorem dX7_fits_112 : decode cX7_fits 112 = .ok (.istore_n 3, 1) := by decide +kernel
theorem dX7_fits_113 : decode cX7_fits 113 = .ok (.iinc 4 1, 3) := by decide +kernel
theorem dX7_fits_116 : decode cX7_fits 116 = .ok (.goto (-95), 3) := by decide +kernel
theorem dX7_fits_119 : decode cX7_fits 119 = .ok (.iload_n 3, 1) := by decide +kernel
theorem dX7_fits_120 : decode cX7_fits 120 = .ok (.ireturn, 1) := by decide +kernel
theorem dX7_begins_0 : decode cX7_begins 0 = .ok (.aload_n 0, 1) := by decide +kernel
theorem dX7_begins_1 : decode cX7_begins 1 = .ok (.getfield 206, 3) := by decide +kernel
theorem dX7_begins_4 : decode cX7_begins 4 = .ok (.bipush 30, 2) := by decide +kernel
theorem dX7_begins_6 : decode cX7_begins 6 = .ok (.if_icmp .ge 23, 3) := by decide +kernel
theorem dX7_begins_9 : decode cX7_begins 9 = .ok (.aload_n 0, 1) := by decide +kernel
theorem dX7_begins_10 : decode cX7_begins 10 = .ok (.getfield 43, 3) := by decide +kernel
theorem dX7_begins_13 : decode cX7_begins 13 = .ok (.aload_n 0, 1) := by decide +kernel
theorem dX7_begins_14 : decode cX7_begins 14 = .ok (.getfield 206, 3) := by decide +kernel
theorem dX7_begins_17 : decode cX7_begins 17 = .ok (.iload_n 1, 1) := by decide +kernel
theorem dX7_begins_18 : decode cX7_begins 18 = .ok (.iastore, 1) := by decide +kernel
theorem dX7_begins_19 : decode cX7_begins 19 = .ok (.aload_n 0, 1) := by decide +kernel
theorem dX7_begins_20 : decode cX7_begins 20 = .ok (.dup, 1) := by decide +kernel
theorem dX7_begins_21 : decode cX7_begins 21 = .ok (.getfield 206, 3) := by decide +kernel
theorem dX7_begins_24 : decode cX7_begins 24 = .ok (.iconst 1, 1) := by decide +kernel
theorem dX7_begins_25 : decode cX7_begins 25 = .ok (.iadd, 1) := by decide +kernel
theorem dX7_begins_26 : decode cX7_begins 26 = .ok (.putfield 206, 3) := by decide +kernel
theorem dX7_begins_29 : decode cX7_begins 29 = .ok (.return_, 1) := by decide +kernel
theorem dX7_plainHails_0 : decode cX7_plainHails 0 = .ok (.aload_n 0, 1) := by decide +kernel
theorem dX7_plainHails_1 : decode cX7_plainHails 1 = .ok (.bipush 10, 2) := by decide +kernel
theorem dX7_plainHails_3 : decode cX7_plainHails 3 = .ok (.invokevirtual 209, 3) := by decide +kernel
theorem dX7_plainHails_6 : decode cX7_plainHails 6 = .ok (.iload_n 2, 1) := by decide +kernel
theorem dX7_plainHails_7 : decode cX7_plainHails 7 = .ok (.iload_n 1, 1) := by decide +kernel
theorem dX7_plainHails_8 : decode cX7_plainHails 8 = .ok (.iadd, 1) := by decide +kernel
theorem dX7_plainHails_9 : decode cX7_plainHails 9 = .ok (.ireturn, 1) := by decide +kernel
theorem dX7_jumperHails_0 : decode cX7_jumperHails 0 = .ok (.aload_n 0, 1) := by decide +kernel
theorem dX7_jumperHails_1 : decode cX7_jumperHails 1 = .ok (.bipush 20, 2) := by decide +kernel
theorem dX7_jumperHails_3 : decode cX7_jumperHails 3 = .ok (.invokevirtual 209, 3) := by decide +kernel
theorem dX7_jumperHails_6 : decode cX7_jumperHails 6 = .ok (.aload_n 0, 1) := by decide +kernel
theorem dX7_jumperHails_7 : decode cX7_jumperHails 7 = .ok (.iload_n 1, 1) := by decide +kernel
theorem dX7_jumperHails_8 : decode cX7_jumperHails 8 = .ok (.iload_n 2, 1) := by decide +kernel
theorem dX7_jumperHails_9 : decode cX7_jumperHails 9 = .ok (.invokevirtual 212, 3) := by decide +kernel
theorem dX7_jumperHails_12 : decode cX7_jumperHails 12 = .ok (.iconst 4, 1) := by decide +kernel
theorem dX7_jumperHails_13 : decode cX7_jumperHails 13 = .ok (.isub, 1) := by decide +kernel
theorem dX7_jumperHails_14 : decode cX7_jumperHails 14 = .ok (.ireturn, 1) := by decide +kernel
theorem dX7_hails_0 : decode cX7_hails 0 = .ok (.aload_n 0, 1) := by decide +kernel
theorem dX7_hails_1 : decode cX7_hails 1 = .ok (.iload_n 1, 1) := by decide +kernel
theorem dX7_hails_2 : decode cX7_hails 2 = .ok (.iconst 0, 1) := by decide +kernel
theorem dX7_hails_3 : decode cX7_hails 3 = .ok (.invokevirtual 72, 3) := by decide +kernel
theorem dX7_hails_6 : decode cX7_hails 6 = .ok (.lookupswitch 65 #[(1, 34), (4, 41), (6, 56)], 34) := by decide +kernel
theorem dX7_hails_40 : decode cX7_hails 40 = .ok (.aload_n 0, 1) := by decide +kernel
theorem dX7_hails_41 : decode cX7_hails 41 = .ok (.iload_n 1, 1) := by decide +kernel
theorem dX7_hails_42 : decode cX7_hails 42 = .ok (.iload_n 2, 1) := by decide +kernel
theorem dX7_hails_43 : decode cX7_hails 43 = .ok (.invokevirtual 215, 3) := by decide +kernel
theorem dX7_hails_46 : decode cX7_hails 46 = .ok (.ireturn, 1) := by decide +kernel
theorem dX7_hails_47 : decode cX7_hails 47 = .ok (.aload_n 0, 1) := by decide +kernel
theorem dX7_hails_48 : decode cX7_hails 48 = .ok (.bipush 50, 2) := by decide +kernel
theorem dX7_hails_50 : decode cX7_hails 50 = .ok (.invokevirtual 209, 3) := by decide +kernel
theorem dX7_hails_53 : decode cX7_hails 53 = .ok (.aload_n 0, 1) := by decide +kernel
theorem dX7_hails_54 : decode cX7_hails 54 = .ok (.iload_n 1, 1) := by decide +kernel
theorem dX7_hails_55 : decode cX7_hails 55 = .ok (.iload_n 2, 1) := by decide +kernel
theorem dX7_hails_56 : decode cX7_hails 56 = .ok (.invokevirtual 215, 3) := by decide +kernel
theorem dX7_hails_59 : decode cX7_hails 59 = .ok (.iconst 3, 1) := by decide +kernel
theorem dX7_hails_60 : decode cX7_hails 60 = .ok (.imul, 1) := by decide +kernel
theorem dX7_hails_61 : decode cX7_hails 61 = .ok (.ireturn, 1) := by decide +kernel
theorem dX7_hails_62 : decode cX7_hails 62 = .ok (.aload_n 0, 1) := by decide +kernel
theorem dX7_hails_63 : decode cX7_hails 63 = .ok (.bipush 70, 2) := by decide +kernel
theorem dX7_hails_65 : decode cX7_hails 65 = .ok (.invokevirtual 209, 3) := by decide +kernel
theorem dX7_hails_68 : decode cX7_hails 68 = .ok (.bipush 9, 2) := by decide +kernel
theorem dX7_hails_70 : decode cX7_hails 70 = .ok (.ireturn, 1) := by decide +kernel
theorem dX7_hails_71 : decode cX7_hails 71 = .ok (.aload_n 0, 1) := by decide +kernel
theorem dX7_hails_72 : decode cX7_hails 72 = .ok (.iload_n 1, 1) := by decide +kernel
theorem dX7_hails_73 : decode cX7_hails 73 = .ok (.iload_n 2, 1) := by decide +kernel
theorem dX7_hails_74 : decode cX7_hails 74 = .ok (.invokevirtual 212, 3) := by decide +kernel
theorem dX7_hails_77 : decode cX7_hails 77 = .ok (.ireturn, 1) := by decide +kernel
theorem dX7_plainBows_0 : decode cX7_plainBows 0 = .ok (.aload_n 0, 1) := by decide +kernel
theorem dX7_plainBows_1 : decode cX7_plainBows 1 = .ok (.bipush 11, 2) := by decide +kernel
theorem dX7_plainBows_3 : decode cX7_plainBows 3 = .ok (.invokevirtual 209, 3) := by decide +kernel
theorem dX7_plainBows_6 : decode cX7_plainBows 6 = .ok (.aload_n 0, 1) := by decide +kernel
theorem dX7_plainBows_7 : decode cX7_plainBows 7 = .ok (.iload_n 1, 1) := by decide +kernel
theorem dX7_plainBows_8 : decode cX7_plainBows 8 = .ok (.iload_n 2, 1) := by decide +kernel
theorem dX7_plainBows_9 : decode cX7_plainBows 9 = .ok (.invokevirtual 218, 3) := by decide +kernel
theorem dX7_plainBows_12 : decode cX7_plainBows 12 = .ok (.iconst 2, 1) := by decide +kernel
theorem dX7_plainBows_13 : decode cX7_plainBows 13 = .ok (.imul, 1) := by decide +kernel
theorem dX7_plainBows_14 : decode cX7_plainBows 14 = .ok (.ireturn, 1) := by decide +kernel
theorem dX7_widowBows_0 : decode cX7_widowBows 0 = .ok (.aload_n 0, 1) := by decide +kernel
theorem dX7_widowBows_1 : decode cX7_widowBows 1 = .ok (.bipush 30, 2) := by decide +kernel
theorem dX7_widowBows_3 : decode cX7_widowBows 3 = .ok (.invokevirtual 209, 3) := by decide +kernel
theorem dX7_widowBows_6 : decode cX7_widowBows 6 = .ok (.aload_n 0, 1) := by decide +kernel
theorem dX7_widowBows_7 : decode cX7_widowBows 7 = .ok (.iload_n 1, 1) := by decide +kernel
theorem dX7_widowBows_8 : decode cX7_widowBows 8 = .ok (.iload_n 2, 1) := by decide +kernel
theorem dX7_widowBows_9 : decode cX7_widowBows 9 = .ok (.invokevirtual 221, 3) := by decide +kernel
theorem dX7_widowBows_12 : decode cX7_widowBows 12 = .ok (.ineg, 1) := by decide +kernel
theorem dX7_widowBows_13 : decode cX7_widowBows 13 = .ok (.ireturn, 1) := by decide +kernel
theorem dX7_bows_0 : decode cX7_bows 0 = .ok (.aload_n 0, 1) := by decide +kernel
theorem dX7_bows_1 : decode cX7_bows 1 = .ok (.iload_n 1, 1) := by decide +kernel
theorem dX7_bows_2 : decode cX7_bows 2 = .ok (.iconst 0, 1) := by decide +kernel
theorem dX7_bows_3 : decode cX7_bows 3 = .ok (.invokevirtual 72, 3) := by decide +kernel
theorem dX7_bows_6 : decode cX7_bows 6 = .ok (.tableswitch 76 2 6 #[34, 76, 76, 41, 56], 34) := by decide +kernel
theorem dX7_bows_40 : decode cX7_bows 40 = .ok (.aload_n 0, 1) := by decide +kernel
theorem dX7_bows_41 : decode cX7_bows 41 = .ok (.iload_n 1, 1) := by decide +kernel
theorem dX7_bows_42 : decode cX7_bows 42 = .ok (.iload_n 2, 1) := by decide +kernel
theorem dX7_bows_43 : decode cX7_bows 43 = .ok (.invokevirtual 224, 3) := by decide +kernel
theorem dX7_bows_46 : decode cX7_bows 46 = .ok (.ireturn, 1) := by decide +kernel
theorem dX7_bows_47 : decode cX7_bows 47 = .ok (.aload_n 0, 1) := by decide +kernel
theorem dX7_bows_48 : decode cX7_bows 48 = .ok (.bipush 60, 2) := by decide +kernel
theorem dX7_bows_50 : decode cX7_bows 50 = .ok (.invokevirtual 209, 3) := by decide +kernel
theorem dX7_bows_53 : decode cX7_bows 53 = .ok (.aload_n 0, 1) := by decide +kernel
theorem dX7_bows_54 : decode cX7_bows 54 = .ok (.iload_n 1, 1) := by decide +kernel
theorem dX7_bows_55 : decode cX7_bows 55 = .ok (.iload_n 2, 1) := by decide +kernel
theorem dX7_bows_56 : decode cX7_bows 56 = .ok (.iconst 1, 1) := by decide +kernel
theorem dX7_bows_57 : decode cX7_bows 57 = .ok (.iadd, 1) := by decide +kernel
theorem dX7_bows_58 : decode cX7_bows 58 = .ok (.invokevirtual 224, 3) := by decide +kernel
theorem dX7_bows_61 : decode cX7_bows 61 = .ok (.ireturn, 1) := by decide +kernel
theorem dX7_bows_62 : decode cX7_bows 62 = .ok (.aload_n 0, 1) := by decide +kernel
theorem dX7_bows_63 : decode cX7_bows 63 = .ok (.bipush 71, 2) := by decide +kernel
theorem dX7_bows_65 : decode cX7_bows 65 = .ok (.invokevirtual 209, 3) := by decide +kernel
theorem dX7_bows_68 : decode cX7_bows 68 = .ok (.aload_n 0, 1) := by decide +kernel
theorem dX7_bows_69 : decode cX7_bows 69 = .ok (.iload_n 1, 1) := by decide +kernel
theorem dX7_bows_70 : decode cX7_bows 70 = .ok (.iload_n 2, 1) := by decide +kernel
theorem dX7_bows_71 : decode cX7_bows 71 = .ok (.invokevirtual 221, 3) := by decide +kernel
theorem dX7_bows_74 : decode cX7_bows 74 = .ok (.aload_n 0, 1) := by decide +kernel
theorem dX7_bows_75 : decode cX7_bows 75 = .ok (.iload_n 1, 1) := by decide +kernel
theorem dX7_bows_76 : decode cX7_bows 76 = .ok (.iconst 1, 1) := by decide +kernel
theorem dX7_bows_77 : decode cX7_bows 77 = .ok (.invokevirtual 72, 3) := by decide +kernel
theorem dX7_bows_80 : decode cX7_bows 80 = .ok (.iadd, 1) := by decide +kernel
theorem dX7_bows_81 : decode cX7_bows 81 = .ok (.ireturn, 1) := by decide +kernel
theorem dX7_bows_82 : decode cX7_bows 82 = .ok (.aload_n 0, 1) := by decide +kernel
theorem dX7_bows_83 : decode cX7_bows 83 = .ok (.iload_n 1, 1) := by decide +kernel
theorem dX7_bows_84 : decode cX7_bows 84 = .ok (.iload_n 2, 1) := by decide +kernel
theorem dX7_bows_85 : decode cX7_bows 85 = .ok (.invokevirtual 221, 3) := by decide +kernel
theorem dX7_bows_88 : decode cX7_bows 88 = .ok (.ireturn, 1) := by decide +kernel
theorem dX7_plainRings_0 : decode cX7_plainRings 0 = .ok (.aload_n 0, 1) := by decide +kernel
theorem dX7_plainRings_1 : decode cX7_plainRings 1 = .ok (.bipush 12, 2) := by decide +kernel
theorem dX7_plainRings_3 : decode cX7_plainRings 3 = .ok (.invokevirtual 209, 3) := by decide +kernel
theorem dX7_plainRings_6 : decode cX7_plainRings 6 = .ok (.aload_n 0, 1) := by decide +kernel
theorem dX7_plainRings_7 : decode cX7_plainRings 7 = .ok (.iload_n 1, 1) := by decide +kernel
theorem dX7_plainRings_8 : decode cX7_plainRings 8 = .ok (.iload_n 2, 1) := by decide +kernel
theorem dX7_plainRings_9 : decode cX7_plainRings 9 = .ok (.invokevirtual 227, 3) := by decide +kernel
theorem dX7_plainRings_12 : decode cX7_plainRings 12 = .ok (.aload_n 0, 1) := by decide +kernel
theorem dX7_plainRings_13 : decode cX7_plainRings 13 = .ok (.iload_n 1, 1) := by decide +kernel
theorem dX7_plainRings_14 : decode cX7_plainRings 14 = .ok (.iconst 1, 1) := by decide +kernel
theorem dX7_plainRings_15 : decode cX7_plainRings 15 = .ok (.invokevirtual 72, 3) := by decide +kernel
theorem dX7_plainRings_18 : decode cX7_plainRings 18 = .ok (.isub, 1) := by decide +kernel
theorem dX7_plainRings_19 : decode cX7_plainRings 19 = .ok (.ireturn, 1) := by decide +kernel
theorem dX7_rings_0 : decode cX7_rings 0 = .ok (.aload_n 0, 1) := by decide +kernel
theorem dX7_rings_1 : decode cX7_rings 1 = .ok (.iload_n 1, 1) := by decide +kernel
theorem dX7_rings_2 : decode cX7_rings 2 = .ok (.iconst 0, 1) := by decide +kernel
theorem dX7_rings_3 : decode cX7_rings 3 = .ok (.invokevirtual 72, 3) := by decide +kernel
theorem dX7_rings_6 : decode cX7_rings 6 = .ok (.lookupswitch 56 #[(3, 26), (4, 41)], 26) := by decide +kernel
theorem dX7_rings_32 : decode cX7_rings 32 = .ok (.aload_n 0, 1) := by decide +kernel
theorem dX7_rings_33 : decode cX7_rings 33 = .ok (.bipush 40, 2) := by decide +kernel
theorem dX7_rings_35 : decode cX7_rings 35 = .ok (.invokevirtual 209, 3) := by decide +kernel
theorem dX7_rings_38 : decode cX7_rings 38 = .ok (.aload_n 0, 1) := by decide +kernel
theorem dX7_rings_39 : decode cX7_rings 39 = .ok (.iload_n 1, 1) := by decide +kernel
theorem dX7_rings_40 : decode cX7_rings 40 = .ok (.iload_n 2, 1) := by decide +kernel
theorem dX7_rings_41 : decode cX7_rings 41 = .ok (.iconst 2, 1) := by decide +kernel
theorem dX7_rings_42 : decode cX7_rings 42 = .ok (.idiv, 1) := by decide +kernel
theorem dX7_rings_43 : decode cX7_rings 43 = .ok (.invokevirtual 230, 3) := by decide +kernel
theorem dX7_rings_46 : decode cX7_rings 46 = .ok (.ireturn, 1) := by decide +kernel
theorem dX7_rings_47 : decode cX7_rings 47 = .ok (.aload_n 0, 1) := by decide +kernel
theorem dX7_rings_48 : decode cX7_rings 48 = .ok (.bipush 51, 2) := by decide +kernel
theorem dX7_rings_50 : decode cX7_rings 50 = .ok (.invokevirtual 209, 3) := by decide +kernel
theorem dX7_rings_53 : decode cX7_rings 53 = .ok (.aload_n 0, 1) := by decide +kernel
theorem dX7_rings_54 : decode cX7_rings 54 = .ok (.iload_n 1, 1) := by decide +kernel
theorem dX7_rings_55 : decode cX7_rings 55 = .ok (.iload_n 2, 1) := by decide +kernel
theorem dX7_rings_56 : decode cX7_rings 56 = .ok (.invokevirtual 230, 3) := by decide +kernel
theorem dX7_rings_59 : decode cX7_rings 59 = .ok (.iload_n 1, 1) := by decide +kernel
theorem dX7_rings_60 : decode cX7_rings 60 = .ok (.ixor, 1) := by decide +kernel
theorem dX7_rings_61 : decode cX7_rings 61 = .ok (.ireturn, 1) := by decide +kernel
theorem dX7_rings_62 : decode cX7_rings 62 = .ok (.aload_n 0, 1) := by decide +kernel
theorem dX7_rings_63 : decode cX7_rings 63 = .ok (.iload_n 1, 1) := by decide +kernel
theorem dX7_rings_64 : decode cX7_rings 64 = .ok (.iload_n 2, 1) := by decide +kernel
theorem dX7_rings_65 : decode cX7_rings 65 = .ok (.invokevirtual 230, 3) := by decide +kernel
theorem dX7_rings_68 : decode cX7_rings 68 = .ok (.ireturn, 1) := by decide +kernel
theorem dX7_plainParts_0 : decode cX7_plainParts 0 = .ok (.aload_n 0, 1) := by decide +kernel
theorem dX7_plainParts_1 : decode cX7_plainParts 1 = .ok (.bipush 13, 2) := by decide +kernel
theorem dX7_plainParts_3 : decode cX7_plainParts 3 = .ok (.invokevirtual 209, 3) := by decide +kernel
theorem dX7_plainParts_6 : decode cX7_plainParts 6 = .ok (.aload_n 0, 1) := by decide +kernel
theorem dX7_plainParts_7 : decode cX7_plainParts 7 = .ok (.iload_n 1, 1) := by decide +kernel
theorem dX7_plainParts_8 : decode cX7_plainParts 8 = .ok (.iconst 1, 1) := by decide +kernel
theorem dX7_plainParts_9 : decode cX7_plainParts 9 = .ok (.invokevirtual 72, 3) := by decide +kernel
theorem dX7_plainParts_12 : decode cX7_plainParts 12 = .ok (.iload_n 1, 1) := by decide +kernel
theorem dX7_plainParts_13 : decode cX7_plainParts 13 = .ok (.isub, 1) := by decide +kernel
theorem dX7_plainParts_14 : decode cX7_plainParts 14 = .ok (.istore_n 3, 1) := by decide +kernel
theorem dX7_plainParts_15 : decode cX7_plainParts 15 = .ok (.aload_n 0, 1) := by decide +kernel
theorem dX7_plainParts_16 : decode cX7_plainParts 16 = .ok (.iload_n 3, 1) := by decide +kernel
theorem dX7_plainParts_17 : decode cX7_plainParts 17 = .ok (.ifCond .ne 7, 3) := by decide +kernel
theorem dX7_plainParts_20 : decode cX7_plainParts 20 = .ok (.iconst 1, 1) := by decide +kernel
theorem dX7_plainParts_21 : decode cX7_plainParts 21 = .ok (.goto 4, 3) := by decide +kernel
theorem dX7_plainParts_24 : decode cX7_plainParts 24 = .ok (.iconst 0, 1) := by decide +kernel
theorem dX7_plainParts_25 : decode cX7_plainParts 25 = .ok (.putfield 233, 3) := by decide +kernel
theorem dX7_plainParts_28 : decode cX7_plainParts 28 = .ok (.aload_n 0, 1) := by decide +kernel
theorem dX7_plainParts_29 : decode cX7_plainParts 29 = .ok (.getfield 233, 3) := by decide +kernel
theorem dX7_plainParts_32 : decode cX7_plainParts 32 = .ok (.ifCond .eq 7, 3) := by decide +kernel
theorem dX7_plainParts_35 : decode cX7_plainParts 35 = .ok (.iconst 0, 1) := by decide +kernel
theorem dX7_plainParts_36 : decode cX7_plainParts 36 = .ok (.goto 6, 3) := by decide +kernel
theorem dX7_plainParts_39 : decode cX7_plainParts 39 = .ok (.iload_n 2, 1) := by decide +kernel
theorem dX7_plainParts_40 : decode cX7_plainParts 40 = .ok (.iload_n 3, 1) := by decide +kernel
theorem dX7_plainParts_41 : decode cX7_plainParts 41 = .ok (.idiv, 1) := by decide +kernel
theorem dX7_plainParts_42 : decode cX7_plainParts 42 = .ok (.ireturn, 1) := by decide +kernel
theorem dX7_parts_0 : decode cX7_parts 0 = .ok (.aload_n 0, 1) := by decide +kernel
theorem dX7_parts_1 : decode cX7_parts 1 = .ok (.iload_n 1, 1) := by decide +kernel
theorem dX7_parts_2 : decode cX7_parts 2 = .ok (.iconst 0, 1) := by decide +kernel
theorem dX7_parts_3 : decode cX7_parts 3 = .ok (.invokevirtual 72, 3) := by decide +kernel
theorem dX7_parts_6 : decode cX7_parts 6 = .ok (.iconst 1, 1) := by decide +kernel
theorem dX7_parts_7 : decode cX7_parts 7 = .ok (.if_icmp .eq 13, 3) := by decide +kernel
theorem dX7_parts_10 : decode cX7_parts 10 = .ok (.aload_n 0, 1) := by decide +kernel
theorem dX7_parts_11 : decode cX7_parts 11 = .ok (.iload_n 1, 1) := by decide +kernel
theorem dX7_parts_12 : decode cX7_parts 12 = .ok (.iconst 0, 1) := by decide +kernel
theorem dX7_parts_13 : decode cX7_parts 13 = .ok (.invokevirtual 72, 3) := by decide +kernel
theorem dX7_parts_16 : decode cX7_parts 16 = .ok (.iconst 4, 1) := by decide +kernel
theorem dX7_parts_17 : decode cX7_parts 17 = .ok (.if_icmp .ne 36, 3) := by decide +kernel
theorem dX7_parts_20 : decode cX7_parts 20 = .ok (.aload_n 0, 1) := by decide +kernel
theorem dX7_parts_21 : decode cX7_parts 21 = .ok (.bipush 21, 2) := by decide +kernel
theorem dX7_parts_23 : decode cX7_parts 23 = .ok (.invokevirtual 209, 3) := by decide +kernel
theorem dX7_parts_26 : decode cX7_parts 26 = .ok (.aload_n 0, 1) := by decide +kernel
theorem dX7_parts_27 : decode cX7_parts 27 = .ok (.iload_n 1, 1) := by decide +kernel
theorem dX7_parts_28 : decode cX7_parts 28 = .ok (.iload_n 2, 1) := by decide +kernel
theorem dX7_parts_29 : decode cX7_parts 29 = .ok (.invokevirtual 236, 3) := by decide +kernel
theorem dX7_parts_32 : decode cX7_parts 32 = .ok (.istore_n 3, 1) := by decide +kernel
theorem dX7_parts_33 : decode cX7_parts 33 = .ok (.aload_n 0, 1) := by decide +kernel
theorem dX7_parts_34 : decode cX7_parts 34 = .ok (.getfield 233, 3) := by decide +kernel
theorem dX7_parts_37 : decode cX7_parts 37 = .ok (.ifCond .eq 7, 3) := by decide +kernel
theorem dX7_parts_40 : decode cX7_parts 40 = .ok (.iconst 0, 1) := by decide +kernel
theorem dX7_parts_41 : decode cX7_parts 41 = .ok (.goto 11, 3) := by decide +kernel
theorem dX7_parts_44 : decode cX7_parts 44 = .ok (.iload_n 3, 1) := by decide +kernel
theorem dX7_parts_45 : decode cX7_parts 45 = .ok (.aload_n 0, 1) := by decide +kernel
theorem dX7_parts_46 : decode cX7_parts 46 = .ok (.iload_n 1, 1) := by decide +kernel
theorem dX7_parts_47 : decode cX7_parts 47 = .ok (.iconst 1, 1) := by decide +kernel
theorem dX7_parts_48 : decode cX7_parts 48 = .ok (.invokevirtual 227, 3) := by decide +kernel
theorem dX7_parts_51 : decode cX7_parts 51 = .ok (.iadd, 1) := by decide +kernel
theorem dX7_parts_52 : decode cX7_parts 52 = .ok (.ireturn, 1) := by decide +kernel
theorem dX7_parts_53 : decode cX7_parts 53 = .ok (.aload_n 0, 1) := by decide +kernel
theorem dX7_parts_54 : decode cX7_parts 54 = .ok (.iload_n 1, 1) := by decide +kernel
theorem dX7_parts_55 : decode cX7_parts 55 = .ok (.iload_n 2, 1) := by decide +kernel
theorem dX7_parts_56 : decode cX7_parts 56 = .ok (.invokevirtual 236, 3) := by decide +kernel
theorem dX7_parts_59 : decode cX7_parts 59 = .ok (.ireturn, 1) := by decide +kernel
theorem dX7_voice_0 : decode cX7_voice 0 = .ok (.aload_n 0, 1) := by decide +kernel
theorem dX7_voice_1 : decode cX7_voice 1 = .ok (.iload_n 1, 1) := by decide +kernel
theorem dX7_voice_2 : decode cX7_voice 2 = .ok (.invokevirtual 104, 3) := by decide +kernel
theorem dX7_voice_5 : decode cX7_voice 5 = .ok (.ifCond .eq 12, 3) := by decide +kernel
theorem dX7_voice_8 : decode cX7_voice 8 = .ok (.iload_n 2, 1) := by decide +kernel
theorem dX7_voice_9 : decode cX7_voice 9 = .ok (.iconst 0, 1) := by decide +kernel
theorem dX7_voice_10 : decode cX7_voice 10 = .ok (.iconst 3, 1) := by decide +kernel
theorem dX7_voice_11 : decode cX7_voice 11 = .ok (.invokestatic 47, 3) := by decide +kernel
theorem dX7_voice_14 : decode cX7_voice 14 = .ok (.ifCond .ne 10, 3) := by decide +kernel
theorem dX7_voice_17 : decode cX7_voice 17 = .ok (.aload_n 0, 1) := by decide +kernel
theorem dX7_voice_18 : decode cX7_voice 18 = .ok (.ldc 55, 2) := by decide +kernel
theorem dX7_voice_20 : decode cX7_voice 20 = .ok (.invokevirtual 56, 3) := by decide +kernel
theorem dX7_voice_23 : decode cX7_voice 23 = .ok (.ireturn, 1) := by decide +kernel
theorem dX7_voice_24 : decode cX7_voice 24 = .ok (.aload_n 0, 1) := by decide +kernel
theorem dX7_voice_25 : decode cX7_voice 25 = .ok (.iconst 0, 1) := by decide +kernel
theorem dX7_voice_26 : decode cX7_voice 26 = .ok (.putfield 206, 3) := by decide +kernel
theorem dX7_voice_29 : decode cX7_voice 29 = .ok (.aload_n 0, 1) := by decide +kernel
theorem dX7_voice_30 : decode cX7_voice 30 = .ok (.iconst 0, 1) := by decide +kernel
theorem dX7_voice_31 : decode cX7_voice 31 = .ok (.putfield 233, 3) := by decide +kernel
theorem dX7_voice_34 : decode cX7_voice 34 = .ok (.iload_n 2, 1) := by decide +kernel
theorem dX7_voice_35 : decode cX7_voice 35 = .ok (.ifCond .ne 12, 3) := by decide +kernel
theorem dX7_voice_38 : decode cX7_voice 38 = .ok (.aload_n 0, 1) := by decide +kernel
theorem dX7_voice_39 : decode cX7_voice 39 = .ok (.iload_n 1, 1) := by decide +kernel
theorem dX7_voice_40 : decode cX7_voice 40 = .ok (.iload_n 3, 1) := by decide +kernel
theorem dX7_voice_41 : decode cX7_voice 41 = .ok (.invokevirtual 218, 3) := by decide +kernel
theorem dX7_voice_44 : decode cX7_voice 44 = .ok (.goto 37, 3) := by decide +kernel
theorem dX7_voice_47 : decode cX7_voice 47 = .ok (.iload_n 2, 1) := by decide +kernel
theorem dX7_voice_48 : decode cX7_voice 48 = .ok (.iconst 1, 1) := by decide +kernel
theorem dX7_voice_49 : decode cX7_voice 49 = .ok (.if_icmp .ne 12, 3) := by decide +kernel
theorem dX7_voice_52 : decode cX7_voice 52 = .ok (.aload_n 0, 1) := by decide +kernel
theorem dX7_voice_53 : decode cX7_voice 53 = .ok (.iload_n 1, 1) := by decide +kernel
theorem dX7_voice_54 : decode cX7_voice 54 = .ok (.iload_n 3, 1) := by decide +kernel
theorem dX7_voice_55 : decode cX7_voice 55 = .ok (.invokevirtual 227, 3) := by decide +kernel
theorem dX7_voice_58 : decode cX7_voice 58 = .ok (.goto 23, 3) := by decide +kernel
theorem dX7_voice_61 : decode cX7_voice 61 = .ok (.iload_n 2, 1) := by decide +kernel
theorem dX7_voice_62 : decode cX7_voice 62 = .ok (.iconst 2, 1) := by decide +kernel
theorem dX7_voice_63 : decode cX7_voice 63 = .ok (.if_icmp .ne 12, 3) := by decide +kernel
theorem dX7_voice_66 : decode cX7_voice 66 = .ok (.aload_n 0, 1) := by decide +kernel
theorem dX7_voice_67 : decode cX7_voice 67 = .ok (.iload_n 1, 1) := by decide +kernel
theorem dX7_voice_68 : decode cX7_voice 68 = .ok (.iload_n 3, 1) := by decide +kernel
theorem dX7_voice_69 : decode cX7_voice 69 = .ok (.invokevirtual 239, 3) := by decide +kernel
theorem dX7_voice_72 : decode cX7_voice 72 = .ok (.goto 9, 3) := by decide +kernel
theorem dX7_voice_75 : decode cX7_voice 75 = .ok (.aload_n 0, 1) := by decide +kernel
theorem dX7_voice_76 : decode cX7_voice 76 = .ok (.iload_n 1, 1) := by decide +kernel
theorem dX7_voice_77 : decode cX7_voice 77 = .ok (.iload_n 3, 1) := by decide +kernel
theorem dX7_voice_78 : decode cX7_voice 78 = .ok (.invokevirtual 242, 3) := by decide +kernel
theorem dX7_voice_81 : decode cX7_voice 81 = .ok (.istore 4, 2) := by decide +kernel
theorem dX7_voice_83 : decode cX7_voice 83 = .ok (.aload_n 0, 1) := by decide +kernel
theorem dX7_voice_84 : decode cX7_voice 84 = .ok (.getfield 233, 3) := by decide +kernel
theorem dX7_voice_87 : decode cX7_voice 87 = .ok (.ifCond .eq 12, 3) := by decide +kernel
theorem dX7_voice_90 : decode cX7_voice 90 = .ok (.aload_n 0, 1) := by decide +kernel
theorem dX7_voice_91 : decode cX7_voice 91 = .ok (.ldc 245, 2) := by decide +kernel
theorem dX7_voice_93 : decode cX7_voice 93 = .ok (.invokevirtual 56, 3) := by decide +kernel
theorem dX7_voice_96 : decode cX7_voice 96 = .ok (.goto 5, 3) := by decide +kernel
theorem dX7_voice_99 : decode cX7_voice 99 = .ok (.iload 4, 2) := by decide +kernel
theorem dX7_voice_101 : decode cX7_voice 101 = .ok (.ireturn, 1) := by decide +kernel
theorem dX7_body_0 : decode cX7_body 0 = .ok (.iload_n 1, 1) := by decide +kernel
theorem dX7_body_1 : decode cX7_body 1 = .ok (.iconst 0, 1) := by decide +kernel
theorem dX7_body_2 : decode cX7_body 2 = .ok (.aload_n 0, 1) := by decide +kernel
theorem dX7_body_3 : decode cX7_body 3 = .ok (.getfield 206, 3) := by decide +kernel
theorem dX7_body_6 : decode cX7_body 6 = .ok (.iconst 1, 1) := by decide +kernel
theorem dX7_body_7 : decode cX7_body 7 = .ok (.isub, 1) := by decide +kernel
theorem dX7_body_8 : decode cX7_body 8 = .ok (.invokestatic 47, 3) := by decide +kernel
theorem dX7_body_11 : decode cX7_body 11 = .ok (.ifCond .eq 12, 3) := by decide +kernel
theorem dX7_body_14 : decode cX7_body 14 = .ok (.aload_n 0, 1) := by decide +kernel
theorem dX7_body_15 : decode cX7_body 15 = .ok (.getfield 43, 3) := by decide +kernel
theorem dX7_body_18 : decode cX7_body 18 = .ok (.iload_n 1, 1) := by decide +kernel
theorem dX7_body_19 : decode cX7_body 19 = .ok (.iaload, 1) := by decide +kernel
theorem dX7_body_20 : decode cX7_body 20 = .ok (.goto 9, 3) := by decide +kernel
theorem dX7_body_23 : decode cX7_body 23 = .ok (.aload_n 0, 1) := by decide +kernel
theorem dX7_body_24 : decode cX7_body 24 = .ok (.ldc 190, 2) := by decide +kernel
theorem dX7_body_26 : decode cX7_body 26 = .ok (.invokevirtual 56, 3) := by decide +kernel
theorem dX7_body_29 : decode cX7_body 29 = .ok (.ireturn, 1) := by decide +kernel
theorem dX7_isSheet_0 : decode cX7_isSheet 0 = .ok (.iload_n 0, 1) := by decide +kernel
theorem dX7_isSheet_1 : decode cX7_isSheet 1 = .ok (.iconst 0, 1) := by decide +kernel
theorem dX7_isSheet_2 : decode cX7_isSheet 2 = .ok (.iconst 3, 1) := by decide +kernel
theorem dX7_isSheet_3 : decode cX7_isSheet 3 = .ok (.invokestatic 47, 3) := by decide +kernel
theorem dX7_isSheet_6 : decode cX7_isSheet 6 = .ok (.ireturn, 1) := by decide +kernel
theorem dX7_sheet_0 : decode cX7_sheet 0 = .ok (.iload_n 1, 1) := by decide +kernel
theorem dX7_sheet_1 : decode cX7_sheet 1 = .ok (.invokestatic 246, 3) := by decide +kernel
theorem dX7_sheet_4 : decode cX7_sheet 4 = .ok (.ifCond .eq 25, 3) := by decide +kernel
theorem dX7_sheet_7 : decode cX7_sheet 7 = .ok (.iload_n 2, 1) := by decide +kernel
theorem dX7_sheet_8 : decode cX7_sheet 8 = .ok (.ifCond .eq 28, 3) := by decide +kernel
theorem dX7_sheet_11 : decode cX7_sheet 11 = .ok (.iload_n 2, 1) := by decide +kernel
theorem dX7_sheet_12 : decode cX7_sheet 12 = .ok (.bipush 8, 2) := by decide +kernel
theorem dX7_sheet_14 : decode cX7_sheet 14 = .ok (.if_icmp .eq 22, 3) := by decide +kernel
theorem dX7_sheet_17 : decode cX7_sheet 17 = .ok (.iload_n 2, 1) := by decide +kernel
theorem dX7_sheet_18 : decode cX7_sheet 18 = .ok (.bipush 16, 2) := by decide +kernel
theorem dX7_sheet_20 : decode cX7_sheet 20 = .ok (.if_icmp .eq 16, 3) := by decide +kernel
theorem dX7_sheet_23 : decode cX7_sheet 23 = .ok (.iload_n 2, 1) := by decide +kernel
theorem dX7_sheet_24 : decode cX7_sheet 24 = .ok (.bipush 32, 2) := by decide +kernel
theorem dX7_sheet_26 : decode cX7_sheet 26 = .ok (.if_icmp .eq 10, 3) := by decide +kernel
theorem dX7_sheet_29 : decode cX7_sheet 29 = .ok (.aload_n 0, 1) := by decide +kernel
theorem dX7_sheet_30 : decode cX7_sheet 30 = .ok (.ldc 55, 2) := by decide +kernel
theorem dX7_sheet_32 : decode cX7_sheet 32 = .ok (.invokevirtual 56, 3) := by decide +kernel
theorem dX7_sheet_35 : decode cX7_sheet 35 = .ok (.ireturn, 1) := by decide +kernel
theorem dX7_sheet_36 : decode cX7_sheet 36 = .ok (.iload_n 2, 1) := by decide +kernel
theorem dX7_sheet_37 : decode cX7_sheet 37 = .ok (.ifCond .le 14, 3) := by decide +kernel
theorem dX7_sheet_40 : decode cX7_sheet 40 = .ok (.iload_n 3, 1) := by decide +kernel
theorem dX7_sheet_41 : decode cX7_sheet 41 = .ok (.ifCond .ge 10, 3) := by decide +kernel
theorem dX7_sheet_44 : decode cX7_sheet 44 = .ok (.aload_n 0, 1) := by decide +kernel
theorem dX7_sheet_45 : decode cX7_sheet 45 = .ok (.ldc 118, 2) := by decide +kernel
theorem dX7_sheet_47 : decode cX7_sheet 47 = .ok (.invokevirtual 56, 3) := by decide +kernel
theorem dX7_sheet_50 : decode cX7_sheet 50 = .ok (.ireturn, 1) := by decide +kernel
theorem dX7_sheet_51 : decode cX7_sheet 51 = .ok (.iload_n 2, 1) := by decide +kernel
theorem dX7_sheet_52 : decode cX7_sheet 52 = .ok (.ifCond .le 16, 3) := by decide +kernel
theorem dX7_sheet_55 : decode cX7_sheet 55 = .ok (.iload_n 3, 1) := by decide +kernel
theorem dX7_sheet_56 : decode cX7_sheet 56 = .ok (.bipush 24, 2) := by decide +kernel
theorem dX7_sheet_58 : decode cX7_sheet 58 = .ok (.if_icmp .le 10, 3) := by decide +kernel
theorem dX7_sheet_61 : decode cX7_sheet 61 = .ok (.aload_n 0, 1) := by decide +kernel
theorem dX7_sheet_62 : decode cX7_sheet 62 = .ok (.ldc 55, 2) := by decide +kernel
theorem dX7_sheet_64 : decode cX7_sheet 64 = .ok (.invokevirtual 56, 3) := by decide +kernel
theorem dX7_sheet_67 : decode cX7_sheet 67 = .ok (.ireturn, 1) := by decide +kernel
theorem dX7_sheet_68 : decode cX7_sheet 68 = .ok (.aload_n 0, 1) := by decide +kernel
theorem dX7_sheet_69 : decode cX7_sheet 69 = .ok (.getfield 19, 3) := by decide +kernel
theorem dX7_sheet_72 : decode cX7_sheet 72 = .ok (.iload_n 1, 1) := by decide +kernel
theorem dX7_sheet_73 : decode cX7_sheet 73 = .ok (.iload_n 2, 1) := by decide +kernel
theorem dX7_sheet_74 : decode cX7_sheet 74 = .ok (.iastore, 1) := by decide +kernel
theorem dX7_sheet_75 : decode cX7_sheet 75 = .ok (.aload_n 0, 1) := by decide +kernel
theorem dX7_sheet_76 : decode cX7_sheet 76 = .ok (.getfield 22, 3) := by decide +kernel
theorem dX7_sheet_79 : decode cX7_sheet 79 = .ok (.iload_n 1, 1) := by decide +kernel
theorem dX7_sheet_80 : decode cX7_sheet 80 = .ok (.iload_n 2, 1) := by decide +kernel
theorem dX7_sheet_81 : decode cX7_sheet 81 = .ok (.ifCond .ne 7, 3) := by decide +kernel
theorem dX7_sheet_84 : decode cX7_sheet 84 = .ok (.iconst 0, 1) := by decide +kernel
theorem dX7_sheet_85 : decode cX7_sheet 85 = .ok (.goto 4, 3) := by decide +kernel
theorem dX7_sheet_88 : decode cX7_sheet 88 = .ok (.iload_n 3, 1) := by decide +kernel
theorem dX7_sheet_89 : decode cX7_sheet 89 = .ok (.iastore, 1) := by decide +kernel
theorem dX7_sheet_90 : decode cX7_sheet 90 = .ok (.iconst 0, 1) := by decide +kernel
theorem dX7_sheet_91 : decode cX7_sheet 91 = .ok (.istore 4, 2) := by decide +kernel
theorem dX7_sheet_93 : decode cX7_sheet 93 = .ok (.iload 4, 2) := by decide +kernel
theorem dX7_sheet_95 : decode cX7_sheet 95 = .ok (.bipush 24, 2) := by decide +kernel
theorem dX7_sheet_97 : decode cX7_sheet 97 = .ok (.if_icmp .ge 22, 3) := by decide +kernel
theorem dX7_sheet_100 : decode cX7_sheet 100 = .ok (.aload_n 0, 1) := by decide +kernel
theorem dX7_sheet_101 : decode cX7_sheet 101 = .ok (.getfield 25, 3) := by decide +kernel
theorem dX7_sheet_104 : decode cX7_sheet 104 = .ok (.bipush 24, 2) := by decide +kernel
theorem dX7_sheet_106 : decode cX7_sheet 106 = .ok (.iload_n 1, 1) := by decide +kernel
theorem dX7_sheet_107 : decode cX7_sheet 107 = .ok (.imul, 1) := by decide +kernel
theorem dX7_sheet_108 : decode cX7_sheet 108 = .ok (.iload 4, 2) := by decide +kernel
theorem dX7_sheet_110 : decode cX7_sheet 110 = .ok (.iadd, 1) := by decide +kernel
theorem dX7_sheet_111 : decode cX7_sheet 111 = .ok (.iconst 0, 1) := by decide +kernel
theorem dX7_sheet_112 : decode cX7_sheet 112 = .ok (.iastore, 1) := by decide +kernel
theorem dX7_sheet_113 : decode cX7_sheet 113 = .ok (.iinc 4 1, 3) := by decide +kernel
theorem dX7_sheet_116 : decode cX7_sheet 116 = .ok (.goto (-23), 3) := by decide +kernel
theorem dX7_sheet_119 : decode cX7_sheet 119 = .ok (.iconst 1, 1) := by decide +kernel
theorem dX7_sheet_120 : decode cX7_sheet 120 = .ok (.ireturn, 1) := by decide +kernel
theorem dX7_notThere_0 : decode cX7_notThere 0 = .ok (.iload_n 1, 1) := by decide +kernel
theorem dX7_notThere_1 : decode cX7_notThere 1 = .ok (.invokestatic 246, 3) := by decide +kernel
theorem dX7_notThere_4 : decode cX7_notThere 4 = .ok (.ifCond .ne 8, 3) := by decide +kernel
theorem dX7_notThere_7 : decode cX7_notThere 7 = .ok (.ldc 55, 2) := by decide +kernel
theorem dX7_notThere_9 : decode cX7_notThere 9 = .ok (.goto 18, 3) := by decide +kernel
theorem dX7_notThere_12 : decode cX7_notThere 12 = .ok (.aload_n 0, 1) := by decide +kernel
theorem dX7_notThere_13 : decode cX7_notThere 13 = .ok (.getfield 19, 3) := by decide +kernel
theorem dX7_notThere_16 : decode cX7_notThere 16 = .ok (.iload_n 1, 1) := by decide +kernel
theorem dX7_notThere_17 : decode cX7_notThere 17 = .ok (.iaload, 1) := by decide +kernel
theorem dX7_notThere_18 : decode cX7_notThere 18 = .ok (.ifCond .ne 8, 3) := by decide +kernel
theorem dX7_notThere_21 : decode cX7_notThere 21 = .ok (.ldc 190, 2) := by decide +kernel
theorem dX7_notThere_23 : decode cX7_notThere 23 = .ok (.goto 4, 3) := by decide +kernel
theorem dX7_notThere_26 : decode cX7_notThere 26 = .ok (.iconst 0, 1) := by decide +kernel
theorem dX7_notThere_27 : decode cX7_notThere 27 = .ok (.ireturn, 1) := by decide +kernel
theorem dX7_put_0 : decode cX7_put 0 = .ok (.aload_n 0, 1) := by decide +kernel
theorem dX7_put_1 : decode cX7_put 1 = .ok (.iload_n 1, 1) := by decide +kernel
theorem dX7_put_2 : decode cX7_put 2 = .ok (.invokevirtual 203, 3) := by decide +kernel
theorem dX7_put_5 : decode cX7_put 5 = .ok (.istore 4, 2) := by decide +kernel
theorem dX7_put_7 : decode cX7_put 7 = .ok (.iload 4, 2) := by decide +kernel
theorem dX7_put_9 : decode cX7_put 9 = .ok (.ifCond .ne 24, 3) := by decide +kernel
theorem dX7_put_12 : decode cX7_put 12 = .ok (.iload_n 2, 1) := by decide +kernel
theorem dX7_put_13 : decode cX7_put 13 = .ok (.iconst 0, 1) := by decide +kernel
theorem dX7_put_14 : decode cX7_put 14 = .ok (.aload_n 0, 1) := by decide +kernel
theorem dX7_put_15 : decode cX7_put 15 = .ok (.getfield 22, 3) := by decide +kernel
theorem dX7_put_18 : decode cX7_put 18 = .ok (.iload_n 1, 1) := by decide +kernel
theorem dX7_put_19 : decode cX7_put 19 = .ok (.iaload, 1) := by decide +kernel
theorem dX7_put_20 : decode cX7_put 20 = .ok (.iconst 1, 1) := by decide +kernel
theorem dX7_put_21 : decode cX7_put 21 = .ok (.isub, 1) := by decide +kernel
theorem dX7_put_22 : decode cX7_put 22 = .ok (.invokestatic 47, 3) := by decide +kernel
theorem dX7_put_25 : decode cX7_put 25 = .ok (.ifCond .ne 8, 3) := by decide +kernel
theorem dX7_put_28 : decode cX7_put 28 = .ok (.ldc 55, 2) := by decide +kernel
theorem dX7_put_30 : decode cX7_put 30 = .ok (.goto 5, 3) := by decide +kernel
theorem dX7_put_33 : decode cX7_put 33 = .ok (.iload 4, 2) := by decide +kernel
theorem dX7_put_35 : decode cX7_put 35 = .ok (.istore 4, 2) := by decide +kernel
theorem dX7_put_37 : decode cX7_put 37 = .ok (.iload 4, 2) := by decide +kernel
theorem dX7_put_39 : decode cX7_put 39 = .ok (.ifCond .eq 10, 3) := by decide +kernel
theorem dX7_put_42 : decode cX7_put 42 = .ok (.aload_n 0, 1) := by decide +kernel
theorem dX7_put_43 : decode cX7_put 43 = .ok (.iload 4, 2) := by decide +kernel
theorem dX7_put_45 : decode cX7_put 45 = .ok (.invokevirtual 56, 3) := by decide +kernel
theorem dX7_put_48 : decode cX7_put 48 = .ok (.ireturn, 1) := by decide +kernel
theorem dX7_put_49 : decode cX7_put 49 = .ok (.aload_n 0, 1) := by decide +kernel
theorem dX7_put_50 : decode cX7_put 50 = .ok (.getfield 25, 3) := by decide +kernel
theorem dX7_put_53 : decode cX7_put 53 = .ok (.bipush 24, 2) := by decide +kernel
theorem dX7_put_55 : decode cX7_put 55 = .ok (.iload_n 1, 1) := by decide +kernel
theorem dX7_put_56 : decode cX7_put 56 = .ok (.imul, 1) := by decide +kernel
theorem dX7_put_57 : decode cX7_put 57 = .ok (.iload_n 2, 1) := by decide +kernel
theorem dX7_put_58 : decode cX7_put 58 = .ok (.iadd, 1) := by decide +kernel
theorem dX7_put_59 : decode cX7_put 59 = .ok (.aload_n 0, 1) := by decide +kernel
theorem dX7_put_60 : decode cX7_put 60 = .ok (.getfield 19, 3) := by decide +kernel
theorem dX7_put_63 : decode cX7_put 63 = .ok (.iload_n 1, 1) := by decide +kernel
theorem dX7_put_64 : decode cX7_put 64 = .ok (.iaload, 1) := by decide +kernel
theorem dX7_put_65 : decode cX7_put 65 = .ok (.bipush 8, 2) := by decide +kernel
theorem dX7_put_67 : decode cX7_put 67 = .ok (.if_icmp .ne 8, 3) := by decide +kernel
theorem dX7_put_70 : decode cX7_put 70 = .ok (.iload_n 3, 1) := by decide +kernel
theorem dX7_put_71 : decode cX7_put 71 = .ok (.i2b, 1) := by decide +kernel
theorem dX7_put_72 : decode cX7_put 72 = .ok (.goto 20, 3) := by decide +kernel
theorem dX7_put_75 : decode cX7_put 75 = .ok (.aload_n 0, 1) := by decide +kernel
theorem dX7_put_76 : decode cX7_put 76 = .ok (.getfield 19, 3) := by decide +kernel
theorem dX7_put_79 : decode cX7_put 79 = .ok (.iload_n 1, 1) := by decide +kernel
theorem dX7_put_80 : decode cX7_put 80 = .ok (.iaload, 1) := by decide +kernel
theorem dX7_put_81 : decode cX7_put 81 = .ok (.bipush 16, 2) := by decide +kernel
theorem dX7_put_83 : decode cX7_put 83 = .ok (.if_icmp .ne 8, 3) := by decide +kernel
theorem dX7_put_86 : decode cX7_put 86 = .ok (.iload_n 3, 1) := by decide +kernel
theorem dX7_put_87 : decode cX7_put 87 = .ok (.i2s, 1) := by decide +kernel
theorem dX7_put_88 : decode cX7_put 88 = .ok (.goto 4, 3) := by decide +kernel
theorem dX7_put_91 : decode cX7_put 91 = .ok (.iload_n 3, 1) := by decide +kernel
theorem dX7_put_92 : decode cX7_put 92 = .ok (.iastore, 1) := by decide +kernel
theorem dX7_put_93 : decode cX7_put 93 = .ok (.iconst 1, 1) := by decide +kernel
theorem dX7_put_94 : decode cX7_put 94 = .ok (.ireturn, 1) := by decide +kernel
theorem dX7_notMoved_0 : decode cX7_notMoved 0 = .ok (.iload_n 1, 1) := by decide +kernel
theorem dX7_notMoved_1 : decode cX7_notMoved 1 = .ok (.invokestatic 246, 3) := by decide +kernel
theorem dX7_notMoved_4 : decode cX7_notMoved 4 = .ok (.ifCond .eq 10, 3) := by decide +kernel
theorem dX7_notMoved_7 : decode cX7_notMoved 7 = .ok (.iload_n 3, 1) := by decide +kernel
theorem dX7_notMoved_8 : decode cX7_notMoved 8 = .ok (.invokestatic 246, 3) := by decide +kernel
theorem dX7_notMoved_11 : decode cX7_notMoved 11 = .ok (.ifCond .ne 6, 3) := by decide +kernel
theorem dX7_notMoved_14 : decode cX7_notMoved 14 = .ok (.ldc 55, 2) := by decide +kernel
theorem dX7_notMoved_16 : decode cX7_notMoved 16 = .ok (.ireturn, 1) := by decide +kernel
theorem dX7_notMoved_17 : decode cX7_notMoved 17 = .ok (.aload_n 0, 1) := by decide +kernel
theorem dX7_notMoved_18 : decode cX7_notMoved 18 = .ok (.getfield 19, 3) := by decide +kernel
theorem dX7_notMoved_21 : decode cX7_notMoved 21 = .ok (.iload_n 1, 1) := by decide +kernel
theorem dX7_notMoved_22 : decode cX7_notMoved 22 = .ok (.iaload, 1) := by decide +kernel
theorem dX7_notMoved_23 : decode cX7_notMoved 23 = .ok (.ifCond .eq 12, 3) := by decide +kernel
theorem dX7_notMoved_26 : decode cX7_notMoved 26 = .ok (.aload_n 0, 1) := by decide +kernel
theorem dX7_notMoved_27 : decode cX7_notMoved 27 = .ok (.getfield 19, 3) := by decide +kernel
theorem dX7_notMoved_30 : decode cX7_notMoved 30 = .ok (.iload_n 3, 1) := by decide +kernel
theorem dX7_notMoved_31 : decode cX7_notMoved 31 = .ok (.iaload, 1) := by decide +kernel
theorem dX7_notMoved_32 : decode cX7_notMoved 32 = .ok (.ifCond .ne 6, 3) := by decide +kernel
theorem dX7_notMoved_35 : decode cX7_notMoved 35 = .ok (.ldc 190, 2) := by decide +kernel
theorem dX7_notMoved_37 : decode cX7_notMoved 37 = .ok (.ireturn, 1) := by decide +kernel
theorem dX7_notMoved_38 : decode cX7_notMoved 38 = .ok (.aload_n 0, 1) := by decide +kernel
theorem dX7_notMoved_39 : decode cX7_notMoved 39 = .ok (.getfield 19, 3) := by decide +kernel
theorem dX7_notMoved_42 : decode cX7_notMoved 42 = .ok (.iload_n 1, 1) := by decide +kernel
theorem dX7_notMoved_43 : decode cX7_notMoved 43 = .ok (.iaload, 1) := by decide +kernel
theorem dX7_notMoved_44 : decode cX7_notMoved 44 = .ok (.aload_n 0, 1) := by decide +kernel
theorem dX7_notMoved_45 : decode cX7_notMoved 45 = .ok (.getfield 19, 3) := by decide +kernel
theorem dX7_notMoved_48 : decode cX7_notMoved 48 = .ok (.iload_n 3, 1) := by decide +kernel
theorem dX7_notMoved_49 : decode cX7_notMoved 49 = .ok (.iaload, 1) := by decide +kernel
theorem dX7_notMoved_50 : decode cX7_notMoved 50 = .ok (.if_icmp .eq 6, 3) := by decide +kernel
theorem dX7_notMoved_53 : decode cX7_notMoved 53 = .ok (.ldc 113, 2) := by decide +kernel
theorem dX7_notMoved_55 : decode cX7_notMoved 55 = .ok (.ireturn, 1) := by decide +kernel
theorem dX7_notMoved_56 : decode cX7_notMoved 56 = .ok (.iload 5, 2) := by decide +kernel
theorem dX7_notMoved_58 : decode cX7_notMoved 58 = .ok (.ifCond .lt 43, 3) := by decide +kernel
theorem dX7_notMoved_61 : decode cX7_notMoved 61 = .ok (.iload_n 2, 1) := by decide +kernel
theorem dX7_notMoved_62 : decode cX7_notMoved 62 = .ok (.ifCond .lt 39, 3) := by decide +kernel
theorem dX7_notMoved_65 : decode cX7_notMoved 65 = .ok (.iload 4, 2) := by decide +kernel
theorem dX7_notMoved_67 : decode cX7_notMoved 67 = .ok (.ifCond .lt 34, 3) := by decide +kernel
theorem dX7_notMoved_70 : decode cX7_notMoved 70 = .ok (.iload 5, 2) := by decide +kernel
theorem dX7_notMoved_72 : decode cX7_notMoved 72 = .ok (.aload_n 0, 1) := by decide +kernel
theorem dX7_notMoved_73 : decode cX7_notMoved 73 = .ok (.getfield 22, 3) := by decide +kernel
theorem dX7_notMoved_76 : decode cX7_notMoved 76 = .ok (.iload_n 1, 1) := by decide +kernel
theorem dX7_notMoved_77 : decode cX7_notMoved 77 = .ok (.iaload, 1) := by decide +kernel
theorem dX7_notMoved_78 : decode cX7_notMoved 78 = .ok (.iload_n 2, 1) := by decide +kernel
theorem dX7_notMoved_79 : decode cX7_notMoved 79 = .ok (.isub, 1) := by decide +kernel
theorem dX7_notMoved_80 : decode cX7_notMoved 80 = .ok (.if_icmp .gt 21, 3) := by decide +kernel
theorem dX7_notMoved_83 : decode cX7_notMoved 83 = .ok (.iload 5, 2) := by decide +kernel
theorem dX7_notMoved_85 : decode cX7_notMoved 85 = .ok (.aload_n 0, 1) := by decide +kernel
theorem dX7_notMoved_86 : decode cX7_notMoved 86 = .ok (.getfield 22, 3) := by decide +kernel
theorem dX7_notMoved_89 : decode cX7_notMoved 89 = .ok (.iload_n 3, 1) := by decide +kernel
theorem dX7_notMoved_90 : decode cX7_notMoved 90 = .ok (.iaload, 1) := by decide +kernel
theorem dX7_notMoved_91 : decode cX7_notMoved 91 = .ok (.iload 4, 2) := by decide +kernel
theorem dX7_notMoved_93 : decode cX7_notMoved 93 = .ok (.isub, 1) := by decide +kernel
theorem dX7_notMoved_94 : decode cX7_notMoved 94 = .ok (.if_icmp .gt 7, 3) := by decide +kernel
theorem dX7_notMoved_97 : decode cX7_notMoved 97 = .ok (.iconst 1, 1) := by decide +kernel
theorem dX7_notMoved_98 : decode cX7_notMoved 98 = .ok (.goto 4, 3) := by decide +kernel
theorem dX7_notMoved_101 : decode cX7_notMoved 101 = .ok (.iconst 0, 1) := by decide +kernel
theorem dX7_notMoved_102 : decode cX7_notMoved 102 = .ok (.istore 6, 2) := by decide +kernel
theorem dX7_notMoved_104 : decode cX7_notMoved 104 = .ok (.iload 6, 2) := by decide +kernel
theorem dX7_notMoved_106 : decode cX7_notMoved 106 = .ok (.ifCond .eq 7, 3) := by decide +kernel
theorem dX7_notMoved_109 : decode cX7_notMoved 109 = .ok (.iconst 0, 1) := by decide +kernel
theorem dX7_notMoved_110 : decode cX7_notMoved 110 = .ok (.goto 5, 3) := by decide +kernel
theorem dX7_notMoved_113 : decode cX7_notMoved 113 = .ok (.ldc 55, 2) := by decide +kernel
theorem dX7_notMoved_115 : decode cX7_notMoved 115 = .ok (.ireturn, 1) := by decide +kernel
theorem dX7_move_0 : decode cX7_move 0 = .ok (.aload_n 0, 1) := by decide +kernel
theorem dX7_move_1 : decode cX7_move 1 = .ok (.iload_n 1, 1) := by decide +kernel
theorem dX7_move_2 : decode cX7_move 2 = .ok (.iload_n 2, 1) := by decide +kernel
theorem dX7_move_3 : decode cX7_move 3 = .ok (.iload_n 3, 1) := by decide +kernel
theorem dX7_move_4 : decode cX7_move 4 = .ok (.iload 4, 2) := by decide +kernel
theorem dX7_move_6 : decode cX7_move 6 = .ok (.iload 5, 2) := by decide +kernel
theorem dX7_move_8 : decode cX7_move 8 = .ok (.invokevirtual 249, 3) := by decide +kernel
theorem dX7_move_11 : decode cX7_move 11 = .ok (.istore 6, 2) := by decide +kernel
theorem dX7_move_13 : decode cX7_move 13 = .ok (.iload 6, 2) := by decide +kernel
theorem dX7_move_15 : decode cX7_move 15 = .ok (.ifCond .eq 10, 3) := by decide +kernel
theorem dX7_move_18 : decode cX7_move 18 = .ok (.aload_n 0, 1) := by decide +kernel
theorem dX7_move_19 : decode cX7_move 19 = .ok (.iload 6, 2) := by decide +kernel
theorem dX7_move_21 : decode cX7_move 21 = .ok (.invokevirtual 56, 3) := by decide +kernel
theorem dX7_move_24 : decode cX7_move 24 = .ok (.ireturn, 1) := by decide +kernel
theorem dX7_move_25 : decode cX7_move 25 = .ok (.iconst 0, 1) := by decide +kernel
theorem dX7_move_26 : decode cX7_move 26 = .ok (.istore 7, 2) := by decide +kernel
theorem dX7_move_28 : decode cX7_move 28 = .ok (.iload 7, 2) := by decide +kernel
theorem dX7_move_30 : decode cX7_move 30 = .ok (.iload 5, 2) := by decide +kernel
theorem dX7_move_32 : decode cX7_move 32 = .ok (.if_icmp .ge 58, 3) := by decide +kernel
theorem dX7_move_35 : decode cX7_move 35 = .ok (.iload_n 2, 1) := by decide +kernel
theorem dX7_move_36 : decode cX7_move 36 = .ok (.iload 4, 2) := by decide +kernel
theorem dX7_move_38 : decode cX7_move 38 = .ok (.if_icmp .ge 13, 3) := by decide +kernel
theorem dX7_move_41 : decode cX7_move 41 = .ok (.iload 5, 2) := by decide +kernel
theorem dX7_move_43 : decode cX7_move 43 = .ok (.iconst 1, 1) := by decide +kernel
theorem dX7_move_44 : decode cX7_move 44 = .ok (.isub, 1) := by decide +kernel
theorem dX7_move_45 : decode cX7_move 45 = .ok (.iload 7, 2) := by decide +kernel
theorem dX7_move_47 : decode cX7_move 47 = .ok (.isub, 1) := by decide +kernel
theorem dX7_move_48 : decode cX7_move 48 = .ok (.goto 5, 3) := by decide +kernel
theorem dX7_move_51 : decode cX7_move 51 = .ok (.iload 7, 2) := by decide +kernel
theorem dX7_move_53 : decode cX7_move 53 = .ok (.istore 8, 2) := by decide +kernel
theorem dX7_move_55 : decode cX7_move 55 = .ok (.aload_n 0, 1) := by decide +kernel
theorem dX7_move_56 : decode cX7_move 56 = .ok (.getfield 25, 3) := by decide +kernel
theorem dX7_move_59 : decode cX7_move 59 = .ok (.bipush 24, 2) := by decide +kernel
theorem dX7_move_61 : decode cX7_move 61 = .ok (.iload_n 3, 1) := by decide +kernel
theorem dX7_move_62 : decode cX7_move 62 = .ok (.imul, 1) := by decide +kernel
theorem dX7_move_63 : decode cX7_move 63 = .ok (.iload 4, 2) := by decide +kernel
theorem dX7_move_65 : decode cX7_move 65 = .ok (.iadd, 1) := by decide +kernel
theorem dX7_move_66 : decode cX7_move 66 = .ok (.iload 8, 2) := by decide +kernel
theorem dX7_move_68 : decode cX7_move 68 = .ok (.iadd, 1) := by decide +kernel
theorem dX7_move_69 : decode cX7_move 69 = .ok (.aload_n 0, 1) := by decide +kernel
theorem dX7_move_70 : decode cX7_move 70 = .ok (.getfield 25, 3) := by decide +kernel
theorem dX7_move_73 : decode cX7_move 73 = .ok (.bipush 24, 2) := by decide +kernel
theorem dX7_move_75 : decode cX7_move 75 = .ok (.iload_n 1, 1) := by decide +kernel
theorem dX7_move_76 : decode cX7_move 76 = .ok (.imul, 1) := by decide +kernel
theorem dX7_move_77 : decode cX7_move 77 = .ok (.iload_n 2, 1) := by decide +kernel
theorem dX7_move_78 : decode cX7_move 78 = .ok (.iadd, 1) := by decide +kernel
theorem dX7_move_79 : decode cX7_move 79 = .ok (.iload 8, 2) := by decide +kernel
theorem dX7_move_81 : decode cX7_move 81 = .ok (.iadd, 1) := by decide +kernel
theorem dX7_move_82 : decode cX7_move 82 = .ok (.iaload, 1) := by decide +kernel
theorem dX7_move_83 : decode cX7_move 83 = .ok (.iastore, 1) := by decide +kernel
theorem dX7_move_84 : decode cX7_move 84 = .ok (.iinc 7 1, 3) := by decide +kernel
theorem dX7_move_87 : decode cX7_move 87 = .ok (.goto (-59), 3) := by decide +kernel
theorem dX7_move_90 : decode cX7_move 90 = .ok (.iload 5, 2) := by decide +kernel
theorem dX7_move_92 : decode cX7_move 92 = .ok (.ireturn, 1) := by decide +kernel
theorem dX7_offsets_0 : decode cX7_offsets 0 = .ok (.aload_n 0, 1) := by decide +kernel
theorem dX7_offsets_1 : decode cX7_offsets 1 = .ok (.iload_n 1, 1) := by decide +kernel
theorem dX7_offsets_2 : decode cX7_offsets 2 = .ok (.invokevirtual 203, 3) := by decide +kernel
theorem dX7_offsets_5 : decode cX7_offsets 5 = .ok (.istore_n 2, 1) := by decide +kernel
theorem dX7_offsets_6 : decode cX7_offsets 6 = .ok (.iload_n 2, 1) := by decide +kernel
theorem dX7_offsets_7 : decode cX7_offsets 7 = .ok (.ifCond .eq 9, 3) := by decide +kernel
theorem dX7_offsets_10 : decode cX7_offsets 10 = .ok (.aload_n 0, 1) := by decide +kernel
theorem dX7_offsets_11 : decode cX7_offsets 11 = .ok (.iload_n 2, 1) := by decide +kernel
theorem dX7_offsets_12 : decode cX7_offsets 12 = .ok (.invokevirtual 56, 3) := by decide +kernel
theorem dX7_offsets_15 : decode cX7_offsets 15 = .ok (.ireturn, 1) := by decide +kernel
theorem dX7_offsets_16 : decode cX7_offsets 16 = .ok (.iconst 0, 1) := by decide +kernel
theorem dX7_offsets_17 : decode cX7_offsets 17 = .ok (.istore_n 3, 1) := by decide +kernel
theorem dX7_offsets_18 : decode cX7_offsets 18 = .ok (.iload_n 3, 1) := by decide +kernel
theorem dX7_offsets_19 : decode cX7_offsets 19 = .ok (.aload_n 0, 1) := by decide +kernel
theorem dX7_offsets_20 : decode cX7_offsets 20 = .ok (.getfield 22, 3) := by decide +kernel
theorem dX7_offsets_23 : decode cX7_offsets 23 = .ok (.iload_n 1, 1) := by decide +kernel
theorem dX7_offsets_24 : decode cX7_offsets 24 = .ok (.iaload, 1) := by decide +kernel
theorem dX7_offsets_25 : decode cX7_offsets 25 = .ok (.if_icmp .ge 64, 3) := by decide +kernel
theorem dX7_offsets_28 : decode cX7_offsets 28 = .ok (.iload_n 3, 1) := by decide +kernel
theorem dX7_offsets_29 : decode cX7_offsets 29 = .ok (.aload_n 0, 1) := by decide +kernel
theorem dX7_offsets_30 : decode cX7_offsets 30 = .ok (.getfield 9, 3) := by decide +kernel
theorem dX7_offsets_33 : decode cX7_offsets 33 = .ok (.iconst 2, 1) := by decide +kernel
theorem dX7_offsets_34 : decode cX7_offsets 34 = .ok (.iaload, 1) := by decide +kernel
theorem dX7_offsets_35 : decode cX7_offsets 35 = .ok (.if_icmp .ge 54, 3) := by decide +kernel
theorem dX7_offsets_38 : decode cX7_offsets 38 = .ok (.aload_n 0, 1) := by decide +kernel
theorem dX7_offsets_39 : decode cX7_offsets 39 = .ok (.getfield 25, 3) := by decide +kernel
theorem dX7_offsets_42 : decode cX7_offsets 42 = .ok (.bipush 24, 2) := by decide +kernel
theorem dX7_offsets_44 : decode cX7_offsets 44 = .ok (.iload_n 1, 1) := by decide +kernel
theorem dX7_offsets_45 : decode cX7_offsets 45 = .ok (.imul, 1) := by decide +kernel
theorem dX7_offsets_46 : decode cX7_offsets 46 = .ok (.iload_n 3, 1) := by decide +kernel
theorem dX7_offsets_47 : decode cX7_offsets 47 = .ok (.iadd, 1) := by decide +kernel
theorem dX7_offsets_48 : decode cX7_offsets 48 = .ok (.iaload, 1) := by decide +kernel
theorem dX7_offsets_49 : decode cX7_offsets 49 = .ok (.iconst 0, 1) := by decide +kernel
theorem dX7_offsets_50 : decode cX7_offsets 50 = .ok (.sipush 1439, 3) := by decide +kernel
theorem dX7_offsets_53 : decode cX7_offsets 53 = .ok (.invokestatic 47, 3) := by decide +kernel
theorem dX7_offsets_56 : decode cX7_offsets 56 = .ok (.ifCond .eq 33, 3) := by decide +kernel
theorem dX7_offsets_59 : decode cX7_offsets 59 = .ok (.aload_n 0, 1) := by decide +kernel
theorem dX7_offsets_60 : decode cX7_offsets 60 = .ok (.getfield 9, 3) := by decide +kernel
theorem dX7_offsets_63 : decode cX7_offsets 63 = .ok (.bipush 7, 2) := by decide +kernel
theorem dX7_offsets_65 : decode cX7_offsets 65 = .ok (.iconst 2, 1) := by decide +kernel
theorem dX7_offsets_66 : decode cX7_offsets 66 = .ok (.iload_n 3, 1) := by decide +kernel
theorem dX7_offsets_67 : decode cX7_offsets 67 = .ok (.imul, 1) := by decide +kernel
theorem dX7_offsets_68 : decode cX7_offsets 68 = .ok (.iadd, 1) := by decide +kernel
theorem dX7_offsets_69 : decode cX7_offsets 69 = .ok (.iconst 1, 1) := by decide +kernel
theorem dX7_offsets_70 : decode cX7_offsets 70 = .ok (.iadd, 1) := by decide +kernel
theorem dX7_offsets_71 : decode cX7_offsets 71 = .ok (.aload_n 0, 1) := by decide +kernel
theorem dX7_offsets_72 : decode cX7_offsets 72 = .ok (.getfield 25, 3) := by decide +kernel
theorem dX7_offsets_75 : decode cX7_offsets 75 = .ok (.bipush 24, 2) := by decide +kernel
theorem dX7_offsets_77 : decode cX7_offsets 77 = .ok (.iload_n 1, 1) := by decide +kernel
theorem dX7_offsets_78 : decode cX7_offsets 78 = .ok (.imul, 1) := by decide +kernel
theorem dX7_offsets_79 : decode cX7_offsets 79 = .ok (.iload_n 3, 1) := by decide +kernel
theorem dX7_offsets_80 : decode cX7_offsets 80 = .ok (.iadd, 1) := by decide +kernel
theorem dX7_offsets_81 : decode cX7_offsets 81 = .ok (.iaload, 1) := by decide +kernel
theorem dX7_offsets_82 : decode cX7_offsets 82 = .ok (.iastore, 1) := by decide +kernel
theorem dX7_offsets_83 : decode cX7_offsets 83 = .ok (.iinc 3 1, 3) := by decide +kernel
theorem dX7_offsets_86 : decode cX7_offsets 86 = .ok (.goto (-68), 3) := by decide +kernel
theorem dX7_offsets_89 : decode cX7_offsets 89 = .ok (.iload_n 3, 1) := by decide +kernel
theorem dX7_offsets_90 : decode cX7_offsets 90 = .ok (.ireturn, 1) := by decide +kernel
theorem dX7_judge_0 : decode cX7_judge 0 = .ok (.aload_n 0, 1) := by decide +kernel
theorem dX7_judge_1 : decode cX7_judge 1 = .ok (.iload_n 1, 1) := by decide +kernel
theorem dX7_judge_2 : decode cX7_judge 2 = .ok (.invokevirtual 203, 3) := by decide +kernel
theorem dX7_judge_5 : decode cX7_judge 5 = .ok (.istore_n 2, 1) := by decide +kernel
theorem dX7_judge_6 : decode cX7_judge 6 = .ok (.iload_n 2, 1) := by decide +kernel
theorem dX7_judge_7 : decode cX7_judge 7 = .ok (.ifCond .eq 9, 3) := by decide +kernel
theorem dX7_judge_10 : decode cX7_judge 10 = .ok (.aload_n 0, 1) := by decide +kernel
theorem dX7_judge_11 : decode cX7_judge 11 = .ok (.iload_n 2, 1) := by decide +kernel
theorem dX7_judge_12 : decode cX7_judge 12 = .ok (.invokevirtual 56, 3) := by decide +kernel
theorem dX7_judge_15 : decode cX7_judge 15 = .ok (.ireturn, 1) := by decide +kernel
theorem dX7_judge_16 : decode cX7_judge 16 = .ok (.iconst 0, 1) := by decide +kernel
theorem dX7_judge_17 : decode cX7_judge 17 = .ok (.istore_n 3, 1) := by decide +kernel
theorem dX7_judge_18 : decode cX7_judge 18 = .ok (.iload_n 3, 1) := by decide +kernel
theorem dX7_judge_19 : decode cX7_judge 19 = .ok (.aload_n 0, 1) := by decide +kernel
theorem dX7_judge_20 : decode cX7_judge 20 = .ok (.getfield 22, 3) := by decide +kernel
theorem dX7_judge_23 : decode cX7_judge 23 = .ok (.iload_n 1, 1) := by decide +kernel
theorem dX7_judge_24 : decode cX7_judge 24 = .ok (.iaload, 1) := by decide +kernel
theorem dX7_judge_25 : decode cX7_judge 25 = .ok (.if_icmp .ge 39, 3) := by decide +kernel
theorem dX7_judge_28 : decode cX7_judge 28 = .ok (.iload_n 3, 1) := by decide +kernel
theorem dX7_judge_29 : decode cX7_judge 29 = .ok (.aload_n 0, 1) := by decide +kernel
theorem dX7_judge_30 : decode cX7_judge 30 = .ok (.getfield 9, 3) := by decide +kernel
theorem dX7_judge_33 : decode cX7_judge 33 = .ok (.iconst 4, 1) := by decide +kernel
theorem dX7_judge_34 : decode cX7_judge 34 = .ok (.iaload, 1) := by decide +kernel
theorem dX7_judge_35 : decode cX7_judge 35 = .ok (.if_icmp .ge 29, 3) := by decide +kernel
theorem dX7_judge_38 : decode cX7_judge 38 = .ok (.aload_n 0, 1) := by decide +kernel
theorem dX7_judge_39 : decode cX7_judge 39 = .ok (.getfield 25, 3) := by decide +kernel
theorem dX7_judge_42 : decode cX7_judge 42 = .ok (.bipush 24, 2) := by decide +kernel
theorem dX7_judge_44 : decode cX7_judge 44 = .ok (.iload_n 1, 1) := by decide +kernel
theorem dX7_judge_45 : decode cX7_judge 45 = .ok (.imul, 1) := by decide +kernel
theorem dX7_judge_46 : decode cX7_judge 46 = .ok (.iload_n 3, 1) := by decide +kernel
theorem dX7_judge_47 : decode cX7_judge 47 = .ok (.iadd, 1) := by decide +kernel
theorem dX7_judge_48 : decode cX7_judge 48 = .ok (.iaload, 1) := by decide +kernel
theorem dX7_judge_49 : decode cX7_judge 49 = .ok (.aload_n 0, 1) := by decide +kernel
theorem dX7_judge_50 : decode cX7_judge 50 = .ok (.iload_n 3, 1) := by decide +kernel
theorem dX7_judge_51 : decode cX7_judge 51 = .ok (.iconst 2, 1) := by decide +kernel
theorem dX7_judge_52 : decode cX7_judge 52 = .ok (.invokevirtual 72, 3) := by decide +kernel
theorem dX7_judge_55 : decode cX7_judge 55 = .ok (.if_icmp .ne 9, 3) := by decide +kernel
theorem dX7_judge_58 : decode cX7_judge 58 = .ok (.iinc 3 1, 3) := by decide +kernel
theorem dX7_judge_61 : decode cX7_judge 61 = .ok (.goto (-43), 3) := by decide +kernel
theorem dX7_judge_64 : decode cX7_judge 64 = .ok (.iload_n 3, 1) := by decide +kernel
theorem dX7_judge_65 : decode cX7_judge 65 = .ok (.ireturn, 1) := by decide +kernel
theorem dX7_image_0 : decode cX7_image 0 = .ok (.aload_n 0, 1) := by decide +kernel
theorem dX7_image_1 : decode cX7_image 1 = .ok (.getfield 9, 3) := by decide +kernel
theorem dX7_image_4 : decode cX7_image 4 = .ok (.aload_n 0, 1) := by decide +kernel
theorem dX7_image_5 : decode cX7_image 5 = .ok (.getfield 13, 3) := by decide +kernel
theorem dX7_image_8 : decode cX7_image 8 = .ok (.invokestatic 253, 3) := by decide +kernel
theorem dX7_image_11 : decode cX7_image 11 = .ok (.aload_n 0, 1) := by decide +kernel
theorem dX7_image_12 : decode cX7_image 12 = .ok (.dup, 1) := by decide +kernel
theorem dX7_image_13 : decode cX7_image 13 = .ok (.getfield 257, 3) := by decide +kernel
theorem dX7_image_16 : decode cX7_image 16 = .ok (.iconst 1, 1) := by decide +kernel
theorem dX7_image_17 : decode cX7_image 17 = .ok (.iadd, 1) := by decide +kernel
theorem dX7_image_18 : decode cX7_image 18 = .ok (.putfield 257, 3) := by decide +kernel
theorem dX7_image_21 : decode cX7_image 21 = .ok (.aload_n 0, 1) := by decide +kernel
theorem dX7_image_22 : decode cX7_image 22 = .ok (.getfield 257, 3) := by decide +kernel
theorem dX7_image_25 : decode cX7_image 25 = .ok (.ireturn, 1) := by decide +kernel
theorem dX7_restore_0 : decode cX7_restore 0 = .ok (.aload_n 0, 1) := by decide +kernel
theorem dX7_restore_1 : decode cX7_restore 1 = .ok (.getfield 257, 3) := by decide +kernel
theorem dX7_restore_4 : decode cX7_restore 4 = .ok (.ifCond .ne 10, 3) := by decide +kernel
theorem dX7_restore_7 : decode cX7_restore 7 = .ok (.aload_n 0, 1) := by decide +kernel
theorem dX7_restore_8 : decode cX7_restore 8 = .ok (.ldc 190, 2) := by decide +kernel
theorem dX7_restore_10 : decode cX7_restore 10 = .ok (.invokevirtual 56, 3) := by decide +kernel
theorem dX7_restore_13 : decode cX7_restore 13 = .ok (.ireturn, 1) := by decide +kernel
theorem dX7_restore_14 : decode cX7_restore 14 = .ok (.aload_n 0, 1) := by decide +kernel
theorem dX7_restore_15 : decode cX7_restore 15 = .ok (.getfield 13, 3) := by decide +kernel
theorem dX7_restore_18 : decode cX7_restore 18 = .ok (.aload_n 0, 1) := by decide +kernel
theorem dX7_restore_19 : decode cX7_restore 19 = .ok (.getfield 9, 3) := by decide +kernel
theorem dX7_restore_22 : decode cX7_restore 22 = .ok (.invokestatic 253, 3) := by decide +kernel
theorem dX7_restore_25 : decode cX7_restore 25 = .ok (.aload_n 0, 1) := by decide +kernel
theorem dX7_restore_26 : decode cX7_restore 26 = .ok (.getfield 9, 3) := by decide +kernel
theorem dX7_restore_29 : decode cX7_restore 29 = .ok (.iconst 0, 1) := by decide +kernel
theorem dX7_restore_30 : decode cX7_restore 30 = .ok (.iaload, 1) := by decide +kernel
theorem dX7_restore_31 : decode cX7_restore 31 = .ok (.ireturn, 1) := by decide +kernel
theorem dX7_tell_0 : decode cX7_tell 0 = .ok (.aload_n 0, 1) := by decide +kernel
theorem dX7_tell_1 : decode cX7_tell 1 = .ok (.getfield 9, 3) := by decide +kernel
theorem dX7_tell_4 : decode cX7_tell 4 = .ok (.bipush 6, 2) := by decide +kernel
theorem dX7_tell_6 : decode cX7_tell 6 = .ok (.iaload, 1) := by decide +kernel
theorem dX7_tell_7 : decode cX7_tell 7 = .ok (.bipush 24, 2) := by decide +kernel
theorem dX7_tell_9 : decode cX7_tell 9 = .ok (.if_icmp .ne 10, 3) := by decide +kernel
theorem dX7_tell_12 : decode cX7_tell 12 = .ok (.aload_n 0, 1) := by decide +kernel
theorem dX7_tell_13 : decode cX7_tell 13 = .ok (.ldc 60, 2) := by decide +kernel
theorem dX7_tell_15 : decode cX7_tell 15 = .ok (.invokevirtual 56, 3) := by decide +kernel
theorem dX7_tell_18 : decode cX7_tell 18 = .ok (.ireturn, 1) := by decide +kernel
theorem dX7_tell_19 : decode cX7_tell 19 = .ok (.aload_n 0, 1) := by decide +kernel
theorem dX7_tell_20 : decode cX7_tell 20 = .ok (.getfield 9, 3) := by decide +kernel
theorem dX7_tell_23 : decode cX7_tell 23 = .ok (.bipush 109, 2) := by decide +kernel
theorem dX7_tell_25 : decode cX7_tell 25 = .ok (.aload_n 0, 1) := by decide +kernel
theorem dX7_tell_26 : decode cX7_tell 26 = .ok (.getfield 9, 3) := by decide +kernel
theorem dX7_tell_29 : decode cX7_tell 29 = .ok (.bipush 6, 2) := by decide +kernel
theorem dX7_tell_31 : decode cX7_tell 31 = .ok (.iaload, 1) := by decide +kernel
theorem dX7_tell_32 : decode cX7_tell 32 = .ok (.iadd, 1) := by decide +kernel
theorem dX7_tell_33 : decode cX7_tell 33 = .ok (.iload_n 1, 1) := by decide +kernel
theorem dX7_tell_34 : decode cX7_tell 34 = .ok (.iastore, 1) := by decide +kernel
theorem dX7_tell_35 : decode cX7_tell 35 = .ok (.aload_n 0, 1) := by decide +kernel
theorem dX7_tell_36 : decode cX7_tell 36 = .ok (.getfield 9, 3) := by decide +kernel
theorem dX7_tell_39 : decode cX7_tell 39 = .ok (.bipush 6, 2) := by decide +kernel
theorem dX7_tell_41 : decode cX7_tell 41 = .ok (.dup2, 1) := by decide +kernel
theorem dX7_tell_42 : decode cX7_tell 42 = .ok (.iaload, 1) := by decide +kernel
theorem dX7_tell_43 : decode cX7_tell 43 = .ok (.iconst 1, 1) := by decide +kernel
theorem dX7_tell_44 : decode cX7_tell 44 = .ok (.iadd, 1) := by decide +kernel
theorem dX7_tell_45 : decode cX7_tell 45 = .ok (.iastore, 1) := by decide +kernel
theorem dX7_tell_46 : decode cX7_tell 46 = .ok (.aload_n 0, 1) := by decide +kernel
theorem dX7_tell_47 : decode cX7_tell 47 = .ok (.getfield 9, 3) := by decide +kernel
theorem dX7_tell_50 : decode cX7_tell 50 = .ok (.bipush 6, 2) := by decide +kernel
theorem dX7_tell_52 : decode cX7_tell 52 = .ok (.iaload, 1) := by decide +kernel
theorem dX7_tell_53 : decode cX7_tell 53 = .ok (.ireturn, 1) := by decide +kernel
theorem dX7_check_0 : decode cX7_check 0 = .ok (.aload_n 0, 1) := by decide +kernel
theorem dX7_check_1 : decode cX7_check 1 = .ok (.getfield 9, 3) := by decide +kernel
theorem dX7_check_4 : decode cX7_check 4 = .ok (.bipush 6, 2) := by decide +kernel
theorem dX7_check_6 : decode cX7_check 6 = .ok (.iaload, 1) := by decide +kernel
theorem dX7_check_7 : decode cX7_check 7 = .ok (.istore_n 1, 1) := by decide +kernel
theorem dX7_check_8 : decode cX7_check 8 = .ok (.aload_n 0, 1) := by decide +kernel
theorem dX7_check_9 : decode cX7_check 9 = .ok (.getfield 9, 3) := by decide +kernel
theorem dX7_check_12 : decode cX7_check 12 = .ok (.bipush 6, 2) := by decide +kernel
theorem dX7_check_14 : decode cX7_check 14 = .ok (.iconst 0, 1) := by decide +kernel
theorem dX7_check_15 : decode cX7_check 15 = .ok (.iastore, 1) := by decide +kernel
theorem dX7_check_16 : decode cX7_check 16 = .ok (.iconst 0, 1) := by decide +kernel
theorem dX7_check_17 : decode cX7_check 17 = .ok (.istore_n 2, 1) := by decide +kernel
theorem dX7_check_18 : decode cX7_check 18 = .ok (.iload_n 2, 1) := by decide +kernel
theorem dX7_check_19 : decode cX7_check 19 = .ok (.iload_n 1, 1) := by decide +kernel
theorem dX7_check_20 : decode cX7_check 20 = .ok (.if_icmp .ge 44, 3) := by decide +kernel
theorem dX7_check_23 : decode cX7_check 23 = .ok (.aload_n 0, 1) := by decide +kernel
theorem dX7_check_24 : decode cX7_check 24 = .ok (.iload_n 2, 1) := by decide +kernel
theorem dX7_check_25 : decode cX7_check 25 = .ok (.invokevirtual 61, 3) := by decide +kernel
theorem dX7_check_28 : decode cX7_check 28 = .ok (.ifCond .eq 26, 3) := by decide +kernel
theorem dX7_check_31 : decode cX7_check 31 = .ok (.aload_n 0, 1) := by decide +kernel
theorem dX7_check_32 : decode cX7_check 32 = .ok (.getfield 9, 3) := by decide +kernel
theorem dX7_check_35 : decode cX7_check 35 = .ok (.bipush 109, 2) := by decide +kernel
theorem dX7_check_37 : decode cX7_check 37 = .ok (.iload_n 2, 1) := by decide +kernel
theorem dX7_check_38 : decode cX7_check 38 = .ok (.iadd, 1) := by decide +kernel
theorem dX7_check_39 : decode cX7_check 39 = .ok (.iaload, 1) := by decide +kernel
theorem dX7_check_40 : decode cX7_check 40 = .ok (.aload_n 0, 1) := by decide +kernel
theorem dX7_check_41 : decode cX7_check 41 = .ok (.iload_n 2, 1) := by decide +kernel
theorem dX7_check_42 : decode cX7_check 42 = .ok (.aload_n 0, 1) := by decide +kernel
theorem dX7_check_43 : decode cX7_check 43 = .ok (.getfield 9, 3) := by decide +kernel
theorem dX7_check_46 : decode cX7_check 46 = .ok (.iconst 0, 1) := by decide +kernel
theorem dX7_check_47 : decode cX7_check 47 = .ok (.iaload, 1) := by decide +kernel
theorem dX7_check_48 : decode cX7_check 48 = .ok (.invokevirtual 51, 3) := by decide +kernel
theorem dX7_check_51 : decode cX7_check 51 = .ok (.if_icmp .eq 7, 3) := by decide +kernel
theorem dX7_check_54 : decode cX7_check 54 = .ok (.iconst 1, 1) := by decide +kernel
theorem dX7_check_55 : decode cX7_check 55 = .ok (.iload_n 2, 1) := by decide +kernel
theorem dX7_check_56 : decode cX7_check 56 = .ok (.iadd, 1) := by decide +kernel
theorem dX7_check_57 : decode cX7_check 57 = .ok (.ireturn, 1) := by decide +kernel
theorem dX7_check_58 : decode cX7_check 58 = .ok (.iinc 2 1, 3) := by decide +kernel
theorem dX7_check_61 : decode cX7_check 61 = .ok (.goto (-43), 3) := by decide +kernel
theorem dX7_check_64 : decode cX7_check 64 = .ok (.iconst 0, 1) := by decide +kernel
theorem dX7_check_65 : decode cX7_check 65 = .ok (.ireturn, 1) := by decide +kernel
theorem dX7_count_0 : decode cX7_count 0 = .ok (.iload_n 1, 1) := by decide +kernel
theorem dX7_count_1 : decode cX7_count 1 = .ok (.tableswitch 102 0 7 #[47, 54, 61, 68, 75, 82, 90, 95], 47) := by decide +kernel
theorem dX7_count_48 : decode cX7_count 48 = .ok (.aload_n 0, 1) := by decide +kernel
theorem dX7_count_49 : decode cX7_count 49 = .ok (.getfield 9, 3) := by decide +kernel
theorem dX7_count_52 : decode cX7_count 52 = .ok (.iconst 2, 1) := by decide +kernel
theorem dX7_count_53 : decode cX7_count 53 = .ok (.iaload, 1) := by decide +kernel
theorem dX7_count_54 : decode cX7_count 54 = .ok (.ireturn, 1) := by decide +kernel
theorem dX7_count_55 : decode cX7_count 55 = .ok (.aload_n 0, 1) := by decide +kernel
theorem dX7_count_56 : decode cX7_count 56 = .ok (.getfield 9, 3) := by decide +kernel
theorem dX7_count_59 : decode cX7_count 59 = .ok (.iconst 3, 1) := by decide +kernel
theorem dX7_count_60 : decode cX7_count 60 = .ok (.iaload, 1) := by decide +kernel
theorem dX7_count_61 : decode cX7_count 61 = .ok (.ireturn, 1) := by decide +kernel
theorem dX7_count_62 : decode cX7_count 62 = .ok (.aload_n 0, 1) := by decide +kernel
theorem dX7_count_63 : decode cX7_count 63 = .ok (.getfield 9, 3) := by decide +kernel
theorem dX7_count_66 : decode cX7_count 66 = .ok (.iconst 4, 1) := by decide +kernel
theorem dX7_count_67 : decode cX7_count 67 = .ok (.iaload, 1) := by decide +kernel
theorem dX7_count_68 : decode cX7_count 68 = .ok (.ireturn, 1) := by decide +kernel
theorem dX7_count_69 : decode cX7_count 69 = .ok (.aload_n 0, 1) := by decide +kernel
theorem dX7_count_70 : decode cX7_count 70 = .ok (.getfield 9, 3) := by decide +kernel
theorem dX7_count_73 : decode cX7_count 73 = .ok (.iconst 0, 1) := by decide +kernel
theorem dX7_count_74 : decode cX7_count 74 = .ok (.iaload, 1) := by decide +kernel
theorem dX7_count_75 : decode cX7_count 75 = .ok (.ireturn, 1) := by decide +kernel
theorem dX7_count_76 : decode cX7_count 76 = .ok (.aload_n 0, 1) := by decide +kernel
theorem dX7_count_77 : decode cX7_count 77 = .ok (.getfield 9, 3) := by decide +kernel
theorem dX7_count_80 : decode cX7_count 80 = .ok (.iconst 5, 1) := by decide +kernel
theorem dX7_count_81 : decode cX7_count 81 = .ok (.iaload, 1) := by decide +kernel
theorem dX7_count_82 : decode cX7_count 82 = .ok (.ireturn, 1) := by decide +kernel
theorem dX7_count_83 : decode cX7_count 83 = .ok (.aload_n 0, 1) := by decide +kernel
theorem dX7_count_84 : decode cX7_count 84 = .ok (.getfield 9, 3) := by decide +kernel
theorem dX7_count_87 : decode cX7_count 87 = .ok (.bipush 6, 2) := by decide +kernel
theorem dX7_count_89 : decode cX7_count 89 = .ok (.iaload, 1) := by decide +kernel
theorem dX7_count_90 : decode cX7_count 90 = .ok (.ireturn, 1) := by decide +kernel
theorem dX7_count_91 : decode cX7_count 91 = .ok (.aload_n 0, 1) := by decide +kernel
theorem dX7_count_92 : decode cX7_count 92 = .ok (.getfield 206, 3) := by decide +kernel
theorem dX7_count_95 : decode cX7_count 95 = .ok (.ireturn, 1) := by decide +kernel
theorem dX7_count_96 : decode cX7_count 96 = .ok (.aload_n 0, 1) := by decide +kernel
theorem dX7_count_97 : decode cX7_count 97 = .ok (.getfield 9, 3) := by decide +kernel
theorem dX7_count_100 : decode cX7_count 100 = .ok (.iconst 1, 1) := by decide +kernel
theorem dX7_count_101 : decode cX7_count 101 = .ok (.iaload, 1) := by decide +kernel
theorem dX7_count_102 : decode cX7_count 102 = .ok (.ireturn, 1) := by decide +kernel
theorem dX7_count_103 : decode cX7_count 103 = .ok (.aload_n 0, 1) := by decide +kernel
theorem dX7_count_104 : decode cX7_count 104 = .ok (.ldc 55, 2) := by decide +kernel
theorem dX7_count_106 : decode cX7_count 106 = .ok (.invokevirtual 56, 3) := by decide +kernel
theorem dX7_count_109 : decode cX7_count 109 = .ok (.ireturn, 1) := by decide +kernel
theorem dX7_told_0 : decode cX7_told 0 = .ok (.iload_n 1, 1) := by decide +kernel
theorem dX7_told_1 : decode cX7_told 1 = .ok (.iconst 1, 1) := by decide +kernel
theorem dX7_told_2 : decode cX7_told 2 = .ok (.bipush 6, 2) := by decide +kernel
theorem dX7_told_4 : decode cX7_told 4 = .ok (.invokestatic 47, 3) := by decide +kernel
theorem dX7_told_7 : decode cX7_told 7 = .ok (.ifCond .eq 12, 3) := by decide +kernel
theorem dX7_told_10 : decode cX7_told 10 = .ok (.aload_n 0, 1) := by decide +kernel
theorem dX7_told_11 : decode cX7_told 11 = .ok (.getfield 16, 3) := by decide +kernel
theorem dX7_told_14 : decode cX7_told 14 = .ok (.iload_n 1, 1) := by decide +kernel
theorem dX7_told_15 : decode cX7_told 15 = .ok (.iaload, 1) := by decide +kernel
theorem dX7_told_16 : decode cX7_told 16 = .ok (.goto 9, 3) := by decide +kernel
theorem dX7_told_19 : decode cX7_told 19 = .ok (.aload_n 0, 1) := by decide +kernel
theorem dX7_told_20 : decode cX7_told 20 = .ok (.ldc 55, 2) := by decide +kernel
theorem dX7_told_22 : decode cX7_told 22 = .ok (.invokevirtual 56, 3) := by decide +kernel
theorem dX7_told_25 : decode cX7_told 25 = .ok (.ireturn, 1) := by decide +kernel
