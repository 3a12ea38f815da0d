theorem dX6_init_0 : decode cX6_init 0 = .ok (.aload_n 0, 1) := by decide +kernel
theorem dX6_init_1 : decode cX6_init 1 = .ok (.invokespecial 1, 3) := by decide +kernel
theorem dX6_init_4 : decode cX6_init 4 = .ok (.aload_n 0, 1) := by decide +kernel
theorem dX6_init_5 : decode cX6_init 5 = .ok (.new 7, 3) := by decide +kernel
theorem dX6_init_8 : decode cX6_init 8 = .ok (.dup, 1) := by decide +kernel
theorem dX6_init_9 : decode cX6_init 9 = .ok (.invokespecial 9, 3) := by decide +kernel
theorem dX6_init_12 : decode cX6_init 12 = .ok (.putfield 10, 3) := by decide +kernel
theorem dX6_init_15 : decode cX6_init 15 = .ok (.aload_n 0, 1) := by decide +kernel
theorem dX6_init_16 : decode cX6_init 16 = .ok (.new 7, 3) := by decide +kernel
theorem dX6_init_19 : decode cX6_init 19 = .ok (.dup, 1) := by decide +kernel
theorem dX6_init_20 : decode cX6_init 20 = .ok (.invokespecial 9, 3) := by decide +kernel
theorem dX6_init_23 : decode cX6_init 23 = .ok (.putfield 16, 3) := by decide +kernel
theorem dX6_init_26 : decode cX6_init 26 = .ok (.aload_n 0, 1) := by decide +kernel
theorem dX6_init_27 : decode cX6_init 27 = .ok (.new 19, 3) := by decide +kernel
theorem dX6_init_30 : decode cX6_init 30 = .ok (.dup, 1) := by decide +kernel
theorem dX6_init_31 : decode cX6_init 31 = .ok (.aload_n 0, 1) := by decide +kernel
theorem dX6_init_32 : decode cX6_init 32 = .ok (.getfield 10, 3) := by decide +kernel
theorem dX6_init_35 : decode cX6_init 35 = .ok (.invokespecial 21, 3) := by decide +kernel
theorem dX6_init_38 : decode cX6_init 38 = .ok (.putfield 24, 3) := by decide +kernel
theorem dX6_init_41 : decode cX6_init 41 = .ok (.aload_n 0, 1) := by decide +kernel
theorem dX6_init_42 : decode cX6_init 42 = .ok (.new 28, 3) := by decide +kernel
theorem dX6_init_45 : decode cX6_init 45 = .ok (.dup, 1) := by decide +kernel
theorem dX6_init_46 : decode cX6_init 46 = .ok (.aload_n 0, 1) := by decide +kernel
theorem dX6_init_47 : decode cX6_init 47 = .ok (.getfield 10, 3) := by decide +kernel
theorem dX6_init_50 : decode cX6_init 50 = .ok (.invokespecial 30, 3) := by decide +kernel
theorem dX6_init_53 : decode cX6_init 53 = .ok (.putfield 31, 3) := by decide +kernel
theorem dX6_init_56 : decode cX6_init 56 = .ok (.aload_n 0, 1) := by decide +kernel
theorem dX6_init_57 : decode cX6_init 57 = .ok (.new 35, 3) := by decide +kernel
theorem dX6_init_60 : decode cX6_init 60 = .ok (.dup, 1) := by decide +kernel
theorem dX6_init_61 : decode cX6_init 61 = .ok (.invokespecial 37, 3) := by decide +kernel
theorem dX6_init_64 : decode cX6_init 64 = .ok (.putfield 38, 3) := by decide +kernel
theorem dX6_init_67 : decode cX6_init 67 = .ok (.aload_n 0, 1) := by decide +kernel
theorem dX6_init_68 : decode cX6_init 68 = .ok (.iconst 4, 1) := by decide +kernel
theorem dX6_init_69 : decode cX6_init 69 = .ok (.anewarray 42, 3) := by decide +kernel
theorem dX6_init_72 : decode cX6_init 72 = .ok (.dup, 1) := by decide +kernel
theorem dX6_init_73 : decode cX6_init 73 = .ok (.iconst 0, 1) := by decide +kernel
theorem dX6_init_74 : decode cX6_init 74 = .ok (.new 42, 3) := by decide +kernel
theorem dX6_init_77 : decode cX6_init 77 = .ok (.dup, 1) := by decide +kernel
theorem dX6_init_78 : decode cX6_init 78 = .ok (.invokespecial 44, 3) := by decide +kernel
theorem dX6_init_81 : decode cX6_init 81 = .ok (.aastore, 1) := by decide +kernel
theorem dX6_init_82 : decode cX6_init 82 = .ok (.dup, 1) := by decide +kernel
theorem dX6_init_83 : decode cX6_init 83 = .ok (.iconst 1, 1) := by decide +kernel
theorem dX6_init_84 : decode cX6_init 84 = .ok (.new 42, 3) := by decide +kernel
theorem dX6_init_87 : decode cX6_init 87 = .ok (.dup, 1) := by decide +kernel
theorem dX6_init_88 : decode cX6_init 88 = .ok (.invokespecial 44, 3) := by decide +kernel
theorem dX6_init_91 : decode cX6_init 91 = .ok (.aastore, 1) := by decide +kernel
theorem dX6_init_92 : decode cX6_init 92 = .ok (.dup, 1) := by decide +kernel
theorem dX6_init_93 : decode cX6_init 93 = .ok (.iconst 2, 1) := by decide +kernel
theorem dX6_init_94 : decode cX6_init 94 = .ok (.new 42, 3) := by decide +kernel
theorem dX6_init_97 : decode cX6_init 97 = .ok (.dup, 1) := by decide +kernel
theorem dX6_init_98 : decode cX6_init 98 = .ok (.invokespecial 44, 3) := by decide +kernel
theorem dX6_init_101 : decode cX6_init 101 = .ok (.aastore, 1) := by decide +kernel
theorem dX6_init_102 : decode cX6_init 102 = .ok (.dup, 1) := by decide +kernel
theorem dX6_init_103 : decode cX6_init 103 = .ok (.iconst 3, 1) := by decide +kernel
theorem dX6_init_104 : decode cX6_init 104 = .ok (.new 42, 3) := by decide +kernel
theorem dX6_init_107 : decode cX6_init 107 = .ok (.dup, 1) := by decide +kernel
theorem dX6_init_108 : decode cX6_init 108 = .ok (.invokespecial 44, 3) := by decide +kernel
theorem dX6_init_111 : decode cX6_init 111 = .ok (.aastore, 1) := by decide +kernel
theorem dX6_init_112 : decode cX6_init 112 = .ok (.putfield 45, 3) := by decide +kernel
theorem dX6_init_115 : decode cX6_init 115 = .ok (.aload_n 0, 1) := by decide +kernel
theorem dX6_init_116 : decode cX6_init 116 = .ok (.bipush 7, 2) := by decide +kernel
theorem dX6_init_118 : decode cX6_init 118 = .ok (.newarray .int, 2) := by decide +kernel
theorem dX6_init_120 : decode cX6_init 120 = .ok (.putfield 49, 3) := by decide +kernel
theorem dX6_init_123 : decode cX6_init 123 = .ok (.return_, 1) := by decide +kernel
theorem dX6_hand_0 : decode cX6_hand 0 = .ok (.iload_n 1, 1) := by decide +kernel
theorem dX6_hand_1 : decode cX6_hand 1 = .ok (.iconst 1, 1) := by decide +kernel
theorem dX6_hand_2 : decode cX6_hand 2 = .ok (.sipush 1440, 3) := by decide +kernel
theorem dX6_hand_5 : decode cX6_hand 5 = .ok (.invokestatic 53, 3) := by decide +kernel
theorem dX6_hand_8 : decode cX6_hand 8 = .ok (.ifCond .eq 14, 3) := by decide +kernel
theorem dX6_hand_11 : decode cX6_hand 11 = .ok (.iload_n 2, 1) := by decide +kernel
theorem dX6_hand_12 : decode cX6_hand 12 = .ok (.iconst 0, 1) := by decide +kernel
theorem dX6_hand_13 : decode cX6_hand 13 = .ok (.sipush 1439, 3) := by decide +kernel
theorem dX6_hand_16 : decode cX6_hand 16 = .ok (.invokestatic 53, 3) := by decide +kernel
theorem dX6_hand_19 : decode cX6_hand 19 = .ok (.ifCond .ne 9, 3) := by decide +kernel
theorem dX6_hand_22 : decode cX6_hand 22 = .ok (.aload_n 0, 1) := by decide +kernel
theorem dX6_hand_23 : decode cX6_hand 23 = .ok (.iconst 1, 1) := by decide +kernel
theorem dX6_hand_24 : decode cX6_hand 24 = .ok (.invokevirtual 57, 3) := by decide +kernel
theorem dX6_hand_27 : decode cX6_hand 27 = .ok (.ireturn, 1) := by decide +kernel
theorem dX6_hand_28 : decode cX6_hand 28 = .ok (.aload_n 0, 1) := by decide +kernel
theorem dX6_hand_29 : decode cX6_hand 29 = .ok (.getfield 10, 3) := by decide +kernel
theorem dX6_hand_32 : decode cX6_hand 32 = .ok (.getfield 61, 3) := by decide +kernel
theorem dX6_hand_35 : decode cX6_hand 35 = .ok (.iconst 4, 1) := by decide +kernel
theorem dX6_hand_36 : decode cX6_hand 36 = .ok (.if_icmp .lt 9, 3) := by decide +kernel
theorem dX6_hand_39 : decode cX6_hand 39 = .ok (.aload_n 0, 1) := by decide +kernel
theorem dX6_hand_40 : decode cX6_hand 40 = .ok (.iconst 4, 1) := by decide +kernel
theorem dX6_hand_41 : decode cX6_hand 41 = .ok (.invokevirtual 57, 3) := by decide +kernel
theorem dX6_hand_44 : decode cX6_hand 44 = .ok (.ireturn, 1) := by decide +kernel
theorem dX6_hand_45 : decode cX6_hand 45 = .ok (.aload_n 0, 1) := by decide +kernel
theorem dX6_hand_46 : decode cX6_hand 46 = .ok (.getfield 10, 3) := by decide +kernel
theorem dX6_hand_49 : decode cX6_hand 49 = .ok (.iload_n 1, 1) := by decide +kernel
theorem dX6_hand_50 : decode cX6_hand 50 = .ok (.iload_n 2, 1) := by decide +kernel
theorem dX6_hand_51 : decode cX6_hand 51 = .ok (.invokevirtual 65, 3) := by decide +kernel
theorem dX6_hand_54 : decode cX6_hand 54 = .ok (.ireturn, 1) := by decide +kernel
theorem dX6_handIs_0 : decode cX6_handIs 0 = .ok (.aload_n 0, 1) := by decide +kernel
theorem dX6_handIs_1 : decode cX6_handIs 1 = .ok (.getfield 10, 3) := by decide +kernel
theorem dX6_handIs_4 : decode cX6_handIs 4 = .ok (.iload_n 1, 1) := by decide +kernel
theorem dX6_handIs_5 : decode cX6_handIs 5 = .ok (.invokevirtual 69, 3) := by decide +kernel
theorem dX6_handIs_8 : decode cX6_handIs 8 = .ok (.ifCond .ne 9, 3) := by decide +kernel
theorem dX6_handIs_11 : decode cX6_handIs 11 = .ok (.aload_n 0, 1) := by decide +kernel
theorem dX6_handIs_12 : decode cX6_handIs 12 = .ok (.iconst 1, 1) := by decide +kernel
theorem dX6_handIs_13 : decode cX6_handIs 13 = .ok (.invokevirtual 57, 3) := by decide +kernel
theorem dX6_handIs_16 : decode cX6_handIs 16 = .ok (.ireturn, 1) := by decide +kernel
theorem dX6_handIs_17 : decode cX6_handIs 17 = .ok (.iload_n 2, 1) := by decide +kernel
theorem dX6_handIs_18 : decode cX6_handIs 18 = .ok (.tableswitch 75 0 3 #[30, 40, 50, 66], 30) := by decide +kernel
theorem dX6_handIs_48 : decode cX6_handIs 48 = .ok (.aload_n 0, 1) := by decide +kernel
theorem dX6_handIs_49 : decode cX6_handIs 49 = .ok (.getfield 10, 3) := by decide +kernel
theorem dX6_handIs_52 : decode cX6_handIs 52 = .ok (.getfield 73, 3) := by decide +kernel
theorem dX6_handIs_55 : decode cX6_handIs 55 = .ok (.iload_n 1, 1) := by decide +kernel
theorem dX6_handIs_56 : decode cX6_handIs 56 = .ok (.iaload, 1) := by decide +kernel
theorem dX6_handIs_57 : decode cX6_handIs 57 = .ok (.ireturn, 1) := by decide +kernel
theorem dX6_handIs_58 : decode cX6_handIs 58 = .ok (.aload_n 0, 1) := by decide +kernel
theorem dX6_handIs_59 : decode cX6_handIs 59 = .ok (.getfield 10, 3) := by decide +kernel
theorem dX6_handIs_62 : decode cX6_handIs 62 = .ok (.getfield 76, 3) := by decide +kernel
theorem dX6_handIs_65 : decode cX6_handIs 65 = .ok (.iload_n 1, 1) := by decide +kernel
theorem dX6_handIs_66 : decode cX6_handIs 66 = .ok (.iaload, 1) := by decide +kernel
theorem dX6_handIs_67 : decode cX6_handIs 67 = .ok (.ireturn, 1) := by decide +kernel
theorem dX6_handIs_68 : decode cX6_handIs 68 = .ok (.aload_n 0, 1) := by decide +kernel
theorem dX6_handIs_69 : decode cX6_handIs 69 = .ok (.getfield 10, 3) := by decide +kernel
theorem dX6_handIs_72 : decode cX6_handIs 72 = .ok (.iload_n 1, 1) := by decide +kernel
theorem dX6_handIs_73 : decode cX6_handIs 73 = .ok (.aload_n 0, 1) := by decide +kernel
theorem dX6_handIs_74 : decode cX6_handIs 74 = .ok (.getfield 10, 3) := by decide +kernel
theorem dX6_handIs_77 : decode cX6_handIs 77 = .ok (.getfield 79, 3) := by decide +kernel
theorem dX6_handIs_80 : decode cX6_handIs 80 = .ok (.invokevirtual 82, 3) := by decide +kernel
theorem dX6_handIs_83 : decode cX6_handIs 83 = .ok (.ireturn, 1) := by decide +kernel
theorem dX6_handIs_84 : decode cX6_handIs 84 = .ok (.aload_n 0, 1) := by decide +kernel
theorem dX6_handIs_85 : decode cX6_handIs 85 = .ok (.getfield 10, 3) := by decide +kernel
theorem dX6_handIs_88 : decode cX6_handIs 88 = .ok (.iload_n 1, 1) := by decide +kernel
theorem dX6_handIs_89 : decode cX6_handIs 89 = .ok (.invokevirtual 85, 3) := by decide +kernel
theorem dX6_handIs_92 : decode cX6_handIs 92 = .ok (.ireturn, 1) := by decide +kernel
theorem dX6_handIs_93 : decode cX6_handIs 93 = .ok (.aload_n 0, 1) := by decide +kernel
theorem dX6_handIs_94 : decode cX6_handIs 94 = .ok (.iconst 1, 1) := by decide +kernel
theorem dX6_handIs_95 : decode cX6_handIs 95 = .ok (.invokevirtual 57, 3) := by decide +kernel
theorem dX6_handIs_98 : decode cX6_handIs 98 = .ok (.ireturn, 1) := by decide +kernel
theorem dX6_frost_0 : decode cX6_frost 0 = .ok (.aload_n 0, 1) := by decide +kernel
theorem dX6_frost_1 : decode cX6_frost 1 = .ok (.getfield 10, 3) := by decide +kernel
theorem dX6_frost_4 : decode cX6_frost 4 = .ok (.iload_n 1, 1) := by decide +kernel
theorem dX6_frost_5 : decode cX6_frost 5 = .ok (.invokevirtual 69, 3) := by decide +kernel
theorem dX6_frost_8 : decode cX6_frost 8 = .ok (.ifCond .eq 13, 3) := by decide +kernel
theorem dX6_frost_11 : decode cX6_frost 11 = .ok (.iload_n 2, 1) := by decide +kernel
theorem dX6_frost_12 : decode cX6_frost 12 = .ok (.iconst 1, 1) := by decide +kernel
theorem dX6_frost_13 : decode cX6_frost 13 = .ok (.bipush 99, 2) := by decide +kernel
theorem dX6_frost_15 : decode cX6_frost 15 = .ok (.invokestatic 53, 3) := by decide +kernel
theorem dX6_frost_18 : decode cX6_frost 18 = .ok (.ifCond .ne 9, 3) := by decide +kernel
theorem dX6_frost_21 : decode cX6_frost 21 = .ok (.aload_n 0, 1) := by decide +kernel
theorem dX6_frost_22 : decode cX6_frost 22 = .ok (.iconst 1, 1) := by decide +kernel
theorem dX6_frost_23 : decode cX6_frost 23 = .ok (.invokevirtual 57, 3) := by decide +kernel
theorem dX6_frost_26 : decode cX6_frost 26 = .ok (.ireturn, 1) := by decide +kernel
theorem dX6_frost_27 : decode cX6_frost 27 = .ok (.aload_n 0, 1) := by decide +kernel
theorem dX6_frost_28 : decode cX6_frost 28 = .ok (.getfield 10, 3) := by decide +kernel
theorem dX6_frost_31 : decode cX6_frost 31 = .ok (.getfield 76, 3) := by decide +kernel
theorem dX6_frost_34 : decode cX6_frost 34 = .ok (.iload_n 1, 1) := by decide +kernel
theorem dX6_frost_35 : decode cX6_frost 35 = .ok (.aload_n 0, 1) := by decide +kernel
theorem dX6_frost_36 : decode cX6_frost 36 = .ok (.getfield 10, 3) := by decide +kernel
theorem dX6_frost_39 : decode cX6_frost 39 = .ok (.getfield 76, 3) := by decide +kernel
theorem dX6_frost_42 : decode cX6_frost 42 = .ok (.iload_n 1, 1) := by decide +kernel
theorem dX6_frost_43 : decode cX6_frost 43 = .ok (.iaload, 1) := by decide +kernel
theorem dX6_frost_44 : decode cX6_frost 44 = .ok (.iload_n 2, 1) := by decide +kernel
theorem dX6_frost_45 : decode cX6_frost 45 = .ok (.isub, 1) := by decide +kernel
theorem dX6_frost_46 : decode cX6_frost 46 = .ok (.aload_n 0, 1) := by decide +kernel
theorem dX6_frost_47 : decode cX6_frost 47 = .ok (.getfield 10, 3) := by decide +kernel
theorem dX6_frost_50 : decode cX6_frost 50 = .ok (.getfield 73, 3) := by decide +kernel
theorem dX6_frost_53 : decode cX6_frost 53 = .ok (.iload_n 1, 1) := by decide +kernel
theorem dX6_frost_54 : decode cX6_frost 54 = .ok (.iaload, 1) := by decide +kernel
theorem dX6_frost_55 : decode cX6_frost 55 = .ok (.invokestatic 88, 3) := by decide +kernel
theorem dX6_frost_58 : decode cX6_frost 58 = .ok (.iastore, 1) := by decide +kernel
theorem dX6_frost_59 : decode cX6_frost 59 = .ok (.aload_n 0, 1) := by decide +kernel
theorem dX6_frost_60 : decode cX6_frost 60 = .ok (.getfield 10, 3) := by decide +kernel
theorem dX6_frost_63 : decode cX6_frost 63 = .ok (.getfield 76, 3) := by decide +kernel
theorem dX6_frost_66 : decode cX6_frost 66 = .ok (.iload_n 1, 1) := by decide +kernel
theorem dX6_frost_67 : decode cX6_frost 67 = .ok (.iaload, 1) := by decide +kernel
theorem dX6_frost_68 : decode cX6_frost 68 = .ok (.ireturn, 1) := by decide +kernel
theorem dX6_home_0 : decode cX6_home 0 = .ok (.aload_n 0, 1) := by decide +kernel
theorem dX6_home_1 : decode cX6_home 1 = .ok (.getfield 10, 3) := by decide +kernel
theorem dX6_home_4 : decode cX6_home 4 = .ok (.iload_n 1, 1) := by decide +kernel
theorem dX6_home_5 : decode cX6_home 5 = .ok (.invokevirtual 69, 3) := by decide +kernel
theorem dX6_home_8 : decode cX6_home 8 = .ok (.ifCond .eq 13, 3) := by decide +kernel
theorem dX6_home_11 : decode cX6_home 11 = .ok (.iload_n 2, 1) := by decide +kernel
theorem dX6_home_12 : decode cX6_home 12 = .ok (.iconst 0, 1) := by decide +kernel
theorem dX6_home_13 : decode cX6_home 13 = .ok (.bipush 9, 2) := by decide +kernel
theorem dX6_home_15 : decode cX6_home 15 = .ok (.invokestatic 53, 3) := by decide +kernel
theorem dX6_home_18 : decode cX6_home 18 = .ok (.ifCond .ne 9, 3) := by decide +kernel
theorem dX6_home_21 : decode cX6_home 21 = .ok (.aload_n 0, 1) := by decide +kernel
theorem dX6_home_22 : decode cX6_home 22 = .ok (.iconst 1, 1) := by decide +kernel
theorem dX6_home_23 : decode cX6_home 23 = .ok (.invokevirtual 57, 3) := by decide +kernel
theorem dX6_home_26 : decode cX6_home 26 = .ok (.ireturn, 1) := by decide +kernel
theorem dX6_home_27 : decode cX6_home 27 = .ok (.aload_n 0, 1) := by decide +kernel
theorem dX6_home_28 : decode cX6_home 28 = .ok (.getfield 10, 3) := by decide +kernel
theorem dX6_home_31 : decode cX6_home 31 = .ok (.getfield 91, 3) := by decide +kernel
theorem dX6_home_34 : decode cX6_home 34 = .ok (.bipush 8, 2) := by decide +kernel
theorem dX6_home_36 : decode cX6_home 36 = .ok (.if_icmp .lt 9, 3) := by decide +kernel
theorem dX6_home_39 : decode cX6_home 39 = .ok (.aload_n 0, 1) := by decide +kernel
theorem dX6_home_40 : decode cX6_home 40 = .ok (.iconst 4, 1) := by decide +kernel
theorem dX6_home_41 : decode cX6_home 41 = .ok (.invokevirtual 57, 3) := by decide +kernel
theorem dX6_home_44 : decode cX6_home 44 = .ok (.ireturn, 1) := by decide +kernel
theorem dX6_home_45 : decode cX6_home 45 = .ok (.aload_n 0, 1) := by decide +kernel
theorem dX6_home_46 : decode cX6_home 46 = .ok (.getfield 10, 3) := by decide +kernel
theorem dX6_home_49 : decode cX6_home 49 = .ok (.iload_n 1, 1) := by decide +kernel
theorem dX6_home_50 : decode cX6_home 50 = .ok (.iload_n 2, 1) := by decide +kernel
theorem dX6_home_51 : decode cX6_home 51 = .ok (.invokevirtual 94, 3) := by decide +kernel
theorem dX6_home_54 : decode cX6_home 54 = .ok (.ireturn, 1) := by decide +kernel
theorem dX6_homeIs_0 : decode cX6_homeIs 0 = .ok (.aload_n 0, 1) := by decide +kernel
theorem dX6_homeIs_1 : decode cX6_homeIs 1 = .ok (.getfield 10, 3) := by decide +kernel
theorem dX6_homeIs_4 : decode cX6_homeIs 4 = .ok (.iload_n 1, 1) := by decide +kernel
theorem dX6_homeIs_5 : decode cX6_homeIs 5 = .ok (.invokevirtual 97, 3) := by decide +kernel
theorem dX6_homeIs_8 : decode cX6_homeIs 8 = .ok (.ifCond .ne 9, 3) := by decide +kernel
theorem dX6_homeIs_11 : decode cX6_homeIs 11 = .ok (.aload_n 0, 1) := by decide +kernel
theorem dX6_homeIs_12 : decode cX6_homeIs 12 = .ok (.iconst 1, 1) := by decide +kernel
theorem dX6_homeIs_13 : decode cX6_homeIs 13 = .ok (.invokevirtual 57, 3) := by decide +kernel
theorem dX6_homeIs_16 : decode cX6_homeIs 16 = .ok (.ireturn, 1) := by decide +kernel
theorem dX6_homeIs_17 : decode cX6_homeIs 17 = .ok (.iload_n 2, 1) := by decide +kernel
theorem dX6_homeIs_18 : decode cX6_homeIs 18 = .ok (.tableswitch 103 0 4 #[34, 44, 54, 78, 94], 34) := by decide +kernel
theorem dX6_homeIs_52 : decode cX6_homeIs 52 = .ok (.aload_n 0, 1) := by decide +kernel
theorem dX6_homeIs_53 : decode cX6_homeIs 53 = .ok (.getfield 10, 3) := by decide +kernel
theorem dX6_homeIs_56 : decode cX6_homeIs 56 = .ok (.getfield 100, 3) := by decide +kernel
theorem dX6_homeIs_59 : decode cX6_homeIs 59 = .ok (.iload_n 1, 1) := by decide +kernel
theorem dX6_homeIs_60 : decode cX6_homeIs 60 = .ok (.iaload, 1) := by decide +kernel
theorem dX6_homeIs_61 : decode cX6_homeIs 61 = .ok (.ireturn, 1) := by decide +kernel
theorem dX6_homeIs_62 : decode cX6_homeIs 62 = .ok (.aload_n 0, 1) := by decide +kernel
theorem dX6_homeIs_63 : decode cX6_homeIs 63 = .ok (.getfield 10, 3) := by decide +kernel
theorem dX6_homeIs_66 : decode cX6_homeIs 66 = .ok (.getfield 103, 3) := by decide +kernel
theorem dX6_homeIs_69 : decode cX6_homeIs 69 = .ok (.iload_n 1, 1) := by decide +kernel
theorem dX6_homeIs_70 : decode cX6_homeIs 70 = .ok (.iaload, 1) := by decide +kernel
theorem dX6_homeIs_71 : decode cX6_homeIs 71 = .ok (.ireturn, 1) := by decide +kernel
theorem dX6_homeIs_72 : decode cX6_homeIs 72 = .ok (.aload_n 0, 1) := by decide +kernel
theorem dX6_homeIs_73 : decode cX6_homeIs 73 = .ok (.getfield 10, 3) := by decide +kernel
theorem dX6_homeIs_76 : decode cX6_homeIs 76 = .ok (.aload_n 0, 1) := by decide +kernel
theorem dX6_homeIs_77 : decode cX6_homeIs 77 = .ok (.getfield 10, 3) := by decide +kernel
theorem dX6_homeIs_80 : decode cX6_homeIs 80 = .ok (.getfield 100, 3) := by decide +kernel
theorem dX6_homeIs_83 : decode cX6_homeIs 83 = .ok (.iload_n 1, 1) := by decide +kernel
theorem dX6_homeIs_84 : decode cX6_homeIs 84 = .ok (.iaload, 1) := by decide +kernel
theorem dX6_homeIs_85 : decode cX6_homeIs 85 = .ok (.aload_n 0, 1) := by decide +kernel
theorem dX6_homeIs_86 : decode cX6_homeIs 86 = .ok (.getfield 10, 3) := by decide +kernel
theorem dX6_homeIs_89 : decode cX6_homeIs 89 = .ok (.getfield 79, 3) := by decide +kernel
theorem dX6_homeIs_92 : decode cX6_homeIs 92 = .ok (.invokevirtual 82, 3) := by decide +kernel
theorem dX6_homeIs_95 : decode cX6_homeIs 95 = .ok (.ireturn, 1) := by decide +kernel
theorem dX6_homeIs_96 : decode cX6_homeIs 96 = .ok (.aload_n 0, 1) := by decide +kernel
theorem dX6_homeIs_97 : decode cX6_homeIs 97 = .ok (.getfield 10, 3) := by decide +kernel
theorem dX6_homeIs_100 : decode cX6_homeIs 100 = .ok (.iload_n 1, 1) := by decide +kernel
theorem dX6_homeIs_101 : decode cX6_homeIs 101 = .ok (.aload_n 0, 1) := by decide +kernel
theorem dX6_homeIs_102 : decode cX6_homeIs 102 = .ok (.getfield 10, 3) := by decide +kernel
theorem dX6_homeIs_105 : decode cX6_homeIs 105 = .ok (.getfield 79, 3) := by decide +kernel
theorem dX6_homeIs_108 : decode cX6_homeIs 108 = .ok (.invokevirtual 106, 3) := by decide +kernel
theorem dX6_homeIs_111 : decode cX6_homeIs 111 = .ok (.ireturn, 1) := by decide +kernel
theorem dX6_homeIs_112 : decode cX6_homeIs 112 = .ok (.aload_n 0, 1) := by decide +kernel
theorem dX6_homeIs_113 : decode cX6_homeIs 113 = .ok (.getfield 10, 3) := by decide +kernel
theorem dX6_homeIs_116 : decode cX6_homeIs 116 = .ok (.iload_n 1, 1) := by decide +kernel
theorem dX6_homeIs_117 : decode cX6_homeIs 117 = .ok (.invokevirtual 109, 3) := by decide +kernel
theorem dX6_homeIs_120 : decode cX6_homeIs 120 = .ok (.ireturn, 1) := by decide +kernel
theorem dX6_homeIs_121 : decode cX6_homeIs 121 = .ok (.aload_n 0, 1) := by decide +kernel
theorem dX6_homeIs_122 : decode cX6_homeIs 122 = .ok (.iconst 1, 1) := by decide +kernel
theorem dX6_homeIs_123 : decode cX6_homeIs 123 = .ok (.invokevirtual 57, 3) := by decide +kernel
theorem dX6_homeIs_126 : decode cX6_homeIs 126 = .ok (.ireturn, 1) := by decide +kernel
theorem dX6_person_0 : decode cX6_person 0 = .ok (.iload_n 1, 1) := by decide +kernel
theorem dX6_person_1 : decode cX6_person 1 = .ok (.invokestatic 112, 3) := by decide +kernel
theorem dX6_person_4 : decode cX6_person 4 = .ok (.ifCond .eq 14, 3) := by decide +kernel
theorem dX6_person_7 : decode cX6_person 7 = .ok (.aload_n 0, 1) := by decide +kernel
theorem dX6_person_8 : decode cX6_person 8 = .ok (.getfield 10, 3) := by decide +kernel
theorem dX6_person_11 : decode cX6_person 11 = .ok (.iload_n 2, 1) := by decide +kernel
theorem dX6_person_12 : decode cX6_person 12 = .ok (.invokevirtual 97, 3) := by decide +kernel
theorem dX6_person_15 : decode cX6_person 15 = .ok (.ifCond .ne 9, 3) := by decide +kernel
theorem dX6_person_18 : decode cX6_person 18 = .ok (.aload_n 0, 1) := by decide +kernel
theorem dX6_person_19 : decode cX6_person 19 = .ok (.iconst 1, 1) := by decide +kernel
theorem dX6_person_20 : decode cX6_person 20 = .ok (.invokevirtual 57, 3) := by decide +kernel
theorem dX6_person_23 : decode cX6_person 23 = .ok (.ireturn, 1) := by decide +kernel
theorem dX6_person_24 : decode cX6_person 24 = .ok (.aload_n 0, 1) := by decide +kernel
theorem dX6_person_25 : decode cX6_person 25 = .ok (.getfield 10, 3) := by decide +kernel
theorem dX6_person_28 : decode cX6_person 28 = .ok (.getfield 115, 3) := by decide +kernel
theorem dX6_person_31 : decode cX6_person 31 = .ok (.bipush 6, 2) := by decide +kernel
theorem dX6_person_33 : decode cX6_person 33 = .ok (.if_icmp .lt 9, 3) := by decide +kernel
theorem dX6_person_36 : decode cX6_person 36 = .ok (.aload_n 0, 1) := by decide +kernel
theorem dX6_person_37 : decode cX6_person 37 = .ok (.iconst 4, 1) := by decide +kernel
theorem dX6_person_38 : decode cX6_person 38 = .ok (.invokevirtual 57, 3) := by decide +kernel
theorem dX6_person_41 : decode cX6_person 41 = .ok (.ireturn, 1) := by decide +kernel
theorem dX6_person_42 : decode cX6_person 42 = .ok (.aload_n 0, 1) := by decide +kernel
theorem dX6_person_43 : decode cX6_person 43 = .ok (.getfield 10, 3) := by decide +kernel
theorem dX6_person_46 : decode cX6_person 46 = .ok (.iload_n 1, 1) := by decide +kernel
theorem dX6_person_47 : decode cX6_person 47 = .ok (.iload_n 2, 1) := by decide +kernel
theorem dX6_person_48 : decode cX6_person 48 = .ok (.invokevirtual 118, 3) := by decide +kernel
theorem dX6_person_51 : decode cX6_person 51 = .ok (.ireturn, 1) := by decide +kernel
theorem dX6_personIs_0 : decode cX6_personIs 0 = .ok (.aload_n 0, 1) := by decide +kernel
theorem dX6_personIs_1 : decode cX6_personIs 1 = .ok (.getfield 10, 3) := by decide +kernel
theorem dX6_personIs_4 : decode cX6_personIs 4 = .ok (.iload_n 1, 1) := by decide +kernel
theorem dX6_personIs_5 : decode cX6_personIs 5 = .ok (.invokevirtual 121, 3) := by decide +kernel
theorem dX6_personIs_8 : decode cX6_personIs 8 = .ok (.ifCond .ne 9, 3) := by decide +kernel
theorem dX6_personIs_11 : decode cX6_personIs 11 = .ok (.aload_n 0, 1) := by decide +kernel
theorem dX6_personIs_12 : decode cX6_personIs 12 = .ok (.iconst 1, 1) := by decide +kernel
theorem dX6_personIs_13 : decode cX6_personIs 13 = .ok (.invokevirtual 57, 3) := by decide +kernel
theorem dX6_personIs_16 : decode cX6_personIs 16 = .ok (.ireturn, 1) := by decide +kernel
theorem dX6_personIs_17 : decode cX6_personIs 17 = .ok (.iload_n 2, 1) := by decide +kernel
theorem dX6_personIs_18 : decode cX6_personIs 18 = .ok (.tableswitch 103 0 5 #[38, 48, 58, 68, 84, 93], 38) := by decide +kernel
theorem dX6_personIs_56 : decode cX6_personIs 56 = .ok (.aload_n 0, 1) := by decide +kernel
theorem dX6_personIs_57 : decode cX6_personIs 57 = .ok (.getfield 10, 3) := by decide +kernel
theorem dX6_personIs_60 : decode cX6_personIs 60 = .ok (.getfield 124, 3) := by decide +kernel
theorem dX6_personIs_63 : decode cX6_personIs 63 = .ok (.iload_n 1, 1) := by decide +kernel
theorem dX6_personIs_64 : decode cX6_personIs 64 = .ok (.iaload, 1) := by decide +kernel
theorem dX6_personIs_65 : decode cX6_personIs 65 = .ok (.ireturn, 1) := by decide +kernel
theorem dX6_personIs_66 : decode cX6_personIs 66 = .ok (.aload_n 0, 1) := by decide +kernel
theorem dX6_personIs_67 : decode cX6_personIs 67 = .ok (.getfield 10, 3) := by decide +kernel
theorem dX6_personIs_70 : decode cX6_personIs 70 = .ok (.getfield 127, 3) := by decide +kernel
theorem dX6_personIs_73 : decode cX6_personIs 73 = .ok (.iload_n 1, 1) := by decide +kernel
theorem dX6_personIs_74 : decode cX6_personIs 74 = .ok (.iaload, 1) := by decide +kernel
theorem dX6_personIs_75 : decode cX6_personIs 75 = .ok (.ireturn, 1) := by decide +kernel
theorem dX6_personIs_76 : decode cX6_personIs 76 = .ok (.aload_n 0, 1) := by decide +kernel
theorem dX6_personIs_77 : decode cX6_personIs 77 = .ok (.getfield 10, 3) := by decide +kernel
theorem dX6_personIs_80 : decode cX6_personIs 80 = .ok (.getfield 130, 3) := by decide +kernel
theorem dX6_personIs_83 : decode cX6_personIs 83 = .ok (.iload_n 1, 1) := by decide +kernel
theorem dX6_personIs_84 : decode cX6_personIs 84 = .ok (.iaload, 1) := by decide +kernel
theorem dX6_personIs_85 : decode cX6_personIs 85 = .ok (.ireturn, 1) := by decide +kernel
theorem dX6_personIs_86 : decode cX6_personIs 86 = .ok (.aload_n 0, 1) := by decide +kernel
theorem dX6_personIs_87 : decode cX6_personIs 87 = .ok (.getfield 10, 3) := by decide +kernel
theorem dX6_personIs_90 : decode cX6_personIs 90 = .ok (.iload_n 1, 1) := by decide +kernel
theorem dX6_personIs_91 : decode cX6_personIs 91 = .ok (.aload_n 0, 1) := by decide +kernel
theorem dX6_personIs_92 : decode cX6_personIs 92 = .ok (.getfield 10, 3) := by decide +kernel
theorem dX6_personIs_95 : decode cX6_personIs 95 = .ok (.getfield 79, 3) := by decide +kernel
theorem dX6_personIs_98 : decode cX6_personIs 98 = .ok (.invokevirtual 133, 3) := by decide +kernel
theorem dX6_personIs_101 : decode cX6_personIs 101 = .ok (.ireturn, 1) := by decide +kernel
theorem dX6_personIs_102 : decode cX6_personIs 102 = .ok (.aload_n 0, 1) := by decide +kernel
theorem dX6_personIs_103 : decode cX6_personIs 103 = .ok (.getfield 10, 3) := by decide +kernel
theorem dX6_personIs_106 : decode cX6_personIs 106 = .ok (.iload_n 1, 1) := by decide +kernel
theorem dX6_personIs_107 : decode cX6_personIs 107 = .ok (.invokevirtual 136, 3) := by decide +kernel
theorem dX6_personIs_110 : decode cX6_personIs 110 = .ok (.ireturn, 1) := by decide +kernel
theorem dX6_personIs_111 : decode cX6_personIs 111 = .ok (.aload_n 0, 1) := by decide +kernel
theorem dX6_personIs_112 : decode cX6_personIs 112 = .ok (.getfield 31, 3) := by decide +kernel
theorem dX6_personIs_115 : decode cX6_personIs 115 = .ok (.iload_n 1, 1) := by decide +kernel
theorem dX6_personIs_116 : decode cX6_personIs 116 = .ok (.iconst 1, 1) := by decide +kernel
theorem dX6_personIs_117 : decode cX6_personIs 117 = .ok (.invokevirtual 139, 3) := by decide +kernel
theorem dX6_personIs_120 : decode cX6_personIs 120 = .ok (.ireturn, 1) := by decide +kernel
theorem dX6_personIs_121 : decode cX6_personIs 121 = .ok (.aload_n 0, 1) := by decide +kernel
theorem dX6_personIs_122 : decode cX6_personIs 122 = .ok (.iconst 1, 1) := by decide +kernel
theorem dX6_personIs_123 : decode cX6_personIs 123 = .ok (.invokevirtual 57, 3) := by decide +kernel
theorem dX6_personIs_126 : decode cX6_personIs 126 = .ok (.ireturn, 1) := by decide +kernel
theorem dX6_become_0 : decode cX6_become 0 = .ok (.aload_n 0, 1) := by decide +kernel
theorem dX6_become_1 : decode cX6_become 1 = .ok (.getfield 10, 3) := by decide +kernel
theorem dX6_become_4 : decode cX6_become 4 = .ok (.iload_n 1, 1) := by decide +kernel
theorem dX6_become_5 : decode cX6_become 5 = .ok (.invokevirtual 121, 3) := by decide +kernel
theorem dX6_become_8 : decode cX6_become 8 = .ok (.ifCond .eq 10, 3) := by decide +kernel
theorem dX6_become_11 : decode cX6_become 11 = .ok (.iload_n 2, 1) := by decide +kernel
theorem dX6_become_12 : decode cX6_become 12 = .ok (.invokestatic 112, 3) := by decide +kernel
theorem dX6_become_15 : decode cX6_become 15 = .ok (.ifCond .ne 9, 3) := by decide +kernel
theorem dX6_become_18 : decode cX6_become 18 = .ok (.aload_n 0, 1) := by decide +kernel
theorem dX6_become_19 : decode cX6_become 19 = .ok (.iconst 1, 1) := by decide +kernel
theorem dX6_become_20 : decode cX6_become 20 = .ok (.invokevirtual 57, 3) := by decide +kernel
theorem dX6_become_23 : decode cX6_become 23 = .ok (.ireturn, 1) := by decide +kernel
theorem dX6_become_24 : decode cX6_become 24 = .ok (.aload_n 0, 1) := by decide +kernel
theorem dX6_become_25 : decode cX6_become 25 = .ok (.getfield 10, 3) := by decide +kernel
theorem dX6_become_28 : decode cX6_become 28 = .ok (.getfield 124, 3) := by decide +kernel
theorem dX6_become_31 : decode cX6_become 31 = .ok (.iload_n 1, 1) := by decide +kernel
theorem dX6_become_32 : decode cX6_become 32 = .ok (.iaload, 1) := by decide +kernel
theorem dX6_become_33 : decode cX6_become 33 = .ok (.istore_n 3, 1) := by decide +kernel
theorem dX6_become_34 : decode cX6_become 34 = .ok (.aload_n 0, 1) := by decide +kernel
theorem dX6_become_35 : decode cX6_become 35 = .ok (.getfield 10, 3) := by decide +kernel
theorem dX6_become_38 : decode cX6_become 38 = .ok (.iload_n 1, 1) := by decide +kernel
theorem dX6_become_39 : decode cX6_become 39 = .ok (.iload_n 2, 1) := by decide +kernel
theorem dX6_become_40 : decode cX6_become 40 = .ok (.invokevirtual 142, 3) := by decide +kernel
theorem dX6_become_43 : decode cX6_become 43 = .ok (.iload_n 3, 1) := by decide +kernel
theorem dX6_become_44 : decode cX6_become 44 = .ok (.ireturn, 1) := by decide +kernel
theorem dX6_as_0 : decode cX6_as 0 = .ok (.aload_n 0, 1) := by decide +kernel
theorem dX6_as_1 : decode cX6_as 1 = .ok (.getfield 10, 3) := by decide +kernel
theorem dX6_as_4 : decode cX6_as 4 = .ok (.iload_n 1, 1) := by decide +kernel
theorem dX6_as_5 : decode cX6_as 5 = .ok (.invokevirtual 121, 3) := by decide +kernel
theorem dX6_as_8 : decode cX6_as 8 = .ok (.ifCond .eq 13, 3) := by decide +kernel
theorem dX6_as_11 : decode cX6_as 11 = .ok (.iload_n 2, 1) := by decide +kernel
theorem dX6_as_12 : decode cX6_as 12 = .ok (.iconst 0, 1) := by decide +kernel
theorem dX6_as_13 : decode cX6_as 13 = .ok (.bipush 6, 2) := by decide +kernel
theorem dX6_as_15 : decode cX6_as 15 = .ok (.invokestatic 53, 3) := by decide +kernel
theorem dX6_as_18 : decode cX6_as 18 = .ok (.ifCond .ne 9, 3) := by decide +kernel
theorem dX6_as_21 : decode cX6_as 21 = .ok (.aload_n 0, 1) := by decide +kernel
theorem dX6_as_22 : decode cX6_as 22 = .ok (.iconst 1, 1) := by decide +kernel
theorem dX6_as_23 : decode cX6_as 23 = .ok (.invokevirtual 57, 3) := by decide +kernel
theorem dX6_as_26 : decode cX6_as 26 = .ok (.ireturn, 1) := by decide +kernel
theorem dX6_as_27 : decode cX6_as 27 = .ok (.aload_n 0, 1) := by decide +kernel
theorem dX6_as_28 : decode cX6_as 28 = .ok (.getfield 10, 3) := by decide +kernel
theorem dX6_as_31 : decode cX6_as 31 = .ok (.getfield 124, 3) := by decide +kernel
theorem dX6_as_34 : decode cX6_as 34 = .ok (.iload_n 1, 1) := by decide +kernel
theorem dX6_as_35 : decode cX6_as 35 = .ok (.iaload, 1) := by decide +kernel
theorem dX6_as_36 : decode cX6_as 36 = .ok (.iload_n 2, 1) := by decide +kernel
theorem dX6_as_37 : decode cX6_as 37 = .ok (.invokestatic 146, 3) := by decide +kernel
theorem dX6_as_40 : decode cX6_as 40 = .ok (.ifCond .ne 9, 3) := by decide +kernel
theorem dX6_as_43 : decode cX6_as 43 = .ok (.aload_n 0, 1) := by decide +kernel
theorem dX6_as_44 : decode cX6_as 44 = .ok (.iconst 5, 1) := by decide +kernel
theorem dX6_as_45 : decode cX6_as 45 = .ok (.invokevirtual 57, 3) := by decide +kernel
theorem dX6_as_48 : decode cX6_as 48 = .ok (.ireturn, 1) := by decide +kernel
theorem dX6_as_49 : decode cX6_as 49 = .ok (.aload_n 0, 1) := by decide +kernel
theorem dX6_as_50 : decode cX6_as 50 = .ok (.getfield 10, 3) := by decide +kernel
theorem dX6_as_53 : decode cX6_as 53 = .ok (.getfield 127, 3) := by decide +kernel
theorem dX6_as_56 : decode cX6_as 56 = .ok (.iload_n 1, 1) := by decide +kernel
theorem dX6_as_57 : decode cX6_as 57 = .ok (.iaload, 1) := by decide +kernel
theorem dX6_as_58 : decode cX6_as 58 = .ok (.ireturn, 1) := by decide +kernel
theorem dX6_jump_0 : decode cX6_jump 0 = .ok (.aload_n 0, 1) := by decide +kernel
theorem dX6_jump_1 : decode cX6_jump 1 = .ok (.getfield 10, 3) := by decide +kernel
theorem dX6_jump_4 : decode cX6_jump 4 = .ok (.iload_n 1, 1) := by decide +kernel
theorem dX6_jump_5 : decode cX6_jump 5 = .ok (.invokevirtual 121, 3) := by decide +kernel
theorem dX6_jump_8 : decode cX6_jump 8 = .ok (.ifCond .eq 14, 3) := by decide +kernel
theorem dX6_jump_11 : decode cX6_jump 11 = .ok (.aload_n 0, 1) := by decide +kernel
theorem dX6_jump_12 : decode cX6_jump 12 = .ok (.getfield 10, 3) := by decide +kernel
theorem dX6_jump_15 : decode cX6_jump 15 = .ok (.iload_n 2, 1) := by decide +kernel
theorem dX6_jump_16 : decode cX6_jump 16 = .ok (.invokevirtual 97, 3) := by decide +kernel
theorem dX6_jump_19 : decode cX6_jump 19 = .ok (.ifCond .ne 9, 3) := by decide +kernel
theorem dX6_jump_22 : decode cX6_jump 22 = .ok (.aload_n 0, 1) := by decide +kernel
theorem dX6_jump_23 : decode cX6_jump 23 = .ok (.iconst 1, 1) := by decide +kernel
theorem dX6_jump_24 : decode cX6_jump 24 = .ok (.invokevirtual 57, 3) := by decide +kernel
theorem dX6_jump_27 : decode cX6_jump 27 = .ok (.ireturn, 1) := by decide +kernel
theorem dX6_jump_28 : decode cX6_jump 28 = .ok (.aload_n 0, 1) := by decide +kernel
theorem dX6_jump_29 : decode cX6_jump 29 = .ok (.getfield 10, 3) := by decide +kernel
theorem dX6_jump_32 : decode cX6_jump 32 = .ok (.getfield 130, 3) := by decide +kernel
theorem dX6_jump_35 : decode cX6_jump 35 = .ok (.iload_n 1, 1) := by decide +kernel
theorem dX6_jump_36 : decode cX6_jump 36 = .ok (.iaload, 1) := by decide +kernel
theorem dX6_jump_37 : decode cX6_jump 37 = .ok (.istore_n 3, 1) := by decide +kernel
theorem dX6_jump_38 : decode cX6_jump 38 = .ok (.iload_n 2, 1) := by decide +kernel
theorem dX6_jump_39 : decode cX6_jump 39 = .ok (.iload_n 3, 1) := by decide +kernel
theorem dX6_jump_40 : decode cX6_jump 40 = .ok (.if_icmp .eq 28, 3) := by decide +kernel
theorem dX6_jump_43 : decode cX6_jump 43 = .ok (.aload_n 0, 1) := by decide +kernel
theorem dX6_jump_44 : decode cX6_jump 44 = .ok (.getfield 10, 3) := by decide +kernel
theorem dX6_jump_47 : decode cX6_jump 47 = .ok (.iload_n 1, 1) := by decide +kernel
theorem dX6_jump_48 : decode cX6_jump 48 = .ok (.iload_n 2, 1) := by decide +kernel
theorem dX6_jump_49 : decode cX6_jump 49 = .ok (.aload_n 0, 1) := by decide +kernel
theorem dX6_jump_50 : decode cX6_jump 50 = .ok (.getfield 10, 3) := by decide +kernel
theorem dX6_jump_53 : decode cX6_jump 53 = .ok (.getfield 79, 3) := by decide +kernel
theorem dX6_jump_56 : decode cX6_jump 56 = .ok (.invokevirtual 150, 3) := by decide +kernel
theorem dX6_jump_59 : decode cX6_jump 59 = .ok (.ifCond .ne 9, 3) := by decide +kernel
theorem dX6_jump_62 : decode cX6_jump 62 = .ok (.aload_n 0, 1) := by decide +kernel
theorem dX6_jump_63 : decode cX6_jump 63 = .ok (.iconst 3, 1) := by decide +kernel
theorem dX6_jump_64 : decode cX6_jump 64 = .ok (.invokevirtual 57, 3) := by decide +kernel
theorem dX6_jump_67 : decode cX6_jump 67 = .ok (.ireturn, 1) := by decide +kernel
theorem dX6_jump_68 : decode cX6_jump 68 = .ok (.aload_n 0, 1) := by decide +kernel
theorem dX6_jump_69 : decode cX6_jump 69 = .ok (.getfield 10, 3) := by decide +kernel
theorem dX6_jump_72 : decode cX6_jump 72 = .ok (.getfield 130, 3) := by decide +kernel
theorem dX6_jump_75 : decode cX6_jump 75 = .ok (.iload_n 1, 1) := by decide +kernel
theorem dX6_jump_76 : decode cX6_jump 76 = .ok (.iload_n 2, 1) := by decide +kernel
theorem dX6_jump_77 : decode cX6_jump 77 = .ok (.iastore, 1) := by decide +kernel
theorem dX6_jump_78 : decode cX6_jump 78 = .ok (.iload_n 3, 1) := by decide +kernel
theorem dX6_jump_79 : decode cX6_jump 79 = .ok (.ireturn, 1) := by decide +kernel
theorem dX6_feed_0 : decode cX6_feed 0 = .ok (.iload_n 3, 1) := by decide +kernel
theorem dX6_feed_1 : decode cX6_feed 1 = .ok (.iconst 1, 1) := by decide +kernel
theorem dX6_feed_2 : decode cX6_feed 2 = .ok (.bipush 8, 2) := by decide +kernel
theorem dX6_feed_4 : decode cX6_feed 4 = .ok (.invokestatic 53, 3) := by decide +kernel
theorem dX6_feed_7 : decode cX6_feed 7 = .ok (.ifCond .ne 9, 3) := by decide +kernel
theorem dX6_feed_10 : decode cX6_feed 10 = .ok (.aload_n 0, 1) := by decide +kernel
theorem dX6_feed_11 : decode cX6_feed 11 = .ok (.iconst 1, 1) := by decide +kernel
theorem dX6_feed_12 : decode cX6_feed 12 = .ok (.invokevirtual 57, 3) := by decide +kernel
theorem dX6_feed_15 : decode cX6_feed 15 = .ok (.ireturn, 1) := by decide +kernel
theorem dX6_feed_16 : decode cX6_feed 16 = .ok (.aload_n 0, 1) := by decide +kernel
theorem dX6_feed_17 : decode cX6_feed 17 = .ok (.getfield 10, 3) := by decide +kernel
theorem dX6_feed_20 : decode cX6_feed 20 = .ok (.getfield 153, 3) := by decide +kernel
theorem dX6_feed_23 : decode cX6_feed 23 = .ok (.iload_n 3, 1) := by decide +kernel
theorem dX6_feed_24 : decode cX6_feed 24 = .ok (.iadd, 1) := by decide +kernel
theorem dX6_feed_25 : decode cX6_feed 25 = .ok (.bipush 60, 2) := by decide +kernel
theorem dX6_feed_27 : decode cX6_feed 27 = .ok (.if_icmp .le 9, 3) := by decide +kernel
theorem dX6_feed_30 : decode cX6_feed 30 = .ok (.aload_n 0, 1) := by decide +kernel
theorem dX6_feed_31 : decode cX6_feed 31 = .ok (.iconst 4, 1) := by decide +kernel
theorem dX6_feed_32 : decode cX6_feed 32 = .ok (.invokevirtual 57, 3) := by decide +kernel
theorem dX6_feed_35 : decode cX6_feed 35 = .ok (.ireturn, 1) := by decide +kernel
theorem dX6_feed_36 : decode cX6_feed 36 = .ok (.aload_n 0, 1) := by decide +kernel
theorem dX6_feed_37 : decode cX6_feed 37 = .ok (.getfield 10, 3) := by decide +kernel
theorem dX6_feed_40 : decode cX6_feed 40 = .ok (.lload_n 1, 1) := by decide +kernel
theorem dX6_feed_41 : decode cX6_feed 41 = .ok (.iload_n 3, 1) := by decide +kernel
theorem dX6_feed_42 : decode cX6_feed 42 = .ok (.invokevirtual 156, 3) := by decide +kernel
theorem dX6_feed_45 : decode cX6_feed 45 = .ok (.aload_n 0, 1) := by decide +kernel
theorem dX6_feed_46 : decode cX6_feed 46 = .ok (.getfield 10, 3) := by decide +kernel
theorem dX6_feed_49 : decode cX6_feed 49 = .ok (.getfield 153, 3) := by decide +kernel
theorem dX6_feed_52 : decode cX6_feed 52 = .ok (.ireturn, 1) := by decide +kernel
theorem dX6_text_0 : decode cX6_text 0 = .ok (.iload_n 1, 1) := by decide +kernel
theorem dX6_text_1 : decode cX6_text 1 = .ok (.invokestatic 160, 3) := by decide +kernel
theorem dX6_text_4 : decode cX6_text 4 = .ok (.ifCond .ne 9, 3) := by decide +kernel
theorem dX6_text_7 : decode cX6_text 7 = .ok (.aload_n 0, 1) := by decide +kernel
theorem dX6_text_8 : decode cX6_text 8 = .ok (.iconst 1, 1) := by decide +kernel
theorem dX6_text_9 : decode cX6_text 9 = .ok (.invokevirtual 57, 3) := by decide +kernel
theorem dX6_text_12 : decode cX6_text 12 = .ok (.ireturn, 1) := by decide +kernel
theorem dX6_text_13 : decode cX6_text 13 = .ok (.aload_n 0, 1) := by decide +kernel
theorem dX6_text_14 : decode cX6_text 14 = .ok (.getfield 24, 3) := by decide +kernel
theorem dX6_text_17 : decode cX6_text 17 = .ok (.iload_n 1, 1) := by decide +kernel
theorem dX6_text_18 : decode cX6_text 18 = .ok (.invokevirtual 163, 3) := by decide +kernel
theorem dX6_text_21 : decode cX6_text 21 = .ok (.istore_n 2, 1) := by decide +kernel
theorem dX6_text_22 : decode cX6_text 22 = .ok (.aload_n 0, 1) := by decide +kernel
theorem dX6_text_23 : decode cX6_text 23 = .ok (.getfield 10, 3) := by decide +kernel
theorem dX6_text_26 : decode cX6_text 26 = .ok (.iconst 0, 1) := by decide +kernel
theorem dX6_text_27 : decode cX6_text 27 = .ok (.putfield 153, 3) := by decide +kernel
theorem dX6_text_30 : decode cX6_text 30 = .ok (.iload_n 2, 1) := by decide +kernel
theorem dX6_text_31 : decode cX6_text 31 = .ok (.ifCond .lt 8, 3) := by decide +kernel
theorem dX6_text_34 : decode cX6_text 34 = .ok (.bipush (-10), 2) := by decide +kernel
theorem dX6_text_36 : decode cX6_text 36 = .ok (.iload_n 2, 1) := by decide +kernel
theorem dX6_text_37 : decode cX6_text 37 = .ok (.isub, 1) := by decide +kernel
theorem dX6_text_38 : decode cX6_text 38 = .ok (.ireturn, 1) := by decide +kernel
theorem dX6_text_39 : decode cX6_text 39 = .ok (.aload_n 0, 1) := by decide +kernel
theorem dX6_text_40 : decode cX6_text 40 = .ok (.getfield 10, 3) := by decide +kernel
theorem dX6_text_43 : decode cX6_text 43 = .ok (.getfield 166, 3) := by decide +kernel
theorem dX6_text_46 : decode cX6_text 46 = .ok (.iload_n 1, 1) := by decide +kernel
theorem dX6_text_47 : decode cX6_text 47 = .ok (.aaload, 1) := by decide +kernel
theorem dX6_text_48 : decode cX6_text 48 = .ok (.aload_n 0, 1) := by decide +kernel
theorem dX6_text_49 : decode cX6_text 49 = .ok (.getfield 24, 3) := by decide +kernel
theorem dX6_text_52 : decode cX6_text 52 = .ok (.getfield 170, 3) := by decide +kernel
theorem dX6_text_55 : decode cX6_text 55 = .ok (.aload_n 0, 1) := by decide +kernel
theorem dX6_text_56 : decode cX6_text 56 = .ok (.getfield 24, 3) := by decide +kernel
theorem dX6_text_59 : decode cX6_text 59 = .ok (.getfield 173, 3) := by decide +kernel
theorem dX6_text_62 : decode cX6_text 62 = .ok (.invokevirtual 176, 3) := by decide +kernel
theorem dX6_text_65 : decode cX6_text 65 = .ok (.iconst 1, 1) := by decide +kernel
theorem dX6_text_66 : decode cX6_text 66 = .ok (.ireturn, 1) := by decide +kernel
theorem dX6_untell_0 : decode cX6_untell 0 = .ok (.iload_n 1, 1) := by decide +kernel
theorem dX6_untell_1 : decode cX6_untell 1 = .ok (.invokestatic 160, 3) := by decide +kernel
theorem dX6_untell_4 : decode cX6_untell 4 = .ok (.ifCond .ne 9, 3) := by decide +kernel
theorem dX6_untell_7 : decode cX6_untell 7 = .ok (.aload_n 0, 1) := by decide +kernel
theorem dX6_untell_8 : decode cX6_untell 8 = .ok (.iconst 1, 1) := by decide +kernel
theorem dX6_untell_9 : decode cX6_untell 9 = .ok (.invokevirtual 57, 3) := by decide +kernel
theorem dX6_untell_12 : decode cX6_untell 12 = .ok (.ireturn, 1) := by decide +kernel
theorem dX6_untell_13 : decode cX6_untell 13 = .ok (.aload_n 0, 1) := by decide +kernel
theorem dX6_untell_14 : decode cX6_untell 14 = .ok (.getfield 10, 3) := by decide +kernel
theorem dX6_untell_17 : decode cX6_untell 17 = .ok (.getfield 166, 3) := by decide +kernel
theorem dX6_untell_20 : decode cX6_untell 20 = .ok (.iload_n 1, 1) := by decide +kernel
theorem dX6_untell_21 : decode cX6_untell 21 = .ok (.aaload, 1) := by decide +kernel
theorem dX6_untell_22 : decode cX6_untell 22 = .ok (.getfield 182, 3) := by decide +kernel
theorem dX6_untell_25 : decode cX6_untell 25 = .ok (.ifCond .le 7, 3) := by decide +kernel
theorem dX6_untell_28 : decode cX6_untell 28 = .ok (.iconst 1, 1) := by decide +kernel
theorem dX6_untell_29 : decode cX6_untell 29 = .ok (.goto 4, 3) := by decide +kernel
theorem dX6_untell_32 : decode cX6_untell 32 = .ok (.iconst 0, 1) := by decide +kernel
theorem dX6_untell_33 : decode cX6_untell 33 = .ok (.istore_n 2, 1) := by decide +kernel
theorem dX6_untell_34 : decode cX6_untell 34 = .ok (.aload_n 0, 1) := by decide +kernel
theorem dX6_untell_35 : decode cX6_untell 35 = .ok (.getfield 10, 3) := by decide +kernel
theorem dX6_untell_38 : decode cX6_untell 38 = .ok (.getfield 166, 3) := by decide +kernel
theorem dX6_untell_41 : decode cX6_untell 41 = .ok (.iload_n 1, 1) := by decide +kernel
theorem dX6_untell_42 : decode cX6_untell 42 = .ok (.aaload, 1) := by decide +kernel
theorem dX6_untell_43 : decode cX6_untell 43 = .ok (.iconst 0, 1) := by decide +kernel
theorem dX6_untell_44 : decode cX6_untell 44 = .ok (.putfield 182, 3) := by decide +kernel
theorem dX6_untell_47 : decode cX6_untell 47 = .ok (.iload_n 2, 1) := by decide +kernel
theorem dX6_untell_48 : decode cX6_untell 48 = .ok (.ireturn, 1) := by decide +kernel
theorem dX6_law_0 : decode cX6_law 0 = .ok (.iload_n 1, 1) := by decide +kernel
theorem dX6_law_1 : decode cX6_law 1 = .ok (.invokestatic 160, 3) := by decide +kernel
theorem dX6_law_4 : decode cX6_law 4 = .ok (.ifCond .ne 9, 3) := by decide +kernel
theorem dX6_law_7 : decode cX6_law 7 = .ok (.aload_n 0, 1) := by decide +kernel
theorem dX6_law_8 : decode cX6_law 8 = .ok (.iconst 1, 1) := by decide +kernel
theorem dX6_law_9 : decode cX6_law 9 = .ok (.invokevirtual 57, 3) := by decide +kernel
theorem dX6_law_12 : decode cX6_law 12 = .ok (.ireturn, 1) := by decide +kernel
theorem dX6_law_13 : decode cX6_law 13 = .ok (.iload_n 1, 1) := by decide +kernel
theorem dX6_law_14 : decode cX6_law 14 = .ok (.ifCond .ne 17, 3) := by decide +kernel
theorem dX6_law_17 : decode cX6_law 17 = .ok (.aload_n 0, 1) := by decide +kernel
theorem dX6_law_18 : decode cX6_law 18 = .ok (.getfield 10, 3) := by decide +kernel
theorem dX6_law_21 : decode cX6_law 21 = .ok (.iload_n 2, 1) := by decide +kernel
theorem dX6_law_22 : decode cX6_law 22 = .ok (.iload_n 3, 1) := by decide +kernel
theorem dX6_law_23 : decode cX6_law 23 = .ok (.iload 4, 2) := by decide +kernel
theorem dX6_law_25 : decode cX6_law 25 = .ok (.invokevirtual 183, 3) := by decide +kernel
theorem dX6_law_28 : decode cX6_law 28 = .ok (.goto 14, 3) := by decide +kernel
theorem dX6_law_31 : decode cX6_law 31 = .ok (.aload_n 0, 1) := by decide +kernel
theorem dX6_law_32 : decode cX6_law 32 = .ok (.getfield 10, 3) := by decide +kernel
theorem dX6_law_35 : decode cX6_law 35 = .ok (.iload_n 2, 1) := by decide +kernel
theorem dX6_law_36 : decode cX6_law 36 = .ok (.iload_n 3, 1) := by decide +kernel
theorem dX6_law_37 : decode cX6_law 37 = .ok (.iload 4, 2) := by decide +kernel
theorem dX6_law_39 : decode cX6_law 39 = .ok (.invokevirtual 187, 3) := by decide +kernel
theorem dX6_law_42 : decode cX6_law 42 = .ok (.ireturn, 1) := by decide +kernel
theorem dX6_minutes_0 : decode cX6_minutes 0 = .ok (.iload_n 1, 1) := by decide +kernel
theorem dX6_minutes_1 : decode cX6_minutes 1 = .ok (.iconst 1, 1) := by decide +kernel
theorem dX6_minutes_2 : decode cX6_minutes 2 = .ok (.sipush 720, 3) := by decide +kernel
theorem dX6_minutes_5 : decode cX6_minutes 5 = .ok (.invokestatic 53, 3) := by decide +kernel
theorem dX6_minutes_8 : decode cX6_minutes 8 = .ok (.ifCond .ne 9, 3) := by decide +kernel
theorem dX6_minutes_11 : decode cX6_minutes 11 = .ok (.aload_n 0, 1) := by decide +kernel
theorem dX6_minutes_12 : decode cX6_minutes 12 = .ok (.iconst 1, 1) := by decide +kernel
theorem dX6_minutes_13 : decode cX6_minutes 13 = .ok (.invokevirtual 57, 3) := by decide +kernel
theorem dX6_minutes_16 : decode cX6_minutes 16 = .ok (.ireturn, 1) := by decide +kernel
theorem dX6_minutes_17 : decode cX6_minutes 17 = .ok (.aload_n 0, 1) := by decide +kernel
theorem dX6_minutes_18 : decode cX6_minutes 18 = .ok (.getfield 10, 3) := by decide +kernel
theorem dX6_minutes_21 : decode cX6_minutes 21 = .ok (.getfield 79, 3) := by decide +kernel
theorem dX6_minutes_24 : decode cX6_minutes 24 = .ok (.iload_n 1, 1) := by decide +kernel
theorem dX6_minutes_25 : decode cX6_minutes 25 = .ok (.iadd, 1) := by decide +kernel
theorem dX6_minutes_26 : decode cX6_minutes 26 = .ok (.sipush 9999, 3) := by decide +kernel
theorem dX6_minutes_29 : decode cX6_minutes 29 = .ok (.if_icmp .le 9, 3) := by decide +kernel
theorem dX6_minutes_32 : decode cX6_minutes 32 = .ok (.aload_n 0, 1) := by decide +kernel
theorem dX6_minutes_33 : decode cX6_minutes 33 = .ok (.iconst 3, 1) := by decide +kernel
theorem dX6_minutes_34 : decode cX6_minutes 34 = .ok (.invokevirtual 57, 3) := by decide +kernel
theorem dX6_minutes_37 : decode cX6_minutes 37 = .ok (.ireturn, 1) := by decide +kernel
theorem dX6_minutes_38 : decode cX6_minutes 38 = .ok (.aload_n 0, 1) := by decide +kernel
theorem dX6_minutes_39 : decode cX6_minutes 39 = .ok (.getfield 10, 3) := by decide +kernel
theorem dX6_minutes_42 : decode cX6_minutes 42 = .ok (.dup, 1) := by decide +kernel
theorem dX6_minutes_43 : decode cX6_minutes 43 = .ok (.getfield 79, 3) := by decide +kernel
theorem dX6_minutes_46 : decode cX6_minutes 46 = .ok (.iload_n 1, 1) := by decide +kernel
theorem dX6_minutes_47 : decode cX6_minutes 47 = .ok (.iadd, 1) := by decide +kernel
theorem dX6_minutes_48 : decode cX6_minutes 48 = .ok (.putfield 79, 3) := by decide +kernel
theorem dX6_minutes_51 : decode cX6_minutes 51 = .ok (.aload_n 0, 1) := by decide +kernel
theorem dX6_minutes_52 : decode cX6_minutes 52 = .ok (.getfield 10, 3) := by decide +kernel
theorem dX6_minutes_55 : decode cX6_minutes 55 = .ok (.getfield 79, 3) := by decide +kernel
theorem dX6_minutes_58 : decode cX6_minutes 58 = .ok (.ireturn, 1) := by decide +kernel
theorem dX6_loose_0 : decode cX6_loose 0 = .ok (.iload_n 1, 1) := by decide +kernel
theorem dX6_loose_1 : decode cX6_loose 1 = .ok (.iconst 1, 1) := by decide +kernel
theorem dX6_loose_2 : decode cX6_loose 2 = .ok (.bipush 40, 2) := by decide +kernel
theorem dX6_loose_4 : decode cX6_loose 4 = .ok (.invokestatic 53, 3) := by decide +kernel
theorem dX6_loose_7 : decode cX6_loose 7 = .ok (.ifCond .ne 9, 3) := by decide +kernel
theorem dX6_loose_10 : decode cX6_loose 10 = .ok (.aload_n 0, 1) := by decide +kernel
theorem dX6_loose_11 : decode cX6_loose 11 = .ok (.iconst 1, 1) := by decide +kernel
theorem dX6_loose_12 : decode cX6_loose 12 = .ok (.invokevirtual 57, 3) := by decide +kernel
theorem dX6_loose_15 : decode cX6_loose 15 = .ok (.ireturn, 1) := by decide +kernel
theorem dX6_loose_16 : decode cX6_loose 16 = .ok (.aload_n 0, 1) := by decide +kernel
theorem dX6_loose_17 : decode cX6_loose 17 = .ok (.getfield 10, 3) := by decide +kernel
theorem dX6_loose_20 : decode cX6_loose 20 = .ok (.getfield 79, 3) := by decide +kernel
theorem dX6_loose_23 : decode cX6_loose 23 = .ok (.iload_n 1, 1) := by decide +kernel
theorem dX6_loose_24 : decode cX6_loose 24 = .ok (.iadd, 1) := by decide +kernel
theorem dX6_loose_25 : decode cX6_loose 25 = .ok (.sipush 9999, 3) := by decide +kernel
theorem dX6_loose_28 : decode cX6_loose 28 = .ok (.if_icmp .le 9, 3) := by decide +kernel
theorem dX6_loose_31 : decode cX6_loose 31 = .ok (.aload_n 0, 1) := by decide +kernel
theorem dX6_loose_32 : decode cX6_loose 32 = .ok (.iconst 3, 1) := by decide +kernel
theorem dX6_loose_33 : decode cX6_loose 33 = .ok (.invokevirtual 57, 3) := by decide +kernel
theorem dX6_loose_36 : decode cX6_loose 36 = .ok (.ireturn, 1) := by decide +kernel
theorem dX6_loose_37 : decode cX6_loose 37 = .ok (.iconst 0, 1) := by decide +kernel
theorem dX6_loose_38 : decode cX6_loose 38 = .ok (.istore_n 2, 1) := by decide +kernel
theorem dX6_loose_39 : decode cX6_loose 39 = .ok (.iconst 0, 1) := by decide +kernel
theorem dX6_loose_40 : decode cX6_loose 40 = .ok (.istore_n 3, 1) := by decide +kernel
theorem dX6_loose_41 : decode cX6_loose 41 = .ok (.iload_n 3, 1) := by decide +kernel
theorem dX6_loose_42 : decode cX6_loose 42 = .ok (.iload_n 1, 1) := by decide +kernel
theorem dX6_loose_43 : decode cX6_loose 43 = .ok (.if_icmp .ge 35, 3) := by decide +kernel
theorem dX6_loose_46 : decode cX6_loose 46 = .ok (.aload_n 0, 1) := by decide +kernel
theorem dX6_loose_47 : decode cX6_loose 47 = .ok (.getfield 10, 3) := by decide +kernel
theorem dX6_loose_50 : decode cX6_loose 50 = .ok (.invokevirtual 190, 3) := by decide +kernel
theorem dX6_loose_53 : decode cX6_loose 53 = .ok (.ifCond .eq 6, 3) := by decide +kernel
theorem dX6_loose_56 : decode cX6_loose 56 = .ok (.iinc 2 1, 3) := by decide +kernel
theorem dX6_loose_59 : decode cX6_loose 59 = .ok (.aload_n 0, 1) := by decide +kernel
theorem dX6_loose_60 : decode cX6_loose 60 = .ok (.getfield 10, 3) := by decide +kernel
theorem dX6_loose_63 : decode cX6_loose 63 = .ok (.dup, 1) := by decide +kernel
theorem dX6_loose_64 : decode cX6_loose 64 = .ok (.getfield 79, 3) := by decide +kernel
theorem dX6_loose_67 : decode cX6_loose 67 = .ok (.iconst 1, 1) := by decide +kernel
theorem dX6_loose_68 : decode cX6_loose 68 = .ok (.iadd, 1) := by decide +kernel
theorem dX6_loose_69 : decode cX6_loose 69 = .ok (.putfield 79, 3) := by decide +kernel
theorem dX6_loose_72 : decode cX6_loose 72 = .ok (.iinc 3 1, 3) := by decide +kernel
theorem dX6_loose_75 : decode cX6_loose 75 = .ok (.goto (-34), 3) := by decide +kernel
theorem dX6_loose_78 : decode cX6_loose 78 = .ok (.iload_n 2, 1) := by decide +kernel
theorem dX6_loose_79 : decode cX6_loose 79 = .ok (.ireturn, 1) := by decide +kernel
theorem dX6_seed_0 : decode cX6_seed 0 = .ok (.aload_n 0, 1) := by decide +kernel
theorem dX6_seed_1 : decode cX6_seed 1 = .ok (.getfield 10, 3) := by decide +kernel
theorem dX6_seed_4 : decode cX6_seed 4 = .ok (.getfield 194, 3) := by decide +kernel
theorem dX6_seed_7 : decode cX6_seed 7 = .ok (.istore_n 2, 1) := by decide +kernel
theorem dX6_seed_8 : decode cX6_seed 8 = .ok (.aload_n 0, 1) := by decide +kernel
theorem dX6_seed_9 : decode cX6_seed 9 = .ok (.getfield 10, 3) := by decide +kernel
theorem dX6_seed_12 : decode cX6_seed 12 = .ok (.iload_n 1, 1) := by decide +kernel
theorem dX6_seed_13 : decode cX6_seed 13 = .ok (.putfield 194, 3) := by decide +kernel
theorem dX6_seed_16 : decode cX6_seed 16 = .ok (.iload_n 2, 1) := by decide +kernel
theorem dX6_seed_17 : decode cX6_seed 17 = .ok (.ireturn, 1) := by decide +kernel
theorem dX6_markAt_0 : decode cX6_markAt 0 = .ok (.aload_n 0, 1) := by decide +kernel
theorem dX6_markAt_1 : decode cX6_markAt 1 = .ok (.getfield 10, 3) := by decide +kernel
theorem dX6_markAt_4 : decode cX6_markAt 4 = .ok (.iload_n 1, 1) := by decide +kernel
theorem dX6_markAt_5 : decode cX6_markAt 5 = .ok (.invokevirtual 69, 3) := by decide +kernel
theorem dX6_markAt_8 : decode cX6_markAt 8 = .ok (.ifCond .eq 14, 3) := by decide +kernel
theorem dX6_markAt_11 : decode cX6_markAt 11 = .ok (.iload_n 2, 1) := by decide +kernel
theorem dX6_markAt_12 : decode cX6_markAt 12 = .ok (.iconst 0, 1) := by decide +kernel
theorem dX6_markAt_13 : decode cX6_markAt 13 = .ok (.sipush 9999, 3) := by decide +kernel
theorem dX6_markAt_16 : decode cX6_markAt 16 = .ok (.invokestatic 53, 3) := by decide +kernel
theorem dX6_markAt_19 : decode cX6_markAt 19 = .ok (.ifCond .ne 9, 3) := by decide +kernel
theorem dX6_markAt_22 : decode cX6_markAt 22 = .ok (.aload_n 0, 1) := by decide +kernel
theorem dX6_markAt_23 : decode cX6_markAt 23 = .ok (.iconst 1, 1) := by decide +kernel
theorem dX6_markAt_24 : decode cX6_markAt 24 = .ok (.invokevirtual 57, 3) := by decide +kernel
theorem dX6_markAt_27 : decode cX6_markAt 27 = .ok (.ireturn, 1) := by decide +kernel
theorem dX6_markAt_28 : decode cX6_markAt 28 = .ok (.aload_n 0, 1) := by decide +kernel
theorem dX6_markAt_29 : decode cX6_markAt 29 = .ok (.getfield 10, 3) := by decide +kernel
theorem dX6_markAt_32 : decode cX6_markAt 32 = .ok (.iload_n 1, 1) := by decide +kernel
theorem dX6_markAt_33 : decode cX6_markAt 33 = .ok (.aload_n 0, 1) := by decide +kernel
theorem dX6_markAt_34 : decode cX6_markAt 34 = .ok (.getfield 10, 3) := by decide +kernel
theorem dX6_markAt_37 : decode cX6_markAt 37 = .ok (.getfield 79, 3) := by decide +kernel
theorem dX6_markAt_40 : decode cX6_markAt 40 = .ok (.iload_n 2, 1) := by decide +kernel
theorem dX6_markAt_41 : decode cX6_markAt 41 = .ok (.iadd, 1) := by decide +kernel
theorem dX6_markAt_42 : decode cX6_markAt 42 = .ok (.invokevirtual 82, 3) := by decide +kernel
theorem dX6_markAt_45 : decode cX6_markAt 45 = .ok (.ireturn, 1) := by decide +kernel
theorem dX6_meet_0 : decode cX6_meet 0 = .ok (.aload_n 0, 1) := by decide +kernel
theorem dX6_meet_1 : decode cX6_meet 1 = .ok (.getfield 10, 3) := by decide +kernel
theorem dX6_meet_4 : decode cX6_meet 4 = .ok (.iload_n 1, 1) := by decide +kernel
theorem dX6_meet_5 : decode cX6_meet 5 = .ok (.invokevirtual 69, 3) := by decide +kernel
theorem dX6_meet_8 : decode cX6_meet 8 = .ok (.ifCond .eq 19, 3) := by decide +kernel
theorem dX6_meet_11 : decode cX6_meet 11 = .ok (.aload_n 0, 1) := by decide +kernel
theorem dX6_meet_12 : decode cX6_meet 12 = .ok (.getfield 10, 3) := by decide +kernel
theorem dX6_meet_15 : decode cX6_meet 15 = .ok (.iload_n 2, 1) := by decide +kernel
theorem dX6_meet_16 : decode cX6_meet 16 = .ok (.invokevirtual 69, 3) := by decide +kernel
theorem dX6_meet_19 : decode cX6_meet 19 = .ok (.ifCond .eq 8, 3) := by decide +kernel
theorem dX6_meet_22 : decode cX6_meet 22 = .ok (.iload_n 1, 1) := by decide +kernel
theorem dX6_meet_23 : decode cX6_meet 23 = .ok (.iload_n 2, 1) := by decide +kernel
theorem dX6_meet_24 : decode cX6_meet 24 = .ok (.if_icmp .ne 9, 3) := by decide +kernel
theorem dX6_meet_27 : decode cX6_meet 27 = .ok (.aload_n 0, 1) := by decide +kernel
theorem dX6_meet_28 : decode cX6_meet 28 = .ok (.iconst 1, 1) := by decide +kernel
theorem dX6_meet_29 : decode cX6_meet 29 = .ok (.invokevirtual 57, 3) := by decide +kernel
theorem dX6_meet_32 : decode cX6_meet 32 = .ok (.ireturn, 1) := by decide +kernel
theorem dX6_meet_33 : decode cX6_meet 33 = .ok (.iconst 0, 1) := by decide +kernel
theorem dX6_meet_34 : decode cX6_meet 34 = .ok (.istore_n 3, 1) := by decide +kernel
theorem dX6_meet_35 : decode cX6_meet 35 = .ok (.iload_n 3, 1) := by decide +kernel
theorem dX6_meet_36 : decode cX6_meet 36 = .ok (.sipush 1440, 3) := by decide +kernel
theorem dX6_meet_39 : decode cX6_meet 39 = .ok (.if_icmp .gt 32, 3) := by decide +kernel
theorem dX6_meet_42 : decode cX6_meet 42 = .ok (.aload_n 0, 1) := by decide +kernel
theorem dX6_meet_43 : decode cX6_meet 43 = .ok (.getfield 10, 3) := by decide +kernel
theorem dX6_meet_46 : decode cX6_meet 46 = .ok (.iload_n 1, 1) := by decide +kernel
theorem dX6_meet_47 : decode cX6_meet 47 = .ok (.iload_n 2, 1) := by decide +kernel
theorem dX6_meet_48 : decode cX6_meet 48 = .ok (.aload_n 0, 1) := by decide +kernel
theorem dX6_meet_49 : decode cX6_meet 49 = .ok (.getfield 10, 3) := by decide +kernel
theorem dX6_meet_52 : decode cX6_meet 52 = .ok (.getfield 79, 3) := by decide +kernel
theorem dX6_meet_55 : decode cX6_meet 55 = .ok (.iload_n 3, 1) := by decide +kernel
theorem dX6_meet_56 : decode cX6_meet 56 = .ok (.iadd, 1) := by decide +kernel
theorem dX6_meet_57 : decode cX6_meet 57 = .ok (.invokevirtual 197, 3) := by decide +kernel
theorem dX6_meet_60 : decode cX6_meet 60 = .ok (.ifCond .ne 5, 3) := by decide +kernel
theorem dX6_meet_63 : decode cX6_meet 63 = .ok (.iload_n 3, 1) := by decide +kernel
theorem dX6_meet_64 : decode cX6_meet 64 = .ok (.ireturn, 1) := by decide +kernel
theorem dX6_meet_65 : decode cX6_meet 65 = .ok (.iinc 3 1, 3) := by decide +kernel
theorem dX6_meet_68 : decode cX6_meet 68 = .ok (.goto (-33), 3) := by decide +kernel
theorem dX6_meet_71 : decode cX6_meet 71 = .ok (.aload_n 0, 1) := by decide +kernel
theorem dX6_meet_72 : decode cX6_meet 72 = .ok (.iconst 2, 1) := by decide +kernel
theorem dX6_meet_73 : decode cX6_meet 73 = .ok (.invokevirtual 57, 3) := by decide +kernel
theorem dX6_meet_76 : decode cX6_meet 76 = .ok (.ireturn, 1) := by decide +kernel
theorem dX6_council_0 : decode cX6_council 0 = .ok (.aload_n 0, 1) := by decide +kernel
theorem dX6_council_1 : decode cX6_council 1 = .ok (.getfield 10, 3) := by decide +kernel
theorem dX6_council_4 : decode cX6_council 4 = .ok (.getfield 61, 3) := by decide +kernel
theorem dX6_council_7 : decode cX6_council 7 = .ok (.ifCond .ne 9, 3) := by decide +kernel
theorem dX6_council_10 : decode cX6_council 10 = .ok (.aload_n 0, 1) := by decide +kernel
theorem dX6_council_11 : decode cX6_council 11 = .ok (.iconst 3, 1) := by decide +kernel
theorem dX6_council_12 : decode cX6_council 12 = .ok (.invokevirtual 57, 3) := by decide +kernel
theorem dX6_council_15 : decode cX6_council 15 = .ok (.ireturn, 1) := by decide +kernel
theorem dX6_council_16 : decode cX6_council 16 = .ok (.iconst 0, 1) := by decide +kernel
theorem dX6_council_17 : decode cX6_council 17 = .ok (.istore_n 1, 1) := by decide +kernel
theorem dX6_council_18 : decode cX6_council 18 = .ok (.iload_n 1, 1) := by decide +kernel
theorem dX6_council_19 : decode cX6_council 19 = .ok (.sipush 9999, 3) := by decide +kernel
theorem dX6_council_22 : decode cX6_council 22 = .ok (.if_icmp .gt 30, 3) := by decide +kernel
theorem dX6_council_25 : decode cX6_council 25 = .ok (.aload_n 0, 1) := by decide +kernel
theorem dX6_council_26 : decode cX6_council 26 = .ok (.getfield 10, 3) := by decide +kernel
theorem dX6_council_29 : decode cX6_council 29 = .ok (.aload_n 0, 1) := by decide +kernel
theorem dX6_council_30 : decode cX6_council 30 = .ok (.getfield 10, 3) := by decide +kernel
theorem dX6_council_33 : decode cX6_council 33 = .ok (.getfield 79, 3) := by decide +kernel
theorem dX6_council_36 : decode cX6_council 36 = .ok (.iload_n 1, 1) := by decide +kernel
theorem dX6_council_37 : decode cX6_council 37 = .ok (.iadd, 1) := by decide +kernel
theorem dX6_council_38 : decode cX6_council 38 = .ok (.invokevirtual 200, 3) := by decide +kernel
theorem dX6_council_41 : decode cX6_council 41 = .ok (.ifCond .eq 5, 3) := by decide +kernel
theorem dX6_council_44 : decode cX6_council 44 = .ok (.iload_n 1, 1) := by decide +kernel
theorem dX6_council_45 : decode cX6_council 45 = .ok (.ireturn, 1) := by decide +kernel
theorem dX6_council_46 : decode cX6_council 46 = .ok (.iinc 1 1, 3) := by decide +kernel
theorem dX6_council_49 : decode cX6_council 49 = .ok (.goto (-31), 3) := by decide +kernel
theorem dX6_council_52 : decode cX6_council 52 = .ok (.aload_n 0, 1) := by decide +kernel
theorem dX6_council_53 : decode cX6_council 53 = .ok (.iconst 2, 1) := by decide +kernel
theorem dX6_council_54 : decode cX6_council 54 = .ok (.invokevirtual 57, 3) := by decide +kernel
theorem dX6_council_57 : decode cX6_council 57 = .ok (.ireturn, 1) := by decide +kernel
theorem dX6_soonest_0 : decode cX6_soonest 0 = .ok (.aload_n 0, 1) := by decide +kernel
theorem dX6_soonest_1 : decode cX6_soonest 1 = .ok (.getfield 10, 3) := by decide +kernel
theorem dX6_soonest_4 : decode cX6_soonest 4 = .ok (.iload_n 1, 1) := by decide +kernel
theorem dX6_soonest_5 : decode cX6_soonest 5 = .ok (.invokevirtual 121, 3) := by decide +kernel
theorem dX6_soonest_8 : decode cX6_soonest 8 = .ok (.ifCond .eq 14, 3) := by decide +kernel
theorem dX6_soonest_11 : decode cX6_soonest 11 = .ok (.aload_n 0, 1) := by decide +kernel
theorem dX6_soonest_12 : decode cX6_soonest 12 = .ok (.getfield 10, 3) := by decide +kernel
theorem dX6_soonest_15 : decode cX6_soonest 15 = .ok (.iload_n 2, 1) := by decide +kernel
theorem dX6_soonest_16 : decode cX6_soonest 16 = .ok (.invokevirtual 97, 3) := by decide +kernel
theorem dX6_soonest_19 : decode cX6_soonest 19 = .ok (.ifCond .ne 9, 3) := by decide +kernel
theorem dX6_soonest_22 : decode cX6_soonest 22 = .ok (.aload_n 0, 1) := by decide +kernel
theorem dX6_soonest_23 : decode cX6_soonest 23 = .ok (.iconst 1, 1) := by decide +kernel
theorem dX6_soonest_24 : decode cX6_soonest 24 = .ok (.invokevirtual 57, 3) := by decide +kernel
theorem dX6_soonest_27 : decode cX6_soonest 27 = .ok (.ireturn, 1) := by decide +kernel
theorem dX6_soonest_28 : decode cX6_soonest 28 = .ok (.aload_n 0, 1) := by decide +kernel
theorem dX6_soonest_29 : decode cX6_soonest 29 = .ok (.getfield 31, 3) := by decide +kernel
theorem dX6_soonest_32 : decode cX6_soonest 32 = .ok (.iload_n 1, 1) := by decide +kernel
theorem dX6_soonest_33 : decode cX6_soonest 33 = .ok (.iload_n 2, 1) := by decide +kernel
theorem dX6_soonest_34 : decode cX6_soonest 34 = .ok (.invokevirtual 203, 3) := by decide +kernel
theorem dX6_soonest_37 : decode cX6_soonest 37 = .ok (.istore_n 3, 1) := by decide +kernel
theorem dX6_soonest_38 : decode cX6_soonest 38 = .ok (.iload_n 3, 1) := by decide +kernel
theorem dX6_soonest_39 : decode cX6_soonest 39 = .ok (.ifCond .ge 11, 3) := by decide +kernel
theorem dX6_soonest_42 : decode cX6_soonest 42 = .ok (.aload_n 0, 1) := by decide +kernel
theorem dX6_soonest_43 : decode cX6_soonest 43 = .ok (.iconst 2, 1) := by decide +kernel
theorem dX6_soonest_44 : decode cX6_soonest 44 = .ok (.invokevirtual 57, 3) := by decide +kernel
theorem dX6_soonest_47 : decode cX6_soonest 47 = .ok (.goto 4, 3) := by decide +kernel
theorem dX6_soonest_50 : decode cX6_soonest 50 = .ok (.iload_n 3, 1) := by decide +kernel
theorem dX6_soonest_51 : decode cX6_soonest 51 = .ok (.ireturn, 1) := by decide +kernel
theorem dX6_rooms_0 : decode cX6_rooms 0 = .ok (.aload_n 0, 1) := by decide +kernel
theorem dX6_rooms_1 : decode cX6_rooms 1 = .ok (.getfield 10, 3) := by decide +kernel
theorem dX6_rooms_4 : decode cX6_rooms 4 = .ok (.iload_n 1, 1) := by decide +kernel
theorem dX6_rooms_5 : decode cX6_rooms 5 = .ok (.invokevirtual 121, 3) := by decide +kernel
theorem dX6_rooms_8 : decode cX6_rooms 8 = .ok (.ifCond .eq 14, 3) := by decide +kernel
theorem dX6_rooms_11 : decode cX6_rooms 11 = .ok (.iload_n 2, 1) := by decide +kernel
theorem dX6_rooms_12 : decode cX6_rooms 12 = .ok (.iconst 0, 1) := by decide +kernel
theorem dX6_rooms_13 : decode cX6_rooms 13 = .ok (.sipush 720, 3) := by decide +kernel
theorem dX6_rooms_16 : decode cX6_rooms 16 = .ok (.invokestatic 53, 3) := by decide +kernel
theorem dX6_rooms_19 : decode cX6_rooms 19 = .ok (.ifCond .ne 9, 3) := by decide +kernel
theorem dX6_rooms_22 : decode cX6_rooms 22 = .ok (.aload_n 0, 1) := by decide +kernel
theorem dX6_rooms_23 : decode cX6_rooms 23 = .ok (.iconst 1, 1) := by decide +kernel
theorem dX6_rooms_24 : decode cX6_rooms 24 = .ok (.invokevirtual 57, 3) := by decide +kernel
theorem dX6_rooms_27 : decode cX6_rooms 27 = .ok (.ireturn, 1) := by decide +kernel
theorem dX6_rooms_28 : decode cX6_rooms 28 = .ok (.aload_n 0, 1) := by decide +kernel
theorem dX6_rooms_29 : decode cX6_rooms 29 = .ok (.getfield 31, 3) := by decide +kernel
theorem dX6_rooms_32 : decode cX6_rooms 32 = .ok (.iload_n 1, 1) := by decide +kernel
theorem dX6_rooms_33 : decode cX6_rooms 33 = .ok (.iload_n 2, 1) := by decide +kernel
theorem dX6_rooms_34 : decode cX6_rooms 34 = .ok (.invokevirtual 139, 3) := by decide +kernel
theorem dX6_rooms_37 : decode cX6_rooms 37 = .ok (.ireturn, 1) := by decide +kernel
theorem dX6_watch_0 : decode cX6_watch 0 = .ok (.aload_n 0, 1) := by decide +kernel
theorem dX6_watch_1 : decode cX6_watch 1 = .ok (.getfield 10, 3) := by decide +kernel
theorem dX6_watch_4 : decode cX6_watch 4 = .ok (.iload_n 1, 1) := by decide +kernel
theorem dX6_watch_5 : decode cX6_watch 5 = .ok (.invokevirtual 121, 3) := by decide +kernel
theorem dX6_watch_8 : decode cX6_watch 8 = .ok (.ifCond .eq 34, 3) := by decide +kernel
theorem dX6_watch_11 : decode cX6_watch 11 = .ok (.aload_n 0, 1) := by decide +kernel
theorem dX6_watch_12 : decode cX6_watch 12 = .ok (.getfield 10, 3) := by decide +kernel
theorem dX6_watch_15 : decode cX6_watch 15 = .ok (.iload_n 2, 1) := by decide +kernel
theorem dX6_watch_16 : decode cX6_watch 16 = .ok (.invokevirtual 97, 3) := by decide +kernel
theorem dX6_watch_19 : decode cX6_watch 19 = .ok (.ifCond .eq 23, 3) := by decide +kernel
theorem dX6_watch_22 : decode cX6_watch 22 = .ok (.iload_n 3, 1) := by decide +kernel
theorem dX6_watch_23 : decode cX6_watch 23 = .ok (.iconst 1, 1) := by decide +kernel
theorem dX6_watch_24 : decode cX6_watch 24 = .ok (.bipush 60, 2) := by decide +kernel
theorem dX6_watch_26 : decode cX6_watch 26 = .ok (.invokestatic 53, 3) := by decide +kernel
theorem dX6_watch_29 : decode cX6_watch 29 = .ok (.ifCond .eq 13, 3) := by decide +kernel
theorem dX6_watch_32 : decode cX6_watch 32 = .ok (.iload 4, 2) := by decide +kernel
theorem dX6_watch_34 : decode cX6_watch 34 = .ok (.iconst 0, 1) := by decide +kernel
theorem dX6_watch_35 : decode cX6_watch 35 = .ok (.iconst 1, 1) := by decide +kernel
theorem dX6_watch_36 : decode cX6_watch 36 = .ok (.invokestatic 53, 3) := by decide +kernel
theorem dX6_watch_39 : decode cX6_watch 39 = .ok (.ifCond .ne 9, 3) := by decide +kernel
theorem dX6_watch_42 : decode cX6_watch 42 = .ok (.aload_n 0, 1) := by decide +kernel
theorem dX6_watch_43 : decode cX6_watch 43 = .ok (.iconst 1, 1) := by decide +kernel
theorem dX6_watch_44 : decode cX6_watch 44 = .ok (.invokevirtual 57, 3) := by decide +kernel
theorem dX6_watch_47 : decode cX6_watch 47 = .ok (.ireturn, 1) := by decide +kernel
theorem dX6_watch_48 : decode cX6_watch 48 = .ok (.aload_n 0, 1) := by decide +kernel
theorem dX6_watch_49 : decode cX6_watch 49 = .ok (.getfield 10, 3) := by decide +kernel
theorem dX6_watch_52 : decode cX6_watch 52 = .ok (.getfield 130, 3) := by decide +kernel
theorem dX6_watch_55 : decode cX6_watch 55 = .ok (.iload_n 1, 1) := by decide +kernel
theorem dX6_watch_56 : decode cX6_watch 56 = .ok (.iaload, 1) := by decide +kernel
theorem dX6_watch_57 : decode cX6_watch 57 = .ok (.iload_n 2, 1) := by decide +kernel
theorem dX6_watch_58 : decode cX6_watch 58 = .ok (.if_icmp .ne 9, 3) := by decide +kernel
theorem dX6_watch_61 : decode cX6_watch 61 = .ok (.aload_n 0, 1) := by decide +kernel
theorem dX6_watch_62 : decode cX6_watch 62 = .ok (.iconst 3, 1) := by decide +kernel
theorem dX6_watch_63 : decode cX6_watch 63 = .ok (.invokevirtual 57, 3) := by decide +kernel
theorem dX6_watch_66 : decode cX6_watch 66 = .ok (.ireturn, 1) := by decide +kernel
theorem dX6_watch_67 : decode cX6_watch 67 = .ok (.aload_n 0, 1) := by decide +kernel
theorem dX6_watch_68 : decode cX6_watch 68 = .ok (.getfield 31, 3) := by decide +kernel
theorem dX6_watch_71 : decode cX6_watch 71 = .ok (.iload_n 1, 1) := by decide +kernel
theorem dX6_watch_72 : decode cX6_watch 72 = .ok (.iload_n 2, 1) := by decide +kernel
theorem dX6_watch_73 : decode cX6_watch 73 = .ok (.iload_n 3, 1) := by decide +kernel
theorem dX6_watch_74 : decode cX6_watch 74 = .ok (.invokevirtual 206, 3) := by decide +kernel
theorem dX6_watch_77 : decode cX6_watch 77 = .ok (.istore 5, 2) := by decide +kernel
theorem dX6_watch_79 : decode cX6_watch 79 = .ok (.iload 5, 2) := by decide +kernel
theorem dX6_watch_81 : decode cX6_watch 81 = .ok (.ifCond .ge 9, 3) := by decide +kernel
theorem dX6_watch_84 : decode cX6_watch 84 = .ok (.aload_n 0, 1) := by decide +kernel
theorem dX6_watch_85 : decode cX6_watch 85 = .ok (.iconst 2, 1) := by decide +kernel
theorem dX6_watch_86 : decode cX6_watch 86 = .ok (.invokevirtual 57, 3) := by decide +kernel
theorem dX6_watch_89 : decode cX6_watch 89 = .ok (.ireturn, 1) := by decide +kernel
theorem dX6_watch_90 : decode cX6_watch 90 = .ok (.iload 4, 2) := by decide +kernel
theorem dX6_watch_92 : decode cX6_watch 92 = .ok (.ifCond .ne 11, 3) := by decide +kernel
theorem dX6_watch_95 : decode cX6_watch 95 = .ok (.iload 5, 2) := by decide +kernel
theorem dX6_watch_97 : decode cX6_watch 97 = .ok (.invokestatic 209, 3) := by decide +kernel
theorem dX6_watch_100 : decode cX6_watch 100 = .ok (.goto 5, 3) := by decide +kernel
theorem dX6_watch_103 : decode cX6_watch 103 = .ok (.iload 5, 2) := by decide +kernel
theorem dX6_watch_105 : decode cX6_watch 105 = .ok (.ireturn, 1) := by decide +kernel
theorem dX6_best_0 : decode cX6_best 0 = .ok (.aload_n 0, 1) := by decide +kernel
theorem dX6_best_1 : decode cX6_best 1 = .ok (.getfield 10, 3) := by decide +kernel
theorem dX6_best_4 : decode cX6_best 4 = .ok (.iload_n 1, 1) := by decide +kernel
theorem dX6_best_5 : decode cX6_best 5 = .ok (.invokevirtual 121, 3) := by decide +kernel
theorem dX6_best_8 : decode cX6_best 8 = .ok (.ifCond .eq 22, 3) := by decide +kernel
theorem dX6_best_11 : decode cX6_best 11 = .ok (.iload_n 2, 1) := by decide +kernel
theorem dX6_best_12 : decode cX6_best 12 = .ok (.iconst 0, 1) := by decide +kernel
theorem dX6_best_13 : decode cX6_best 13 = .ok (.bipush 60, 2) := by decide +kernel
theorem dX6_best_15 : decode cX6_best 15 = .ok (.invokestatic 53, 3) := by decide +kernel
theorem dX6_best_18 : decode cX6_best 18 = .ok (.ifCond .eq 12, 3) := by decide +kernel
theorem dX6_best_21 : decode cX6_best 21 = .ok (.iload_n 3, 1) := by decide +kernel
theorem dX6_best_22 : decode cX6_best 22 = .ok (.iconst 0, 1) := by decide +kernel
theorem dX6_best_23 : decode cX6_best 23 = .ok (.iconst 1, 1) := by decide +kernel
theorem dX6_best_24 : decode cX6_best 24 = .ok (.invokestatic 53, 3) := by decide +kernel
theorem dX6_best_27 : decode cX6_best 27 = .ok (.ifCond .ne 9, 3) := by decide +kernel
theorem dX6_best_30 : decode cX6_best 30 = .ok (.aload_n 0, 1) := by decide +kernel
theorem dX6_best_31 : decode cX6_best 31 = .ok (.iconst 1, 1) := by decide +kernel
theorem dX6_best_32 : decode cX6_best 32 = .ok (.invokevirtual 57, 3) := by decide +kernel
theorem dX6_best_35 : decode cX6_best 35 = .ok (.ireturn, 1) := by decide +kernel
theorem dX6_best_36 : decode cX6_best 36 = .ok (.aload_n 0, 1) := by decide +kernel
theorem dX6_best_37 : decode cX6_best 37 = .ok (.getfield 10, 3) := by decide +kernel
theorem dX6_best_40 : decode cX6_best 40 = .ok (.aload_n 0, 1) := by decide +kernel
theorem dX6_best_41 : decode cX6_best 41 = .ok (.getfield 31, 3) := by decide +kernel
theorem dX6_best_44 : decode cX6_best 44 = .ok (.iload_n 1, 1) := by decide +kernel
theorem dX6_best_45 : decode cX6_best 45 = .ok (.iload_n 2, 1) := by decide +kernel
theorem dX6_best_46 : decode cX6_best 46 = .ok (.invokevirtual 139, 3) := by decide +kernel
theorem dX6_best_49 : decode cX6_best 49 = .ok (.aload_n 0, 1) := by decide +kernel
theorem dX6_best_50 : decode cX6_best 50 = .ok (.getfield 10, 3) := by decide +kernel
theorem dX6_best_53 : decode cX6_best 53 = .ok (.getfield 79, 3) := by decide +kernel
theorem dX6_best_56 : decode cX6_best 56 = .ok (.iload_n 2, 1) := by decide +kernel
theorem dX6_best_57 : decode cX6_best 57 = .ok (.iadd, 1) := by decide +kernel
theorem dX6_best_58 : decode cX6_best 58 = .ok (.invokevirtual 214, 3) := by decide +kernel
theorem dX6_best_61 : decode cX6_best 61 = .ok (.istore 4, 2) := by decide +kernel
theorem dX6_best_63 : decode cX6_best 63 = .ok (.iload_n 3, 1) := by decide +kernel
theorem dX6_best_64 : decode cX6_best 64 = .ok (.ifCond .ne 8, 3) := by decide +kernel
theorem dX6_best_67 : decode cX6_best 67 = .ok (.iload 4, 2) := by decide +kernel
theorem dX6_best_69 : decode cX6_best 69 = .ok (.goto 21, 3) := by decide +kernel
theorem dX6_best_72 : decode cX6_best 72 = .ok (.aload_n 0, 1) := by decide +kernel
theorem dX6_best_73 : decode cX6_best 73 = .ok (.getfield 10, 3) := by decide +kernel
theorem dX6_best_76 : decode cX6_best 76 = .ok (.iload 4, 2) := by decide +kernel
theorem dX6_best_78 : decode cX6_best 78 = .ok (.aload_n 0, 1) := by decide +kernel
theorem dX6_best_79 : decode cX6_best 79 = .ok (.getfield 10, 3) := by decide +kernel
theorem dX6_best_82 : decode cX6_best 82 = .ok (.getfield 79, 3) := by decide +kernel
theorem dX6_best_85 : decode cX6_best 85 = .ok (.iload_n 2, 1) := by decide +kernel
theorem dX6_best_86 : decode cX6_best 86 = .ok (.iadd, 1) := by decide +kernel
theorem dX6_best_87 : decode cX6_best 87 = .ok (.invokevirtual 106, 3) := by decide +kernel
theorem dX6_best_90 : decode cX6_best 90 = .ok (.ireturn, 1) := by decide +kernel
theorem dX6_odds_0 : decode cX6_odds 0 = .ok (.aload_n 0, 1) := by decide +kernel
theorem dX6_odds_1 : decode cX6_odds 1 = .ok (.getfield 10, 3) := by decide +kernel
theorem dX6_odds_4 : decode cX6_odds 4 = .ok (.iload_n 1, 1) := by decide +kernel
theorem dX6_odds_5 : decode cX6_odds 5 = .ok (.invokevirtual 121, 3) := by decide +kernel
theorem dX6_odds_8 : decode cX6_odds 8 = .ok (.ifCond .eq 23, 3) := by decide +kernel
theorem dX6_odds_11 : decode cX6_odds 11 = .ok (.aload_n 0, 1) := by decide +kernel
theorem dX6_odds_12 : decode cX6_odds 12 = .ok (.getfield 10, 3) := by decide +kernel
theorem dX6_odds_15 : decode cX6_odds 15 = .ok (.iload_n 2, 1) := by decide +kernel
theorem dX6_odds_16 : decode cX6_odds 16 = .ok (.invokevirtual 97, 3) := by decide +kernel
theorem dX6_odds_19 : decode cX6_odds 19 = .ok (.ifCond .eq 12, 3) := by decide +kernel
theorem dX6_odds_22 : decode cX6_odds 22 = .ok (.iload_n 3, 1) := by decide +kernel
theorem dX6_odds_23 : decode cX6_odds 23 = .ok (.iconst 0, 1) := by decide +kernel
theorem dX6_odds_24 : decode cX6_odds 24 = .ok (.iconst 1, 1) := by decide +kernel
theorem dX6_odds_25 : decode cX6_odds 25 = .ok (.invokestatic 53, 3) := by decide +kernel
theorem dX6_odds_28 : decode cX6_odds 28 = .ok (.ifCond .ne 9, 3) := by decide +kernel
theorem dX6_odds_31 : decode cX6_odds 31 = .ok (.aload_n 0, 1) := by decide +kernel
theorem dX6_odds_32 : decode cX6_odds 32 = .ok (.iconst 1, 1) := by decide +kernel
theorem dX6_odds_33 : decode cX6_odds 33 = .ok (.invokevirtual 57, 3) := by decide +kernel
theorem dX6_odds_36 : decode cX6_odds 36 = .ok (.ireturn, 1) := by decide +kernel
theorem dX6_odds_37 : decode cX6_odds 37 = .ok (.iconst 0, 1) := by decide +kernel
theorem dX6_odds_38 : decode cX6_odds 38 = .ok (.istore 4, 2) := by decide +kernel
theorem dX6_odds_40 : decode cX6_odds 40 = .ok (.iconst 0, 1) := by decide +kernel
theorem dX6_odds_41 : decode cX6_odds 41 = .ok (.istore 5, 2) := by decide +kernel
theorem dX6_odds_43 : decode cX6_odds 43 = .ok (.iload 5, 2) := by decide +kernel
theorem dX6_odds_45 : decode cX6_odds 45 = .ok (.bipush 60, 2) := by decide +kernel
theorem dX6_odds_47 : decode cX6_odds 47 = .ok (.if_icmp .ge 47, 3) := by decide +kernel
theorem dX6_odds_50 : decode cX6_odds 50 = .ok (.iload_n 2, 1) := by decide +kernel
theorem dX6_odds_51 : decode cX6_odds 51 = .ok (.aload_n 0, 1) := by decide +kernel
theorem dX6_odds_52 : decode cX6_odds 52 = .ok (.getfield 10, 3) := by decide +kernel
theorem dX6_odds_55 : decode cX6_odds 55 = .ok (.getfield 130, 3) := by decide +kernel
theorem dX6_odds_58 : decode cX6_odds 58 = .ok (.iload_n 1, 1) := by decide +kernel
theorem dX6_odds_59 : decode cX6_odds 59 = .ok (.iaload, 1) := by decide +kernel
theorem dX6_odds_60 : decode cX6_odds 60 = .ok (.if_icmp .eq 25, 3) := by decide +kernel
theorem dX6_odds_63 : decode cX6_odds 63 = .ok (.aload_n 0, 1) := by decide +kernel
theorem dX6_odds_64 : decode cX6_odds 64 = .ok (.getfield 10, 3) := by decide +kernel
theorem dX6_odds_67 : decode cX6_odds 67 = .ok (.iload_n 1, 1) := by decide +kernel
theorem dX6_odds_68 : decode cX6_odds 68 = .ok (.iload_n 2, 1) := by decide +kernel
theorem dX6_odds_69 : decode cX6_odds 69 = .ok (.aload_n 0, 1) := by decide +kernel
theorem dX6_odds_70 : decode cX6_odds 70 = .ok (.getfield 10, 3) := by decide +kernel
theorem dX6_odds_73 : decode cX6_odds 73 = .ok (.getfield 79, 3) := by decide +kernel
theorem dX6_odds_76 : decode cX6_odds 76 = .ok (.iload 5, 2) := by decide +kernel
theorem dX6_odds_78 : decode cX6_odds 78 = .ok (.iadd, 1) := by decide +kernel
theorem dX6_odds_79 : decode cX6_odds 79 = .ok (.invokevirtual 150, 3) := by decide +kernel
theorem dX6_odds_82 : decode cX6_odds 82 = .ok (.ifCond .eq 6, 3) := by decide +kernel
theorem dX6_odds_85 : decode cX6_odds 85 = .ok (.iinc 4 1, 3) := by decide +kernel
theorem dX6_odds_88 : decode cX6_odds 88 = .ok (.iinc 5 1, 3) := by decide +kernel
theorem dX6_odds_91 : decode cX6_odds 91 = .ok (.goto (-48), 3) := by decide +kernel
theorem dX6_odds_94 : decode cX6_odds 94 = .ok (.iload_n 3, 1) := by decide +kernel
theorem dX6_odds_95 : decode cX6_odds 95 = .ok (.ifCond .ne 8, 3) := by decide +kernel
theorem dX6_odds_98 : decode cX6_odds 98 = .ok (.iload 4, 2) := by decide +kernel
theorem dX6_odds_100 : decode cX6_odds 100 = .ok (.goto 5, 3) := by decide +kernel
theorem dX6_odds_103 : decode cX6_odds 103 = .ok (.bipush 60, 2) := by decide +kernel
theorem dX6_odds_105 : decode cX6_odds 105 = .ok (.iload 4, 2) := by decide +kernel
theorem dX6_odds_107 : decode cX6_odds 107 = .ok (.bipush 60, 2) := by decide +kernel
theorem dX6_odds_109 : decode cX6_odds 109 = .ok (.invokestatic 217, 3) := by decide +kernel
theorem dX6_odds_112 : decode cX6_odds 112 = .ok (.idiv, 1) := by decide +kernel
theorem dX6_odds_113 : decode cX6_odds 113 = .ok (.ireturn, 1) := by decide +kernel
theorem dX6_fits_0 : decode cX6_fits 0 = .ok (.aload_n 0, 1) := by decide +kernel
theorem dX6_fits_1 : decode cX6_fits 1 = .ok (.iload_n 1, 1) := by decide +kernel
theorem dX6_fits_2 : decode cX6_fits 2 = .ok (.invokevirtual 220, 3) := by decide +kernel
theorem dX6_fits_5 : decode cX6_fits 5 = .ok (.istore_n 2, 1) := by decide +kernel
theorem dX6_fits_6 : decode cX6_fits 6 = .ok (.iload_n 2, 1) := by decide +kernel
theorem dX6_fits_7 : decode cX6_fits 7 = .ok (.ifCond .eq 9, 3) := by decide +kernel
theorem dX6_fits_10 : decode cX6_fits 10 = .ok (.aload_n 0, 1) := by decide +kernel
theorem dX6_fits_11 : decode cX6_fits 11 = .ok (.iload_n 2, 1) := by decide +kernel
theorem dX6_fits_12 : decode cX6_fits 12 = .ok (.invokevirtual 57, 3) := by decide +kernel
theorem dX6_fits_15 : decode cX6_fits 15 = .ok (.ireturn, 1) := by decide +kernel
theorem dX6_fits_16 : decode cX6_fits 16 = .ok (.iconst 0, 1) := by decide +kernel
theorem dX6_fits_17 : decode cX6_fits 17 = .ok (.istore_n 3, 1) := by decide +kernel
theorem dX6_fits_18 : decode cX6_fits 18 = .ok (.iconst 0, 1) := by decide +kernel
theorem dX6_fits_19 : decode cX6_fits 19 = .ok (.istore 4, 2) := by decide +kernel
theorem dX6_fits_21 : decode cX6_fits 21 = .ok (.iload 4, 2) := by decide +kernel
theorem dX6_fits_23 : decode cX6_fits 23 = .ok (.aload_n 0, 1) := by decide +kernel
theorem dX6_fits_24 : decode cX6_fits 24 = .ok (.getfield 10, 3) := by decide +kernel
theorem dX6_fits_27 : decode cX6_fits 27 = .ok (.getfield 61, 3) := by decide +kernel
theorem dX6_fits_30 : decode cX6_fits 30 = .ok (.if_icmp .ge 34, 3) := by decide +kernel
theorem dX6_fits_33 : decode cX6_fits 33 = .ok (.aload_n 0, 1) := by decide +kernel
theorem dX6_fits_34 : decode cX6_fits 34 = .ok (.getfield 10, 3) := by decide +kernel
theorem dX6_fits_37 : decode cX6_fits 37 = .ok (.iload 4, 2) := by decide +kernel
theorem dX6_fits_39 : decode cX6_fits 39 = .ok (.aload_n 0, 1) := by decide +kernel
theorem dX6_fits_40 : decode cX6_fits 40 = .ok (.getfield 45, 3) := by decide +kernel
theorem dX6_fits_43 : decode cX6_fits 43 = .ok (.iload_n 1, 1) := by decide +kernel
theorem dX6_fits_44 : decode cX6_fits 44 = .ok (.aaload, 1) := by decide +kernel
theorem dX6_fits_45 : decode cX6_fits 45 = .ok (.invokevirtual 223, 3) := by decide +kernel
theorem dX6_fits_48 : decode cX6_fits 48 = .ok (.ifCond .eq 10, 3) := by decide +kernel
theorem dX6_fits_51 : decode cX6_fits 51 = .ok (.iload_n 3, 1) := by decide +kernel
theorem dX6_fits_52 : decode cX6_fits 52 = .ok (.iconst 1, 1) := by decide +kernel
theorem dX6_fits_53 : decode cX6_fits 53 = .ok (.iload 4, 2) := by decide +kernel
theorem dX6_fits_55 : decode cX6_fits 55 = .ok (.ishl, 1) := by decide +kernel
theorem dX6_fits_56 : decode cX6_fits 56 = .ok (.ior, 1) := by decide +kernel
theorem dX6_fits_57 : decode cX6_fits 57 = .ok (.istore_n 3, 1) := by decide +kernel
theorem dX6_fits_58 : decode cX6_fits 58 = .ok (.iinc 4 1, 3) := by decide +kernel
theorem dX6_fits_61 : decode cX6_fits 61 = .ok (.goto (-40), 3) := by decide +kernel
theorem dX6_fits_64 : decode cX6_fits 64 = .ok (.iload_n 3, 1) := by decide +kernel
theorem dX6_fits_65 : decode cX6_fits 65 = .ok (.ireturn, 1) := by decide +kernel
theorem dX6_voice_0 : decode cX6_voice 0 = .ok (.aload_n 0, 1) := by decide +kernel
theorem dX6_voice_1 : decode cX6_voice 1 = .ok (.getfield 10, 3) := by decide +kernel
theorem dX6_voice_4 : decode cX6_voice 4 = .ok (.iload_n 1, 1) := by decide +kernel
theorem dX6_voice_5 : decode cX6_voice 5 = .ok (.invokevirtual 121, 3) := by decide +kernel
theorem dX6_voice_8 : decode cX6_voice 8 = .ok (.ifCond .eq 12, 3) := by decide +kernel
theorem dX6_voice_11 : decode cX6_voice 11 = .ok (.iload_n 2, 1) := by decide +kernel
theorem dX6_voice_12 : decode cX6_voice 12 = .ok (.iconst 0, 1) := by decide +kernel
theorem dX6_voice_13 : decode cX6_voice 13 = .ok (.iconst 3, 1) := by decide +kernel
theorem dX6_voice_14 : decode cX6_voice 14 = .ok (.invokestatic 53, 3) := by decide +kernel
theorem dX6_voice_17 : decode cX6_voice 17 = .ok (.ifCond .ne 9, 3) := by decide +kernel
theorem dX6_voice_20 : decode cX6_voice 20 = .ok (.aload_n 0, 1) := by decide +kernel
theorem dX6_voice_21 : decode cX6_voice 21 = .ok (.iconst 1, 1) := by decide +kernel
theorem dX6_voice_22 : decode cX6_voice 22 = .ok (.invokevirtual 57, 3) := by decide +kernel
theorem dX6_voice_25 : decode cX6_voice 25 = .ok (.ireturn, 1) := by decide +kernel
theorem dX6_voice_26 : decode cX6_voice 26 = .ok (.aload_n 0, 1) := by decide +kernel
theorem dX6_voice_27 : decode cX6_voice 27 = .ok (.getfield 38, 3) := by decide +kernel
theorem dX6_voice_30 : decode cX6_voice 30 = .ok (.aload_n 0, 1) := by decide +kernel
theorem dX6_voice_31 : decode cX6_voice 31 = .ok (.getfield 10, 3) := by decide +kernel
theorem dX6_voice_34 : decode cX6_voice 34 = .ok (.iload_n 1, 1) := by decide +kernel
theorem dX6_voice_35 : decode cX6_voice 35 = .ok (.iload_n 2, 1) := by decide +kernel
theorem dX6_voice_36 : decode cX6_voice 36 = .ok (.iload_n 3, 1) := by decide +kernel
theorem dX6_voice_37 : decode cX6_voice 37 = .ok (.invokevirtual 227, 3) := by decide +kernel
theorem dX6_voice_40 : decode cX6_voice 40 = .ok (.istore 4, 2) := by decide +kernel
theorem dX6_voice_42 : decode cX6_voice 42 = .ok (.aload_n 0, 1) := by decide +kernel
theorem dX6_voice_43 : decode cX6_voice 43 = .ok (.getfield 38, 3) := by decide +kernel
theorem dX6_voice_46 : decode cX6_voice 46 = .ok (.getfield 231, 3) := by decide +kernel
theorem dX6_voice_49 : decode cX6_voice 49 = .ok (.ifCond .eq 12, 3) := by decide +kernel
theorem dX6_voice_52 : decode cX6_voice 52 = .ok (.aload_n 0, 1) := by decide +kernel
theorem dX6_voice_53 : decode cX6_voice 53 = .ok (.bipush 6, 2) := by decide +kernel
theorem dX6_voice_55 : decode cX6_voice 55 = .ok (.invokevirtual 57, 3) := by decide +kernel
theorem dX6_voice_58 : decode cX6_voice 58 = .ok (.goto 5, 3) := by decide +kernel
theorem dX6_voice_61 : decode cX6_voice 61 = .ok (.iload 4, 2) := by decide +kernel
theorem dX6_voice_63 : decode cX6_voice 63 = .ok (.ireturn, 1) := by decide +kernel
theorem dX6_body_0 : decode cX6_body 0 = .ok (.iload_n 1, 1) := by decide +kernel
theorem dX6_body_1 : decode cX6_body 1 = .ok (.iconst 0, 1) := by decide +kernel
theorem dX6_body_2 : decode cX6_body 2 = .ok (.aload_n 0, 1) := by decide +kernel
theorem dX6_body_3 : decode cX6_body 3 = .ok (.getfield 38, 3) := by decide +kernel
theorem dX6_body_6 : decode cX6_body 6 = .ok (.getfield 235, 3) := by decide +kernel
theorem dX6_body_9 : decode cX6_body 9 = .ok (.iconst 1, 1) := by decide +kernel
theorem dX6_body_10 : decode cX6_body 10 = .ok (.isub, 1) := by decide +kernel
theorem dX6_body_11 : decode cX6_body 11 = .ok (.invokestatic 53, 3) := by decide +kernel
theorem dX6_body_14 : decode cX6_body 14 = .ok (.ifCond .eq 15, 3) := by decide +kernel
theorem dX6_body_17 : decode cX6_body 17 = .ok (.aload_n 0, 1) := by decide +kernel
theorem dX6_body_18 : decode cX6_body 18 = .ok (.getfield 38, 3) := by decide +kernel
theorem dX6_body_21 : decode cX6_body 21 = .ok (.getfield 238, 3) := by decide +kernel
theorem dX6_body_24 : decode cX6_body 24 = .ok (.iload_n 1, 1) := by decide +kernel
theorem dX6_body_25 : decode cX6_body 25 = .ok (.iaload, 1) := by decide +kernel
theorem dX6_body_26 : decode cX6_body 26 = .ok (.goto 8, 3) := by decide +kernel
theorem dX6_body_29 : decode cX6_body 29 = .ok (.aload_n 0, 1) := by decide +kernel
theorem dX6_body_30 : decode cX6_body 30 = .ok (.iconst 2, 1) := by decide +kernel
theorem dX6_body_31 : decode cX6_body 31 = .ok (.invokevirtual 57, 3) := by decide +kernel
theorem dX6_body_34 : decode cX6_body 34 = .ok (.ireturn, 1) := by decide +kernel
theorem dX6_sheet_0 : decode cX6_sheet 0 = .ok (.iload_n 1, 1) := by decide +kernel
theorem dX6_sheet_1 : decode cX6_sheet 1 = .ok (.invokestatic 241, 3) := by decide +kernel
theorem dX6_sheet_4 : decode cX6_sheet 4 = .ok (.ifCond .eq 25, 3) := by decide +kernel
theorem dX6_sheet_7 : decode cX6_sheet 7 = .ok (.iload_n 2, 1) := by decide +kernel
theorem dX6_sheet_8 : decode cX6_sheet 8 = .ok (.ifCond .eq 27, 3) := by decide +kernel
theorem dX6_sheet_11 : decode cX6_sheet 11 = .ok (.iload_n 2, 1) := by decide +kernel
theorem dX6_sheet_12 : decode cX6_sheet 12 = .ok (.bipush 8, 2) := by decide +kernel
theorem dX6_sheet_14 : decode cX6_sheet 14 = .ok (.if_icmp .eq 21, 3) := by decide +kernel
theorem dX6_sheet_17 : decode cX6_sheet 17 = .ok (.iload_n 2, 1) := by decide +kernel
theorem dX6_sheet_18 : decode cX6_sheet 18 = .ok (.bipush 16, 2) := by decide +kernel
theorem dX6_sheet_20 : decode cX6_sheet 20 = .ok (.if_icmp .eq 15, 3) := by decide +kernel
theorem dX6_sheet_23 : decode cX6_sheet 23 = .ok (.iload_n 2, 1) := by decide +kernel
theorem dX6_sheet_24 : decode cX6_sheet 24 = .ok (.bipush 32, 2) := by decide +kernel
theorem dX6_sheet_26 : decode cX6_sheet 26 = .ok (.if_icmp .eq 9, 3) := by decide +kernel
theorem dX6_sheet_29 : decode cX6_sheet 29 = .ok (.aload_n 0, 1) := by decide +kernel
theorem dX6_sheet_30 : decode cX6_sheet 30 = .ok (.iconst 1, 1) := by decide +kernel
theorem dX6_sheet_31 : decode cX6_sheet 31 = .ok (.invokevirtual 57, 3) := by decide +kernel
theorem dX6_sheet_34 : decode cX6_sheet 34 = .ok (.ireturn, 1) := by decide +kernel
theorem dX6_sheet_35 : decode cX6_sheet 35 = .ok (.iload_n 2, 1) := by decide +kernel
theorem dX6_sheet_36 : decode cX6_sheet 36 = .ok (.ifCond .eq 13, 3) := by decide +kernel
theorem dX6_sheet_39 : decode cX6_sheet 39 = .ok (.iload_n 3, 1) := by decide +kernel
theorem dX6_sheet_40 : decode cX6_sheet 40 = .ok (.ifCond .ge 9, 3) := by decide +kernel
theorem dX6_sheet_43 : decode cX6_sheet 43 = .ok (.aload_n 0, 1) := by decide +kernel
theorem dX6_sheet_44 : decode cX6_sheet 44 = .ok (.iconst 3, 1) := by decide +kernel
theorem dX6_sheet_45 : decode cX6_sheet 45 = .ok (.invokevirtual 57, 3) := by decide +kernel
theorem dX6_sheet_48 : decode cX6_sheet 48 = .ok (.ireturn, 1) := by decide +kernel
theorem dX6_sheet_49 : decode cX6_sheet 49 = .ok (.iload_n 2, 1) := by decide +kernel
theorem dX6_sheet_50 : decode cX6_sheet 50 = .ok (.ifCond .eq 15, 3) := by decide +kernel
theorem dX6_sheet_53 : decode cX6_sheet 53 = .ok (.iload_n 3, 1) := by decide +kernel
theorem dX6_sheet_54 : decode cX6_sheet 54 = .ok (.bipush 24, 2) := by decide +kernel
theorem dX6_sheet_56 : decode cX6_sheet 56 = .ok (.if_icmp .le 9, 3) := by decide +kernel
theorem dX6_sheet_59 : decode cX6_sheet 59 = .ok (.aload_n 0, 1) := by decide +kernel
theorem dX6_sheet_60 : decode cX6_sheet 60 = .ok (.iconst 1, 1) := by decide +kernel
theorem dX6_sheet_61 : decode cX6_sheet 61 = .ok (.invokevirtual 57, 3) := by decide +kernel
theorem dX6_sheet_64 : decode cX6_sheet 64 = .ok (.ireturn, 1) := by decide +kernel
theorem dX6_sheet_65 : decode cX6_sheet 65 = .ok (.aload_n 0, 1) := by decide +kernel
theorem dX6_sheet_66 : decode cX6_sheet 66 = .ok (.getfield 45, 3) := by decide +kernel
theorem dX6_sheet_69 : decode cX6_sheet 69 = .ok (.iload_n 1, 1) := by decide +kernel
theorem dX6_sheet_70 : decode cX6_sheet 70 = .ok (.aaload, 1) := by decide +kernel
theorem dX6_sheet_71 : decode cX6_sheet 71 = .ok (.iload_n 2, 1) := by decide +kernel
theorem dX6_sheet_72 : decode cX6_sheet 72 = .ok (.iload_n 2, 1) := by decide +kernel
theorem dX6_sheet_73 : decode cX6_sheet 73 = .ok (.ifCond .ne 7, 3) := by decide +kernel
theorem dX6_sheet_76 : decode cX6_sheet 76 = .ok (.iconst 0, 1) := by decide +kernel
theorem dX6_sheet_77 : decode cX6_sheet 77 = .ok (.goto 4, 3) := by decide +kernel
theorem dX6_sheet_80 : decode cX6_sheet 80 = .ok (.iload_n 3, 1) := by decide +kernel
theorem dX6_sheet_81 : decode cX6_sheet 81 = .ok (.invokevirtual 244, 3) := by decide +kernel
theorem dX6_sheet_84 : decode cX6_sheet 84 = .ok (.iconst 1, 1) := by decide +kernel
theorem dX6_sheet_85 : decode cX6_sheet 85 = .ok (.ireturn, 1) := by decide +kernel
theorem dX6_put_0 : decode cX6_put 0 = .ok (.aload_n 0, 1) := by decide +kernel
theorem dX6_put_1 : decode cX6_put 1 = .ok (.iload_n 1, 1) := by decide +kernel
theorem dX6_put_2 : decode cX6_put 2 = .ok (.invokevirtual 220, 3) := by decide +kernel
theorem dX6_put_5 : decode cX6_put 5 = .ok (.istore 4, 2) := by decide +kernel
theorem dX6_put_7 : decode cX6_put 7 = .ok (.iload 4, 2) := by decide +kernel
theorem dX6_put_9 : decode cX6_put 9 = .ok (.ifCond .eq 10, 3) := by decide +kernel
theorem dX6_put_12 : decode cX6_put 12 = .ok (.aload_n 0, 1) := by decide +kernel
theorem dX6_put_13 : decode cX6_put 13 = .ok (.iload 4, 2) := by decide +kernel
theorem dX6_put_15 : decode cX6_put 15 = .ok (.invokevirtual 57, 3) := by decide +kernel
theorem dX6_put_18 : decode cX6_put 18 = .ok (.ireturn, 1) := by decide +kernel
theorem dX6_put_19 : decode cX6_put 19 = .ok (.aload_n 0, 1) := by decide +kernel
theorem dX6_put_20 : decode cX6_put 20 = .ok (.getfield 45, 3) := by decide +kernel
theorem dX6_put_23 : decode cX6_put 23 = .ok (.iload_n 1, 1) := by decide +kernel
theorem dX6_put_24 : decode cX6_put 24 = .ok (.aaload, 1) := by decide +kernel
theorem dX6_put_25 : decode cX6_put 25 = .ok (.iload_n 2, 1) := by decide +kernel
theorem dX6_put_26 : decode cX6_put 26 = .ok (.iconst 1, 1) := by decide +kernel
theorem dX6_put_27 : decode cX6_put 27 = .ok (.invokevirtual 247, 3) := by decide +kernel
theorem dX6_put_30 : decode cX6_put 30 = .ok (.ifCond .ne 9, 3) := by decide +kernel
theorem dX6_put_33 : decode cX6_put 33 = .ok (.aload_n 0, 1) := by decide +kernel
theorem dX6_put_34 : decode cX6_put 34 = .ok (.iconst 1, 1) := by decide +kernel
theorem dX6_put_35 : decode cX6_put 35 = .ok (.invokevirtual 57, 3) := by decide +kernel
theorem dX6_put_38 : decode cX6_put 38 = .ok (.ireturn, 1) := by decide +kernel
theorem dX6_put_39 : decode cX6_put 39 = .ok (.aload_n 0, 1) := by decide +kernel
theorem dX6_put_40 : decode cX6_put 40 = .ok (.getfield 45, 3) := by decide +kernel
theorem dX6_put_43 : decode cX6_put 43 = .ok (.iload_n 1, 1) := by decide +kernel
theorem dX6_put_44 : decode cX6_put 44 = .ok (.aaload, 1) := by decide +kernel
theorem dX6_put_45 : decode cX6_put 45 = .ok (.iload_n 2, 1) := by decide +kernel
theorem dX6_put_46 : decode cX6_put 46 = .ok (.iload_n 3, 1) := by decide +kernel
theorem dX6_put_47 : decode cX6_put 47 = .ok (.invokevirtual 250, 3) := by decide +kernel
theorem dX6_put_50 : decode cX6_put 50 = .ok (.iconst 1, 1) := by decide +kernel
theorem dX6_put_51 : decode cX6_put 51 = .ok (.ireturn, 1) := by decide +kernel
theorem dX6_move_0 : decode cX6_move 0 = .ok (.iload_n 1, 1) := by decide +kernel
theorem dX6_move_1 : decode cX6_move 1 = .ok (.invokestatic 241, 3) := by decide +kernel
theorem dX6_move_4 : decode cX6_move 4 = .ok (.ifCond .eq 10, 3) := by decide +kernel
theorem dX6_move_7 : decode cX6_move 7 = .ok (.iload_n 3, 1) := by decide +kernel
theorem dX6_move_8 : decode cX6_move 8 = .ok (.invokestatic 241, 3) := by decide +kernel
theorem dX6_move_11 : decode cX6_move 11 = .ok (.ifCond .ne 9, 3) := by decide +kernel
theorem dX6_move_14 : decode cX6_move 14 = .ok (.aload_n 0, 1) := by decide +kernel
theorem dX6_move_15 : decode cX6_move 15 = .ok (.iconst 1, 1) := by decide +kernel
theorem dX6_move_16 : decode cX6_move 16 = .ok (.invokevirtual 57, 3) := by decide +kernel
theorem dX6_move_19 : decode cX6_move 19 = .ok (.ireturn, 1) := by decide +kernel
theorem dX6_move_20 : decode cX6_move 20 = .ok (.aload_n 0, 1) := by decide +kernel
theorem dX6_move_21 : decode cX6_move 21 = .ok (.getfield 45, 3) := by decide +kernel
theorem dX6_move_24 : decode cX6_move 24 = .ok (.iload_n 1, 1) := by decide +kernel
theorem dX6_move_25 : decode cX6_move 25 = .ok (.aaload, 1) := by decide +kernel
theorem dX6_move_26 : decode cX6_move 26 = .ok (.astore 6, 2) := by decide +kernel
theorem dX6_move_28 : decode cX6_move 28 = .ok (.aload_n 0, 1) := by decide +kernel
theorem dX6_move_29 : decode cX6_move 29 = .ok (.getfield 45, 3) := by decide +kernel
theorem dX6_move_32 : decode cX6_move 32 = .ok (.iload_n 3, 1) := by decide +kernel
theorem dX6_move_33 : decode cX6_move 33 = .ok (.aaload, 1) := by decide +kernel
theorem dX6_move_34 : decode cX6_move 34 = .ok (.astore 7, 2) := by decide +kernel
theorem dX6_move_36 : decode cX6_move 36 = .ok (.aload 6, 2) := by decide +kernel
theorem dX6_move_38 : decode cX6_move 38 = .ok (.invokevirtual 253, 3) := by decide +kernel
theorem dX6_move_41 : decode cX6_move 41 = .ok (.ifCond .ne 11, 3) := by decide +kernel
theorem dX6_move_44 : decode cX6_move 44 = .ok (.aload 7, 2) := by decide +kernel
theorem dX6_move_46 : decode cX6_move 46 = .ok (.invokevirtual 253, 3) := by decide +kernel
theorem dX6_move_49 : decode cX6_move 49 = .ok (.ifCond .eq 9, 3) := by decide +kernel
theorem dX6_move_52 : decode cX6_move 52 = .ok (.aload_n 0, 1) := by decide +kernel
theorem dX6_move_53 : decode cX6_move 53 = .ok (.iconst 2, 1) := by decide +kernel
theorem dX6_move_54 : decode cX6_move 54 = .ok (.invokevirtual 57, 3) := by decide +kernel
theorem dX6_move_57 : decode cX6_move 57 = .ok (.ireturn, 1) := by decide +kernel
theorem dX6_move_58 : decode cX6_move 58 = .ok (.aload 6, 2) := by decide +kernel
theorem dX6_move_60 : decode cX6_move 60 = .ok (.getfield 256, 3) := by decide +kernel
theorem dX6_move_63 : decode cX6_move 63 = .ok (.aload 7, 2) := by decide +kernel
theorem dX6_move_65 : decode cX6_move 65 = .ok (.getfield 256, 3) := by decide +kernel
theorem dX6_move_68 : decode cX6_move 68 = .ok (.if_icmp .eq 9, 3) := by decide +kernel
theorem dX6_move_71 : decode cX6_move 71 = .ok (.aload_n 0, 1) := by decide +kernel
theorem dX6_move_72 : decode cX6_move 72 = .ok (.iconst 5, 1) := by decide +kernel
theorem dX6_move_73 : decode cX6_move 73 = .ok (.invokevirtual 57, 3) := by decide +kernel
theorem dX6_move_76 : decode cX6_move 76 = .ok (.ireturn, 1) := by decide +kernel
theorem dX6_move_77 : decode cX6_move 77 = .ok (.aload 6, 2) := by decide +kernel
theorem dX6_move_79 : decode cX6_move 79 = .ok (.iload_n 2, 1) := by decide +kernel
theorem dX6_move_80 : decode cX6_move 80 = .ok (.iload 5, 2) := by decide +kernel
theorem dX6_move_82 : decode cX6_move 82 = .ok (.invokevirtual 247, 3) := by decide +kernel
theorem dX6_move_85 : decode cX6_move 85 = .ok (.ifCond .eq 15, 3) := by decide +kernel
theorem dX6_move_88 : decode cX6_move 88 = .ok (.aload 7, 2) := by decide +kernel
theorem dX6_move_90 : decode cX6_move 90 = .ok (.iload 4, 2) := by decide +kernel
theorem dX6_move_92 : decode cX6_move 92 = .ok (.iload 5, 2) := by decide +kernel
theorem dX6_move_94 : decode cX6_move 94 = .ok (.invokevirtual 247, 3) := by decide +kernel
theorem dX6_move_97 : decode cX6_move 97 = .ok (.ifCond .ne 9, 3) := by decide +kernel
theorem dX6_move_100 : decode cX6_move 100 = .ok (.aload_n 0, 1) := by decide +kernel
theorem dX6_move_101 : decode cX6_move 101 = .ok (.iconst 1, 1) := by decide +kernel
theorem dX6_move_102 : decode cX6_move 102 = .ok (.invokevirtual 57, 3) := by decide +kernel
theorem dX6_move_105 : decode cX6_move 105 = .ok (.ireturn, 1) := by decide +kernel
theorem dX6_move_106 : decode cX6_move 106 = .ok (.aload 6, 2) := by decide +kernel
theorem dX6_move_108 : decode cX6_move 108 = .ok (.getfield 259, 3) := by decide +kernel
theorem dX6_move_111 : decode cX6_move 111 = .ok (.iload_n 2, 1) := by decide +kernel
theorem dX6_move_112 : decode cX6_move 112 = .ok (.aload 7, 2) := by decide +kernel
theorem dX6_move_114 : decode cX6_move 114 = .ok (.getfield 259, 3) := by decide +kernel
theorem dX6_move_117 : decode cX6_move 117 = .ok (.iload 4, 2) := by decide +kernel
theorem dX6_move_119 : decode cX6_move 119 = .ok (.iload 5, 2) := by decide +kernel
theorem dX6_move_121 : decode cX6_move 121 = .ok (.invokestatic 262, 3) := by decide +kernel
theorem dX6_move_124 : decode cX6_move 124 = .ok (.iload 5, 2) := by decide +kernel
theorem dX6_move_126 : decode cX6_move 126 = .ok (.ireturn, 1) := by decide +kernel
theorem dX6_offsets_0 : decode cX6_offsets 0 = .ok (.aload_n 0, 1) := by decide +kernel
theorem dX6_offsets_1 : decode cX6_offsets 1 = .ok (.iload_n 1, 1) := by decide +kernel
theorem dX6_offsets_2 : decode cX6_offsets 2 = .ok (.invokevirtual 220, 3) := by decide +kernel
theorem dX6_offsets_5 : decode cX6_offsets 5 = .ok (.istore_n 2, 1) := by decide +kernel
theorem dX6_offsets_6 : decode cX6_offsets 6 = .ok (.iload_n 2, 1) := by decide +kernel
theorem dX6_offsets_7 : decode cX6_offsets 7 = .ok (.ifCond .eq 9, 3) := by decide +kernel
theorem dX6_offsets_10 : decode cX6_offsets 10 = .ok (.aload_n 0, 1) := by decide +kernel
theorem dX6_offsets_11 : decode cX6_offsets 11 = .ok (.iload_n 2, 1) := by decide +kernel
theorem dX6_offsets_12 : decode cX6_offsets 12 = .ok (.invokevirtual 57, 3) := by decide +kernel
theorem dX6_offsets_15 : decode cX6_offsets 15 = .ok (.ireturn, 1) := by decide +kernel
theorem dX6_offsets_16 : decode cX6_offsets 16 = .ok (.aload_n 0, 1) := by decide +kernel
theorem dX6_offsets_17 : decode cX6_offsets 17 = .ok (.getfield 10, 3) := by decide +kernel
theorem dX6_offsets_20 : decode cX6_offsets 20 = .ok (.aload_n 0, 1) := by decide +kernel
theorem dX6_offsets_21 : decode cX6_offsets 21 = .ok (.getfield 45, 3) := by decide +kernel
theorem dX6_offsets_24 : decode cX6_offsets 24 = .ok (.iload_n 1, 1) := by decide +kernel
theorem dX6_offsets_25 : decode cX6_offsets 25 = .ok (.aaload, 1) := by decide +kernel
theorem dX6_offsets_26 : decode cX6_offsets 26 = .ok (.invokevirtual 268, 3) := by decide +kernel
theorem dX6_offsets_29 : decode cX6_offsets 29 = .ok (.ireturn, 1) := by decide +kernel
theorem dX6_judge_0 : decode cX6_judge 0 = .ok (.aload_n 0, 1) := by decide +kernel
theorem dX6_judge_1 : decode cX6_judge 1 = .ok (.iload_n 1, 1) := by decide +kernel
theorem dX6_judge_2 : decode cX6_judge 2 = .ok (.invokevirtual 220, 3) := by decide +kernel
theorem dX6_judge_5 : decode cX6_judge 5 = .ok (.istore_n 2, 1) := by decide +kernel
theorem dX6_judge_6 : decode cX6_judge 6 = .ok (.iload_n 2, 1) := by decide +kernel
theorem dX6_judge_7 : decode cX6_judge 7 = .ok (.ifCond .eq 9, 3) := by decide +kernel
theorem dX6_judge_10 : decode cX6_judge 10 = .ok (.aload_n 0, 1) := by decide +kernel
theorem dX6_judge_11 : decode cX6_judge 11 = .ok (.iload_n 2, 1) := by decide +kernel
theorem dX6_judge_12 : decode cX6_judge 12 = .ok (.invokevirtual 57, 3) := by decide +kernel
theorem dX6_judge_15 : decode cX6_judge 15 = .ok (.ireturn, 1) := by decide +kernel
theorem dX6_judge_16 : decode cX6_judge 16 = .ok (.aload_n 0, 1) := by decide +kernel
theorem dX6_judge_17 : decode cX6_judge 17 = .ok (.getfield 10, 3) := by decide +kernel
theorem dX6_judge_20 : decode cX6_judge 20 = .ok (.aload_n 0, 1) := by decide +kernel
theorem dX6_judge_21 : decode cX6_judge 21 = .ok (.getfield 45, 3) := by decide +kernel
theorem dX6_judge_24 : decode cX6_judge 24 = .ok (.iload_n 1, 1) := by decide +kernel
theorem dX6_judge_25 : decode cX6_judge 25 = .ok (.aaload, 1) := by decide +kernel
theorem dX6_judge_26 : decode cX6_judge 26 = .ok (.invokevirtual 272, 3) := by decide +kernel
theorem dX6_judge_29 : decode cX6_judge 29 = .ok (.ireturn, 1) := by decide +kernel
theorem dX6_image_0 : decode cX6_image 0 = .ok (.aload_n 0, 1) := by decide +kernel
theorem dX6_image_1 : decode cX6_image 1 = .ok (.getfield 16, 3) := by decide +kernel
theorem dX6_image_4 : decode cX6_image 4 = .ok (.aload_n 0, 1) := by decide +kernel
theorem dX6_image_5 : decode cX6_image 5 = .ok (.getfield 10, 3) := by decide +kernel
theorem dX6_image_8 : decode cX6_image 8 = .ok (.invokevirtual 275, 3) := by decide +kernel
theorem dX6_image_11 : decode cX6_image 11 = .ok (.aload_n 0, 1) := by decide +kernel
theorem dX6_image_12 : decode cX6_image 12 = .ok (.dup, 1) := by decide +kernel
theorem dX6_image_13 : decode cX6_image 13 = .ok (.getfield 277, 3) := by decide +kernel
theorem dX6_image_16 : decode cX6_image 16 = .ok (.iconst 1, 1) := by decide +kernel
theorem dX6_image_17 : decode cX6_image 17 = .ok (.iadd, 1) := by decide +kernel
theorem dX6_image_18 : decode cX6_image 18 = .ok (.putfield 277, 3) := by decide +kernel
theorem dX6_image_21 : decode cX6_image 21 = .ok (.aload_n 0, 1) := by decide +kernel
theorem dX6_image_22 : decode cX6_image 22 = .ok (.getfield 277, 3) := by decide +kernel
theorem dX6_image_25 : decode cX6_image 25 = .ok (.ireturn, 1) := by decide +kernel
theorem dX6_restore_0 : decode cX6_restore 0 = .ok (.aload_n 0, 1) := by decide +kernel
theorem dX6_restore_1 : decode cX6_restore 1 = .ok (.getfield 277, 3) := by decide +kernel
theorem dX6_restore_4 : decode cX6_restore 4 = .ok (.ifCond .ne 9, 3) := by decide +kernel
theorem dX6_restore_7 : decode cX6_restore 7 = .ok (.aload_n 0, 1) := by decide +kernel
theorem dX6_restore_8 : decode cX6_restore 8 = .ok (.iconst 2, 1) := by decide +kernel
theorem dX6_restore_9 : decode cX6_restore 9 = .ok (.invokevirtual 57, 3) := by decide +kernel
theorem dX6_restore_12 : decode cX6_restore 12 = .ok (.ireturn, 1) := by decide +kernel
theorem dX6_restore_13 : decode cX6_restore 13 = .ok (.aload_n 0, 1) := by decide +kernel
theorem dX6_restore_14 : decode cX6_restore 14 = .ok (.getfield 10, 3) := by decide +kernel
theorem dX6_restore_17 : decode cX6_restore 17 = .ok (.aload_n 0, 1) := by decide +kernel
theorem dX6_restore_18 : decode cX6_restore 18 = .ok (.getfield 16, 3) := by decide +kernel
theorem dX6_restore_21 : decode cX6_restore 21 = .ok (.invokevirtual 275, 3) := by decide +kernel
theorem dX6_restore_24 : decode cX6_restore 24 = .ok (.aload_n 0, 1) := by decide +kernel
theorem dX6_restore_25 : decode cX6_restore 25 = .ok (.getfield 10, 3) := by decide +kernel
theorem dX6_restore_28 : decode cX6_restore 28 = .ok (.getfield 79, 3) := by decide +kernel
theorem dX6_restore_31 : decode cX6_restore 31 = .ok (.ireturn, 1) := by decide +kernel
theorem dX6_tell_0 : decode cX6_tell 0 = .ok (.aload_n 0, 1) := by decide +kernel
theorem dX6_tell_1 : decode cX6_tell 1 = .ok (.getfield 10, 3) := by decide +kernel
theorem dX6_tell_4 : decode cX6_tell 4 = .ok (.getfield 280, 3) := by decide +kernel
theorem dX6_tell_7 : decode cX6_tell 7 = .ok (.bipush 24, 2) := by decide +kernel
theorem dX6_tell_9 : decode cX6_tell 9 = .ok (.if_icmp .lt 9, 3) := by decide +kernel
theorem dX6_tell_12 : decode cX6_tell 12 = .ok (.aload_n 0, 1) := by decide +kernel
theorem dX6_tell_13 : decode cX6_tell 13 = .ok (.iconst 4, 1) := by decide +kernel
theorem dX6_tell_14 : decode cX6_tell 14 = .ok (.invokevirtual 57, 3) := by decide +kernel
theorem dX6_tell_17 : decode cX6_tell 17 = .ok (.ireturn, 1) := by decide +kernel
theorem dX6_tell_18 : decode cX6_tell 18 = .ok (.aload_n 0, 1) := by decide +kernel
theorem dX6_tell_19 : decode cX6_tell 19 = .ok (.getfield 10, 3) := by decide +kernel
theorem dX6_tell_22 : decode cX6_tell 22 = .ok (.getfield 283, 3) := by decide +kernel
theorem dX6_tell_25 : decode cX6_tell 25 = .ok (.aload_n 0, 1) := by decide +kernel
theorem dX6_tell_26 : decode cX6_tell 26 = .ok (.getfield 10, 3) := by decide +kernel
theorem dX6_tell_29 : decode cX6_tell 29 = .ok (.getfield 280, 3) := by decide +kernel
theorem dX6_tell_32 : decode cX6_tell 32 = .ok (.iload_n 1, 1) := by decide +kernel
theorem dX6_tell_33 : decode cX6_tell 33 = .ok (.iastore, 1) := by decide +kernel
theorem dX6_tell_34 : decode cX6_tell 34 = .ok (.aload_n 0, 1) := by decide +kernel
theorem dX6_tell_35 : decode cX6_tell 35 = .ok (.getfield 10, 3) := by decide +kernel
theorem dX6_tell_38 : decode cX6_tell 38 = .ok (.dup, 1) := by decide +kernel
theorem dX6_tell_39 : decode cX6_tell 39 = .ok (.getfield 280, 3) := by decide +kernel
theorem dX6_tell_42 : decode cX6_tell 42 = .ok (.iconst 1, 1) := by decide +kernel
theorem dX6_tell_43 : decode cX6_tell 43 = .ok (.iadd, 1) := by decide +kernel
theorem dX6_tell_44 : decode cX6_tell 44 = .ok (.putfield 280, 3) := by decide +kernel
theorem dX6_tell_47 : decode cX6_tell 47 = .ok (.aload_n 0, 1) := by decide +kernel
theorem dX6_tell_48 : decode cX6_tell 48 = .ok (.getfield 10, 3) := by decide +kernel
theorem dX6_tell_51 : decode cX6_tell 51 = .ok (.getfield 280, 3) := by decide +kernel
theorem dX6_tell_54 : decode cX6_tell 54 = .ok (.ireturn, 1) := by decide +kernel
theorem dX6_check_0 : decode cX6_check 0 = .ok (.aload_n 0, 1) := by decide +kernel
theorem dX6_check_1 : decode cX6_check 1 = .ok (.getfield 10, 3) := by decide +kernel
theorem dX6_check_4 : decode cX6_check 4 = .ok (.invokevirtual 286, 3) := by decide +kernel
theorem dX6_check_7 : decode cX6_check 7 = .ok (.istore_n 1, 1) := by decide +kernel
theorem dX6_check_8 : decode cX6_check 8 = .ok (.aload_n 0, 1) := by decide +kernel
theorem dX6_check_9 : decode cX6_check 9 = .ok (.getfield 10, 3) := by decide +kernel
theorem dX6_check_12 : decode cX6_check 12 = .ok (.iconst 0, 1) := by decide +kernel
theorem dX6_check_13 : decode cX6_check 13 = .ok (.putfield 280, 3) := by decide +kernel
theorem dX6_check_16 : decode cX6_check 16 = .ok (.iload_n 1, 1) := by decide +kernel
theorem dX6_check_17 : decode cX6_check 17 = .ok (.iconst 1, 1) := by decide +kernel
theorem dX6_check_18 : decode cX6_check 18 = .ok (.iadd, 1) := by decide +kernel
theorem dX6_check_19 : decode cX6_check 19 = .ok (.ireturn, 1) := by decide +kernel
theorem dX6_count_0 : decode cX6_count 0 = .ok (.iload_n 1, 1) := by decide +kernel
theorem dX6_count_1 : decode cX6_count 1 = .ok (.tableswitch 111 0 7 #[47, 55, 63, 71, 79, 87, 95, 103], 47) := by decide +kernel
theorem dX6_count_48 : decode cX6_count 48 = .ok (.aload_n 0, 1) := by decide +kernel
theorem dX6_count_49 : decode cX6_count 49 = .ok (.getfield 10, 3) := by decide +kernel
theorem dX6_count_52 : decode cX6_count 52 = .ok (.getfield 61, 3) := by decide +kernel
theorem dX6_count_55 : decode cX6_count 55 = .ok (.ireturn, 1) := by decide +kernel
theorem dX6_count_56 : decode cX6_count 56 = .ok (.aload_n 0, 1) := by decide +kernel
theorem dX6_count_57 : decode cX6_count 57 = .ok (.getfield 10, 3) := by decide +kernel
theorem dX6_count_60 : decode cX6_count 60 = .ok (.getfield 91, 3) := by decide +kernel
theorem dX6_count_63 : decode cX6_count 63 = .ok (.ireturn, 1) := by decide +kernel
theorem dX6_count_64 : decode cX6_count 64 = .ok (.aload_n 0, 1) := by decide +kernel
theorem dX6_count_65 : decode cX6_count 65 = .ok (.getfield 10, 3) := by decide +kernel
theorem dX6_count_68 : decode cX6_count 68 = .ok (.getfield 115, 3) := by decide +kernel
theorem dX6_count_71 : decode cX6_count 71 = .ok (.ireturn, 1) := by decide +kernel
theorem dX6_count_72 : decode cX6_count 72 = .ok (.aload_n 0, 1) := by decide +kernel
theorem dX6_count_73 : decode cX6_count 73 = .ok (.getfield 10, 3) := by decide +kernel
theorem dX6_count_76 : decode cX6_count 76 = .ok (.getfield 79, 3) := by decide +kernel
theorem dX6_count_79 : decode cX6_count 79 = .ok (.ireturn, 1) := by decide +kernel
theorem dX6_count_80 : decode cX6_count 80 = .ok (.aload_n 0, 1) := by decide +kernel
theorem dX6_count_81 : decode cX6_count 81 = .ok (.getfield 10, 3) := by decide +kernel
theorem dX6_count_84 : decode cX6_count 84 = .ok (.getfield 153, 3) := by decide +kernel
theorem dX6_count_87 : decode cX6_count 87 = .ok (.ireturn, 1) := by decide +kernel
theorem dX6_count_88 : decode cX6_count 88 = .ok (.aload_n 0, 1) := by decide +kernel
theorem dX6_count_89 : decode cX6_count 89 = .ok (.getfield 10, 3) := by decide +kernel
theorem dX6_count_92 : decode cX6_count 92 = .ok (.getfield 280, 3) := by decide +kernel
theorem dX6_count_95 : decode cX6_count 95 = .ok (.ireturn, 1) := by decide +kernel
theorem dX6_count_96 : decode cX6_count 96 = .ok (.aload_n 0, 1) := by decide +kernel
theorem dX6_count_97 : decode cX6_count 97 = .ok (.getfield 38, 3) := by decide +kernel
theorem dX6_count_100 : decode cX6_count 100 = .ok (.getfield 235, 3) := by decide +kernel
theorem dX6_count_103 : decode cX6_count 103 = .ok (.ireturn, 1) := by decide +kernel
theorem dX6_count_104 : decode cX6_count 104 = .ok (.aload_n 0, 1) := by decide +kernel
theorem dX6_count_105 : decode cX6_count 105 = .ok (.getfield 10, 3) := by decide +kernel
theorem dX6_count_108 : decode cX6_count 108 = .ok (.getfield 194, 3) := by decide +kernel
theorem dX6_count_111 : decode cX6_count 111 = .ok (.ireturn, 1) := by decide +kernel
theorem dX6_count_112 : decode cX6_count 112 = .ok (.aload_n 0, 1) := by decide +kernel
theorem dX6_count_113 : decode cX6_count 113 = .ok (.iconst 1, 1) := by decide +kernel
theorem dX6_count_114 : decode cX6_count 114 = .ok (.invokevirtual 57, 3) := by decide +kernel
theorem dX6_count_117 : decode cX6_count 117 = .ok (.ireturn, 1) := by decide +kernel
theorem dX6_told_0 : decode cX6_told 0 = .ok (.iload_n 1, 1) := by decide +kernel
theorem dX6_told_1 : decode cX6_told 1 = .ok (.iconst 1, 1) := by decide +kernel
theorem dX6_told_2 : decode cX6_told 2 = .ok (.bipush 6, 2) := by decide +kernel
theorem dX6_told_4 : decode cX6_told 4 = .ok (.invokestatic 53, 3) := by decide +kernel
theorem dX6_told_7 : decode cX6_told 7 = .ok (.ifCond .eq 12, 3) := by decide +kernel
theorem dX6_told_10 : decode cX6_told 10 = .ok (.aload_n 0, 1) := by decide +kernel
theorem dX6_told_11 : decode cX6_told 11 = .ok (.getfield 49, 3) := by decide +kernel
theorem dX6_told_14 : decode cX6_told 14 = .ok (.iload_n 1, 1) := by decide +kernel
theorem dX6_told_15 : decode cX6_told 15 = .ok (.iaload, 1) := by decide +kernel
theorem dX6_told_16 : decode cX6_told 16 = .ok (.goto 8, 3) := by decide +kernel
theorem dX6_told_19 : decode cX6_told 19 = .ok (.aload_n 0, 1) := by decide +kernel
theorem dX6_told_20 : decode cX6_told 20 = .ok (.iconst 1, 1) := by decide +kernel
theorem dX6_told_21 : decode cX6_told 21 = .ok (.invokevirtual 57, 3) := by decide +kernel
theorem dX6_told_24 : decode cX6_told 24 = .ok (.ireturn, 1) := by decide +kernel
theorem dX6_error_0 : decode cX6_error 0 = .ok (.aload_n 0, 1) := by decide +kernel
theorem dX6_error_1 : decode cX6_error 1 = .ok (.getfield 49, 3) := by decide +kernel
theorem dX6_error_4 : decode cX6_error 4 = .ok (.iload_n 1, 1) := by decide +kernel
theorem dX6_error_5 : decode cX6_error 5 = .ok (.dup2, 1) := by decide +kernel
theorem dX6_error_6 : decode cX6_error 6 = .ok (.iaload, 1) := by decide +kernel
theorem dX6_error_7 : decode cX6_error 7 = .ok (.iconst 1, 1) := by decide +kernel
theorem dX6_error_8 : decode cX6_error 8 = .ok (.iadd, 1) := by decide +kernel
theorem dX6_error_9 : decode cX6_error 9 = .ok (.iastore, 1) := by decide +kernel
theorem dX6_error_10 : decode cX6_error 10 = .ok (.ldc_w 290, 3) := by decide +kernel
theorem dX6_error_13 : decode cX6_error 13 = .ok (.iload_n 1, 1) := by decide +kernel
theorem dX6_error_14 : decode cX6_error 14 = .ok (.isub, 1) := by decide +kernel
theorem dX6_error_15 : decode cX6_error 15 = .ok (.ireturn, 1) := by decide +kernel
theorem dX6_within_0 : decode cX6_within 0 = .ok (.iload_n 0, 1) := by decide +kernel
theorem dX6_within_1 : decode cX6_within 1 = .ok (.iload_n 1, 1) := by decide +kernel
theorem dX6_within_2 : decode cX6_within 2 = .ok (.if_icmp .lt 12, 3) := by decide +kernel
theorem dX6_within_5 : decode cX6_within 5 = .ok (.iload_n 0, 1) := by decide +kernel
theorem dX6_within_6 : decode cX6_within 6 = .ok (.iload_n 2, 1) := by decide +kernel
theorem dX6_within_7 : decode cX6_within 7 = .ok (.if_icmp .gt 7, 3) := by decide +kernel
theorem dX6_within_10 : decode cX6_within 10 = .ok (.iconst 1, 1) := by decide +kernel
theorem dX6_within_11 : decode cX6_within 11 = .ok (.goto 4, 3) := by decide +kernel
theorem dX6_within_14 : decode cX6_within 14 = .ok (.iconst 0, 1) := by decide +kernel
theorem dX6_within_15 : decode cX6_within 15 = .ok (.ireturn, 1) := by decide +kernel
theorem dX6_isUse_0 : decode cX6_isUse 0 = .ok (.iload_n 0, 1) := by decide +kernel
theorem dX6_isUse_1 : decode cX6_isUse 1 = .ok (.ifCond .eq 8, 3) := by decide +kernel
theorem dX6_isUse_4 : decode cX6_isUse 4 = .ok (.iload_n 0, 1) := by decide +kernel
theorem dX6_isUse_5 : decode cX6_isUse 5 = .ok (.iconst 1, 1) := by decide +kernel
theorem dX6_isUse_6 : decode cX6_isUse 6 = .ok (.if_icmp .ne 7, 3) := by decide +kernel
theorem dX6_isUse_9 : decode cX6_isUse 9 = .ok (.iconst 1, 1) := by decide +kernel
theorem dX6_isUse_10 : decode cX6_isUse 10 = .ok (.goto 4, 3) := by decide +kernel
theorem dX6_isUse_13 : decode cX6_isUse 13 = .ok (.iconst 0, 1) := by decide +kernel
theorem dX6_isUse_14 : decode cX6_isUse 14 = .ok (.ireturn, 1) := by decide +kernel
theorem dX6_isSheet_0 : decode cX6_isSheet 0 = .ok (.iload_n 0, 1) := by decide +kernel
theorem dX6_isSheet_1 : decode cX6_isSheet 1 = .ok (.iconst 0, 1) := by decide +kernel
theorem dX6_isSheet_2 : decode cX6_isSheet 2 = .ok (.iconst 3, 1) := by decide +kernel
theorem dX6_isSheet_3 : decode cX6_isSheet 3 = .ok (.invokestatic 53, 3) := by decide +kernel
theorem dX6_isSheet_6 : decode cX6_isSheet 6 = .ok (.ireturn, 1) := by decide +kernel
theorem dX6_lackOf_0 : decode cX6_lackOf 0 = .ok (.iload_n 1, 1) := by decide +kernel
theorem dX6_lackOf_1 : decode cX6_lackOf 1 = .ok (.invokestatic 241, 3) := by decide +kernel
theorem dX6_lackOf_4 : decode cX6_lackOf 4 = .ok (.ifCond .ne 5, 3) := by decide +kernel
theorem dX6_lackOf_7 : decode cX6_lackOf 7 = .ok (.iconst 1, 1) := by decide +kernel
theorem dX6_lackOf_8 : decode cX6_lackOf 8 = .ok (.ireturn, 1) := by decide +kernel
theorem dX6_lackOf_9 : decode cX6_lackOf 9 = .ok (.aload_n 0, 1) := by decide +kernel
theorem dX6_lackOf_10 : decode cX6_lackOf 10 = .ok (.getfield 45, 3) := by decide +kernel
theorem dX6_lackOf_13 : decode cX6_lackOf 13 = .ok (.iload_n 1, 1) := by decide +kernel
theorem dX6_lackOf_14 : decode cX6_lackOf 14 = .ok (.aaload, 1) := by decide +kernel
theorem dX6_lackOf_15 : decode cX6_lackOf 15 = .ok (.invokevirtual 253, 3) := by decide +kernel
theorem dX6_lackOf_18 : decode cX6_lackOf 18 = .ok (.ifCond .eq 7, 3) := by decide +kernel
theorem dX6_lackOf_21 : decode cX6_lackOf 21 = .ok (.iconst 2, 1) := by decide +kernel
theorem dX6_lackOf_22 : decode cX6_lackOf 22 = .ok (.goto 4, 3) := by decide +kernel
theorem dX6_lackOf_25 : decode cX6_lackOf 25 = .ok (.iconst 0, 1) := by decide +kernel
theorem dX6_lackOf_26 : decode cX6_lackOf 26 = .ok (.ireturn, 1) := by decide +kernel
theorem dX6_isKindWithNumber_0 : decode cX6_isKindWithNumber 0 = .ok (.iload_n 0, 1) := by decide +kernel
theorem dX6_isKindWithNumber_1 : decode cX6_isKindWithNumber 1 = .ok (.iconst 0, 1) := by decide +kernel
theorem dX6_isKindWithNumber_2 : decode cX6_isKindWithNumber 2 = .ok (.bipush 69, 2) := by decide +kernel
theorem dX6_isKindWithNumber_4 : decode cX6_isKindWithNumber 4 = .ok (.invokestatic 53, 3) := by decide +kernel
theorem dX6_isKindWithNumber_7 : decode cX6_isKindWithNumber 7 = .ok (.ireturn, 1) := by decide +kernel
theorem dX6_isUnder_0 : decode cX6_isUnder 0 = .ok (.iload_n 0, 1) := by decide +kernel
theorem dX6_isUnder_1 : decode cX6_isUnder 1 = .ok (.istore_n 2, 1) := by decide +kernel
theorem dX6_isUnder_2 : decode cX6_isUnder 2 = .ok (.iconst 0, 1) := by decide +kernel
theorem dX6_isUnder_3 : decode cX6_isUnder 3 = .ok (.istore_n 3, 1) := by decide +kernel
theorem dX6_isUnder_4 : decode cX6_isUnder 4 = .ok (.iload_n 3, 1) := by decide +kernel
theorem dX6_isUnder_5 : decode cX6_isUnder 5 = .ok (.getstatic 291, 3) := by decide +kernel
theorem dX6_isUnder_8 : decode cX6_isUnder 8 = .ok (.arraylength, 1) := by decide +kernel
theorem dX6_isUnder_9 : decode cX6_isUnder 9 = .ok (.if_icmp .ge 26, 3) := by decide +kernel
theorem dX6_isUnder_12 : decode cX6_isUnder 12 = .ok (.iload_n 2, 1) := by decide +kernel
theorem dX6_isUnder_13 : decode cX6_isUnder 13 = .ok (.ifCond .lt 22, 3) := by decide +kernel
theorem dX6_isUnder_16 : decode cX6_isUnder 16 = .ok (.iload_n 2, 1) := by decide +kernel
theorem dX6_isUnder_17 : decode cX6_isUnder 17 = .ok (.iload_n 1, 1) := by decide +kernel
theorem dX6_isUnder_18 : decode cX6_isUnder 18 = .ok (.if_icmp .ne 5, 3) := by decide +kernel
theorem dX6_isUnder_21 : decode cX6_isUnder 21 = .ok (.iconst 1, 1) := by decide +kernel
theorem dX6_isUnder_22 : decode cX6_isUnder 22 = .ok (.ireturn, 1) := by decide +kernel
theorem dX6_isUnder_23 : decode cX6_isUnder 23 = .ok (.getstatic 291, 3) := by decide +kernel
theorem dX6_isUnder_26 : decode cX6_isUnder 26 = .ok (.iload_n 2, 1) := by decide +kernel
theorem dX6_isUnder_27 : decode cX6_isUnder 27 = .ok (.iaload, 1) := by decide +kernel
theorem dX6_isUnder_28 : decode cX6_isUnder 28 = .ok (.istore_n 2, 1) := by decide +kernel
theorem dX6_isUnder_29 : decode cX6_isUnder 29 = .ok (.iinc 3 1, 3) := by decide +kernel
theorem dX6_isUnder_32 : decode cX6_isUnder 32 = .ok (.goto (-28), 3) := by decide +kernel
theorem dX6_isUnder_35 : decode cX6_isUnder 35 = .ok (.iconst 0, 1) := by decide +kernel
theorem dX6_isUnder_36 : decode cX6_isUnder 36 = .ok (.ireturn, 1) := by decide +kernel
theorem dX6_rest_0 : decode cX6_rest 0 = .ok (.iload_n 1, 1) := by decide +kernel
theorem dX6_rest_1 : decode cX6_rest 1 = .ok (.iconst 1, 1) := by decide +kernel
theorem dX6_rest_2 : decode cX6_rest 2 = .ok (.if_icmp .ge 7, 3) := by decide +kernel
theorem dX6_rest_5 : decode cX6_rest 5 = .ok (.iconst 0, 1) := by decide +kernel
theorem dX6_rest_6 : decode cX6_rest 6 = .ok (.goto 8, 3) := by decide +kernel
theorem dX6_rest_9 : decode cX6_rest 9 = .ok (.iload_n 0, 1) := by decide +kernel
theorem dX6_rest_10 : decode cX6_rest 10 = .ok (.iload_n 1, 1) := by decide +kernel
theorem dX6_rest_11 : decode cX6_rest 11 = .ok (.invokestatic 294, 3) := by decide +kernel
theorem dX6_rest_14 : decode cX6_rest 14 = .ok (.ireturn, 1) := by decide +kernel
theorem dX6_isIn_0 : decode cX6_isIn 0 = .ok (.iload_n 0, 1) := by decide +kernel
theorem dX6_isIn_1 : decode cX6_isIn 1 = .ok (.iload_n 1, 1) := by decide +kernel
theorem dX6_isIn_2 : decode cX6_isIn 2 = .ok (.ishr, 1) := by decide +kernel
theorem dX6_isIn_3 : decode cX6_isIn 3 = .ok (.iconst 1, 1) := by decide +kernel
theorem dX6_isIn_4 : decode cX6_isIn 4 = .ok (.iand, 1) := by decide +kernel
theorem dX6_isIn_5 : decode cX6_isIn 5 = .ok (.ifCond .eq 7, 3) := by decide +kernel
theorem dX6_isIn_8 : decode cX6_isIn 8 = .ok (.iconst 1, 1) := by decide +kernel
theorem dX6_isIn_9 : decode cX6_isIn 9 = .ok (.goto 4, 3) := by decide +kernel
theorem dX6_isIn_12 : decode cX6_isIn 12 = .ok (.iconst 0, 1) := by decide +kernel
theorem dX6_isIn_13 : decode cX6_isIn 13 = .ok (.ireturn, 1) := by decide +kernel
theorem dX6_hold_0 : decode cX6_hold 0 = .ok (.iload_n 1, 1) := by decide +kernel
theorem dX6_hold_1 : decode cX6_hold 1 = .ok (.iload_n 2, 1) := by decide +kernel
theorem dX6_hold_2 : decode cX6_hold 2 = .ok (.iload_n 0, 1) := by decide +kernel
theorem dX6_hold_3 : decode cX6_hold 3 = .ok (.invokestatic 299, 3) := by decide +kernel
theorem dX6_hold_6 : decode cX6_hold 6 = .ok (.invokestatic 302, 3) := by decide +kernel
theorem dX6_hold_9 : decode cX6_hold 9 = .ok (.ireturn, 1) := by decide +kernel
theorem dX6_commonDivisor_0 : decode cX6_commonDivisor 0 = .ok (.iload_n 1, 1) := by decide +kernel
theorem dX6_commonDivisor_1 : decode cX6_commonDivisor 1 = .ok (.istore_n 2, 1) := by decide +kernel
theorem dX6_commonDivisor_2 : decode cX6_commonDivisor 2 = .ok (.iload_n 2, 1) := by decide +kernel
theorem dX6_commonDivisor_3 : decode cX6_commonDivisor 3 = .ok (.iconst 1, 1) := by decide +kernel
theorem dX6_commonDivisor_4 : decode cX6_commonDivisor 4 = .ok (.if_icmp .le 23, 3) := by decide +kernel
theorem dX6_commonDivisor_7 : decode cX6_commonDivisor 7 = .ok (.iload_n 0, 1) := by decide +kernel
theorem dX6_commonDivisor_8 : decode cX6_commonDivisor 8 = .ok (.iload_n 2, 1) := by decide +kernel
theorem dX6_commonDivisor_9 : decode cX6_commonDivisor 9 = .ok (.irem, 1) := by decide +kernel
theorem dX6_commonDivisor_10 : decode cX6_commonDivisor 10 = .ok (.ifCond .ne 11, 3) := by decide +kernel
theorem dX6_commonDivisor_13 : decode cX6_commonDivisor 13 = .ok (.iload_n 1, 1) := by decide +kernel
theorem dX6_commonDivisor_14 : decode cX6_commonDivisor 14 = .ok (.iload_n 2, 1) := by decide +kernel
theorem dX6_commonDivisor_15 : decode cX6_commonDivisor 15 = .ok (.irem, 1) := by decide +kernel
theorem dX6_commonDivisor_16 : decode cX6_commonDivisor 16 = .ok (.ifCond .ne 5, 3) := by decide +kernel
theorem dX6_commonDivisor_19 : decode cX6_commonDivisor 19 = .ok (.iload_n 2, 1) := by decide +kernel
theorem dX6_commonDivisor_20 : decode cX6_commonDivisor 20 = .ok (.ireturn, 1) := by decide +kernel
theorem dX6_commonDivisor_21 : decode cX6_commonDivisor 21 = .ok (.iinc 2 (-1), 3) := by decide +kernel
theorem dX6_commonDivisor_24 : decode cX6_commonDivisor 24 = .ok (.goto (-22), 3) := by decide +kernel
theorem dX6_commonDivisor_27 : decode cX6_commonDivisor 27 = .ok (.iconst 1, 1) := by decide +kernel
theorem dX6_commonDivisor_28 : decode cX6_commonDivisor 28 = .ok (.ireturn, 1) := by decide +kernel
