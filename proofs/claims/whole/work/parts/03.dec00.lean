theorem dX0_init_0 : decode cX0_init 0 = .ok (.aload_n 0, 1) := by decide +kernel
theorem dX0_init_1 : decode cX0_init 1 = .ok (.invokespecial 3, 3) := by decide +kernel
theorem dX0_init_4 : decode cX0_init 4 = .ok (.aload_n 0, 1) := by decide +kernel
theorem dX0_init_5 : decode cX0_init 5 = .ok (.bipush 6, 2) := by decide +kernel
theorem dX0_init_7 : decode cX0_init 7 = .ok (.newarray .int, 2) := by decide +kernel
theorem dX0_init_9 : decode cX0_init 9 = .ok (.putfield 9, 3) := by decide +kernel
theorem dX0_init_12 : decode cX0_init 12 = .ok (.aload_n 0, 1) := by decide +kernel
theorem dX0_init_13 : decode cX0_init 13 = .ok (.bipush 6, 2) := by decide +kernel
theorem dX0_init_15 : decode cX0_init 15 = .ok (.newarray .int, 2) := by decide +kernel
theorem dX0_init_17 : decode cX0_init 17 = .ok (.putfield 15, 3) := by decide +kernel
theorem dX0_init_20 : decode cX0_init 20 = .ok (.aload_n 0, 1) := by decide +kernel
theorem dX0_init_21 : decode cX0_init 21 = .ok (.iconst 0, 1) := by decide +kernel
theorem dX0_init_22 : decode cX0_init 22 = .ok (.putfield 18, 3) := by decide +kernel
theorem dX0_init_25 : decode cX0_init 25 = .ok (.aload_n 0, 1) := by decide +kernel
theorem dX0_init_26 : decode cX0_init 26 = .ok (.iconst 0, 1) := by decide +kernel
theorem dX0_init_27 : decode cX0_init 27 = .ok (.putfield 22, 3) := by decide +kernel
theorem dX0_init_30 : decode cX0_init 30 = .ok (.aload_n 0, 1) := by decide +kernel
theorem dX0_init_31 : decode cX0_init 31 = .ok (.aload_n 1, 1) := by decide +kernel
theorem dX0_init_32 : decode cX0_init 32 = .ok (.putfield 25, 3) := by decide +kernel
theorem dX0_init_35 : decode cX0_init 35 = .ok (.aload_n 0, 1) := by decide +kernel
theorem dX0_init_36 : decode cX0_init 36 = .ok (.aload_n 2, 1) := by decide +kernel
theorem dX0_init_37 : decode cX0_init 37 = .ok (.putfield 29, 3) := by decide +kernel
theorem dX0_init_40 : decode cX0_init 40 = .ok (.return_, 1) := by decide +kernel
theorem dX0_weigh_0 : decode cX0_weigh 0 = .ok (.aload_n 0, 1) := by decide +kernel
theorem dX0_weigh_1 : decode cX0_weigh 1 = .ok (.aload_n 1, 1) := by decide +kernel
theorem dX0_weigh_2 : decode cX0_weigh 2 = .ok (.putfield 25, 3) := by decide +kernel
theorem dX0_weigh_5 : decode cX0_weigh 5 = .ok (.aload_n 0, 1) := by decide +kernel
theorem dX0_weigh_6 : decode cX0_weigh 6 = .ok (.aload_n 2, 1) := by decide +kernel
theorem dX0_weigh_7 : decode cX0_weigh 7 = .ok (.putfield 29, 3) := by decide +kernel
theorem dX0_weigh_10 : decode cX0_weigh 10 = .ok (.iconst 0, 1) := by decide +kernel
theorem dX0_weigh_11 : decode cX0_weigh 11 = .ok (.istore_n 3, 1) := by decide +kernel
theorem dX0_weigh_12 : decode cX0_weigh 12 = .ok (.iconst 0, 1) := by decide +kernel
theorem dX0_weigh_13 : decode cX0_weigh 13 = .ok (.istore 4, 2) := by decide +kernel
theorem dX0_weigh_15 : decode cX0_weigh 15 = .ok (.aload_n 0, 1) := by decide +kernel
theorem dX0_weigh_16 : decode cX0_weigh 16 = .ok (.getfield 29, 3) := by decide +kernel
theorem dX0_weigh_19 : decode cX0_weigh 19 = .ok (.getfield 33, 3) := by decide +kernel
theorem dX0_weigh_22 : decode cX0_weigh 22 = .ok (.iconst 1, 1) := by decide +kernel
theorem dX0_weigh_23 : decode cX0_weigh 23 = .ok (.isub, 1) := by decide +kernel
theorem dX0_weigh_24 : decode cX0_weigh 24 = .ok (.istore 5, 2) := by decide +kernel
theorem dX0_weigh_26 : decode cX0_weigh 26 = .ok (.iload 5, 2) := by decide +kernel
theorem dX0_weigh_28 : decode cX0_weigh 28 = .ok (.ifCond .lt 100, 3) := by decide +kernel
theorem dX0_weigh_31 : decode cX0_weigh 31 = .ok (.aload_n 0, 1) := by decide +kernel
theorem dX0_weigh_32 : decode cX0_weigh 32 = .ok (.getfield 25, 3) := by decide +kernel
theorem dX0_weigh_35 : decode cX0_weigh 35 = .ok (.aload_n 0, 1) := by decide +kernel
theorem dX0_weigh_36 : decode cX0_weigh 36 = .ok (.getfield 29, 3) := by decide +kernel
theorem dX0_weigh_39 : decode cX0_weigh 39 = .ok (.iload 5, 2) := by decide +kernel
theorem dX0_weigh_41 : decode cX0_weigh 41 = .ok (.invokevirtual 38, 3) := by decide +kernel
theorem dX0_weigh_44 : decode cX0_weigh 44 = .ok (.istore 6, 2) := by decide +kernel
theorem dX0_weigh_46 : decode cX0_weigh 46 = .ok (.iload_n 3, 1) := by decide +kernel
theorem dX0_weigh_47 : decode cX0_weigh 47 = .ok (.iload 6, 2) := by decide +kernel
theorem dX0_weigh_49 : decode cX0_weigh 49 = .ok (.aload_n 0, 1) := by decide +kernel
theorem dX0_weigh_50 : decode cX0_weigh 50 = .ok (.getfield 25, 3) := by decide +kernel
theorem dX0_weigh_53 : decode cX0_weigh 53 = .ok (.getfield 44, 3) := by decide +kernel
theorem dX0_weigh_56 : decode cX0_weigh 56 = .ok (.aload_n 0, 1) := by decide +kernel
theorem dX0_weigh_57 : decode cX0_weigh 57 = .ok (.getfield 29, 3) := by decide +kernel
theorem dX0_weigh_60 : decode cX0_weigh 60 = .ok (.getfield 47, 3) := by decide +kernel
theorem dX0_weigh_63 : decode cX0_weigh 63 = .ok (.iload 5, 2) := by decide +kernel
theorem dX0_weigh_65 : decode cX0_weigh 65 = .ok (.iaload, 1) := by decide +kernel
theorem dX0_weigh_66 : decode cX0_weigh 66 = .ok (.iaload, 1) := by decide +kernel
theorem dX0_weigh_67 : decode cX0_weigh 67 = .ok (.iadd, 1) := by decide +kernel
theorem dX0_weigh_68 : decode cX0_weigh 68 = .ok (.iadd, 1) := by decide +kernel
theorem dX0_weigh_69 : decode cX0_weigh 69 = .ok (.istore_n 3, 1) := by decide +kernel
theorem dX0_weigh_70 : decode cX0_weigh 70 = .ok (.iload 4, 2) := by decide +kernel
theorem dX0_weigh_72 : decode cX0_weigh 72 = .ok (.iload 6, 2) := by decide +kernel
theorem dX0_weigh_74 : decode cX0_weigh 74 = .ok (.aload_n 0, 1) := by decide +kernel
theorem dX0_weigh_75 : decode cX0_weigh 75 = .ok (.getfield 29, 3) := by decide +kernel
theorem dX0_weigh_78 : decode cX0_weigh 78 = .ok (.aload_n 0, 1) := by decide +kernel
theorem dX0_weigh_79 : decode cX0_weigh 79 = .ok (.getfield 25, 3) := by decide +kernel
theorem dX0_weigh_82 : decode cX0_weigh 82 = .ok (.iload 5, 2) := by decide +kernel
theorem dX0_weigh_84 : decode cX0_weigh 84 = .ok (.invokevirtual 50, 3) := by decide +kernel
theorem dX0_weigh_87 : decode cX0_weigh 87 = .ok (.imul, 1) := by decide +kernel
theorem dX0_weigh_88 : decode cX0_weigh 88 = .ok (.aload_n 0, 1) := by decide +kernel
theorem dX0_weigh_89 : decode cX0_weigh 89 = .ok (.getfield 29, 3) := by decide +kernel
theorem dX0_weigh_92 : decode cX0_weigh 92 = .ok (.aload_n 0, 1) := by decide +kernel
theorem dX0_weigh_93 : decode cX0_weigh 93 = .ok (.getfield 25, 3) := by decide +kernel
theorem dX0_weigh_96 : decode cX0_weigh 96 = .ok (.iload 5, 2) := by decide +kernel
theorem dX0_weigh_98 : decode cX0_weigh 98 = .ok (.invokevirtual 54, 3) := by decide +kernel
theorem dX0_weigh_101 : decode cX0_weigh 101 = .ok (.iadd, 1) := by decide +kernel
theorem dX0_weigh_102 : decode cX0_weigh 102 = .ok (.iadd, 1) := by decide +kernel
theorem dX0_weigh_103 : decode cX0_weigh 103 = .ok (.istore 4, 2) := by decide +kernel
theorem dX0_weigh_105 : decode cX0_weigh 105 = .ok (.aload_n 0, 1) := by decide +kernel
theorem dX0_weigh_106 : decode cX0_weigh 106 = .ok (.getfield 9, 3) := by decide +kernel
theorem dX0_weigh_109 : decode cX0_weigh 109 = .ok (.iload 5, 2) := by decide +kernel
theorem dX0_weigh_111 : decode cX0_weigh 111 = .ok (.iload_n 3, 1) := by decide +kernel
theorem dX0_weigh_112 : decode cX0_weigh 112 = .ok (.iastore, 1) := by decide +kernel
theorem dX0_weigh_113 : decode cX0_weigh 113 = .ok (.aload_n 0, 1) := by decide +kernel
theorem dX0_weigh_114 : decode cX0_weigh 114 = .ok (.getfield 15, 3) := by decide +kernel
theorem dX0_weigh_117 : decode cX0_weigh 117 = .ok (.iload 5, 2) := by decide +kernel
theorem dX0_weigh_119 : decode cX0_weigh 119 = .ok (.iload 4, 2) := by decide +kernel
theorem dX0_weigh_121 : decode cX0_weigh 121 = .ok (.iastore, 1) := by decide +kernel
theorem dX0_weigh_122 : decode cX0_weigh 122 = .ok (.iinc 5 (-1), 3) := by decide +kernel
theorem dX0_weigh_125 : decode cX0_weigh 125 = .ok (.goto (-99), 3) := by decide +kernel
theorem dX0_weigh_128 : decode cX0_weigh 128 = .ok (.return_, 1) := by decide +kernel
theorem dX0_allStand_0 : decode cX0_allStand 0 = .ok (.aload_n 0, 1) := by decide +kernel
theorem dX0_allStand_1 : decode cX0_allStand 1 = .ok (.aload_n 1, 1) := by decide +kernel
theorem dX0_allStand_2 : decode cX0_allStand 2 = .ok (.aload_n 2, 1) := by decide +kernel
theorem dX0_allStand_3 : decode cX0_allStand 3 = .ok (.invokevirtual 57, 3) := by decide +kernel
theorem dX0_allStand_6 : decode cX0_allStand 6 = .ok (.aload_n 0, 1) := by decide +kernel
theorem dX0_allStand_7 : decode cX0_allStand 7 = .ok (.invokevirtual 61, 3) := by decide +kernel
theorem dX0_allStand_10 : decode cX0_allStand 10 = .ok (.iconst (-1), 1) := by decide +kernel
theorem dX0_allStand_11 : decode cX0_allStand 11 = .ok (.if_icmp .ne 7, 3) := by decide +kernel
theorem dX0_allStand_14 : decode cX0_allStand 14 = .ok (.iconst 1, 1) := by decide +kernel
theorem dX0_allStand_15 : decode cX0_allStand 15 = .ok (.goto 4, 3) := by decide +kernel
theorem dX0_allStand_18 : decode cX0_allStand 18 = .ok (.iconst 0, 1) := by decide +kernel
theorem dX0_allStand_19 : decode cX0_allStand 19 = .ok (.ireturn, 1) := by decide +kernel
theorem dX0_lowestFalling_0 : decode cX0_lowestFalling 0 = .ok (.iconst 0, 1) := by decide +kernel
theorem dX0_lowestFalling_1 : decode cX0_lowestFalling 1 = .ok (.istore_n 1, 1) := by decide +kernel
theorem dX0_lowestFalling_2 : decode cX0_lowestFalling 2 = .ok (.iload_n 1, 1) := by decide +kernel
theorem dX0_lowestFalling_3 : decode cX0_lowestFalling 3 = .ok (.aload_n 0, 1) := by decide +kernel
theorem dX0_lowestFalling_4 : decode cX0_lowestFalling 4 = .ok (.getfield 29, 3) := by decide +kernel
theorem dX0_lowestFalling_7 : decode cX0_lowestFalling 7 = .ok (.getfield 33, 3) := by decide +kernel
theorem dX0_lowestFalling_10 : decode cX0_lowestFalling 10 = .ok (.if_icmp .ge 19, 3) := by decide +kernel
theorem dX0_lowestFalling_13 : decode cX0_lowestFalling 13 = .ok (.aload_n 0, 1) := by decide +kernel
theorem dX0_lowestFalling_14 : decode cX0_lowestFalling 14 = .ok (.iload_n 1, 1) := by decide +kernel
theorem dX0_lowestFalling_15 : decode cX0_lowestFalling 15 = .ok (.invokevirtual 65, 3) := by decide +kernel
theorem dX0_lowestFalling_18 : decode cX0_lowestFalling 18 = .ok (.ifCond .ne 5, 3) := by decide +kernel
theorem dX0_lowestFalling_21 : decode cX0_lowestFalling 21 = .ok (.iload_n 1, 1) := by decide +kernel
theorem dX0_lowestFalling_22 : decode cX0_lowestFalling 22 = .ok (.ireturn, 1) := by decide +kernel
theorem dX0_lowestFalling_23 : decode cX0_lowestFalling 23 = .ok (.iinc 1 1, 3) := by decide +kernel
theorem dX0_lowestFalling_26 : decode cX0_lowestFalling 26 = .ok (.goto (-24), 3) := by decide +kernel
theorem dX0_lowestFalling_29 : decode cX0_lowestFalling 29 = .ok (.iconst (-1), 1) := by decide +kernel
theorem dX0_lowestFalling_30 : decode cX0_lowestFalling 30 = .ok (.ireturn, 1) := by decide +kernel
theorem dX0_levelStands_0 : decode cX0_levelStands 0 = .ok (.aload_n 0, 1) := by decide +kernel
theorem dX0_levelStands_1 : decode cX0_levelStands 1 = .ok (.getfield 29, 3) := by decide +kernel
theorem dX0_levelStands_4 : decode cX0_levelStands 4 = .ok (.iload_n 1, 1) := by decide +kernel
theorem dX0_levelStands_5 : decode cX0_levelStands 5 = .ok (.invokevirtual 69, 3) := by decide +kernel
theorem dX0_levelStands_8 : decode cX0_levelStands 8 = .ok (.ifCond .eq 5, 3) := by decide +kernel
theorem dX0_levelStands_11 : decode cX0_levelStands 11 = .ok (.iconst 1, 1) := by decide +kernel
theorem dX0_levelStands_12 : decode cX0_levelStands 12 = .ok (.ireturn, 1) := by decide +kernel
theorem dX0_levelStands_13 : decode cX0_levelStands 13 = .ok (.iconst 2, 1) := by decide +kernel
theorem dX0_levelStands_14 : decode cX0_levelStands 14 = .ok (.aload_n 0, 1) := by decide +kernel
theorem dX0_levelStands_15 : decode cX0_levelStands 15 = .ok (.getfield 9, 3) := by decide +kernel
theorem dX0_levelStands_18 : decode cX0_levelStands 18 = .ok (.iload_n 1, 1) := by decide +kernel
theorem dX0_levelStands_19 : decode cX0_levelStands 19 = .ok (.iaload, 1) := by decide +kernel
theorem dX0_levelStands_20 : decode cX0_levelStands 20 = .ok (.imul, 1) := by decide +kernel
theorem dX0_levelStands_21 : decode cX0_levelStands 21 = .ok (.istore_n 2, 1) := by decide +kernel
theorem dX0_levelStands_22 : decode cX0_levelStands 22 = .ok (.aload_n 0, 1) := by decide +kernel
theorem dX0_levelStands_23 : decode cX0_levelStands 23 = .ok (.getfield 29, 3) := by decide +kernel
theorem dX0_levelStands_26 : decode cX0_levelStands 26 = .ok (.aload_n 0, 1) := by decide +kernel
theorem dX0_levelStands_27 : decode cX0_levelStands 27 = .ok (.getfield 25, 3) := by decide +kernel
theorem dX0_levelStands_30 : decode cX0_levelStands 30 = .ok (.iload_n 1, 1) := by decide +kernel
theorem dX0_levelStands_31 : decode cX0_levelStands 31 = .ok (.invokevirtual 72, 3) := by decide +kernel
theorem dX0_levelStands_34 : decode cX0_levelStands 34 = .ok (.iload_n 2, 1) := by decide +kernel
theorem dX0_levelStands_35 : decode cX0_levelStands 35 = .ok (.imul, 1) := by decide +kernel
theorem dX0_levelStands_36 : decode cX0_levelStands 36 = .ok (.aload_n 0, 1) := by decide +kernel
theorem dX0_levelStands_37 : decode cX0_levelStands 37 = .ok (.getfield 15, 3) := by decide +kernel
theorem dX0_levelStands_40 : decode cX0_levelStands 40 = .ok (.iload_n 1, 1) := by decide +kernel
theorem dX0_levelStands_41 : decode cX0_levelStands 41 = .ok (.iaload, 1) := by decide +kernel
theorem dX0_levelStands_42 : decode cX0_levelStands 42 = .ok (.if_icmp .gt 30, 3) := by decide +kernel
theorem dX0_levelStands_45 : decode cX0_levelStands 45 = .ok (.aload_n 0, 1) := by decide +kernel
theorem dX0_levelStands_46 : decode cX0_levelStands 46 = .ok (.getfield 15, 3) := by decide +kernel
theorem dX0_levelStands_49 : decode cX0_levelStands 49 = .ok (.iload_n 1, 1) := by decide +kernel
theorem dX0_levelStands_50 : decode cX0_levelStands 50 = .ok (.iaload, 1) := by decide +kernel
theorem dX0_levelStands_51 : decode cX0_levelStands 51 = .ok (.aload_n 0, 1) := by decide +kernel
theorem dX0_levelStands_52 : decode cX0_levelStands 52 = .ok (.getfield 29, 3) := by decide +kernel
theorem dX0_levelStands_55 : decode cX0_levelStands 55 = .ok (.aload_n 0, 1) := by decide +kernel
theorem dX0_levelStands_56 : decode cX0_levelStands 56 = .ok (.getfield 25, 3) := by decide +kernel
theorem dX0_levelStands_59 : decode cX0_levelStands 59 = .ok (.iload_n 1, 1) := by decide +kernel
theorem dX0_levelStands_60 : decode cX0_levelStands 60 = .ok (.invokevirtual 75, 3) := by decide +kernel
theorem dX0_levelStands_63 : decode cX0_levelStands 63 = .ok (.iload_n 2, 1) := by decide +kernel
theorem dX0_levelStands_64 : decode cX0_levelStands 64 = .ok (.imul, 1) := by decide +kernel
theorem dX0_levelStands_65 : decode cX0_levelStands 65 = .ok (.if_icmp .gt 7, 3) := by decide +kernel
theorem dX0_levelStands_68 : decode cX0_levelStands 68 = .ok (.iconst 1, 1) := by decide +kernel
theorem dX0_levelStands_69 : decode cX0_levelStands 69 = .ok (.goto 4, 3) := by decide +kernel
theorem dX0_levelStands_72 : decode cX0_levelStands 72 = .ok (.iconst 0, 1) := by decide +kernel
theorem dX0_levelStands_73 : decode cX0_levelStands 73 = .ok (.ireturn, 1) := by decide +kernel
theorem dX0_fallsRight_0 : decode cX0_fallsRight 0 = .ok (.aload_n 0, 1) := by decide +kernel
theorem dX0_fallsRight_1 : decode cX0_fallsRight 1 = .ok (.getfield 29, 3) := by decide +kernel
theorem dX0_fallsRight_4 : decode cX0_fallsRight 4 = .ok (.aload_n 0, 1) := by decide +kernel
theorem dX0_fallsRight_5 : decode cX0_fallsRight 5 = .ok (.getfield 25, 3) := by decide +kernel
theorem dX0_fallsRight_8 : decode cX0_fallsRight 8 = .ok (.iload_n 1, 1) := by decide +kernel
theorem dX0_fallsRight_9 : decode cX0_fallsRight 9 = .ok (.invokevirtual 72, 3) := by decide +kernel
theorem dX0_fallsRight_12 : decode cX0_fallsRight 12 = .ok (.istore_n 2, 1) := by decide +kernel
theorem dX0_fallsRight_13 : decode cX0_fallsRight 13 = .ok (.aload_n 0, 1) := by decide +kernel
theorem dX0_fallsRight_14 : decode cX0_fallsRight 14 = .ok (.getfield 29, 3) := by decide +kernel
theorem dX0_fallsRight_17 : decode cX0_fallsRight 17 = .ok (.aload_n 0, 1) := by decide +kernel
theorem dX0_fallsRight_18 : decode cX0_fallsRight 18 = .ok (.getfield 25, 3) := by decide +kernel
theorem dX0_fallsRight_21 : decode cX0_fallsRight 21 = .ok (.iload_n 1, 1) := by decide +kernel
theorem dX0_fallsRight_22 : decode cX0_fallsRight 22 = .ok (.invokevirtual 75, 3) := by decide +kernel
theorem dX0_fallsRight_25 : decode cX0_fallsRight 25 = .ok (.istore_n 3, 1) := by decide +kernel
theorem dX0_fallsRight_26 : decode cX0_fallsRight 26 = .ok (.iload_n 2, 1) := by decide +kernel
theorem dX0_fallsRight_27 : decode cX0_fallsRight 27 = .ok (.iload_n 3, 1) := by decide +kernel
theorem dX0_fallsRight_28 : decode cX0_fallsRight 28 = .ok (.if_icmp .gt 28, 3) := by decide +kernel
theorem dX0_fallsRight_31 : decode cX0_fallsRight 31 = .ok (.aload_n 0, 1) := by decide +kernel
theorem dX0_fallsRight_32 : decode cX0_fallsRight 32 = .ok (.getfield 15, 3) := by decide +kernel
theorem dX0_fallsRight_35 : decode cX0_fallsRight 35 = .ok (.iload_n 1, 1) := by decide +kernel
theorem dX0_fallsRight_36 : decode cX0_fallsRight 36 = .ok (.iaload, 1) := by decide +kernel
theorem dX0_fallsRight_37 : decode cX0_fallsRight 37 = .ok (.iload_n 3, 1) := by decide +kernel
theorem dX0_fallsRight_38 : decode cX0_fallsRight 38 = .ok (.iconst 2, 1) := by decide +kernel
theorem dX0_fallsRight_39 : decode cX0_fallsRight 39 = .ok (.imul, 1) := by decide +kernel
theorem dX0_fallsRight_40 : decode cX0_fallsRight 40 = .ok (.aload_n 0, 1) := by decide +kernel
theorem dX0_fallsRight_41 : decode cX0_fallsRight 41 = .ok (.getfield 9, 3) := by decide +kernel
theorem dX0_fallsRight_44 : decode cX0_fallsRight 44 = .ok (.iload_n 1, 1) := by decide +kernel
theorem dX0_fallsRight_45 : decode cX0_fallsRight 45 = .ok (.iaload, 1) := by decide +kernel
theorem dX0_fallsRight_46 : decode cX0_fallsRight 46 = .ok (.imul, 1) := by decide +kernel
theorem dX0_fallsRight_47 : decode cX0_fallsRight 47 = .ok (.if_icmp .le 7, 3) := by decide +kernel
theorem dX0_fallsRight_50 : decode cX0_fallsRight 50 = .ok (.iconst 1, 1) := by decide +kernel
theorem dX0_fallsRight_51 : decode cX0_fallsRight 51 = .ok (.goto 4, 3) := by decide +kernel
theorem dX0_fallsRight_54 : decode cX0_fallsRight 54 = .ok (.iconst 0, 1) := by decide +kernel
theorem dX0_fallsRight_55 : decode cX0_fallsRight 55 = .ok (.ireturn, 1) := by decide +kernel
theorem dX0_fallsRight_56 : decode cX0_fallsRight 56 = .ok (.iload_n 1, 1) := by decide +kernel
theorem dX0_fallsRight_57 : decode cX0_fallsRight 57 = .ok (.ifCond .ne 7, 3) := by decide +kernel
theorem dX0_fallsRight_60 : decode cX0_fallsRight 60 = .ok (.iconst 0, 1) := by decide +kernel
theorem dX0_fallsRight_61 : decode cX0_fallsRight 61 = .ok (.goto 17, 3) := by decide +kernel
theorem dX0_fallsRight_64 : decode cX0_fallsRight 64 = .ok (.aload_n 0, 1) := by decide +kernel
theorem dX0_fallsRight_65 : decode cX0_fallsRight 65 = .ok (.getfield 29, 3) := by decide +kernel
theorem dX0_fallsRight_68 : decode cX0_fallsRight 68 = .ok (.aload_n 0, 1) := by decide +kernel
theorem dX0_fallsRight_69 : decode cX0_fallsRight 69 = .ok (.getfield 25, 3) := by decide +kernel
theorem dX0_fallsRight_72 : decode cX0_fallsRight 72 = .ok (.iload_n 1, 1) := by decide +kernel
theorem dX0_fallsRight_73 : decode cX0_fallsRight 73 = .ok (.iconst 1, 1) := by decide +kernel
theorem dX0_fallsRight_74 : decode cX0_fallsRight 74 = .ok (.isub, 1) := by decide +kernel
theorem dX0_fallsRight_75 : decode cX0_fallsRight 75 = .ok (.invokevirtual 78, 3) := by decide +kernel
theorem dX0_fallsRight_78 : decode cX0_fallsRight 78 = .ok (.istore 4, 2) := by decide +kernel
theorem dX0_fallsRight_80 : decode cX0_fallsRight 80 = .ok (.aload_n 0, 1) := by decide +kernel
theorem dX0_fallsRight_81 : decode cX0_fallsRight 81 = .ok (.getfield 29, 3) := by decide +kernel
theorem dX0_fallsRight_84 : decode cX0_fallsRight 84 = .ok (.getfield 81, 3) := by decide +kernel
theorem dX0_fallsRight_87 : decode cX0_fallsRight 87 = .ok (.iload_n 1, 1) := by decide +kernel
theorem dX0_fallsRight_88 : decode cX0_fallsRight 88 = .ok (.iaload, 1) := by decide +kernel
theorem dX0_fallsRight_89 : decode cX0_fallsRight 89 = .ok (.iload 4, 2) := by decide +kernel
theorem dX0_fallsRight_91 : decode cX0_fallsRight 91 = .ok (.if_icmp .le 7, 3) := by decide +kernel
theorem dX0_fallsRight_94 : decode cX0_fallsRight 94 = .ok (.iconst 1, 1) := by decide +kernel
theorem dX0_fallsRight_95 : decode cX0_fallsRight 95 = .ok (.goto 4, 3) := by decide +kernel
theorem dX0_fallsRight_98 : decode cX0_fallsRight 98 = .ok (.iconst 0, 1) := by decide +kernel
theorem dX0_fallsRight_99 : decode cX0_fallsRight 99 = .ok (.ireturn, 1) := by decide +kernel
theorem dX0_bearing_0 : decode cX0_bearing 0 = .ok (.aload_n 0, 1) := by decide +kernel
theorem dX0_bearing_1 : decode cX0_bearing 1 = .ok (.iconst 0, 1) := by decide +kernel
theorem dX0_bearing_2 : decode cX0_bearing 2 = .ok (.putfield 18, 3) := by decide +kernel
theorem dX0_bearing_5 : decode cX0_bearing 5 = .ok (.aload_n 0, 1) := by decide +kernel
theorem dX0_bearing_6 : decode cX0_bearing 6 = .ok (.sipush 9999, 3) := by decide +kernel
theorem dX0_bearing_9 : decode cX0_bearing 9 = .ok (.putfield 22, 3) := by decide +kernel
theorem dX0_bearing_12 : decode cX0_bearing 12 = .ok (.aload_n 0, 1) := by decide +kernel
theorem dX0_bearing_13 : decode cX0_bearing 13 = .ok (.getfield 29, 3) := by decide +kernel
theorem dX0_bearing_16 : decode cX0_bearing 16 = .ok (.getfield 81, 3) := by decide +kernel
theorem dX0_bearing_19 : decode cX0_bearing 19 = .ok (.iload_n 1, 1) := by decide +kernel
theorem dX0_bearing_20 : decode cX0_bearing 20 = .ok (.iaload, 1) := by decide +kernel
theorem dX0_bearing_21 : decode cX0_bearing 21 = .ok (.iload_n 2, 1) := by decide +kernel
theorem dX0_bearing_22 : decode cX0_bearing 22 = .ok (.iadd, 1) := by decide +kernel
theorem dX0_bearing_23 : decode cX0_bearing 23 = .ok (.istore_n 3, 1) := by decide +kernel
theorem dX0_bearing_24 : decode cX0_bearing 24 = .ok (.iconst 0, 1) := by decide +kernel
theorem dX0_bearing_25 : decode cX0_bearing 25 = .ok (.istore 4, 2) := by decide +kernel
theorem dX0_bearing_27 : decode cX0_bearing 27 = .ok (.iload 4, 2) := by decide +kernel
theorem dX0_bearing_29 : decode cX0_bearing 29 = .ok (.aload_n 0, 1) := by decide +kernel
theorem dX0_bearing_30 : decode cX0_bearing 30 = .ok (.getfield 29, 3) := by decide +kernel
theorem dX0_bearing_33 : decode cX0_bearing 33 = .ok (.getfield 33, 3) := by decide +kernel
theorem dX0_bearing_36 : decode cX0_bearing 36 = .ok (.if_icmp .ge 142, 3) := by decide +kernel
theorem dX0_bearing_39 : decode cX0_bearing 39 = .ok (.aload_n 0, 1) := by decide +kernel
theorem dX0_bearing_40 : decode cX0_bearing 40 = .ok (.getfield 29, 3) := by decide +kernel
theorem dX0_bearing_43 : decode cX0_bearing 43 = .ok (.iload 4, 2) := by decide +kernel
theorem dX0_bearing_45 : decode cX0_bearing 45 = .ok (.invokevirtual 69, 3) := by decide +kernel
theorem dX0_bearing_48 : decode cX0_bearing 48 = .ok (.ifCond .ne 124, 3) := by decide +kernel
theorem dX0_bearing_51 : decode cX0_bearing 51 = .ok (.aload_n 0, 1) := by decide +kernel
theorem dX0_bearing_52 : decode cX0_bearing 52 = .ok (.getfield 29, 3) := by decide +kernel
theorem dX0_bearing_55 : decode cX0_bearing 55 = .ok (.aload_n 0, 1) := by decide +kernel
theorem dX0_bearing_56 : decode cX0_bearing 56 = .ok (.getfield 25, 3) := by decide +kernel
theorem dX0_bearing_59 : decode cX0_bearing 59 = .ok (.iload 4, 2) := by decide +kernel
theorem dX0_bearing_61 : decode cX0_bearing 61 = .ok (.invokevirtual 72, 3) := by decide +kernel
theorem dX0_bearing_64 : decode cX0_bearing 64 = .ok (.istore 5, 2) := by decide +kernel
theorem dX0_bearing_66 : decode cX0_bearing 66 = .ok (.aload_n 0, 1) := by decide +kernel
theorem dX0_bearing_67 : decode cX0_bearing 67 = .ok (.getfield 29, 3) := by decide +kernel
theorem dX0_bearing_70 : decode cX0_bearing 70 = .ok (.aload_n 0, 1) := by decide +kernel
theorem dX0_bearing_71 : decode cX0_bearing 71 = .ok (.getfield 25, 3) := by decide +kernel
theorem dX0_bearing_74 : decode cX0_bearing 74 = .ok (.iload 4, 2) := by decide +kernel
theorem dX0_bearing_76 : decode cX0_bearing 76 = .ok (.invokevirtual 75, 3) := by decide +kernel
theorem dX0_bearing_79 : decode cX0_bearing 79 = .ok (.istore 6, 2) := by decide +kernel
theorem dX0_bearing_81 : decode cX0_bearing 81 = .ok (.iload 4, 2) := by decide +kernel
theorem dX0_bearing_83 : decode cX0_bearing 83 = .ok (.iload_n 1, 1) := by decide +kernel
theorem dX0_bearing_84 : decode cX0_bearing 84 = .ok (.if_icmp .gt 7, 3) := by decide +kernel
theorem dX0_bearing_87 : decode cX0_bearing 87 = .ok (.iconst 1, 1) := by decide +kernel
theorem dX0_bearing_88 : decode cX0_bearing 88 = .ok (.goto 4, 3) := by decide +kernel
theorem dX0_bearing_91 : decode cX0_bearing 91 = .ok (.iconst 0, 1) := by decide +kernel
theorem dX0_bearing_92 : decode cX0_bearing 92 = .ok (.istore 7, 2) := by decide +kernel
theorem dX0_bearing_94 : decode cX0_bearing 94 = .ok (.aload_n 0, 1) := by decide +kernel
theorem dX0_bearing_95 : decode cX0_bearing 95 = .ok (.iload 7, 2) := by decide +kernel
theorem dX0_bearing_97 : decode cX0_bearing 97 = .ok (.ifCond .eq 12, 3) := by decide +kernel
theorem dX0_bearing_100 : decode cX0_bearing 100 = .ok (.iconst 2, 1) := by decide +kernel
theorem dX0_bearing_101 : decode cX0_bearing 101 = .ok (.iload 5, 2) := by decide +kernel
theorem dX0_bearing_103 : decode cX0_bearing 103 = .ok (.iload_n 3, 1) := by decide +kernel
theorem dX0_bearing_104 : decode cX0_bearing 104 = .ok (.isub, 1) := by decide +kernel
theorem dX0_bearing_105 : decode cX0_bearing 105 = .ok (.imul, 1) := by decide +kernel
theorem dX0_bearing_106 : decode cX0_bearing 106 = .ok (.goto 4, 3) := by decide +kernel
theorem dX0_bearing_109 : decode cX0_bearing 109 = .ok (.iconst 0, 1) := by decide +kernel
theorem dX0_bearing_110 : decode cX0_bearing 110 = .ok (.aload_n 0, 1) := by decide +kernel
theorem dX0_bearing_111 : decode cX0_bearing 111 = .ok (.getfield 15, 3) := by decide +kernel
theorem dX0_bearing_114 : decode cX0_bearing 114 = .ok (.iload 4, 2) := by decide +kernel
theorem dX0_bearing_116 : decode cX0_bearing 116 = .ok (.iaload, 1) := by decide +kernel
theorem dX0_bearing_117 : decode cX0_bearing 117 = .ok (.iconst 2, 1) := by decide +kernel
theorem dX0_bearing_118 : decode cX0_bearing 118 = .ok (.iload 5, 2) := by decide +kernel
theorem dX0_bearing_120 : decode cX0_bearing 120 = .ok (.imul, 1) := by decide +kernel
theorem dX0_bearing_121 : decode cX0_bearing 121 = .ok (.aload_n 0, 1) := by decide +kernel
theorem dX0_bearing_122 : decode cX0_bearing 122 = .ok (.getfield 9, 3) := by decide +kernel
theorem dX0_bearing_125 : decode cX0_bearing 125 = .ok (.iload 4, 2) := by decide +kernel
theorem dX0_bearing_127 : decode cX0_bearing 127 = .ok (.iaload, 1) := by decide +kernel
theorem dX0_bearing_128 : decode cX0_bearing 128 = .ok (.imul, 1) := by decide +kernel
theorem dX0_bearing_129 : decode cX0_bearing 129 = .ok (.isub, 1) := by decide +kernel
theorem dX0_bearing_130 : decode cX0_bearing 130 = .ok (.invokevirtual 84, 3) := by decide +kernel
theorem dX0_bearing_133 : decode cX0_bearing 133 = .ok (.aload_n 0, 1) := by decide +kernel
theorem dX0_bearing_134 : decode cX0_bearing 134 = .ok (.iload 7, 2) := by decide +kernel
theorem dX0_bearing_136 : decode cX0_bearing 136 = .ok (.ifCond .eq 12, 3) := by decide +kernel
theorem dX0_bearing_139 : decode cX0_bearing 139 = .ok (.iconst 2, 1) := by decide +kernel
theorem dX0_bearing_140 : decode cX0_bearing 140 = .ok (.iload_n 3, 1) := by decide +kernel
theorem dX0_bearing_141 : decode cX0_bearing 141 = .ok (.iload 6, 2) := by decide +kernel
theorem dX0_bearing_143 : decode cX0_bearing 143 = .ok (.isub, 1) := by decide +kernel
theorem dX0_bearing_144 : decode cX0_bearing 144 = .ok (.imul, 1) := by decide +kernel
theorem dX0_bearing_145 : decode cX0_bearing 145 = .ok (.goto 4, 3) := by decide +kernel
theorem dX0_bearing_148 : decode cX0_bearing 148 = .ok (.iconst 0, 1) := by decide +kernel
theorem dX0_bearing_149 : decode cX0_bearing 149 = .ok (.iconst 2, 1) := by decide +kernel
theorem dX0_bearing_150 : decode cX0_bearing 150 = .ok (.iload 6, 2) := by decide +kernel
theorem dX0_bearing_152 : decode cX0_bearing 152 = .ok (.imul, 1) := by decide +kernel
theorem dX0_bearing_153 : decode cX0_bearing 153 = .ok (.aload_n 0, 1) := by decide +kernel
theorem dX0_bearing_154 : decode cX0_bearing 154 = .ok (.getfield 9, 3) := by decide +kernel
theorem dX0_bearing_157 : decode cX0_bearing 157 = .ok (.iload 4, 2) := by decide +kernel
theorem dX0_bearing_159 : decode cX0_bearing 159 = .ok (.iaload, 1) := by decide +kernel
theorem dX0_bearing_160 : decode cX0_bearing 160 = .ok (.imul, 1) := by decide +kernel
theorem dX0_bearing_161 : decode cX0_bearing 161 = .ok (.aload_n 0, 1) := by decide +kernel
theorem dX0_bearing_162 : decode cX0_bearing 162 = .ok (.getfield 15, 3) := by decide +kernel
theorem dX0_bearing_165 : decode cX0_bearing 165 = .ok (.iload 4, 2) := by decide +kernel
theorem dX0_bearing_167 : decode cX0_bearing 167 = .ok (.iaload, 1) := by decide +kernel
theorem dX0_bearing_168 : decode cX0_bearing 168 = .ok (.isub, 1) := by decide +kernel
theorem dX0_bearing_169 : decode cX0_bearing 169 = .ok (.invokevirtual 84, 3) := by decide +kernel
theorem dX0_bearing_172 : decode cX0_bearing 172 = .ok (.iinc 4 1, 3) := by decide +kernel
theorem dX0_bearing_175 : decode cX0_bearing 175 = .ok (.goto (-148), 3) := by decide +kernel
theorem dX0_bearing_178 : decode cX0_bearing 178 = .ok (.aload_n 0, 1) := by decide +kernel
theorem dX0_bearing_179 : decode cX0_bearing 179 = .ok (.getfield 18, 3) := by decide +kernel
theorem dX0_bearing_182 : decode cX0_bearing 182 = .ok (.aload_n 0, 1) := by decide +kernel
theorem dX0_bearing_183 : decode cX0_bearing 183 = .ok (.getfield 22, 3) := by decide +kernel
theorem dX0_bearing_186 : decode cX0_bearing 186 = .ok (.if_icmp .gt 7, 3) := by decide +kernel
theorem dX0_bearing_189 : decode cX0_bearing 189 = .ok (.iconst 1, 1) := by decide +kernel
theorem dX0_bearing_190 : decode cX0_bearing 190 = .ok (.goto 4, 3) := by decide +kernel
theorem dX0_bearing_193 : decode cX0_bearing 193 = .ok (.iconst 0, 1) := by decide +kernel
theorem dX0_bearing_194 : decode cX0_bearing 194 = .ok (.ireturn, 1) := by decide +kernel
theorem dX0_narrow_0 : decode cX0_narrow 0 = .ok (.iload_n 1, 1) := by decide +kernel
theorem dX0_narrow_1 : decode cX0_narrow 1 = .ok (.ifCond .le 22, 3) := by decide +kernel
theorem dX0_narrow_4 : decode cX0_narrow 4 = .ok (.aload_n 0, 1) := by decide +kernel
theorem dX0_narrow_5 : decode cX0_narrow 5 = .ok (.aload_n 0, 1) := by decide +kernel
theorem dX0_narrow_6 : decode cX0_narrow 6 = .ok (.getfield 22, 3) := by decide +kernel
theorem dX0_narrow_9 : decode cX0_narrow 9 = .ok (.iload_n 2, 1) := by decide +kernel
theorem dX0_narrow_10 : decode cX0_narrow 10 = .ok (.iload_n 1, 1) := by decide +kernel
theorem dX0_narrow_11 : decode cX0_narrow 11 = .ok (.invokestatic 88, 3) := by decide +kernel
theorem dX0_narrow_14 : decode cX0_narrow 14 = .ok (.invokestatic 94, 3) := by decide +kernel
theorem dX0_narrow_17 : decode cX0_narrow 17 = .ok (.putfield 22, 3) := by decide +kernel
theorem dX0_narrow_20 : decode cX0_narrow 20 = .ok (.goto 37, 3) := by decide +kernel
theorem dX0_narrow_23 : decode cX0_narrow 23 = .ok (.iload_n 1, 1) := by decide +kernel
theorem dX0_narrow_24 : decode cX0_narrow 24 = .ok (.ifCond .ge 24, 3) := by decide +kernel
theorem dX0_narrow_27 : decode cX0_narrow 27 = .ok (.aload_n 0, 1) := by decide +kernel
theorem dX0_narrow_28 : decode cX0_narrow 28 = .ok (.aload_n 0, 1) := by decide +kernel
theorem dX0_narrow_29 : decode cX0_narrow 29 = .ok (.getfield 18, 3) := by decide +kernel
theorem dX0_narrow_32 : decode cX0_narrow 32 = .ok (.iload_n 2, 1) := by decide +kernel
theorem dX0_narrow_33 : decode cX0_narrow 33 = .ok (.iload_n 1, 1) := by decide +kernel
theorem dX0_narrow_34 : decode cX0_narrow 34 = .ok (.ineg, 1) := by decide +kernel
theorem dX0_narrow_35 : decode cX0_narrow 35 = .ok (.invokestatic 88, 3) := by decide +kernel
theorem dX0_narrow_38 : decode cX0_narrow 38 = .ok (.ineg, 1) := by decide +kernel
theorem dX0_narrow_39 : decode cX0_narrow 39 = .ok (.invokestatic 97, 3) := by decide +kernel
theorem dX0_narrow_42 : decode cX0_narrow 42 = .ok (.putfield 18, 3) := by decide +kernel
theorem dX0_narrow_45 : decode cX0_narrow 45 = .ok (.goto 12, 3) := by decide +kernel
theorem dX0_narrow_48 : decode cX0_narrow 48 = .ok (.iload_n 2, 1) := by decide +kernel
theorem dX0_narrow_49 : decode cX0_narrow 49 = .ok (.ifCond .ge 8, 3) := by decide +kernel
theorem dX0_narrow_52 : decode cX0_narrow 52 = .ok (.aload_n 0, 1) := by decide +kernel
theorem dX0_narrow_53 : decode cX0_narrow 53 = .ok (.iconst (-1), 1) := by decide +kernel
theorem dX0_narrow_54 : decode cX0_narrow 54 = .ok (.putfield 22, 3) := by decide +kernel
theorem dX0_narrow_57 : decode cX0_narrow 57 = .ok (.return_, 1) := by decide +kernel
theorem dX1_init_0 : decode cX1_init 0 = .ok (.aload_n 0, 1) := by decide +kernel
theorem dX1_init_1 : decode cX1_init 1 = .ok (.invokespecial 3, 3) := by decide +kernel
theorem dX1_init_4 : decode cX1_init 4 = .ok (.aload_n 0, 1) := by decide +kernel
theorem dX1_init_5 : decode cX1_init 5 = .ok (.iconst 0, 1) := by decide +kernel
theorem dX1_init_6 : decode cX1_init 6 = .ok (.putfield 9, 3) := by decide +kernel
theorem dX1_init_9 : decode cX1_init 9 = .ok (.aload_n 0, 1) := by decide +kernel
theorem dX1_init_10 : decode cX1_init 10 = .ok (.bipush 6, 2) := by decide +kernel
theorem dX1_init_12 : decode cX1_init 12 = .ok (.anewarray 15, 3) := by decide +kernel
theorem dX1_init_15 : decode cX1_init 15 = .ok (.putfield 17, 3) := by decide +kernel
theorem dX1_init_18 : decode cX1_init 18 = .ok (.aload_n 0, 1) := by decide +kernel
theorem dX1_init_19 : decode cX1_init 19 = .ok (.bipush 6, 2) := by decide +kernel
theorem dX1_init_21 : decode cX1_init 21 = .ok (.newarray .int, 2) := by decide +kernel
theorem dX1_init_23 : decode cX1_init 23 = .ok (.putfield 21, 3) := by decide +kernel
theorem dX1_init_26 : decode cX1_init 26 = .ok (.aload_n 0, 1) := by decide +kernel
theorem dX1_init_27 : decode cX1_init 27 = .ok (.bipush 6, 2) := by decide +kernel
theorem dX1_init_29 : decode cX1_init 29 = .ok (.newarray .int, 2) := by decide +kernel
theorem dX1_init_31 : decode cX1_init 31 = .ok (.putfield 25, 3) := by decide +kernel
theorem dX1_init_34 : decode cX1_init 34 = .ok (.aload_n 0, 1) := by decide +kernel
theorem dX1_init_35 : decode cX1_init 35 = .ok (.iconst 0, 1) := by decide +kernel
theorem dX1_init_36 : decode cX1_init 36 = .ok (.putfield 28, 3) := by decide +kernel
theorem dX1_init_39 : decode cX1_init 39 = .ok (.aload_n 0, 1) := by decide +kernel
theorem dX1_init_40 : decode cX1_init 40 = .ok (.iconst 0, 1) := by decide +kernel
theorem dX1_init_41 : decode cX1_init 41 = .ok (.putfield 31, 3) := by decide +kernel
theorem dX1_init_44 : decode cX1_init 44 = .ok (.aload_n 0, 1) := by decide +kernel
theorem dX1_init_45 : decode cX1_init 45 = .ok (.bipush 6, 2) := by decide +kernel
theorem dX1_init_47 : decode cX1_init 47 = .ok (.newarray .int, 2) := by decide +kernel
theorem dX1_init_49 : decode cX1_init 49 = .ok (.putfield 34, 3) := by decide +kernel
theorem dX1_init_52 : decode cX1_init 52 = .ok (.aload_n 0, 1) := by decide +kernel
theorem dX1_init_53 : decode cX1_init 53 = .ok (.bipush 6, 2) := by decide +kernel
theorem dX1_init_55 : decode cX1_init 55 = .ok (.newarray .int, 2) := by decide +kernel
theorem dX1_init_57 : decode cX1_init 57 = .ok (.putfield 37, 3) := by decide +kernel
theorem dX1_init_60 : decode cX1_init 60 = .ok (.iconst 0, 1) := by decide +kernel
theorem dX1_init_61 : decode cX1_init 61 = .ok (.istore_n 1, 1) := by decide +kernel
theorem dX1_init_62 : decode cX1_init 62 = .ok (.iload_n 1, 1) := by decide +kernel
theorem dX1_init_63 : decode cX1_init 63 = .ok (.bipush 6, 2) := by decide +kernel
theorem dX1_init_65 : decode cX1_init 65 = .ok (.if_icmp .ge 22, 3) := by decide +kernel
theorem dX1_init_68 : decode cX1_init 68 = .ok (.aload_n 0, 1) := by decide +kernel
theorem dX1_init_69 : decode cX1_init 69 = .ok (.getfield 17, 3) := by decide +kernel
theorem dX1_init_72 : decode cX1_init 72 = .ok (.iload_n 1, 1) := by decide +kernel
theorem dX1_init_73 : decode cX1_init 73 = .ok (.new 15, 3) := by decide +kernel
theorem dX1_init_76 : decode cX1_init 76 = .ok (.dup, 1) := by decide +kernel
theorem dX1_init_77 : decode cX1_init 77 = .ok (.invokespecial 40, 3) := by decide +kernel
theorem dX1_init_80 : decode cX1_init 80 = .ok (.aastore, 1) := by decide +kernel
theorem dX1_init_81 : decode cX1_init 81 = .ok (.iinc 1 1, 3) := by decide +kernel
theorem dX1_init_84 : decode cX1_init 84 = .ok (.goto (-22), 3) := by decide +kernel
theorem dX1_init_87 : decode cX1_init 87 = .ok (.return_, 1) := by decide +kernel
theorem dX1_note_0 : decode cX1_note 0 = .ok (.aload_n 0, 1) := by decide +kernel
theorem dX1_note_1 : decode cX1_note 1 = .ok (.getfield 9, 3) := by decide +kernel
theorem dX1_note_4 : decode cX1_note 4 = .ok (.bipush 6, 2) := by decide +kernel
theorem dX1_note_6 : decode cX1_note 6 = .ok (.if_icmp .lt 5, 3) := by decide +kernel
theorem dX1_note_9 : decode cX1_note 9 = .ok (.iconst (-1), 1) := by decide +kernel
theorem dX1_note_10 : decode cX1_note 10 = .ok (.ireturn, 1) := by decide +kernel
theorem dX1_note_11 : decode cX1_note 11 = .ok (.aload_n 0, 1) := by decide +kernel
theorem dX1_note_12 : decode cX1_note 12 = .ok (.getfield 17, 3) := by decide +kernel
theorem dX1_note_15 : decode cX1_note 15 = .ok (.aload_n 0, 1) := by decide +kernel
theorem dX1_note_16 : decode cX1_note 16 = .ok (.getfield 9, 3) := by decide +kernel
theorem dX1_note_19 : decode cX1_note 19 = .ok (.aaload, 1) := by decide +kernel
theorem dX1_note_20 : decode cX1_note 20 = .ok (.aload_n 1, 1) := by decide +kernel
theorem dX1_note_21 : decode cX1_note 21 = .ok (.aload_n 2, 1) := by decide +kernel
theorem dX1_note_22 : decode cX1_note 22 = .ok (.iload_n 3, 1) := by decide +kernel
theorem dX1_note_23 : decode cX1_note 23 = .ok (.invokevirtual 41, 3) := by decide +kernel
theorem dX1_note_26 : decode cX1_note 26 = .ok (.aload_n 0, 1) := by decide +kernel
theorem dX1_note_27 : decode cX1_note 27 = .ok (.dup, 1) := by decide +kernel
theorem dX1_note_28 : decode cX1_note 28 = .ok (.getfield 9, 3) := by decide +kernel
theorem dX1_note_31 : decode cX1_note 31 = .ok (.iconst 1, 1) := by decide +kernel
theorem dX1_note_32 : decode cX1_note 32 = .ok (.iadd, 1) := by decide +kernel
theorem dX1_note_33 : decode cX1_note 33 = .ok (.putfield 9, 3) := by decide +kernel
theorem dX1_note_36 : decode cX1_note 36 = .ok (.aload_n 0, 1) := by decide +kernel
theorem dX1_note_37 : decode cX1_note 37 = .ok (.getfield 9, 3) := by decide +kernel
theorem dX1_note_40 : decode cX1_note 40 = .ok (.iconst 1, 1) := by decide +kernel
theorem dX1_note_41 : decode cX1_note 41 = .ok (.isub, 1) := by decide +kernel
theorem dX1_note_42 : decode cX1_note 42 = .ok (.ireturn, 1) := by decide +kernel
theorem dX1_search_0 : decode cX1_search 0 = .ok (.aload_n 0, 1) := by decide +kernel
theorem dX1_search_1 : decode cX1_search 1 = .ok (.iload_n 1, 1) := by decide +kernel
theorem dX1_search_2 : decode cX1_search 2 = .ok (.iload_n 2, 1) := by decide +kernel
theorem dX1_search_3 : decode cX1_search 3 = .ok (.iload_n 3, 1) := by decide +kernel
theorem dX1_search_4 : decode cX1_search 4 = .ok (.invokevirtual 45, 3) := by decide +kernel
theorem dX1_search_7 : decode cX1_search 7 = .ok (.istore 4, 2) := by decide +kernel
theorem dX1_search_9 : decode cX1_search 9 = .ok (.iconst 1, 1) := by decide +kernel
theorem dX1_search_10 : decode cX1_search 10 = .ok (.istore 5, 2) := by decide +kernel
theorem dX1_search_12 : decode cX1_search 12 = .ok (.iconst 0, 1) := by decide +kernel
theorem dX1_search_13 : decode cX1_search 13 = .ok (.istore 6, 2) := by decide +kernel
theorem dX1_search_15 : decode cX1_search 15 = .ok (.iload 6, 2) := by decide +kernel
theorem dX1_search_17 : decode cX1_search 17 = .ok (.aload_n 0, 1) := by decide +kernel
theorem dX1_search_18 : decode cX1_search 18 = .ok (.getfield 28, 3) := by decide +kernel
theorem dX1_search_21 : decode cX1_search 21 = .ok (.if_icmp .ge 15, 3) := by decide +kernel
theorem dX1_search_24 : decode cX1_search 24 = .ok (.iload 5, 2) := by decide +kernel
theorem dX1_search_26 : decode cX1_search 26 = .ok (.iload_n 2, 1) := by decide +kernel
theorem dX1_search_27 : decode cX1_search 27 = .ok (.imul, 1) := by decide +kernel
theorem dX1_search_28 : decode cX1_search 28 = .ok (.istore 5, 2) := by decide +kernel
theorem dX1_search_30 : decode cX1_search 30 = .ok (.iinc 6 1, 3) := by decide +kernel
theorem dX1_search_33 : decode cX1_search 33 = .ok (.goto (-18), 3) := by decide +kernel
theorem dX1_search_36 : decode cX1_search 36 = .ok (.aload_n 0, 1) := by decide +kernel
theorem dX1_search_37 : decode cX1_search 37 = .ok (.iconst 0, 1) := by decide +kernel
theorem dX1_search_38 : decode cX1_search 38 = .ok (.putfield 31, 3) := by decide +kernel
theorem dX1_search_41 : decode cX1_search 41 = .ok (.iconst 0, 1) := by decide +kernel
theorem dX1_search_42 : decode cX1_search 42 = .ok (.istore 6, 2) := by decide +kernel
theorem dX1_search_44 : decode cX1_search 44 = .ok (.iload 6, 2) := by decide +kernel
theorem dX1_search_46 : decode cX1_search 46 = .ok (.iload 5, 2) := by decide +kernel
theorem dX1_search_48 : decode cX1_search 48 = .ok (.if_icmp .ge 38, 3) := by decide +kernel
theorem dX1_search_51 : decode cX1_search 51 = .ok (.aload_n 0, 1) := by decide +kernel
theorem dX1_search_52 : decode cX1_search 52 = .ok (.iload 6, 2) := by decide +kernel
theorem dX1_search_54 : decode cX1_search 54 = .ok (.iload_n 2, 1) := by decide +kernel
theorem dX1_search_55 : decode cX1_search 55 = .ok (.invokevirtual 49, 3) := by decide +kernel
theorem dX1_search_58 : decode cX1_search 58 = .ok (.aload_n 0, 1) := by decide +kernel
theorem dX1_search_59 : decode cX1_search 59 = .ok (.iload_n 3, 1) := by decide +kernel
theorem dX1_search_60 : decode cX1_search 60 = .ok (.invokevirtual 53, 3) := by decide +kernel
theorem dX1_search_63 : decode cX1_search 63 = .ok (.ifCond .eq 17, 3) := by decide +kernel
theorem dX1_search_66 : decode cX1_search 66 = .ok (.aload_n 0, 1) := by decide +kernel
theorem dX1_search_67 : decode cX1_search 67 = .ok (.dup, 1) := by decide +kernel
theorem dX1_search_68 : decode cX1_search 68 = .ok (.getfield 31, 3) := by decide +kernel
theorem dX1_search_71 : decode cX1_search 71 = .ok (.iconst 1, 1) := by decide +kernel
theorem dX1_search_72 : decode cX1_search 72 = .ok (.iadd, 1) := by decide +kernel
theorem dX1_search_73 : decode cX1_search 73 = .ok (.putfield 31, 3) := by decide +kernel
theorem dX1_search_76 : decode cX1_search 76 = .ok (.aload_n 0, 1) := by decide +kernel
theorem dX1_search_77 : decode cX1_search 77 = .ok (.invokevirtual 57, 3) := by decide +kernel
theorem dX1_search_80 : decode cX1_search 80 = .ok (.iinc 6 1, 3) := by decide +kernel
theorem dX1_search_83 : decode cX1_search 83 = .ok (.goto (-39), 3) := by decide +kernel
theorem dX1_search_86 : decode cX1_search 86 = .ok (.aload_n 0, 1) := by decide +kernel
theorem dX1_search_87 : decode cX1_search 87 = .ok (.dup, 1) := by decide +kernel
theorem dX1_search_88 : decode cX1_search 88 = .ok (.getfield 31, 3) := by decide +kernel
theorem dX1_search_91 : decode cX1_search 91 = .ok (.iload 4, 2) := by decide +kernel
theorem dX1_search_93 : decode cX1_search 93 = .ok (.imul, 1) := by decide +kernel
theorem dX1_search_94 : decode cX1_search 94 = .ok (.putfield 31, 3) := by decide +kernel
theorem dX1_search_97 : decode cX1_search 97 = .ok (.return_, 1) := by decide +kernel
theorem dX1_prepare_0 : decode cX1_prepare 0 = .ok (.iconst 1, 1) := by decide +kernel
theorem dX1_prepare_1 : decode cX1_prepare 1 = .ok (.istore 4, 2) := by decide +kernel
theorem dX1_prepare_3 : decode cX1_prepare 3 = .ok (.aload_n 0, 1) := by decide +kernel
theorem dX1_prepare_4 : decode cX1_prepare 4 = .ok (.iconst 0, 1) := by decide +kernel
theorem dX1_prepare_5 : decode cX1_prepare 5 = .ok (.putfield 28, 3) := by decide +kernel
theorem dX1_prepare_8 : decode cX1_prepare 8 = .ok (.iconst 0, 1) := by decide +kernel
theorem dX1_prepare_9 : decode cX1_prepare 9 = .ok (.istore 5, 2) := by decide +kernel
theorem dX1_prepare_11 : decode cX1_prepare 11 = .ok (.iload 5, 2) := by decide +kernel
theorem dX1_prepare_13 : decode cX1_prepare 13 = .ok (.iload_n 1, 1) := by decide +kernel
theorem dX1_prepare_14 : decode cX1_prepare 14 = .ok (.if_icmp .ge 88, 3) := by decide +kernel
theorem dX1_prepare_17 : decode cX1_prepare 17 = .ok (.iload 5, 2) := by decide +kernel
theorem dX1_prepare_19 : decode cX1_prepare 19 = .ok (.bipush 6, 2) := by decide +kernel
theorem dX1_prepare_21 : decode cX1_prepare 21 = .ok (.if_icmp .ge 81, 3) := by decide +kernel
theorem dX1_prepare_24 : decode cX1_prepare 24 = .ok (.aload_n 0, 1) := by decide +kernel
theorem dX1_prepare_25 : decode cX1_prepare 25 = .ok (.iload 5, 2) := by decide +kernel
theorem dX1_prepare_27 : decode cX1_prepare 27 = .ok (.iload_n 3, 1) := by decide +kernel
theorem dX1_prepare_28 : decode cX1_prepare 28 = .ok (.invokevirtual 60, 3) := by decide +kernel
theorem dX1_prepare_31 : decode cX1_prepare 31 = .ok (.ifCond .eq 43, 3) := by decide +kernel
theorem dX1_prepare_34 : decode cX1_prepare 34 = .ok (.aload_n 0, 1) := by decide +kernel
theorem dX1_prepare_35 : decode cX1_prepare 35 = .ok (.getfield 25, 3) := by decide +kernel
theorem dX1_prepare_38 : decode cX1_prepare 38 = .ok (.aload_n 0, 1) := by decide +kernel
theorem dX1_prepare_39 : decode cX1_prepare 39 = .ok (.getfield 28, 3) := by decide +kernel
theorem dX1_prepare_42 : decode cX1_prepare 42 = .ok (.iload 5, 2) := by decide +kernel
theorem dX1_prepare_44 : decode cX1_prepare 44 = .ok (.iastore, 1) := by decide +kernel
theorem dX1_prepare_45 : decode cX1_prepare 45 = .ok (.aload_n 0, 1) := by decide +kernel
theorem dX1_prepare_46 : decode cX1_prepare 46 = .ok (.dup, 1) := by decide +kernel
theorem dX1_prepare_47 : decode cX1_prepare 47 = .ok (.getfield 28, 3) := by decide +kernel
theorem dX1_prepare_50 : decode cX1_prepare 50 = .ok (.iconst 1, 1) := by decide +kernel
theorem dX1_prepare_51 : decode cX1_prepare 51 = .ok (.iadd, 1) := by decide +kernel
theorem dX1_prepare_52 : decode cX1_prepare 52 = .ok (.putfield 28, 3) := by decide +kernel
theorem dX1_prepare_55 : decode cX1_prepare 55 = .ok (.aload_n 0, 1) := by decide +kernel
theorem dX1_prepare_56 : decode cX1_prepare 56 = .ok (.getfield 34, 3) := by decide +kernel
theorem dX1_prepare_59 : decode cX1_prepare 59 = .ok (.iload 5, 2) := by decide +kernel
theorem dX1_prepare_61 : decode cX1_prepare 61 = .ok (.iload_n 2, 1) := by decide +kernel
theorem dX1_prepare_62 : decode cX1_prepare 62 = .ok (.iastore, 1) := by decide +kernel
theorem dX1_prepare_63 : decode cX1_prepare 63 = .ok (.aload_n 0, 1) := by decide +kernel
theorem dX1_prepare_64 : decode cX1_prepare 64 = .ok (.getfield 37, 3) := by decide +kernel
theorem dX1_prepare_67 : decode cX1_prepare 67 = .ok (.iload 5, 2) := by decide +kernel
theorem dX1_prepare_69 : decode cX1_prepare 69 = .ok (.iconst 1, 1) := by decide +kernel
theorem dX1_prepare_70 : decode cX1_prepare 70 = .ok (.iastore, 1) := by decide +kernel
theorem dX1_prepare_71 : decode cX1_prepare 71 = .ok (.goto 25, 3) := by decide +kernel
theorem dX1_prepare_74 : decode cX1_prepare 74 = .ok (.iload 4, 2) := by decide +kernel
theorem dX1_prepare_76 : decode cX1_prepare 76 = .ok (.iload_n 2, 1) := by decide +kernel
theorem dX1_prepare_77 : decode cX1_prepare 77 = .ok (.imul, 1) := by decide +kernel
theorem dX1_prepare_78 : decode cX1_prepare 78 = .ok (.istore 4, 2) := by decide +kernel
theorem dX1_prepare_80 : decode cX1_prepare 80 = .ok (.aload_n 0, 1) := by decide +kernel
theorem dX1_prepare_81 : decode cX1_prepare 81 = .ok (.getfield 34, 3) := by decide +kernel
theorem dX1_prepare_84 : decode cX1_prepare 84 = .ok (.iload 5, 2) := by decide +kernel
theorem dX1_prepare_86 : decode cX1_prepare 86 = .ok (.iconst 1, 1) := by decide +kernel
theorem dX1_prepare_87 : decode cX1_prepare 87 = .ok (.iastore, 1) := by decide +kernel
theorem dX1_prepare_88 : decode cX1_prepare 88 = .ok (.aload_n 0, 1) := by decide +kernel
theorem dX1_prepare_89 : decode cX1_prepare 89 = .ok (.getfield 37, 3) := by decide +kernel
theorem dX1_prepare_92 : decode cX1_prepare 92 = .ok (.iload 5, 2) := by decide +kernel
theorem dX1_prepare_94 : decode cX1_prepare 94 = .ok (.iload_n 2, 1) := by decide +kernel
theorem dX1_prepare_95 : decode cX1_prepare 95 = .ok (.iastore, 1) := by decide +kernel
theorem dX1_prepare_96 : decode cX1_prepare 96 = .ok (.iinc 5 1, 3) := by decide +kernel
theorem dX1_prepare_99 : decode cX1_prepare 99 = .ok (.goto (-88), 3) := by decide +kernel
theorem dX1_prepare_102 : decode cX1_prepare 102 = .ok (.iload 4, 2) := by decide +kernel
theorem dX1_prepare_104 : decode cX1_prepare 104 = .ok (.ireturn, 1) := by decide +kernel
theorem dX1_isAsked_0 : decode cX1_isAsked 0 = .ok (.iconst 0, 1) := by decide +kernel
theorem dX1_isAsked_1 : decode cX1_isAsked 1 = .ok (.istore_n 3, 1) := by decide +kernel
theorem dX1_isAsked_2 : decode cX1_isAsked 2 = .ok (.iload_n 3, 1) := by decide +kernel
theorem dX1_isAsked_3 : decode cX1_isAsked 3 = .ok (.iload_n 2, 1) := by decide +kernel
theorem dX1_isAsked_4 : decode cX1_isAsked 4 = .ok (.if_icmp .ge 56, 3) := by decide +kernel
theorem dX1_isAsked_7 : decode cX1_isAsked 7 = .ok (.iload_n 3, 1) := by decide +kernel
theorem dX1_isAsked_8 : decode cX1_isAsked 8 = .ok (.bipush 6, 2) := by decide +kernel
theorem dX1_isAsked_10 : decode cX1_isAsked 10 = .ok (.if_icmp .ge 50, 3) := by decide +kernel
theorem dX1_isAsked_13 : decode cX1_isAsked 13 = .ok (.iconst 0, 1) := by decide +kernel
theorem dX1_isAsked_14 : decode cX1_isAsked 14 = .ok (.istore 4, 2) := by decide +kernel
theorem dX1_isAsked_16 : decode cX1_isAsked 16 = .ok (.iload 4, 2) := by decide +kernel
theorem dX1_isAsked_18 : decode cX1_isAsked 18 = .ok (.aload_n 0, 1) := by decide +kernel
theorem dX1_isAsked_19 : decode cX1_isAsked 19 = .ok (.getfield 17, 3) := by decide +kernel
theorem dX1_isAsked_22 : decode cX1_isAsked 22 = .ok (.iload_n 3, 1) := by decide +kernel
theorem dX1_isAsked_23 : decode cX1_isAsked 23 = .ok (.aaload, 1) := by decide +kernel
theorem dX1_isAsked_24 : decode cX1_isAsked 24 = .ok (.getfield 64, 3) := by decide +kernel
theorem dX1_isAsked_27 : decode cX1_isAsked 27 = .ok (.if_icmp .ge 27, 3) := by decide +kernel
theorem dX1_isAsked_30 : decode cX1_isAsked 30 = .ok (.aload_n 0, 1) := by decide +kernel
theorem dX1_isAsked_31 : decode cX1_isAsked 31 = .ok (.getfield 17, 3) := by decide +kernel
theorem dX1_isAsked_34 : decode cX1_isAsked 34 = .ok (.iload_n 3, 1) := by decide +kernel
theorem dX1_isAsked_35 : decode cX1_isAsked 35 = .ok (.aaload, 1) := by decide +kernel
theorem dX1_isAsked_36 : decode cX1_isAsked 36 = .ok (.getfield 65, 3) := by decide +kernel
theorem dX1_isAsked_39 : decode cX1_isAsked 39 = .ok (.iload 4, 2) := by decide +kernel
theorem dX1_isAsked_41 : decode cX1_isAsked 41 = .ok (.iaload, 1) := by decide +kernel
theorem dX1_isAsked_42 : decode cX1_isAsked 42 = .ok (.iload_n 1, 1) := by decide +kernel
theorem dX1_isAsked_43 : decode cX1_isAsked 43 = .ok (.if_icmp .ne 5, 3) := by decide +kernel
theorem dX1_isAsked_46 : decode cX1_isAsked 46 = .ok (.iconst 1, 1) := by decide +kernel
theorem dX1_isAsked_47 : decode cX1_isAsked 47 = .ok (.ireturn, 1) := by decide +kernel
theorem dX1_isAsked_48 : decode cX1_isAsked 48 = .ok (.iinc 4 1, 3) := by decide +kernel
theorem dX1_isAsked_51 : decode cX1_isAsked 51 = .ok (.goto (-35), 3) := by decide +kernel
theorem dX1_isAsked_54 : decode cX1_isAsked 54 = .ok (.iinc 3 1, 3) := by decide +kernel
theorem dX1_isAsked_57 : decode cX1_isAsked 57 = .ok (.goto (-55), 3) := by decide +kernel
theorem dX1_isAsked_60 : decode cX1_isAsked 60 = .ok (.iconst 0, 1) := by decide +kernel
theorem dX1_isAsked_61 : decode cX1_isAsked 61 = .ok (.ireturn, 1) := by decide +kernel
theorem dX1_fillRow_0 : decode cX1_fillRow 0 = .ok (.iload_n 1, 1) := by decide +kernel
theorem dX1_fillRow_1 : decode cX1_fillRow 1 = .ok (.istore_n 3, 1) := by decide +kernel
theorem dX1_fillRow_2 : decode cX1_fillRow 2 = .ok (.iconst 0, 1) := by decide +kernel
theorem dX1_fillRow_3 : decode cX1_fillRow 3 = .ok (.istore 4, 2) := by decide +kernel
theorem dX1_fillRow_5 : decode cX1_fillRow 5 = .ok (.iload 4, 2) := by decide +kernel
theorem dX1_fillRow_7 : decode cX1_fillRow 7 = .ok (.aload_n 0, 1) := by decide +kernel
theorem dX1_fillRow_8 : decode cX1_fillRow 8 = .ok (.getfield 28, 3) := by decide +kernel
theorem dX1_fillRow_11 : decode cX1_fillRow 11 = .ok (.if_icmp .ge 34, 3) := by decide +kernel
theorem dX1_fillRow_14 : decode cX1_fillRow 14 = .ok (.iload_n 2, 1) := by decide +kernel
theorem dX1_fillRow_15 : decode cX1_fillRow 15 = .ok (.ifCond .le 30, 3) := by decide +kernel
theorem dX1_fillRow_18 : decode cX1_fillRow 18 = .ok (.aload_n 0, 1) := by decide +kernel
theorem dX1_fillRow_19 : decode cX1_fillRow 19 = .ok (.getfield 21, 3) := by decide +kernel
theorem dX1_fillRow_22 : decode cX1_fillRow 22 = .ok (.aload_n 0, 1) := by decide +kernel
theorem dX1_fillRow_23 : decode cX1_fillRow 23 = .ok (.getfield 25, 3) := by decide +kernel
theorem dX1_fillRow_26 : decode cX1_fillRow 26 = .ok (.iload 4, 2) := by decide +kernel
theorem dX1_fillRow_28 : decode cX1_fillRow 28 = .ok (.iaload, 1) := by decide +kernel
theorem dX1_fillRow_29 : decode cX1_fillRow 29 = .ok (.iconst 1, 1) := by decide +kernel
theorem dX1_fillRow_30 : decode cX1_fillRow 30 = .ok (.iload_n 3, 1) := by decide +kernel
theorem dX1_fillRow_31 : decode cX1_fillRow 31 = .ok (.iload_n 2, 1) := by decide +kernel
theorem dX1_fillRow_32 : decode cX1_fillRow 32 = .ok (.irem, 1) := by decide +kernel
theorem dX1_fillRow_33 : decode cX1_fillRow 33 = .ok (.iadd, 1) := by decide +kernel
theorem dX1_fillRow_34 : decode cX1_fillRow 34 = .ok (.iastore, 1) := by decide +kernel
theorem dX1_fillRow_35 : decode cX1_fillRow 35 = .ok (.iload_n 3, 1) := by decide +kernel
theorem dX1_fillRow_36 : decode cX1_fillRow 36 = .ok (.iload_n 2, 1) := by decide +kernel
theorem dX1_fillRow_37 : decode cX1_fillRow 37 = .ok (.idiv, 1) := by decide +kernel
theorem dX1_fillRow_38 : decode cX1_fillRow 38 = .ok (.istore_n 3, 1) := by decide +kernel
theorem dX1_fillRow_39 : decode cX1_fillRow 39 = .ok (.iinc 4 1, 3) := by decide +kernel
theorem dX1_fillRow_42 : decode cX1_fillRow 42 = .ok (.goto (-37), 3) := by decide +kernel
theorem dX1_fillRow_45 : decode cX1_fillRow 45 = .ok (.return_, 1) := by decide +kernel
theorem dX1_agree_0 : decode cX1_agree 0 = .ok (.iconst 0, 1) := by decide +kernel
theorem dX1_agree_1 : decode cX1_agree 1 = .ok (.istore_n 2, 1) := by decide +kernel
theorem dX1_agree_2 : decode cX1_agree 2 = .ok (.iload_n 2, 1) := by decide +kernel
theorem dX1_agree_3 : decode cX1_agree 3 = .ok (.iload_n 1, 1) := by decide +kernel
theorem dX1_agree_4 : decode cX1_agree 4 = .ok (.if_icmp .ge 33, 3) := by decide +kernel
theorem dX1_agree_7 : decode cX1_agree 7 = .ok (.iload_n 2, 1) := by decide +kernel
theorem dX1_agree_8 : decode cX1_agree 8 = .ok (.bipush 6, 2) := by decide +kernel
theorem dX1_agree_10 : decode cX1_agree 10 = .ok (.if_icmp .ge 27, 3) := by decide +kernel
theorem dX1_agree_13 : decode cX1_agree 13 = .ok (.aload_n 0, 1) := by decide +kernel
theorem dX1_agree_14 : decode cX1_agree 14 = .ok (.getfield 17, 3) := by decide +kernel
theorem dX1_agree_17 : decode cX1_agree 17 = .ok (.iload_n 2, 1) := by decide +kernel
theorem dX1_agree_18 : decode cX1_agree 18 = .ok (.aaload, 1) := by decide +kernel
theorem dX1_agree_19 : decode cX1_agree 19 = .ok (.aload_n 0, 1) := by decide +kernel
theorem dX1_agree_20 : decode cX1_agree 20 = .ok (.getfield 21, 3) := by decide +kernel
theorem dX1_agree_23 : decode cX1_agree 23 = .ok (.invokevirtual 68, 3) := by decide +kernel
theorem dX1_agree_26 : decode cX1_agree 26 = .ok (.ifCond .ne 5, 3) := by decide +kernel
theorem dX1_agree_29 : decode cX1_agree 29 = .ok (.iconst 0, 1) := by decide +kernel
theorem dX1_agree_30 : decode cX1_agree 30 = .ok (.ireturn, 1) := by decide +kernel
theorem dX1_agree_31 : decode cX1_agree 31 = .ok (.iinc 2 1, 3) := by decide +kernel
theorem dX1_agree_34 : decode cX1_agree 34 = .ok (.goto (-32), 3) := by decide +kernel
theorem dX1_agree_37 : decode cX1_agree 37 = .ok (.iconst 1, 1) := by decide +kernel
theorem dX1_agree_38 : decode cX1_agree 38 = .ok (.ireturn, 1) := by decide +kernel
theorem dX1_widen_0 : decode cX1_widen 0 = .ok (.iconst 0, 1) := by decide +kernel
theorem dX1_widen_1 : decode cX1_widen 1 = .ok (.istore_n 1, 1) := by decide +kernel
theorem dX1_widen_2 : decode cX1_widen 2 = .ok (.iload_n 1, 1) := by decide +kernel
theorem dX1_widen_3 : decode cX1_widen 3 = .ok (.aload_n 0, 1) := by decide +kernel
theorem dX1_widen_4 : decode cX1_widen 4 = .ok (.getfield 28, 3) := by decide +kernel
theorem dX1_widen_7 : decode cX1_widen 7 = .ok (.if_icmp .ge 58, 3) := by decide +kernel
theorem dX1_widen_10 : decode cX1_widen 10 = .ok (.aload_n 0, 1) := by decide +kernel
theorem dX1_widen_11 : decode cX1_widen 11 = .ok (.getfield 25, 3) := by decide +kernel
theorem dX1_widen_14 : decode cX1_widen 14 = .ok (.iload_n 1, 1) := by decide +kernel
theorem dX1_widen_15 : decode cX1_widen 15 = .ok (.iaload, 1) := by decide +kernel
theorem dX1_widen_16 : decode cX1_widen 16 = .ok (.istore_n 2, 1) := by decide +kernel
theorem dX1_widen_17 : decode cX1_widen 17 = .ok (.aload_n 0, 1) := by decide +kernel
theorem dX1_widen_18 : decode cX1_widen 18 = .ok (.getfield 34, 3) := by decide +kernel
theorem dX1_widen_21 : decode cX1_widen 21 = .ok (.iload_n 2, 1) := by decide +kernel
theorem dX1_widen_22 : decode cX1_widen 22 = .ok (.aload_n 0, 1) := by decide +kernel
theorem dX1_widen_23 : decode cX1_widen 23 = .ok (.getfield 34, 3) := by decide +kernel
theorem dX1_widen_26 : decode cX1_widen 26 = .ok (.iload_n 2, 1) := by decide +kernel
theorem dX1_widen_27 : decode cX1_widen 27 = .ok (.iaload, 1) := by decide +kernel
theorem dX1_widen_28 : decode cX1_widen 28 = .ok (.aload_n 0, 1) := by decide +kernel
theorem dX1_widen_29 : decode cX1_widen 29 = .ok (.getfield 21, 3) := by decide +kernel
theorem dX1_widen_32 : decode cX1_widen 32 = .ok (.iload_n 2, 1) := by decide +kernel
theorem dX1_widen_33 : decode cX1_widen 33 = .ok (.iaload, 1) := by decide +kernel
theorem dX1_widen_34 : decode cX1_widen 34 = .ok (.invokestatic 72, 3) := by decide +kernel
theorem dX1_widen_37 : decode cX1_widen 37 = .ok (.iastore, 1) := by decide +kernel
theorem dX1_widen_38 : decode cX1_widen 38 = .ok (.aload_n 0, 1) := by decide +kernel
theorem dX1_widen_39 : decode cX1_widen 39 = .ok (.getfield 37, 3) := by decide +kernel
theorem dX1_widen_42 : decode cX1_widen 42 = .ok (.iload_n 2, 1) := by decide +kernel
theorem dX1_widen_43 : decode cX1_widen 43 = .ok (.aload_n 0, 1) := by decide +kernel
theorem dX1_widen_44 : decode cX1_widen 44 = .ok (.getfield 37, 3) := by decide +kernel
theorem dX1_widen_47 : decode cX1_widen 47 = .ok (.iload_n 2, 1) := by decide +kernel
theorem dX1_widen_48 : decode cX1_widen 48 = .ok (.iaload, 1) := by decide +kernel
theorem dX1_widen_49 : decode cX1_widen 49 = .ok (.aload_n 0, 1) := by decide +kernel
theorem dX1_widen_50 : decode cX1_widen 50 = .ok (.getfield 21, 3) := by decide +kernel
theorem dX1_widen_53 : decode cX1_widen 53 = .ok (.iload_n 2, 1) := by decide +kernel
theorem dX1_widen_54 : decode cX1_widen 54 = .ok (.iaload, 1) := by decide +kernel
theorem dX1_widen_55 : decode cX1_widen 55 = .ok (.invokestatic 78, 3) := by decide +kernel
theorem dX1_widen_58 : decode cX1_widen 58 = .ok (.iastore, 1) := by decide +kernel
theorem dX1_widen_59 : decode cX1_widen 59 = .ok (.iinc 1 1, 3) := by decide +kernel
theorem dX1_widen_62 : decode cX1_widen 62 = .ok (.goto (-60), 3) := by decide +kernel
theorem dX1_widen_65 : decode cX1_widen 65 = .ok (.return_, 1) := by decide +kernel
theorem dX2_init_0 : decode cX2_init 0 = .ok (.aload_n 0, 1) := by decide +kernel
theorem dX2_init_1 : decode cX2_init 1 = .ok (.invokespecial 3, 3) := by decide +kernel
theorem dX2_init_4 : decode cX2_init 4 = .ok (.aload_n 0, 1) := by decide +kernel
theorem dX2_init_5 : decode cX2_init 5 = .ok (.bipush 64, 2) := by decide +kernel
theorem dX2_init_7 : decode cX2_init 7 = .ok (.anewarray 9, 3) := by decide +kernel
theorem dX2_init_10 : decode cX2_init 10 = .ok (.putfield 11, 3) := by decide +kernel
theorem dX2_init_13 : decode cX2_init 13 = .ok (.aload_n 0, 1) := by decide +kernel
theorem dX2_init_14 : decode cX2_init 14 = .ok (.bipush 64, 2) := by decide +kernel
theorem dX2_init_16 : decode cX2_init 16 = .ok (.newarray .int, 2) := by decide +kernel
theorem dX2_init_18 : decode cX2_init 18 = .ok (.putfield 17, 3) := by decide +kernel
theorem dX2_init_21 : decode cX2_init 21 = .ok (.aload_n 0, 1) := by decide +kernel
theorem dX2_init_22 : decode cX2_init 22 = .ok (.new 9, 3) := by decide +kernel
theorem dX2_init_25 : decode cX2_init 25 = .ok (.dup, 1) := by decide +kernel
theorem dX2_init_26 : decode cX2_init 26 = .ok (.invokespecial 21, 3) := by decide +kernel
theorem dX2_init_29 : decode cX2_init 29 = .ok (.putfield 22, 3) := by decide +kernel
theorem dX2_init_32 : decode cX2_init 32 = .ok (.iconst 0, 1) := by decide +kernel
theorem dX2_init_33 : decode cX2_init 33 = .ok (.istore_n 1, 1) := by decide +kernel
theorem dX2_init_34 : decode cX2_init 34 = .ok (.iload_n 1, 1) := by decide +kernel
theorem dX2_init_35 : decode cX2_init 35 = .ok (.bipush 64, 2) := by decide +kernel
theorem dX2_init_37 : decode cX2_init 37 = .ok (.if_icmp .ge 22, 3) := by decide +kernel
theorem dX2_init_40 : decode cX2_init 40 = .ok (.aload_n 0, 1) := by decide +kernel
theorem dX2_init_41 : decode cX2_init 41 = .ok (.getfield 11, 3) := by decide +kernel
theorem dX2_init_44 : decode cX2_init 44 = .ok (.iload_n 1, 1) := by decide +kernel
theorem dX2_init_45 : decode cX2_init 45 = .ok (.new 9, 3) := by decide +kernel
theorem dX2_init_48 : decode cX2_init 48 = .ok (.dup, 1) := by decide +kernel
theorem dX2_init_49 : decode cX2_init 49 = .ok (.invokespecial 21, 3) := by decide +kernel
theorem dX2_init_52 : decode cX2_init 52 = .ok (.aastore, 1) := by decide +kernel
theorem dX2_init_53 : decode cX2_init 53 = .ok (.iinc 1 1, 3) := by decide +kernel
theorem dX2_init_56 : decode cX2_init 56 = .ok (.goto (-22), 3) := by decide +kernel
theorem dX2_init_59 : decode cX2_init 59 = .ok (.return_, 1) := by decide +kernel
theorem dX2_measure_0 : decode cX2_measure 0 = .ok (.aload_n 3, 1) := by decide +kernel
theorem dX2_measure_1 : decode cX2_measure 1 = .ok (.lconst 0, 1) := by decide +kernel
theorem dX2_measure_2 : decode cX2_measure 2 = .ok (.lconst 1, 1) := by decide +kernel
theorem dX2_measure_3 : decode cX2_measure 3 = .ok (.invokevirtual 26, 3) := by decide +kernel
theorem dX2_measure_6 : decode cX2_measure 6 = .ok (.iconst 0, 1) := by decide +kernel
theorem dX2_measure_7 : decode cX2_measure 7 = .ok (.istore 4, 2) := by decide +kernel
theorem dX2_measure_9 : decode cX2_measure 9 = .ok (.iconst 0, 1) := by decide +kernel
theorem dX2_measure_10 : decode cX2_measure 10 = .ok (.istore 5, 2) := by decide +kernel
theorem dX2_measure_12 : decode cX2_measure 12 = .ok (.iload_n 2, 1) := by decide +kernel
theorem dX2_measure_13 : decode cX2_measure 13 = .ok (.istore 6, 2) := by decide +kernel
theorem dX2_measure_15 : decode cX2_measure 15 = .ok (.iconst 0, 1) := by decide +kernel
theorem dX2_measure_16 : decode cX2_measure 16 = .ok (.istore 7, 2) := by decide +kernel
theorem dX2_measure_18 : decode cX2_measure 18 = .ok (.iload 7, 2) := by decide +kernel
theorem dX2_measure_20 : decode cX2_measure 20 = .ok (.bipush 6, 2) := by decide +kernel
theorem dX2_measure_22 : decode cX2_measure 22 = .ok (.if_icmp .ge 104, 3) := by decide +kernel
theorem dX2_measure_25 : decode cX2_measure 25 = .ok (.iload 6, 2) := by decide +kernel
theorem dX2_measure_27 : decode cX2_measure 27 = .ok (.ifCond .le 99, 3) := by decide +kernel
theorem dX2_measure_30 : decode cX2_measure 30 = .ok (.iload 6, 2) := by decide +kernel
theorem dX2_measure_32 : decode cX2_measure 32 = .ok (.bipush 10, 2) := by decide +kernel
theorem dX2_measure_34 : decode cX2_measure 34 = .ok (.irem, 1) := by decide +kernel
theorem dX2_measure_35 : decode cX2_measure 35 = .ok (.iconst 1, 1) := by decide +kernel
theorem dX2_measure_36 : decode cX2_measure 36 = .ok (.isub, 1) := by decide +kernel
theorem dX2_measure_37 : decode cX2_measure 37 = .ok (.istore 8, 2) := by decide +kernel
theorem dX2_measure_39 : decode cX2_measure 39 = .ok (.iload 6, 2) := by decide +kernel
theorem dX2_measure_41 : decode cX2_measure 41 = .ok (.bipush 10, 2) := by decide +kernel
theorem dX2_measure_43 : decode cX2_measure 43 = .ok (.idiv, 1) := by decide +kernel
theorem dX2_measure_44 : decode cX2_measure 44 = .ok (.istore 6, 2) := by decide +kernel
theorem dX2_measure_46 : decode cX2_measure 46 = .ok (.iload 8, 2) := by decide +kernel
theorem dX2_measure_48 : decode cX2_measure 48 = .ok (.ifCond .lt 22, 3) := by decide +kernel
theorem dX2_measure_51 : decode cX2_measure 51 = .ok (.iload 8, 2) := by decide +kernel
theorem dX2_measure_53 : decode cX2_measure 53 = .ok (.aload_n 1, 1) := by decide +kernel
theorem dX2_measure_54 : decode cX2_measure 54 = .ok (.getfield 30, 3) := by decide +kernel
theorem dX2_measure_57 : decode cX2_measure 57 = .ok (.if_icmp .ge 13, 3) := by decide +kernel
theorem dX2_measure_60 : decode cX2_measure 60 = .ok (.iload 4, 2) := by decide +kernel
theorem dX2_measure_62 : decode cX2_measure 62 = .ok (.iconst 1, 1) := by decide +kernel
theorem dX2_measure_63 : decode cX2_measure 63 = .ok (.iload 8, 2) := by decide +kernel
theorem dX2_measure_65 : decode cX2_measure 65 = .ok (.ishl, 1) := by decide +kernel
theorem dX2_measure_66 : decode cX2_measure 66 = .ok (.iand, 1) := by decide +kernel
theorem dX2_measure_67 : decode cX2_measure 67 = .ok (.ifCond .eq 5, 3) := by decide +kernel
theorem dX2_measure_70 : decode cX2_measure 70 = .ok (.iconst 0, 1) := by decide +kernel
theorem dX2_measure_71 : decode cX2_measure 71 = .ok (.ireturn, 1) := by decide +kernel
theorem dX2_measure_72 : decode cX2_measure 72 = .ok (.iload 4, 2) := by decide +kernel
theorem dX2_measure_74 : decode cX2_measure 74 = .ok (.iconst 1, 1) := by decide +kernel
theorem dX2_measure_75 : decode cX2_measure 75 = .ok (.iload 8, 2) := by decide +kernel
theorem dX2_measure_77 : decode cX2_measure 77 = .ok (.ishl, 1) := by decide +kernel
theorem dX2_measure_78 : decode cX2_measure 78 = .ok (.ior, 1) := by decide +kernel
theorem dX2_measure_79 : decode cX2_measure 79 = .ok (.istore 4, 2) := by decide +kernel
theorem dX2_measure_81 : decode cX2_measure 81 = .ok (.iload 5, 2) := by decide +kernel
theorem dX2_measure_83 : decode cX2_measure 83 = .ok (.aload_n 1, 1) := by decide +kernel
theorem dX2_measure_84 : decode cX2_measure 84 = .ok (.getfield 36, 3) := by decide +kernel
theorem dX2_measure_87 : decode cX2_measure 87 = .ok (.iload 8, 2) := by decide +kernel
theorem dX2_measure_89 : decode cX2_measure 89 = .ok (.iaload, 1) := by decide +kernel
theorem dX2_measure_90 : decode cX2_measure 90 = .ok (.iadd, 1) := by decide +kernel
theorem dX2_measure_91 : decode cX2_measure 91 = .ok (.istore 5, 2) := by decide +kernel
theorem dX2_measure_93 : decode cX2_measure 93 = .ok (.aload_n 3, 1) := by decide +kernel
theorem dX2_measure_94 : decode cX2_measure 94 = .ok (.aload_n 1, 1) := by decide +kernel
theorem dX2_measure_95 : decode cX2_measure 95 = .ok (.getfield 36, 3) := by decide +kernel
theorem dX2_measure_98 : decode cX2_measure 98 = .ok (.iload 8, 2) := by decide +kernel
theorem dX2_measure_100 : decode cX2_measure 100 = .ok (.iaload, 1) := by decide +kernel
theorem dX2_measure_101 : decode cX2_measure 101 = .ok (.aload_n 1, 1) := by decide +kernel
theorem dX2_measure_102 : decode cX2_measure 102 = .ok (.getfield 39, 3) := by decide +kernel
theorem dX2_measure_105 : decode cX2_measure 105 = .ok (.iload 8, 2) := by decide +kernel
theorem dX2_measure_107 : decode cX2_measure 107 = .ok (.iaload, 1) := by decide +kernel
theorem dX2_measure_108 : decode cX2_measure 108 = .ok (.imul, 1) := by decide +kernel
theorem dX2_measure_109 : decode cX2_measure 109 = .ok (.i2l, 1) := by decide +kernel
theorem dX2_measure_110 : decode cX2_measure 110 = .ok (.ldc2_w 42, 3) := by decide +kernel
theorem dX2_measure_113 : decode cX2_measure 113 = .ok (.iload 5, 2) := by decide +kernel
theorem dX2_measure_115 : decode cX2_measure 115 = .ok (.i2l, 1) := by decide +kernel
theorem dX2_measure_116 : decode cX2_measure 116 = .ok (.lmul, 1) := by decide +kernel
theorem dX2_measure_117 : decode cX2_measure 117 = .ok (.invokevirtual 44, 3) := by decide +kernel
theorem dX2_measure_120 : decode cX2_measure 120 = .ok (.iinc 7 1, 3) := by decide +kernel
theorem dX2_measure_123 : decode cX2_measure 123 = .ok (.goto (-105), 3) := by decide +kernel
theorem dX2_measure_126 : decode cX2_measure 126 = .ok (.iload_n 2, 1) := by decide +kernel
theorem dX2_measure_127 : decode cX2_measure 127 = .ok (.ifCond .le 12, 3) := by decide +kernel
theorem dX2_measure_130 : decode cX2_measure 130 = .ok (.iload 6, 2) := by decide +kernel
theorem dX2_measure_132 : decode cX2_measure 132 = .ok (.ifCond .ne 7, 3) := by decide +kernel
theorem dX2_measure_135 : decode cX2_measure 135 = .ok (.iconst 1, 1) := by decide +kernel
theorem dX2_measure_136 : decode cX2_measure 136 = .ok (.goto 4, 3) := by decide +kernel
theorem dX2_measure_139 : decode cX2_measure 139 = .ok (.iconst 0, 1) := by decide +kernel
theorem dX2_measure_140 : decode cX2_measure 140 = .ok (.ireturn, 1) := by decide +kernel
theorem dX2_findBest_0 : decode cX2_findBest 0 = .ok (.aload_n 0, 1) := by decide +kernel
theorem dX2_findBest_1 : decode cX2_findBest 1 = .ok (.getfield 11, 3) := by decide +kernel
theorem dX2_findBest_4 : decode cX2_findBest 4 = .ok (.iconst 0, 1) := by decide +kernel
theorem dX2_findBest_5 : decode cX2_findBest 5 = .ok (.aaload, 1) := by decide +kernel
theorem dX2_findBest_6 : decode cX2_findBest 6 = .ok (.lconst 0, 1) := by decide +kernel
theorem dX2_findBest_7 : decode cX2_findBest 7 = .ok (.lconst 1, 1) := by decide +kernel
theorem dX2_findBest_8 : decode cX2_findBest 8 = .ok (.invokevirtual 26, 3) := by decide +kernel
theorem dX2_findBest_11 : decode cX2_findBest 11 = .ok (.iconst 1, 1) := by decide +kernel
theorem dX2_findBest_12 : decode cX2_findBest 12 = .ok (.istore_n 3, 1) := by decide +kernel
theorem dX2_findBest_13 : decode cX2_findBest 13 = .ok (.iload_n 3, 1) := by decide +kernel
theorem dX2_findBest_14 : decode cX2_findBest 14 = .ok (.iload_n 2, 1) := by decide +kernel
theorem dX2_findBest_15 : decode cX2_findBest 15 = .ok (.if_icmp .gt 29, 3) := by decide +kernel
theorem dX2_findBest_18 : decode cX2_findBest 18 = .ok (.iload_n 3, 1) := by decide +kernel
theorem dX2_findBest_19 : decode cX2_findBest 19 = .ok (.bipush 64, 2) := by decide +kernel
theorem dX2_findBest_21 : decode cX2_findBest 21 = .ok (.if_icmp .ge 23, 3) := by decide +kernel
theorem dX2_findBest_24 : decode cX2_findBest 24 = .ok (.iload_n 3, 1) := by decide +kernel
theorem dX2_findBest_25 : decode cX2_findBest 25 = .ok (.iload_n 2, 1) := by decide +kernel
theorem dX2_findBest_26 : decode cX2_findBest 26 = .ok (.iconst (-1), 1) := by decide +kernel
theorem dX2_findBest_27 : decode cX2_findBest 27 = .ok (.ixor, 1) := by decide +kernel
theorem dX2_findBest_28 : decode cX2_findBest 28 = .ok (.iand, 1) := by decide +kernel
theorem dX2_findBest_29 : decode cX2_findBest 29 = .ok (.ifCond .ne 9, 3) := by decide +kernel
theorem dX2_findBest_32 : decode cX2_findBest 32 = .ok (.aload_n 0, 1) := by decide +kernel
theorem dX2_findBest_33 : decode cX2_findBest 33 = .ok (.aload_n 1, 1) := by decide +kernel
theorem dX2_findBest_34 : decode cX2_findBest 34 = .ok (.iload_n 3, 1) := by decide +kernel
theorem dX2_findBest_35 : decode cX2_findBest 35 = .ok (.invokevirtual 47, 3) := by decide +kernel
theorem dX2_findBest_38 : decode cX2_findBest 38 = .ok (.iinc 3 1, 3) := by decide +kernel
theorem dX2_findBest_41 : decode cX2_findBest 41 = .ok (.goto (-28), 3) := by decide +kernel
theorem dX2_findBest_44 : decode cX2_findBest 44 = .ok (.iconst 0, 1) := by decide +kernel
theorem dX2_findBest_45 : decode cX2_findBest 45 = .ok (.istore_n 3, 1) := by decide +kernel
theorem dX2_findBest_46 : decode cX2_findBest 46 = .ok (.iload_n 2, 1) := by decide +kernel
theorem dX2_findBest_47 : decode cX2_findBest 47 = .ok (.istore 4, 2) := by decide +kernel
theorem dX2_findBest_49 : decode cX2_findBest 49 = .ok (.iconst 0, 1) := by decide +kernel
theorem dX2_findBest_50 : decode cX2_findBest 50 = .ok (.istore 5, 2) := by decide +kernel
theorem dX2_findBest_52 : decode cX2_findBest 52 = .ok (.iload 5, 2) := by decide +kernel
theorem dX2_findBest_54 : decode cX2_findBest 54 = .ok (.bipush 6, 2) := by decide +kernel
theorem dX2_findBest_56 : decode cX2_findBest 56 = .ok (.if_icmp .ge 52, 3) := by decide +kernel
theorem dX2_findBest_59 : decode cX2_findBest 59 = .ok (.iload 4, 2) := by decide +kernel
theorem dX2_findBest_61 : decode cX2_findBest 61 = .ok (.ifCond .le 47, 3) := by decide +kernel
theorem dX2_findBest_64 : decode cX2_findBest 64 = .ok (.iload 4, 2) := by decide +kernel
theorem dX2_findBest_66 : decode cX2_findBest 66 = .ok (.bipush 64, 2) := by decide +kernel
theorem dX2_findBest_68 : decode cX2_findBest 68 = .ok (.if_icmp .ge 40, 3) := by decide +kernel
theorem dX2_findBest_71 : decode cX2_findBest 71 = .ok (.iload_n 3, 1) := by decide +kernel
theorem dX2_findBest_72 : decode cX2_findBest 72 = .ok (.bipush 10, 2) := by decide +kernel
theorem dX2_findBest_74 : decode cX2_findBest 74 = .ok (.imul, 1) := by decide +kernel
theorem dX2_findBest_75 : decode cX2_findBest 75 = .ok (.aload_n 0, 1) := by decide +kernel
theorem dX2_findBest_76 : decode cX2_findBest 76 = .ok (.getfield 17, 3) := by decide +kernel
theorem dX2_findBest_79 : decode cX2_findBest 79 = .ok (.iload 4, 2) := by decide +kernel
theorem dX2_findBest_81 : decode cX2_findBest 81 = .ok (.iaload, 1) := by decide +kernel
theorem dX2_findBest_82 : decode cX2_findBest 82 = .ok (.iadd, 1) := by decide +kernel
theorem dX2_findBest_83 : decode cX2_findBest 83 = .ok (.iconst 1, 1) := by decide +kernel
theorem dX2_findBest_84 : decode cX2_findBest 84 = .ok (.iadd, 1) := by decide +kernel
theorem dX2_findBest_85 : decode cX2_findBest 85 = .ok (.istore_n 3, 1) := by decide +kernel
theorem dX2_findBest_86 : decode cX2_findBest 86 = .ok (.iload 4, 2) := by decide +kernel
theorem dX2_findBest_88 : decode cX2_findBest 88 = .ok (.iconst 1, 1) := by decide +kernel
theorem dX2_findBest_89 : decode cX2_findBest 89 = .ok (.aload_n 0, 1) := by decide +kernel
theorem dX2_findBest_90 : decode cX2_findBest 90 = .ok (.getfield 17, 3) := by decide +kernel
theorem dX2_findBest_93 : decode cX2_findBest 93 = .ok (.iload 4, 2) := by decide +kernel
theorem dX2_findBest_95 : decode cX2_findBest 95 = .ok (.iaload, 1) := by decide +kernel
theorem dX2_findBest_96 : decode cX2_findBest 96 = .ok (.ishl, 1) := by decide +kernel
theorem dX2_findBest_97 : decode cX2_findBest 97 = .ok (.iconst (-1), 1) := by decide +kernel
theorem dX2_findBest_98 : decode cX2_findBest 98 = .ok (.ixor, 1) := by decide +kernel
theorem dX2_findBest_99 : decode cX2_findBest 99 = .ok (.iand, 1) := by decide +kernel
theorem dX2_findBest_100 : decode cX2_findBest 100 = .ok (.istore 4, 2) := by decide +kernel
theorem dX2_findBest_102 : decode cX2_findBest 102 = .ok (.iinc 5 1, 3) := by decide +kernel
theorem dX2_findBest_105 : decode cX2_findBest 105 = .ok (.goto (-53), 3) := by decide +kernel
theorem dX2_findBest_108 : decode cX2_findBest 108 = .ok (.iload_n 3, 1) := by decide +kernel
theorem dX2_findBest_109 : decode cX2_findBest 109 = .ok (.ireturn, 1) := by decide +kernel
theorem dX2_chooseLowest_0 : decode cX2_chooseLowest 0 = .ok (.iconst 0, 1) := by decide +kernel
theorem dX2_chooseLowest_1 : decode cX2_chooseLowest 1 = .ok (.istore_n 3, 1) := by decide +kernel
theorem dX2_chooseLowest_2 : decode cX2_chooseLowest 2 = .ok (.iconst 0, 1) := by decide +kernel
theorem dX2_chooseLowest_3 : decode cX2_chooseLowest 3 = .ok (.istore 4, 2) := by decide +kernel
theorem dX2_chooseLowest_5 : decode cX2_chooseLowest 5 = .ok (.iload 4, 2) := by decide +kernel
theorem dX2_chooseLowest_7 : decode cX2_chooseLowest 7 = .ok (.aload_n 1, 1) := by decide +kernel
theorem dX2_chooseLowest_8 : decode cX2_chooseLowest 8 = .ok (.getfield 30, 3) := by decide +kernel
theorem dX2_chooseLowest_11 : decode cX2_chooseLowest 11 = .ok (.if_icmp .ge 32, 3) := by decide +kernel
theorem dX2_chooseLowest_14 : decode cX2_chooseLowest 14 = .ok (.iload_n 3, 1) := by decide +kernel
theorem dX2_chooseLowest_15 : decode cX2_chooseLowest 15 = .ok (.iload_n 2, 1) := by decide +kernel
theorem dX2_chooseLowest_16 : decode cX2_chooseLowest 16 = .ok (.iconst 1, 1) := by decide +kernel
theorem dX2_chooseLowest_17 : decode cX2_chooseLowest 17 = .ok (.iload 4, 2) := by decide +kernel
theorem dX2_chooseLowest_19 : decode cX2_chooseLowest 19 = .ok (.ishl, 1) := by decide +kernel
theorem dX2_chooseLowest_20 : decode cX2_chooseLowest 20 = .ok (.iand, 1) := by decide +kernel
theorem dX2_chooseLowest_21 : decode cX2_chooseLowest 21 = .ok (.ifCond .eq 13, 3) := by decide +kernel
theorem dX2_chooseLowest_24 : decode cX2_chooseLowest 24 = .ok (.aload_n 1, 1) := by decide +kernel
theorem dX2_chooseLowest_25 : decode cX2_chooseLowest 25 = .ok (.getfield 36, 3) := by decide +kernel
theorem dX2_chooseLowest_28 : decode cX2_chooseLowest 28 = .ok (.iload 4, 2) := by decide +kernel
theorem dX2_chooseLowest_30 : decode cX2_chooseLowest 30 = .ok (.iaload, 1) := by decide +kernel
theorem dX2_chooseLowest_31 : decode cX2_chooseLowest 31 = .ok (.goto 4, 3) := by decide +kernel
theorem dX2_chooseLowest_34 : decode cX2_chooseLowest 34 = .ok (.iconst 0, 1) := by decide +kernel
theorem dX2_chooseLowest_35 : decode cX2_chooseLowest 35 = .ok (.iadd, 1) := by decide +kernel
theorem dX2_chooseLowest_36 : decode cX2_chooseLowest 36 = .ok (.istore_n 3, 1) := by decide +kernel
theorem dX2_chooseLowest_37 : decode cX2_chooseLowest 37 = .ok (.iinc 4 1, 3) := by decide +kernel
theorem dX2_chooseLowest_40 : decode cX2_chooseLowest 40 = .ok (.goto (-35), 3) := by decide +kernel
theorem dX2_chooseLowest_43 : decode cX2_chooseLowest 43 = .ok (.aload_n 0, 1) := by decide +kernel
theorem dX2_chooseLowest_44 : decode cX2_chooseLowest 44 = .ok (.getfield 11, 3) := by decide +kernel
theorem dX2_chooseLowest_47 : decode cX2_chooseLowest 47 = .ok (.iload_n 2, 1) := by decide +kernel
theorem dX2_chooseLowest_48 : decode cX2_chooseLowest 48 = .ok (.aaload, 1) := by decide +kernel
theorem dX2_chooseLowest_49 : decode cX2_chooseLowest 49 = .ok (.lconst 0, 1) := by decide +kernel
theorem dX2_chooseLowest_50 : decode cX2_chooseLowest 50 = .ok (.lconst 1, 1) := by decide +kernel
theorem dX2_chooseLowest_51 : decode cX2_chooseLowest 51 = .ok (.invokevirtual 26, 3) := by decide +kernel
theorem dX2_chooseLowest_54 : decode cX2_chooseLowest 54 = .ok (.iconst 0, 1) := by decide +kernel
theorem dX2_chooseLowest_55 : decode cX2_chooseLowest 55 = .ok (.istore 4, 2) := by decide +kernel
theorem dX2_chooseLowest_57 : decode cX2_chooseLowest 57 = .ok (.iload 4, 2) := by decide +kernel
theorem dX2_chooseLowest_59 : decode cX2_chooseLowest 59 = .ok (.aload_n 1, 1) := by decide +kernel
theorem dX2_chooseLowest_60 : decode cX2_chooseLowest 60 = .ok (.getfield 30, 3) := by decide +kernel
theorem dX2_chooseLowest_63 : decode cX2_chooseLowest 63 = .ok (.if_icmp .ge 104, 3) := by decide +kernel
theorem dX2_chooseLowest_66 : decode cX2_chooseLowest 66 = .ok (.iload_n 2, 1) := by decide +kernel
theorem dX2_chooseLowest_67 : decode cX2_chooseLowest 67 = .ok (.iconst 1, 1) := by decide +kernel
theorem dX2_chooseLowest_68 : decode cX2_chooseLowest 68 = .ok (.iload 4, 2) := by decide +kernel
theorem dX2_chooseLowest_70 : decode cX2_chooseLowest 70 = .ok (.ishl, 1) := by decide +kernel
theorem dX2_chooseLowest_71 : decode cX2_chooseLowest 71 = .ok (.iand, 1) := by decide +kernel
theorem dX2_chooseLowest_72 : decode cX2_chooseLowest 72 = .ok (.ifCond .eq 89, 3) := by decide +kernel
theorem dX2_chooseLowest_75 : decode cX2_chooseLowest 75 = .ok (.aload_n 0, 1) := by decide +kernel
theorem dX2_chooseLowest_76 : decode cX2_chooseLowest 76 = .ok (.getfield 22, 3) := by decide +kernel
theorem dX2_chooseLowest_79 : decode cX2_chooseLowest 79 = .ok (.aload_n 0, 1) := by decide +kernel
theorem dX2_chooseLowest_80 : decode cX2_chooseLowest 80 = .ok (.getfield 11, 3) := by decide +kernel
theorem dX2_chooseLowest_83 : decode cX2_chooseLowest 83 = .ok (.iload_n 2, 1) := by decide +kernel
theorem dX2_chooseLowest_84 : decode cX2_chooseLowest 84 = .ok (.iconst 1, 1) := by decide +kernel
theorem dX2_chooseLowest_85 : decode cX2_chooseLowest 85 = .ok (.iload 4, 2) := by decide +kernel
theorem dX2_chooseLowest_87 : decode cX2_chooseLowest 87 = .ok (.ishl, 1) := by decide +kernel
theorem dX2_chooseLowest_88 : decode cX2_chooseLowest 88 = .ok (.iconst (-1), 1) := by decide +kernel
theorem dX2_chooseLowest_89 : decode cX2_chooseLowest 89 = .ok (.ixor, 1) := by decide +kernel
theorem dX2_chooseLowest_90 : decode cX2_chooseLowest 90 = .ok (.iand, 1) := by decide +kernel
theorem dX2_chooseLowest_91 : decode cX2_chooseLowest 91 = .ok (.aaload, 1) := by decide +kernel
theorem dX2_chooseLowest_92 : decode cX2_chooseLowest 92 = .ok (.invokevirtual 51, 3) := by decide +kernel
theorem dX2_chooseLowest_95 : decode cX2_chooseLowest 95 = .ok (.aload_n 0, 1) := by decide +kernel
theorem dX2_chooseLowest_96 : decode cX2_chooseLowest 96 = .ok (.getfield 22, 3) := by decide +kernel
theorem dX2_chooseLowest_99 : decode cX2_chooseLowest 99 = .ok (.aload_n 1, 1) := by decide +kernel
theorem dX2_chooseLowest_100 : decode cX2_chooseLowest 100 = .ok (.getfield 36, 3) := by decide +kernel
theorem dX2_chooseLowest_103 : decode cX2_chooseLowest 103 = .ok (.iload 4, 2) := by decide +kernel
theorem dX2_chooseLowest_105 : decode cX2_chooseLowest 105 = .ok (.iaload, 1) := by decide +kernel
theorem dX2_chooseLowest_106 : decode cX2_chooseLowest 106 = .ok (.aload_n 1, 1) := by decide +kernel
theorem dX2_chooseLowest_107 : decode cX2_chooseLowest 107 = .ok (.getfield 39, 3) := by decide +kernel
theorem dX2_chooseLowest_110 : decode cX2_chooseLowest 110 = .ok (.iload 4, 2) := by decide +kernel
theorem dX2_chooseLowest_112 : decode cX2_chooseLowest 112 = .ok (.iaload, 1) := by decide +kernel
theorem dX2_chooseLowest_113 : decode cX2_chooseLowest 113 = .ok (.imul, 1) := by decide +kernel
theorem dX2_chooseLowest_114 : decode cX2_chooseLowest 114 = .ok (.i2l, 1) := by decide +kernel
theorem dX2_chooseLowest_115 : decode cX2_chooseLowest 115 = .ok (.ldc2_w 42, 3) := by decide +kernel
theorem dX2_chooseLowest_118 : decode cX2_chooseLowest 118 = .ok (.iload_n 3, 1) := by decide +kernel
theorem dX2_chooseLowest_119 : decode cX2_chooseLowest 119 = .ok (.i2l, 1) := by decide +kernel
theorem dX2_chooseLowest_120 : decode cX2_chooseLowest 120 = .ok (.lmul, 1) := by decide +kernel
theorem dX2_chooseLowest_121 : decode cX2_chooseLowest 121 = .ok (.invokevirtual 44, 3) := by decide +kernel
theorem dX2_chooseLowest_124 : decode cX2_chooseLowest 124 = .ok (.aload_n 0, 1) := by decide +kernel
theorem dX2_chooseLowest_125 : decode cX2_chooseLowest 125 = .ok (.getfield 22, 3) := by decide +kernel
theorem dX2_chooseLowest_128 : decode cX2_chooseLowest 128 = .ok (.aload_n 0, 1) := by decide +kernel
theorem dX2_chooseLowest_129 : decode cX2_chooseLowest 129 = .ok (.getfield 11, 3) := by decide +kernel
theorem dX2_chooseLowest_132 : decode cX2_chooseLowest 132 = .ok (.iload_n 2, 1) := by decide +kernel
theorem dX2_chooseLowest_133 : decode cX2_chooseLowest 133 = .ok (.aaload, 1) := by decide +kernel
theorem dX2_chooseLowest_134 : decode cX2_chooseLowest 134 = .ok (.invokevirtual 55, 3) := by decide +kernel
theorem dX2_chooseLowest_137 : decode cX2_chooseLowest 137 = .ok (.ifCond .eq 24, 3) := by decide +kernel
theorem dX2_chooseLowest_140 : decode cX2_chooseLowest 140 = .ok (.aload_n 0, 1) := by decide +kernel
theorem dX2_chooseLowest_141 : decode cX2_chooseLowest 141 = .ok (.getfield 11, 3) := by decide +kernel
theorem dX2_chooseLowest_144 : decode cX2_chooseLowest 144 = .ok (.iload_n 2, 1) := by decide +kernel
theorem dX2_chooseLowest_145 : decode cX2_chooseLowest 145 = .ok (.aaload, 1) := by decide +kernel
theorem dX2_chooseLowest_146 : decode cX2_chooseLowest 146 = .ok (.aload_n 0, 1) := by decide +kernel
theorem dX2_chooseLowest_147 : decode cX2_chooseLowest 147 = .ok (.getfield 22, 3) := by decide +kernel
theorem dX2_chooseLowest_150 : decode cX2_chooseLowest 150 = .ok (.invokevirtual 51, 3) := by decide +kernel
theorem dX2_chooseLowest_153 : decode cX2_chooseLowest 153 = .ok (.aload_n 0, 1) := by decide +kernel
theorem dX2_chooseLowest_154 : decode cX2_chooseLowest 154 = .ok (.getfield 17, 3) := by decide +kernel
theorem dX2_chooseLowest_157 : decode cX2_chooseLowest 157 = .ok (.iload_n 2, 1) := by decide +kernel
theorem dX2_chooseLowest_158 : decode cX2_chooseLowest 158 = .ok (.iload 4, 2) := by decide +kernel
theorem dX2_chooseLowest_160 : decode cX2_chooseLowest 160 = .ok (.iastore, 1) := by decide +kernel
theorem dX2_chooseLowest_161 : decode cX2_chooseLowest 161 = .ok (.iinc 4 1, 3) := by decide +kernel
theorem dX2_chooseLowest_164 : decode cX2_chooseLowest 164 = .ok (.goto (-107), 3) := by decide +kernel
theorem dX2_chooseLowest_167 : decode cX2_chooseLowest 167 = .ok (.return_, 1) := by decide +kernel
theorem dX3_init_0 : decode cX3_init 0 = .ok (.aload_n 0, 1) := by decide +kernel
theorem dX3_init_1 : decode cX3_init 1 = .ok (.invokespecial 3, 3) := by decide +kernel
theorem dX3_init_4 : decode cX3_init 4 = .ok (.aload_n 0, 1) := by decide +kernel
theorem dX3_init_5 : decode cX3_init 5 = .ok (.iconst 0, 1) := by decide +kernel
theorem dX3_init_6 : decode cX3_init 6 = .ok (.putfield 9, 3) := by decide +kernel
theorem dX3_init_9 : decode cX3_init 9 = .ok (.aload_n 0, 1) := by decide +kernel
theorem dX3_init_10 : decode cX3_init 10 = .ok (.iconst 0, 1) := by decide +kernel
theorem dX3_init_11 : decode cX3_init 11 = .ok (.putfield 15, 3) := by decide +kernel
theorem dX3_init_14 : decode cX3_init 14 = .ok (.aload_n 0, 1) := by decide +kernel
theorem dX3_init_15 : decode cX3_init 15 = .ok (.iconst (-1), 1) := by decide +kernel
theorem dX3_init_16 : decode cX3_init 16 = .ok (.putfield 18, 3) := by decide +kernel
theorem dX3_init_19 : decode cX3_init 19 = .ok (.aload_n 0, 1) := by decide +kernel
theorem dX3_init_20 : decode cX3_init 20 = .ok (.iconst 0, 1) := by decide +kernel
theorem dX3_init_21 : decode cX3_init 21 = .ok (.putfield 21, 3) := by decide +kernel
theorem dX3_init_24 : decode cX3_init 24 = .ok (.aload_n 0, 1) := by decide +kernel
theorem dX3_init_25 : decode cX3_init 25 = .ok (.iconst (-1), 1) := by decide +kernel
theorem dX3_init_26 : decode cX3_init 26 = .ok (.putfield 24, 3) := by decide +kernel
theorem dX3_init_29 : decode cX3_init 29 = .ok (.aload_n 0, 1) := by decide +kernel
theorem dX3_init_30 : decode cX3_init 30 = .ok (.iconst 0, 1) := by decide +kernel
theorem dX3_init_31 : decode cX3_init 31 = .ok (.putfield 27, 3) := by decide +kernel
theorem dX3_init_34 : decode cX3_init 34 = .ok (.aload_n 0, 1) := by decide +kernel
theorem dX3_init_35 : decode cX3_init 35 = .ok (.iconst 0, 1) := by decide +kernel
theorem dX3_init_36 : decode cX3_init 36 = .ok (.putfield 30, 3) := by decide +kernel
theorem dX3_init_39 : decode cX3_init 39 = .ok (.aload_n 0, 1) := by decide +kernel
theorem dX3_init_40 : decode cX3_init 40 = .ok (.aload_n 1, 1) := by decide +kernel
theorem dX3_init_41 : decode cX3_init 41 = .ok (.putfield 33, 3) := by decide +kernel
theorem dX3_init_44 : decode cX3_init 44 = .ok (.aload_n 0, 1) := by decide +kernel
theorem dX3_init_45 : decode cX3_init 45 = .ok (.aload_n 2, 1) := by decide +kernel
theorem dX3_init_46 : decode cX3_init 46 = .ok (.putfield 37, 3) := by decide +kernel
theorem dX3_init_49 : decode cX3_init 49 = .ok (.return_, 1) := by decide +kernel
theorem dX3_parse_0 : decode cX3_parse 0 = .ok (.aload_n 0, 1) := by decide +kernel
theorem dX3_parse_1 : decode cX3_parse 1 = .ok (.aload_n 1, 1) := by decide +kernel
theorem dX3_parse_2 : decode cX3_parse 2 = .ok (.invokevirtual 41, 3) := by decide +kernel
theorem dX3_parse_5 : decode cX3_parse 5 = .ok (.iconst 0, 1) := by decide +kernel
theorem dX3_parse_6 : decode cX3_parse 6 = .ok (.istore_n 2, 1) := by decide +kernel
theorem dX3_parse_7 : decode cX3_parse 7 = .ok (.iload_n 2, 1) := by decide +kernel
theorem dX3_parse_8 : decode cX3_parse 8 = .ok (.sipush 400, 3) := by decide +kernel
theorem dX3_parse_11 : decode cX3_parse 11 = .ok (.if_icmp .gt 119, 3) := by decide +kernel
theorem dX3_parse_14 : decode cX3_parse 14 = .ok (.aload_n 0, 1) := by decide +kernel
theorem dX3_parse_15 : decode cX3_parse 15 = .ok (.getfield 15, 3) := by decide +kernel
theorem dX3_parse_18 : decode cX3_parse 18 = .ok (.ifCond .ne 112, 3) := by decide +kernel
theorem dX3_parse_21 : decode cX3_parse 21 = .ok (.aload_n 0, 1) := by decide +kernel
theorem dX3_parse_22 : decode cX3_parse 22 = .ok (.getfield 33, 3) := by decide +kernel
theorem dX3_parse_25 : decode cX3_parse 25 = .ok (.getfield 45, 3) := by decide +kernel
theorem dX3_parse_28 : decode cX3_parse 28 = .ok (.aload_n 0, 1) := by decide +kernel
theorem dX3_parse_29 : decode cX3_parse 29 = .ok (.getfield 9, 3) := by decide +kernel
theorem dX3_parse_32 : decode cX3_parse 32 = .ok (.iaload, 1) := by decide +kernel
theorem dX3_parse_33 : decode cX3_parse 33 = .ok (.bipush 18, 2) := by decide +kernel
theorem dX3_parse_35 : decode cX3_parse 35 = .ok (.if_icmp .eq 95, 3) := by decide +kernel
theorem dX3_parse_38 : decode cX3_parse 38 = .ok (.aload_n 0, 1) := by decide +kernel
theorem dX3_parse_39 : decode cX3_parse 39 = .ok (.getfield 33, 3) := by decide +kernel
theorem dX3_parse_42 : decode cX3_parse 42 = .ok (.getfield 45, 3) := by decide +kernel
theorem dX3_parse_45 : decode cX3_parse 45 = .ok (.aload_n 0, 1) := by decide +kernel
theorem dX3_parse_46 : decode cX3_parse 46 = .ok (.getfield 9, 3) := by decide +kernel
theorem dX3_parse_49 : decode cX3_parse 49 = .ok (.iaload, 1) := by decide +kernel
theorem dX3_parse_50 : decode cX3_parse 50 = .ok (.tableswitch 69 0 4 #[34, 41, 48, 55, 62], 34) := by decide +kernel
theorem dX3_parse_84 : decode cX3_parse 84 = .ok (.aload_n 0, 1) := by decide +kernel
theorem dX3_parse_85 : decode cX3_parse 85 = .ok (.invokevirtual 51, 3) := by decide +kernel
theorem dX3_parse_88 : decode cX3_parse 88 = .ok (.goto 36, 3) := by decide +kernel
theorem dX3_parse_91 : decode cX3_parse 91 = .ok (.aload_n 0, 1) := by decide +kernel
theorem dX3_parse_92 : decode cX3_parse 92 = .ok (.invokevirtual 54, 3) := by decide +kernel
theorem dX3_parse_95 : decode cX3_parse 95 = .ok (.goto 29, 3) := by decide +kernel
theorem dX3_parse_98 : decode cX3_parse 98 = .ok (.aload_n 0, 1) := by decide +kernel
theorem dX3_parse_99 : decode cX3_parse 99 = .ok (.invokevirtual 57, 3) := by decide +kernel
theorem dX3_parse_102 : decode cX3_parse 102 = .ok (.goto 22, 3) := by decide +kernel
theorem dX3_parse_105 : decode cX3_parse 105 = .ok (.aload_n 0, 1) := by decide +kernel
theorem dX3_parse_106 : decode cX3_parse 106 = .ok (.invokevirtual 60, 3) := by decide +kernel
theorem dX3_parse_109 : decode cX3_parse 109 = .ok (.goto 15, 3) := by decide +kernel
theorem dX3_parse_112 : decode cX3_parse 112 = .ok (.aload_n 0, 1) := by decide +kernel
theorem dX3_parse_113 : decode cX3_parse 113 = .ok (.invokevirtual 63, 3) := by decide +kernel
theorem dX3_parse_116 : decode cX3_parse 116 = .ok (.goto 8, 3) := by decide +kernel
theorem dX3_parse_119 : decode cX3_parse 119 = .ok (.aload_n 0, 1) := by decide +kernel
theorem dX3_parse_120 : decode cX3_parse 120 = .ok (.iconst 1, 1) := by decide +kernel
theorem dX3_parse_121 : decode cX3_parse 121 = .ok (.invokevirtual 66, 3) := by decide +kernel
theorem dX3_parse_124 : decode cX3_parse 124 = .ok (.iinc 2 1, 3) := by decide +kernel
theorem dX3_parse_127 : decode cX3_parse 127 = .ok (.goto (-120), 3) := by decide +kernel
theorem dX3_parse_130 : decode cX3_parse 130 = .ok (.aload_n 0, 1) := by decide +kernel
theorem dX3_parse_131 : decode cX3_parse 131 = .ok (.getfield 15, 3) := by decide +kernel
theorem dX3_parse_134 : decode cX3_parse 134 = .ok (.ifCond .ne 19, 3) := by decide +kernel
theorem dX3_parse_137 : decode cX3_parse 137 = .ok (.aload_n 0, 1) := by decide +kernel
theorem dX3_parse_138 : decode cX3_parse 138 = .ok (.aload_n 0, 1) := by decide +kernel
theorem dX3_parse_139 : decode cX3_parse 139 = .ok (.getfield 21, 3) := by decide +kernel
theorem dX3_parse_142 : decode cX3_parse 142 = .ok (.putfield 15, 3) := by decide +kernel
theorem dX3_parse_145 : decode cX3_parse 145 = .ok (.aload_n 0, 1) := by decide +kernel
theorem dX3_parse_146 : decode cX3_parse 146 = .ok (.aload_n 0, 1) := by decide +kernel
theorem dX3_parse_147 : decode cX3_parse 147 = .ok (.getfield 24, 3) := by decide +kernel
theorem dX3_parse_150 : decode cX3_parse 150 = .ok (.putfield 18, 3) := by decide +kernel
theorem dX3_parse_153 : decode cX3_parse 153 = .ok (.return_, 1) := by decide +kernel
theorem dX3_start_0 : decode cX3_start 0 = .ok (.aload_n 0, 1) := by decide +kernel
theorem dX3_start_1 : decode cX3_start 1 = .ok (.aload_n 1, 1) := by decide +kernel
theorem dX3_start_2 : decode cX3_start 2 = .ok (.putfield 37, 3) := by decide +kernel
theorem dX3_start_5 : decode cX3_start 5 = .ok (.aload_n 0, 1) := by decide +kernel
theorem dX3_start_6 : decode cX3_start 6 = .ok (.getfield 37, 3) := by decide +kernel
theorem dX3_start_9 : decode cX3_start 9 = .ok (.invokevirtual 70, 3) := by decide +kernel
theorem dX3_start_12 : decode cX3_start 12 = .ok (.aload_n 0, 1) := by decide +kernel
theorem dX3_start_13 : decode cX3_start 13 = .ok (.iconst 0, 1) := by decide +kernel
theorem dX3_start_14 : decode cX3_start 14 = .ok (.putfield 9, 3) := by decide +kernel
theorem dX3_start_17 : decode cX3_start 17 = .ok (.aload_n 0, 1) := by decide +kernel
theorem dX3_start_18 : decode cX3_start 18 = .ok (.iconst 0, 1) := by decide +kernel
theorem dX3_start_19 : decode cX3_start 19 = .ok (.putfield 15, 3) := by decide +kernel
theorem dX3_start_22 : decode cX3_start 22 = .ok (.aload_n 0, 1) := by decide +kernel
theorem dX3_start_23 : decode cX3_start 23 = .ok (.iconst (-1), 1) := by decide +kernel
theorem dX3_start_24 : decode cX3_start 24 = .ok (.putfield 18, 3) := by decide +kernel
theorem dX3_start_27 : decode cX3_start 27 = .ok (.aload_n 0, 1) := by decide +kernel
theorem dX3_start_28 : decode cX3_start 28 = .ok (.iconst 0, 1) := by decide +kernel
theorem dX3_start_29 : decode cX3_start 29 = .ok (.putfield 21, 3) := by decide +kernel
theorem dX3_start_32 : decode cX3_start 32 = .ok (.aload_n 0, 1) := by decide +kernel
theorem dX3_start_33 : decode cX3_start 33 = .ok (.iconst (-1), 1) := by decide +kernel
theorem dX3_start_34 : decode cX3_start 34 = .ok (.putfield 24, 3) := by decide +kernel
theorem dX3_start_37 : decode cX3_start 37 = .ok (.aload_n 0, 1) := by decide +kernel
theorem dX3_start_38 : decode cX3_start 38 = .ok (.iconst 0, 1) := by decide +kernel
theorem dX3_start_39 : decode cX3_start 39 = .ok (.putfield 27, 3) := by decide +kernel
theorem dX3_start_42 : decode cX3_start 42 = .ok (.aload_n 0, 1) := by decide +kernel
theorem dX3_start_43 : decode cX3_start 43 = .ok (.iconst 0, 1) := by decide +kernel
theorem dX3_start_44 : decode cX3_start 44 = .ok (.putfield 30, 3) := by decide +kernel
theorem dX3_start_47 : decode cX3_start 47 = .ok (.return_, 1) := by decide +kernel
theorem dX3_tellBook_0 : decode cX3_tellBook 0 = .ok (.aload_n 0, 1) := by decide +kernel
theorem dX3_tellBook_1 : decode cX3_tellBook 1 = .ok (.getfield 27, 3) := by decide +kernel
theorem dX3_tellBook_4 : decode cX3_tellBook 4 = .ok (.bipush 6, 2) := by decide +kernel
theorem dX3_tellBook_6 : decode cX3_tellBook 6 = .ok (.if_icmp .ne 9, 3) := by decide +kernel
theorem dX3_tellBook_9 : decode cX3_tellBook 9 = .ok (.aload_n 0, 1) := by decide +kernel
theorem dX3_tellBook_10 : decode cX3_tellBook 10 = .ok (.iconst 2, 1) := by decide +kernel
theorem dX3_tellBook_11 : decode cX3_tellBook 11 = .ok (.invokevirtual 66, 3) := by decide +kernel
theorem dX3_tellBook_14 : decode cX3_tellBook 14 = .ok (.return_, 1) := by decide +kernel
theorem dX3_tellBook_15 : decode cX3_tellBook 15 = .ok (.aload_n 0, 1) := by decide +kernel
theorem dX3_tellBook_16 : decode cX3_tellBook 16 = .ok (.dup, 1) := by decide +kernel
theorem dX3_tellBook_17 : decode cX3_tellBook 17 = .ok (.getfield 27, 3) := by decide +kernel
theorem dX3_tellBook_20 : decode cX3_tellBook 20 = .ok (.iconst 1, 1) := by decide +kernel
theorem dX3_tellBook_21 : decode cX3_tellBook 21 = .ok (.iadd, 1) := by decide +kernel
theorem dX3_tellBook_22 : decode cX3_tellBook 22 = .ok (.putfield 27, 3) := by decide +kernel
theorem dX3_tellBook_25 : decode cX3_tellBook 25 = .ok (.aload_n 0, 1) := by decide +kernel
theorem dX3_tellBook_26 : decode cX3_tellBook 26 = .ok (.iconst 0, 1) := by decide +kernel
theorem dX3_tellBook_27 : decode cX3_tellBook 27 = .ok (.invokevirtual 75, 3) := by decide +kernel
theorem dX3_tellBook_30 : decode cX3_tellBook 30 = .ok (.pop, 1) := by decide +kernel
theorem dX3_tellBook_31 : decode cX3_tellBook 31 = .ok (.aload_n 0, 1) := by decide +kernel
theorem dX3_tellBook_32 : decode cX3_tellBook 32 = .ok (.bipush 16, 2) := by decide +kernel
theorem dX3_tellBook_34 : decode cX3_tellBook 34 = .ok (.invokevirtual 75, 3) := by decide +kernel
theorem dX3_tellBook_37 : decode cX3_tellBook 37 = .ok (.istore_n 1, 1) := by decide +kernel
theorem dX3_tellBook_38 : decode cX3_tellBook 38 = .ok (.aload_n 0, 1) := by decide +kernel
theorem dX3_tellBook_39 : decode cX3_tellBook 39 = .ok (.bipush 17, 2) := by decide +kernel
theorem dX3_tellBook_41 : decode cX3_tellBook 41 = .ok (.invokevirtual 75, 3) := by decide +kernel
theorem dX3_tellBook_44 : decode cX3_tellBook 44 = .ok (.istore_n 2, 1) := by decide +kernel
theorem dX3_tellBook_45 : decode cX3_tellBook 45 = .ok (.aload_n 0, 1) := by decide +kernel
theorem dX3_tellBook_46 : decode cX3_tellBook 46 = .ok (.bipush 17, 2) := by decide +kernel
theorem dX3_tellBook_48 : decode cX3_tellBook 48 = .ok (.invokevirtual 75, 3) := by decide +kernel
theorem dX3_tellBook_51 : decode cX3_tellBook 51 = .ok (.istore_n 3, 1) := by decide +kernel
theorem dX3_tellBook_52 : decode cX3_tellBook 52 = .ok (.aload_n 0, 1) := by decide +kernel
theorem dX3_tellBook_53 : decode cX3_tellBook 53 = .ok (.bipush 59, 2) := by decide +kernel
theorem dX3_tellBook_55 : decode cX3_tellBook 55 = .ok (.invokevirtual 75, 3) := by decide +kernel
theorem dX3_tellBook_58 : decode cX3_tellBook 58 = .ok (.pop, 1) := by decide +kernel
theorem dX3_tellBook_59 : decode cX3_tellBook 59 = .ok (.aload_n 0, 1) := by decide +kernel
theorem dX3_tellBook_60 : decode cX3_tellBook 60 = .ok (.getfield 15, 3) := by decide +kernel
theorem dX3_tellBook_63 : decode cX3_tellBook 63 = .ok (.ifCond .eq 4, 3) := by decide +kernel
theorem dX3_tellBook_66 : decode cX3_tellBook 66 = .ok (.return_, 1) := by decide +kernel
theorem dX3_tellBook_67 : decode cX3_tellBook 67 = .ok (.aload_n 0, 1) := by decide +kernel
theorem dX3_tellBook_68 : decode cX3_tellBook 68 = .ok (.getfield 37, 3) := by decide +kernel
theorem dX3_tellBook_71 : decode cX3_tellBook 71 = .ok (.aload_n 0, 1) := by decide +kernel
theorem dX3_tellBook_72 : decode cX3_tellBook 72 = .ok (.getfield 33, 3) := by decide +kernel
theorem dX3_tellBook_75 : decode cX3_tellBook 75 = .ok (.getfield 79, 3) := by decide +kernel
theorem dX3_tellBook_78 : decode cX3_tellBook 78 = .ok (.iload_n 1, 1) := by decide +kernel
theorem dX3_tellBook_79 : decode cX3_tellBook 79 = .ok (.laload, 1) := by decide +kernel
theorem dX3_tellBook_80 : decode cX3_tellBook 80 = .ok (.invokevirtual 83, 3) := by decide +kernel
theorem dX3_tellBook_83 : decode cX3_tellBook 83 = .ok (.iconst (-1), 1) := by decide +kernel
theorem dX3_tellBook_84 : decode cX3_tellBook 84 = .ok (.if_icmp .eq 9, 3) := by decide +kernel
theorem dX3_tellBook_87 : decode cX3_tellBook 87 = .ok (.aload_n 0, 1) := by decide +kernel
theorem dX3_tellBook_88 : decode cX3_tellBook 88 = .ok (.iconst 3, 1) := by decide +kernel
theorem dX3_tellBook_89 : decode cX3_tellBook 89 = .ok (.iload_n 1, 1) := by decide +kernel
theorem dX3_tellBook_90 : decode cX3_tellBook 90 = .ok (.invokevirtual 87, 3) := by decide +kernel
theorem dX3_tellBook_93 : decode cX3_tellBook 93 = .ok (.aload_n 0, 1) := by decide +kernel
theorem dX3_tellBook_94 : decode cX3_tellBook 94 = .ok (.iload_n 2, 1) := by decide +kernel
theorem dX3_tellBook_95 : decode cX3_tellBook 95 = .ok (.iconst 1, 1) := by decide +kernel
theorem dX3_tellBook_96 : decode cX3_tellBook 96 = .ok (.bipush 99, 2) := by decide +kernel
theorem dX3_tellBook_98 : decode cX3_tellBook 98 = .ok (.invokevirtual 91, 3) := by decide +kernel
theorem dX3_tellBook_101 : decode cX3_tellBook 101 = .ok (.aload_n 0, 1) := by decide +kernel
theorem dX3_tellBook_102 : decode cX3_tellBook 102 = .ok (.iload_n 3, 1) := by decide +kernel
theorem dX3_tellBook_103 : decode cX3_tellBook 103 = .ok (.iconst 1, 1) := by decide +kernel
theorem dX3_tellBook_104 : decode cX3_tellBook 104 = .ok (.bipush 20, 2) := by decide +kernel
theorem dX3_tellBook_106 : decode cX3_tellBook 106 = .ok (.invokevirtual 91, 3) := by decide +kernel
theorem dX3_tellBook_109 : decode cX3_tellBook 109 = .ok (.aload_n 0, 1) := by decide +kernel
theorem dX3_tellBook_110 : decode cX3_tellBook 110 = .ok (.getfield 21, 3) := by decide +kernel
theorem dX3_tellBook_113 : decode cX3_tellBook 113 = .ok (.ifCond .ne 29, 3) := by decide +kernel
theorem dX3_tellBook_116 : decode cX3_tellBook 116 = .ok (.aload_n 0, 1) := by decide +kernel
theorem dX3_tellBook_117 : decode cX3_tellBook 117 = .ok (.getfield 37, 3) := by decide +kernel
theorem dX3_tellBook_120 : decode cX3_tellBook 120 = .ok (.aload_n 0, 1) := by decide +kernel
theorem dX3_tellBook_121 : decode cX3_tellBook 121 = .ok (.getfield 33, 3) := by decide +kernel
theorem dX3_tellBook_124 : decode cX3_tellBook 124 = .ok (.getfield 79, 3) := by decide +kernel
theorem dX3_tellBook_127 : decode cX3_tellBook 127 = .ok (.iload_n 1, 1) := by decide +kernel
theorem dX3_tellBook_128 : decode cX3_tellBook 128 = .ok (.laload, 1) := by decide +kernel
theorem dX3_tellBook_129 : decode cX3_tellBook 129 = .ok (.aload_n 0, 1) := by decide +kernel
theorem dX3_tellBook_130 : decode cX3_tellBook 130 = .ok (.iload_n 2, 1) := by decide +kernel
theorem dX3_tellBook_131 : decode cX3_tellBook 131 = .ok (.invokevirtual 95, 3) := by decide +kernel
theorem dX3_tellBook_134 : decode cX3_tellBook 134 = .ok (.aload_n 0, 1) := by decide +kernel
theorem dX3_tellBook_135 : decode cX3_tellBook 135 = .ok (.iload_n 3, 1) := by decide +kernel
theorem dX3_tellBook_136 : decode cX3_tellBook 136 = .ok (.invokevirtual 95, 3) := by decide +kernel
theorem dX3_tellBook_139 : decode cX3_tellBook 139 = .ok (.invokevirtual 98, 3) := by decide +kernel
theorem dX3_tellBook_142 : decode cX3_tellBook 142 = .ok (.return_, 1) := by decide +kernel
theorem dX3_tellHeavy_0 : decode cX3_tellHeavy 0 = .ok (.aload_n 0, 1) := by decide +kernel
theorem dX3_tellHeavy_1 : decode cX3_tellHeavy 1 = .ok (.iconst 1, 1) := by decide +kernel
theorem dX3_tellHeavy_2 : decode cX3_tellHeavy 2 = .ok (.invokevirtual 75, 3) := by decide +kernel
theorem dX3_tellHeavy_5 : decode cX3_tellHeavy 5 = .ok (.pop, 1) := by decide +kernel
theorem dX3_tellHeavy_6 : decode cX3_tellHeavy 6 = .ok (.aload_n 0, 1) := by decide +kernel
theorem dX3_tellHeavy_7 : decode cX3_tellHeavy 7 = .ok (.bipush 16, 2) := by decide +kernel
theorem dX3_tellHeavy_9 : decode cX3_tellHeavy 9 = .ok (.invokevirtual 75, 3) := by decide +kernel
theorem dX3_tellHeavy_12 : decode cX3_tellHeavy 12 = .ok (.istore_n 1, 1) := by decide +kernel
theorem dX3_tellHeavy_13 : decode cX3_tellHeavy 13 = .ok (.aload_n 0, 1) := by decide +kernel
theorem dX3_tellHeavy_14 : decode cX3_tellHeavy 14 = .ok (.bipush 61, 2) := by decide +kernel
theorem dX3_tellHeavy_16 : decode cX3_tellHeavy 16 = .ok (.invokevirtual 75, 3) := by decide +kernel
theorem dX3_tellHeavy_19 : decode cX3_tellHeavy 19 = .ok (.pop, 1) := by decide +kernel
theorem dX3_tellHeavy_20 : decode cX3_tellHeavy 20 = .ok (.aload_n 0, 1) := by decide +kernel
theorem dX3_tellHeavy_21 : decode cX3_tellHeavy 21 = .ok (.iload_n 1, 1) := by decide +kernel
theorem dX3_tellHeavy_22 : decode cX3_tellHeavy 22 = .ok (.invokevirtual 102, 3) := by decide +kernel
theorem dX3_tellHeavy_25 : decode cX3_tellHeavy 25 = .ok (.istore_n 2, 1) := by decide +kernel
theorem dX3_tellHeavy_26 : decode cX3_tellHeavy 26 = .ok (.aload_n 0, 1) := by decide +kernel
theorem dX3_tellHeavy_27 : decode cX3_tellHeavy 27 = .ok (.getfield 37, 3) := by decide +kernel
theorem dX3_tellHeavy_30 : decode cX3_tellHeavy 30 = .ok (.getfield 105, 3) := by decide +kernel
theorem dX3_tellHeavy_33 : decode cX3_tellHeavy 33 = .ok (.istore_n 3, 1) := by decide +kernel
theorem dX3_tellHeavy_34 : decode cX3_tellHeavy 34 = .ok (.iconst 0, 1) := by decide +kernel
theorem dX3_tellHeavy_35 : decode cX3_tellHeavy 35 = .ok (.istore 4, 2) := by decide +kernel
theorem dX3_tellHeavy_37 : decode cX3_tellHeavy 37 = .ok (.iload 4, 2) := by decide +kernel
theorem dX3_tellHeavy_39 : decode cX3_tellHeavy 39 = .ok (.iconst 4, 1) := by decide +kernel
theorem dX3_tellHeavy_40 : decode cX3_tellHeavy 40 = .ok (.if_icmp .gt 118, 3) := by decide +kernel
theorem dX3_tellHeavy_43 : decode cX3_tellHeavy 43 = .ok (.aload_n 0, 1) := by decide +kernel
theorem dX3_tellHeavy_44 : decode cX3_tellHeavy 44 = .ok (.getfield 15, 3) := by decide +kernel
theorem dX3_tellHeavy_47 : decode cX3_tellHeavy 47 = .ok (.ifCond .ne 111, 3) := by decide +kernel
theorem dX3_tellHeavy_50 : decode cX3_tellHeavy 50 = .ok (.aload_n 0, 1) := by decide +kernel
theorem dX3_tellHeavy_51 : decode cX3_tellHeavy 51 = .ok (.getfield 33, 3) := by decide +kernel
theorem dX3_tellHeavy_54 : decode cX3_tellHeavy 54 = .ok (.getfield 45, 3) := by decide +kernel
theorem dX3_tellHeavy_57 : decode cX3_tellHeavy 57 = .ok (.aload_n 0, 1) := by decide +kernel
theorem dX3_tellHeavy_58 : decode cX3_tellHeavy 58 = .ok (.getfield 9, 3) := by decide +kernel
theorem dX3_tellHeavy_61 : decode cX3_tellHeavy 61 = .ok (.iaload, 1) := by decide +kernel
theorem dX3_tellHeavy_62 : decode cX3_tellHeavy 62 = .ok (.bipush 8, 2) := by decide +kernel
theorem dX3_tellHeavy_64 : decode cX3_tellHeavy 64 = .ok (.if_icmp .ne 94, 3) := by decide +kernel
theorem dX3_tellHeavy_67 : decode cX3_tellHeavy 67 = .ok (.iload 4, 2) := by decide +kernel
theorem dX3_tellHeavy_69 : decode cX3_tellHeavy 69 = .ok (.iconst 4, 1) := by decide +kernel
theorem dX3_tellHeavy_70 : decode cX3_tellHeavy 70 = .ok (.if_icmp .ne 9, 3) := by decide +kernel
theorem dX3_tellHeavy_73 : decode cX3_tellHeavy 73 = .ok (.aload_n 0, 1) := by decide +kernel
theorem dX3_tellHeavy_74 : decode cX3_tellHeavy 74 = .ok (.iconst 2, 1) := by decide +kernel
theorem dX3_tellHeavy_75 : decode cX3_tellHeavy 75 = .ok (.invokevirtual 66, 3) := by decide +kernel
theorem dX3_tellHeavy_78 : decode cX3_tellHeavy 78 = .ok (.return_, 1) := by decide +kernel
theorem dX3_tellHeavy_79 : decode cX3_tellHeavy 79 = .ok (.aload_n 0, 1) := by decide +kernel
theorem dX3_tellHeavy_80 : decode cX3_tellHeavy 80 = .ok (.bipush 8, 2) := by decide +kernel
theorem dX3_tellHeavy_82 : decode cX3_tellHeavy 82 = .ok (.invokevirtual 75, 3) := by decide +kernel
theorem dX3_tellHeavy_85 : decode cX3_tellHeavy 85 = .ok (.pop, 1) := by decide +kernel
theorem dX3_tellHeavy_86 : decode cX3_tellHeavy 86 = .ok (.aload_n 0, 1) := by decide +kernel
theorem dX3_tellHeavy_87 : decode cX3_tellHeavy 87 = .ok (.iconst 0, 1) := by decide +kernel
theorem dX3_tellHeavy_88 : decode cX3_tellHeavy 88 = .ok (.invokevirtual 108, 3) := by decide +kernel
theorem dX3_tellHeavy_91 : decode cX3_tellHeavy 91 = .ok (.aload_n 0, 1) := by decide +kernel
theorem dX3_tellHeavy_92 : decode cX3_tellHeavy 92 = .ok (.bipush 60, 2) := by decide +kernel
theorem dX3_tellHeavy_94 : decode cX3_tellHeavy 94 = .ok (.invokevirtual 75, 3) := by decide +kernel
theorem dX3_tellHeavy_97 : decode cX3_tellHeavy 97 = .ok (.pop, 1) := by decide +kernel
theorem dX3_tellHeavy_98 : decode cX3_tellHeavy 98 = .ok (.aload_n 0, 1) := by decide +kernel
theorem dX3_tellHeavy_99 : decode cX3_tellHeavy 99 = .ok (.iconst 0, 1) := by decide +kernel
theorem dX3_tellHeavy_100 : decode cX3_tellHeavy 100 = .ok (.invokevirtual 108, 3) := by decide +kernel
theorem dX3_tellHeavy_103 : decode cX3_tellHeavy 103 = .ok (.aload_n 0, 1) := by decide +kernel
theorem dX3_tellHeavy_104 : decode cX3_tellHeavy 104 = .ok (.getfield 37, 3) := by decide +kernel
theorem dX3_tellHeavy_107 : decode cX3_tellHeavy 107 = .ok (.iconst 3, 1) := by decide +kernel
theorem dX3_tellHeavy_108 : decode cX3_tellHeavy 108 = .ok (.iconst 0, 1) := by decide +kernel
theorem dX3_tellHeavy_109 : decode cX3_tellHeavy 109 = .ok (.invokevirtual 111, 3) := by decide +kernel
theorem dX3_tellHeavy_112 : decode cX3_tellHeavy 112 = .ok (.istore 5, 2) := by decide +kernel
theorem dX3_tellHeavy_114 : decode cX3_tellHeavy 114 = .ok (.aload_n 0, 1) := by decide +kernel
theorem dX3_tellHeavy_115 : decode cX3_tellHeavy 115 = .ok (.bipush 9, 2) := by decide +kernel
theorem dX3_tellHeavy_117 : decode cX3_tellHeavy 117 = .ok (.invokevirtual 75, 3) := by decide +kernel
theorem dX3_tellHeavy_120 : decode cX3_tellHeavy 120 = .ok (.pop, 1) := by decide +kernel
theorem dX3_tellHeavy_121 : decode cX3_tellHeavy 121 = .ok (.aload_n 0, 1) := by decide +kernel
theorem dX3_tellHeavy_122 : decode cX3_tellHeavy 122 = .ok (.iconst 0, 1) := by decide +kernel
theorem dX3_tellHeavy_123 : decode cX3_tellHeavy 123 = .ok (.invokevirtual 108, 3) := by decide +kernel
theorem dX3_tellHeavy_126 : decode cX3_tellHeavy 126 = .ok (.aload_n 0, 1) := by decide +kernel
theorem dX3_tellHeavy_127 : decode cX3_tellHeavy 127 = .ok (.getfield 37, 3) := by decide +kernel
theorem dX3_tellHeavy_130 : decode cX3_tellHeavy 130 = .ok (.iconst 4, 1) := by decide +kernel
theorem dX3_tellHeavy_131 : decode cX3_tellHeavy 131 = .ok (.iconst 0, 1) := by decide +kernel
theorem dX3_tellHeavy_132 : decode cX3_tellHeavy 132 = .ok (.invokevirtual 111, 3) := by decide +kernel
theorem dX3_tellHeavy_135 : decode cX3_tellHeavy 135 = .ok (.pop, 1) := by decide +kernel
theorem dX3_tellHeavy_136 : decode cX3_tellHeavy 136 = .ok (.aload_n 0, 1) := by decide +kernel
theorem dX3_tellHeavy_137 : decode cX3_tellHeavy 137 = .ok (.bipush 10, 2) := by decide +kernel
theorem dX3_tellHeavy_139 : decode cX3_tellHeavy 139 = .ok (.invokevirtual 75, 3) := by decide +kernel
theorem dX3_tellHeavy_142 : decode cX3_tellHeavy 142 = .ok (.pop, 1) := by decide +kernel
theorem dX3_tellHeavy_143 : decode cX3_tellHeavy 143 = .ok (.aload_n 0, 1) := by decide +kernel
theorem dX3_tellHeavy_144 : decode cX3_tellHeavy 144 = .ok (.getfield 37, 3) := by decide +kernel
theorem dX3_tellHeavy_147 : decode cX3_tellHeavy 147 = .ok (.iload 5, 2) := by decide +kernel
theorem dX3_tellHeavy_149 : decode cX3_tellHeavy 149 = .ok (.invokevirtual 115, 3) := by decide +kernel
theorem dX3_tellHeavy_152 : decode cX3_tellHeavy 152 = .ok (.iinc 4 1, 3) := by decide +kernel
theorem dX3_tellHeavy_155 : decode cX3_tellHeavy 155 = .ok (.goto (-118), 3) := by decide +kernel
theorem dX3_tellHeavy_158 : decode cX3_tellHeavy 158 = .ok (.aload_n 0, 1) := by decide +kernel
theorem dX3_tellHeavy_159 : decode cX3_tellHeavy 159 = .ok (.iconst 0, 1) := by decide +kernel
theorem dX3_tellHeavy_160 : decode cX3_tellHeavy 160 = .ok (.invokevirtual 108, 3) := by decide +kernel
theorem dX3_tellHeavy_163 : decode cX3_tellHeavy 163 = .ok (.aload_n 0, 1) := by decide +kernel
theorem dX3_tellHeavy_164 : decode cX3_tellHeavy 164 = .ok (.getfield 37, 3) := by decide +kernel
theorem dX3_tellHeavy_167 : decode cX3_tellHeavy 167 = .ok (.iconst 4, 1) := by decide +kernel
theorem dX3_tellHeavy_168 : decode cX3_tellHeavy 168 = .ok (.iconst 0, 1) := by decide +kernel
theorem dX3_tellHeavy_169 : decode cX3_tellHeavy 169 = .ok (.invokevirtual 111, 3) := by decide +kernel
theorem dX3_tellHeavy_172 : decode cX3_tellHeavy 172 = .ok (.pop, 1) := by decide +kernel
theorem dX3_tellHeavy_173 : decode cX3_tellHeavy 173 = .ok (.aload_n 0, 1) := by decide +kernel
theorem dX3_tellHeavy_174 : decode cX3_tellHeavy 174 = .ok (.bipush 59, 2) := by decide +kernel
theorem dX3_tellHeavy_176 : decode cX3_tellHeavy 176 = .ok (.invokevirtual 75, 3) := by decide +kernel
theorem dX3_tellHeavy_179 : decode cX3_tellHeavy 179 = .ok (.pop, 1) := by decide +kernel
theorem dX3_tellHeavy_180 : decode cX3_tellHeavy 180 = .ok (.aload_n 0, 1) := by decide +kernel
theorem dX3_tellHeavy_181 : decode cX3_tellHeavy 181 = .ok (.getfield 15, 3) := by decide +kernel
theorem dX3_tellHeavy_184 : decode cX3_tellHeavy 184 = .ok (.ifCond .ne 25, 3) := by decide +kernel
theorem dX3_tellHeavy_187 : decode cX3_tellHeavy 187 = .ok (.aload_n 0, 1) := by decide +kernel
theorem dX3_tellHeavy_188 : decode cX3_tellHeavy 188 = .ok (.getfield 21, 3) := by decide +kernel
theorem dX3_tellHeavy_191 : decode cX3_tellHeavy 191 = .ok (.ifCond .ne 18, 3) := by decide +kernel
theorem dX3_tellHeavy_194 : decode cX3_tellHeavy 194 = .ok (.iload_n 2, 1) := by decide +kernel
theorem dX3_tellHeavy_195 : decode cX3_tellHeavy 195 = .ok (.iconst (-1), 1) := by decide +kernel
theorem dX3_tellHeavy_196 : decode cX3_tellHeavy 196 = .ok (.if_icmp .eq 13, 3) := by decide +kernel
theorem dX3_tellHeavy_199 : decode cX3_tellHeavy 199 = .ok (.aload_n 0, 1) := by decide +kernel
theorem dX3_tellHeavy_200 : decode cX3_tellHeavy 200 = .ok (.getfield 37, 3) := by decide +kernel
theorem dX3_tellHeavy_203 : decode cX3_tellHeavy 203 = .ok (.getfield 118, 3) := by decide +kernel
theorem dX3_tellHeavy_206 : decode cX3_tellHeavy 206 = .ok (.iload_n 2, 1) := by decide +kernel
theorem dX3_tellHeavy_207 : decode cX3_tellHeavy 207 = .ok (.iload_n 3, 1) := by decide +kernel
theorem dX3_tellHeavy_208 : decode cX3_tellHeavy 208 = .ok (.iastore, 1) := by decide +kernel
theorem dX3_tellHeavy_209 : decode cX3_tellHeavy 209 = .ok (.return_, 1) := by decide +kernel
theorem dX3_tellTable_0 : decode cX3_tellTable 0 = .ok (.aload_n 0, 1) := by decide +kernel
theorem dX3_tellTable_1 : decode cX3_tellTable 1 = .ok (.iconst 2, 1) := by decide +kernel
theorem dX3_tellTable_2 : decode cX3_tellTable 2 = .ok (.invokevirtual 75, 3) := by decide +kernel
theorem dX3_tellTable_5 : decode cX3_tellTable 5 = .ok (.pop, 1) := by decide +kernel
theorem dX3_tellTable_6 : decode cX3_tellTable 6 = .ok (.aload_n 0, 1) := by decide +kernel
theorem dX3_tellTable_7 : decode cX3_tellTable 7 = .ok (.bipush 17, 2) := by decide +kernel
theorem dX3_tellTable_9 : decode cX3_tellTable 9 = .ok (.invokevirtual 75, 3) := by decide +kernel
theorem dX3_tellTable_12 : decode cX3_tellTable 12 = .ok (.istore_n 1, 1) := by decide +kernel
theorem dX3_tellTable_13 : decode cX3_tellTable 13 = .ok (.aload_n 0, 1) := by decide +kernel
theorem dX3_tellTable_14 : decode cX3_tellTable 14 = .ok (.bipush 59, 2) := by decide +kernel
theorem dX3_tellTable_16 : decode cX3_tellTable 16 = .ok (.invokevirtual 75, 3) := by decide +kernel
theorem dX3_tellTable_19 : decode cX3_tellTable 19 = .ok (.pop, 1) := by decide +kernel
theorem dX3_tellTable_20 : decode cX3_tellTable 20 = .ok (.aload_n 0, 1) := by decide +kernel
theorem dX3_tellTable_21 : decode cX3_tellTable 21 = .ok (.getfield 15, 3) := by decide +kernel
theorem dX3_tellTable_24 : decode cX3_tellTable 24 = .ok (.ifCond .ne 24, 3) := by decide +kernel
theorem dX3_tellTable_27 : decode cX3_tellTable 27 = .ok (.aload_n 0, 1) := by decide +kernel
theorem dX3_tellTable_28 : decode cX3_tellTable 28 = .ok (.iload_n 1, 1) := by decide +kernel
theorem dX3_tellTable_29 : decode cX3_tellTable 29 = .ok (.iconst 1, 1) := by decide +kernel
theorem dX3_tellTable_30 : decode cX3_tellTable 30 = .ok (.sipush 999, 3) := by decide +kernel
theorem dX3_tellTable_33 : decode cX3_tellTable 33 = .ok (.invokevirtual 91, 3) := by decide +kernel
theorem dX3_tellTable_36 : decode cX3_tellTable 36 = .ok (.aload_n 0, 1) := by decide +kernel
theorem dX3_tellTable_37 : decode cX3_tellTable 37 = .ok (.getfield 37, 3) := by decide +kernel
theorem dX3_tellTable_40 : decode cX3_tellTable 40 = .ok (.aload_n 0, 1) := by decide +kernel
theorem dX3_tellTable_41 : decode cX3_tellTable 41 = .ok (.iload_n 1, 1) := by decide +kernel
theorem dX3_tellTable_42 : decode cX3_tellTable 42 = .ok (.invokevirtual 95, 3) := by decide +kernel
theorem dX3_tellTable_45 : decode cX3_tellTable 45 = .ok (.putfield 121, 3) := by decide +kernel
theorem dX3_tellTable_48 : decode cX3_tellTable 48 = .ok (.return_, 1) := by decide +kernel
theorem dX3_tellPile_0 : decode cX3_tellPile 0 = .ok (.aload_n 0, 1) := by decide +kernel
theorem dX3_tellPile_1 : decode cX3_tellPile 1 = .ok (.iconst 3, 1) := by decide +kernel
theorem dX3_tellPile_2 : decode cX3_tellPile 2 = .ok (.invokevirtual 75, 3) := by decide +kernel
theorem dX3_tellPile_5 : decode cX3_tellPile 5 = .ok (.pop, 1) := by decide +kernel
theorem dX3_tellPile_6 : decode cX3_tellPile 6 = .ok (.aload_n 0, 1) := by decide +kernel
theorem dX3_tellPile_7 : decode cX3_tellPile 7 = .ok (.getfield 37, 3) := by decide +kernel
theorem dX3_tellPile_10 : decode cX3_tellPile 10 = .ok (.getfield 124, 3) := by decide +kernel
theorem dX3_tellPile_13 : decode cX3_tellPile 13 = .ok (.iconst 0, 1) := by decide +kernel
theorem dX3_tellPile_14 : decode cX3_tellPile 14 = .ok (.putfield 128, 3) := by decide +kernel
theorem dX3_tellPile_17 : decode cX3_tellPile 17 = .ok (.iconst 0, 1) := by decide +kernel
theorem dX3_tellPile_18 : decode cX3_tellPile 18 = .ok (.istore_n 1, 1) := by decide +kernel
theorem dX3_tellPile_19 : decode cX3_tellPile 19 = .ok (.iload_n 1, 1) := by decide +kernel
theorem dX3_tellPile_20 : decode cX3_tellPile 20 = .ok (.sipush 400, 3) := by decide +kernel
theorem dX3_tellPile_23 : decode cX3_tellPile 23 = .ok (.if_icmp .gt 37, 3) := by decide +kernel
theorem dX3_tellPile_26 : decode cX3_tellPile 26 = .ok (.aload_n 0, 1) := by decide +kernel
theorem dX3_tellPile_27 : decode cX3_tellPile 27 = .ok (.getfield 15, 3) := by decide +kernel
theorem dX3_tellPile_30 : decode cX3_tellPile 30 = .ok (.ifCond .ne 30, 3) := by decide +kernel
theorem dX3_tellPile_33 : decode cX3_tellPile 33 = .ok (.aload_n 0, 1) := by decide +kernel
theorem dX3_tellPile_34 : decode cX3_tellPile 34 = .ok (.getfield 33, 3) := by decide +kernel
theorem dX3_tellPile_37 : decode cX3_tellPile 37 = .ok (.getfield 45, 3) := by decide +kernel
theorem dX3_tellPile_40 : decode cX3_tellPile 40 = .ok (.aload_n 0, 1) := by decide +kernel
theorem dX3_tellPile_41 : decode cX3_tellPile 41 = .ok (.getfield 9, 3) := by decide +kernel
theorem dX3_tellPile_44 : decode cX3_tellPile 44 = .ok (.iaload, 1) := by decide +kernel
theorem dX3_tellPile_45 : decode cX3_tellPile 45 = .ok (.bipush 16, 2) := by decide +kernel
theorem dX3_tellPile_47 : decode cX3_tellPile 47 = .ok (.if_icmp .ne 13, 3) := by decide +kernel
theorem dX3_tellPile_50 : decode cX3_tellPile 50 = .ok (.aload_n 0, 1) := by decide +kernel
theorem dX3_tellPile_51 : decode cX3_tellPile 51 = .ok (.invokevirtual 133, 3) := by decide +kernel
theorem dX3_tellPile_54 : decode cX3_tellPile 54 = .ok (.iinc 1 1, 3) := by decide +kernel
theorem dX3_tellPile_57 : decode cX3_tellPile 57 = .ok (.goto (-38), 3) := by decide +kernel
theorem dX3_tellPile_60 : decode cX3_tellPile 60 = .ok (.aload_n 0, 1) := by decide +kernel
theorem dX3_tellPile_61 : decode cX3_tellPile 61 = .ok (.bipush 59, 2) := by decide +kernel
theorem dX3_tellPile_63 : decode cX3_tellPile 63 = .ok (.invokevirtual 75, 3) := by decide +kernel
theorem dX3_tellPile_66 : decode cX3_tellPile 66 = .ok (.pop, 1) := by decide +kernel
theorem dX3_tellPile_67 : decode cX3_tellPile 67 = .ok (.return_, 1) := by decide +kernel
theorem dX3_tellPiled_0 : decode cX3_tellPiled 0 = .ok (.aload_n 0, 1) := by decide +kernel
theorem dX3_tellPiled_1 : decode cX3_tellPiled 1 = .ok (.bipush 16, 2) := by decide +kernel
theorem dX3_tellPiled_3 : decode cX3_tellPiled 3 = .ok (.invokevirtual 75, 3) := by decide +kernel
theorem dX3_tellPiled_6 : decode cX3_tellPiled 6 = .ok (.istore_n 1, 1) := by decide +kernel
theorem dX3_tellPiled_7 : decode cX3_tellPiled 7 = .ok (.aload_n 0, 1) := by decide +kernel
theorem dX3_tellPiled_8 : decode cX3_tellPiled 8 = .ok (.iconst 5, 1) := by decide +kernel
theorem dX3_tellPiled_9 : decode cX3_tellPiled 9 = .ok (.invokevirtual 75, 3) := by decide +kernel
theorem dX3_tellPiled_12 : decode cX3_tellPiled 12 = .ok (.pop, 1) := by decide +kernel
theorem dX3_tellPiled_13 : decode cX3_tellPiled 13 = .ok (.iconst 1, 1) := by decide +kernel
theorem dX3_tellPiled_14 : decode cX3_tellPiled 14 = .ok (.istore_n 2, 1) := by decide +kernel
theorem dX3_tellPiled_15 : decode cX3_tellPiled 15 = .ok (.aload_n 0, 1) := by decide +kernel
theorem dX3_tellPiled_16 : decode cX3_tellPiled 16 = .ok (.getfield 33, 3) := by decide +kernel
theorem dX3_tellPiled_19 : decode cX3_tellPiled 19 = .ok (.getfield 45, 3) := by decide +kernel
theorem dX3_tellPiled_22 : decode cX3_tellPiled 22 = .ok (.aload_n 0, 1) := by decide +kernel
theorem dX3_tellPiled_23 : decode cX3_tellPiled 23 = .ok (.getfield 9, 3) := by decide +kernel
theorem dX3_tellPiled_26 : decode cX3_tellPiled 26 = .ok (.iaload, 1) := by decide +kernel
theorem dX3_tellPiled_27 : decode cX3_tellPiled 27 = .ok (.bipush 45, 2) := by decide +kernel
theorem dX3_tellPiled_29 : decode cX3_tellPiled 29 = .ok (.if_icmp .ne 12, 3) := by decide +kernel
theorem dX3_tellPiled_32 : decode cX3_tellPiled 32 = .ok (.aload_n 0, 1) := by decide +kernel
theorem dX3_tellPiled_33 : decode cX3_tellPiled 33 = .ok (.bipush 45, 2) := by decide +kernel
theorem dX3_tellPiled_35 : decode cX3_tellPiled 35 = .ok (.invokevirtual 75, 3) := by decide +kernel
theorem dX3_tellPiled_38 : decode cX3_tellPiled 38 = .ok (.pop, 1) := by decide +kernel
theorem dX3_tellPiled_39 : decode cX3_tellPiled 39 = .ok (.iconst (-1), 1) := by decide +kernel
theorem dX3_tellPiled_40 : decode cX3_tellPiled 40 = .ok (.istore_n 2, 1) := by decide +kernel
theorem dX3_tellPiled_41 : decode cX3_tellPiled 41 = .ok (.aload_n 0, 1) := by decide +kernel
theorem dX3_tellPiled_42 : decode cX3_tellPiled 42 = .ok (.bipush 17, 2) := by decide +kernel
theorem dX3_tellPiled_44 : decode cX3_tellPiled 44 = .ok (.invokevirtual 75, 3) := by decide +kernel
theorem dX3_tellPiled_47 : decode cX3_tellPiled 47 = .ok (.istore_n 3, 1) := by decide +kernel
theorem dX3_tellPiled_48 : decode cX3_tellPiled 48 = .ok (.aload_n 0, 1) := by decide +kernel
theorem dX3_tellPiled_49 : decode cX3_tellPiled 49 = .ok (.getfield 33, 3) := by decide +kernel
theorem dX3_tellPiled_52 : decode cX3_tellPiled 52 = .ok (.getfield 45, 3) := by decide +kernel
theorem dX3_tellPiled_55 : decode cX3_tellPiled 55 = .ok (.aload_n 0, 1) := by decide +kernel
theorem dX3_tellPiled_56 : decode cX3_tellPiled 56 = .ok (.getfield 9, 3) := by decide +kernel
theorem dX3_tellPiled_59 : decode cX3_tellPiled 59 = .ok (.iaload, 1) := by decide +kernel
theorem dX3_tellPiled_60 : decode cX3_tellPiled 60 = .ok (.bipush 6, 2) := by decide +kernel
theorem dX3_tellPiled_62 : decode cX3_tellPiled 62 = .ok (.if_icmp .ne 7, 3) := by decide +kernel
theorem dX3_tellPiled_65 : decode cX3_tellPiled 65 = .ok (.iconst 1, 1) := by decide +kernel
theorem dX3_tellPiled_66 : decode cX3_tellPiled 66 = .ok (.goto 4, 3) := by decide +kernel
theorem dX3_tellPiled_69 : decode cX3_tellPiled 69 = .ok (.iconst 0, 1) := by decide +kernel
theorem dX3_tellPiled_70 : decode cX3_tellPiled 70 = .ok (.istore 4, 2) := by decide +kernel
theorem dX3_tellPiled_72 : decode cX3_tellPiled 72 = .ok (.iload 4, 2) := by decide +kernel
theorem dX3_tellPiled_74 : decode cX3_tellPiled 74 = .ok (.ifCond .eq 10, 3) := by decide +kernel
theorem dX3_tellPiled_77 : decode cX3_tellPiled 77 = .ok (.aload_n 0, 1) := by decide +kernel
theorem dX3_tellPiled_78 : decode cX3_tellPiled 78 = .ok (.bipush 6, 2) := by decide +kernel
theorem dX3_tellPiled_80 : decode cX3_tellPiled 80 = .ok (.invokevirtual 75, 3) := by decide +kernel
theorem dX3_tellPiled_83 : decode cX3_tellPiled 83 = .ok (.pop, 1) := by decide +kernel
theorem dX3_tellPiled_84 : decode cX3_tellPiled 84 = .ok (.aload_n 0, 1) := by decide +kernel
theorem dX3_tellPiled_85 : decode cX3_tellPiled 85 = .ok (.getfield 15, 3) := by decide +kernel
theorem dX3_tellPiled_88 : decode cX3_tellPiled 88 = .ok (.ifCond .eq 4, 3) := by decide +kernel
theorem dX3_tellPiled_91 : decode cX3_tellPiled 91 = .ok (.return_, 1) := by decide +kernel
theorem dX3_tellPiled_92 : decode cX3_tellPiled 92 = .ok (.aload_n 0, 1) := by decide +kernel
theorem dX3_tellPiled_93 : decode cX3_tellPiled 93 = .ok (.iload_n 1, 1) := by decide +kernel
theorem dX3_tellPiled_94 : decode cX3_tellPiled 94 = .ok (.invokevirtual 102, 3) := by decide +kernel
theorem dX3_tellPiled_97 : decode cX3_tellPiled 97 = .ok (.istore 5, 2) := by decide +kernel
theorem dX3_tellPiled_99 : decode cX3_tellPiled 99 = .ok (.iload 5, 2) := by decide +kernel
theorem dX3_tellPiled_101 : decode cX3_tellPiled 101 = .ok (.iconst (-1), 1) := by decide +kernel
theorem dX3_tellPiled_102 : decode cX3_tellPiled 102 = .ok (.if_icmp .eq 25, 3) := by decide +kernel
theorem dX3_tellPiled_105 : decode cX3_tellPiled 105 = .ok (.aload_n 0, 1) := by decide +kernel
theorem dX3_tellPiled_106 : decode cX3_tellPiled 106 = .ok (.getfield 37, 3) := by decide +kernel
theorem dX3_tellPiled_109 : decode cX3_tellPiled 109 = .ok (.getfield 124, 3) := by decide +kernel
theorem dX3_tellPiled_112 : decode cX3_tellPiled 112 = .ok (.iload 5, 2) := by decide +kernel
theorem dX3_tellPiled_114 : decode cX3_tellPiled 114 = .ok (.invokevirtual 136, 3) := by decide +kernel
theorem dX3_tellPiled_117 : decode cX3_tellPiled 117 = .ok (.iconst (-1), 1) := by decide +kernel
theorem dX3_tellPiled_118 : decode cX3_tellPiled 118 = .ok (.if_icmp .eq 9, 3) := by decide +kernel
theorem dX3_tellPiled_121 : decode cX3_tellPiled 121 = .ok (.aload_n 0, 1) := by decide +kernel
theorem dX3_tellPiled_122 : decode cX3_tellPiled 122 = .ok (.iconst 3, 1) := by decide +kernel
theorem dX3_tellPiled_123 : decode cX3_tellPiled 123 = .ok (.iload_n 1, 1) := by decide +kernel
theorem dX3_tellPiled_124 : decode cX3_tellPiled 124 = .ok (.invokevirtual 87, 3) := by decide +kernel
theorem dX3_tellPiled_127 : decode cX3_tellPiled 127 = .ok (.aload_n 0, 1) := by decide +kernel
theorem dX3_tellPiled_128 : decode cX3_tellPiled 128 = .ok (.iload_n 3, 1) := by decide +kernel
theorem dX3_tellPiled_129 : decode cX3_tellPiled 129 = .ok (.iconst 0, 1) := by decide +kernel
theorem dX3_tellPiled_130 : decode cX3_tellPiled 130 = .ok (.sipush 999, 3) := by decide +kernel
theorem dX3_tellPiled_133 : decode cX3_tellPiled 133 = .ok (.invokevirtual 91, 3) := by decide +kernel
theorem dX3_tellPiled_136 : decode cX3_tellPiled 136 = .ok (.aload_n 0, 1) := by decide +kernel
theorem dX3_tellPiled_137 : decode cX3_tellPiled 137 = .ok (.getfield 21, 3) := by decide +kernel
theorem dX3_tellPiled_140 : decode cX3_tellPiled 140 = .ok (.ifCond .ne 24, 3) := by decide +kernel
theorem dX3_tellPiled_143 : decode cX3_tellPiled 143 = .ok (.aload_n 0, 1) := by decide +kernel
theorem dX3_tellPiled_144 : decode cX3_tellPiled 144 = .ok (.getfield 37, 3) := by decide +kernel
theorem dX3_tellPiled_147 : decode cX3_tellPiled 147 = .ok (.getfield 124, 3) := by decide +kernel
theorem dX3_tellPiled_150 : decode cX3_tellPiled 150 = .ok (.iload 5, 2) := by decide +kernel
theorem dX3_tellPiled_152 : decode cX3_tellPiled 152 = .ok (.iload_n 2, 1) := by decide +kernel
theorem dX3_tellPiled_153 : decode cX3_tellPiled 153 = .ok (.aload_n 0, 1) := by decide +kernel
theorem dX3_tellPiled_154 : decode cX3_tellPiled 154 = .ok (.iload_n 3, 1) := by decide +kernel
theorem dX3_tellPiled_155 : decode cX3_tellPiled 155 = .ok (.invokevirtual 95, 3) := by decide +kernel
theorem dX3_tellPiled_158 : decode cX3_tellPiled 158 = .ok (.imul, 1) := by decide +kernel
theorem dX3_tellPiled_159 : decode cX3_tellPiled 159 = .ok (.iload 4, 2) := by decide +kernel
theorem dX3_tellPiled_161 : decode cX3_tellPiled 161 = .ok (.invokevirtual 139, 3) := by decide +kernel
theorem dX3_tellPiled_164 : decode cX3_tellPiled 164 = .ok (.return_, 1) := by decide +kernel
theorem dX3_tellFly_0 : decode cX3_tellFly 0 = .ok (.aload_n 0, 1) := by decide +kernel
theorem dX3_tellFly_1 : decode cX3_tellFly 1 = .ok (.getfield 30, 3) := by decide +kernel
theorem dX3_tellFly_4 : decode cX3_tellFly 4 = .ok (.bipush 6, 2) := by decide +kernel
theorem dX3_tellFly_6 : decode cX3_tellFly 6 = .ok (.if_icmp .ne 9, 3) := by decide +kernel
theorem dX3_tellFly_9 : decode cX3_tellFly 9 = .ok (.aload_n 0, 1) := by decide +kernel
theorem dX3_tellFly_10 : decode cX3_tellFly 10 = .ok (.iconst 2, 1) := by decide +kernel
theorem dX3_tellFly_11 : decode cX3_tellFly 11 = .ok (.invokevirtual 66, 3) := by decide +kernel
theorem dX3_tellFly_14 : decode cX3_tellFly 14 = .ok (.return_, 1) := by decide +kernel
theorem dX3_tellFly_15 : decode cX3_tellFly 15 = .ok (.aload_n 0, 1) := by decide +kernel
theorem dX3_tellFly_16 : decode cX3_tellFly 16 = .ok (.dup, 1) := by decide +kernel
theorem dX3_tellFly_17 : decode cX3_tellFly 17 = .ok (.getfield 30, 3) := by decide +kernel
theorem dX3_tellFly_20 : decode cX3_tellFly 20 = .ok (.iconst 1, 1) := by decide +kernel
theorem dX3_tellFly_21 : decode cX3_tellFly 21 = .ok (.iadd, 1) := by decide +kernel
theorem dX3_tellFly_22 : decode cX3_tellFly 22 = .ok (.putfield 30, 3) := by decide +kernel
theorem dX3_tellFly_25 : decode cX3_tellFly 25 = .ok (.aload_n 0, 1) := by decide +kernel
theorem dX3_tellFly_26 : decode cX3_tellFly 26 = .ok (.iconst 4, 1) := by decide +kernel
theorem dX3_tellFly_27 : decode cX3_tellFly 27 = .ok (.invokevirtual 75, 3) := by decide +kernel
theorem dX3_tellFly_30 : decode cX3_tellFly 30 = .ok (.pop, 1) := by decide +kernel
theorem dX3_tellFly_31 : decode cX3_tellFly 31 = .ok (.aload_n 0, 1) := by decide +kernel
theorem dX3_tellFly_32 : decode cX3_tellFly 32 = .ok (.bipush 17, 2) := by decide +kernel
theorem dX3_tellFly_34 : decode cX3_tellFly 34 = .ok (.invokevirtual 75, 3) := by decide +kernel
theorem dX3_tellFly_37 : decode cX3_tellFly 37 = .ok (.istore_n 1, 1) := by decide +kernel
theorem dX3_tellFly_38 : decode cX3_tellFly 38 = .ok (.aload_n 0, 1) := by decide +kernel
theorem dX3_tellFly_39 : decode cX3_tellFly 39 = .ok (.bipush 7, 2) := by decide +kernel
theorem dX3_tellFly_41 : decode cX3_tellFly 41 = .ok (.invokevirtual 75, 3) := by decide +kernel
theorem dX3_tellFly_44 : decode cX3_tellFly 44 = .ok (.pop, 1) := by decide +kernel
theorem dX3_tellFly_45 : decode cX3_tellFly 45 = .ok (.aload_n 0, 1) := by decide +kernel
theorem dX3_tellFly_46 : decode cX3_tellFly 46 = .ok (.bipush 16, 2) := by decide +kernel
theorem dX3_tellFly_48 : decode cX3_tellFly 48 = .ok (.invokevirtual 75, 3) := by decide +kernel
theorem dX3_tellFly_51 : decode cX3_tellFly 51 = .ok (.istore_n 2, 1) := by decide +kernel
theorem dX3_tellFly_52 : decode cX3_tellFly 52 = .ok (.aload_n 0, 1) := by decide +kernel
theorem dX3_tellFly_53 : decode cX3_tellFly 53 = .ok (.bipush 17, 2) := by decide +kernel
theorem dX3_tellFly_55 : decode cX3_tellFly 55 = .ok (.invokevirtual 75, 3) := by decide +kernel
theorem dX3_tellFly_58 : decode cX3_tellFly 58 = .ok (.istore_n 3, 1) := by decide +kernel
theorem dX3_tellFly_59 : decode cX3_tellFly 59 = .ok (.aload_n 0, 1) := by decide +kernel
theorem dX3_tellFly_60 : decode cX3_tellFly 60 = .ok (.bipush 59, 2) := by decide +kernel
theorem dX3_tellFly_62 : decode cX3_tellFly 62 = .ok (.invokevirtual 75, 3) := by decide +kernel
theorem dX3_tellFly_65 : decode cX3_tellFly 65 = .ok (.pop, 1) := by decide +kernel
theorem dX3_tellFly_66 : decode cX3_tellFly 66 = .ok (.aload_n 0, 1) := by decide +kernel
theorem dX3_tellFly_67 : decode cX3_tellFly 67 = .ok (.getfield 15, 3) := by decide +kernel
theorem dX3_tellFly_70 : decode cX3_tellFly 70 = .ok (.ifCond .eq 4, 3) := by decide +kernel
theorem dX3_tellFly_73 : decode cX3_tellFly 73 = .ok (.return_, 1) := by decide +kernel
theorem dX3_tellFly_74 : decode cX3_tellFly 74 = .ok (.aload_n 0, 1) := by decide +kernel
theorem dX3_tellFly_75 : decode cX3_tellFly 75 = .ok (.iload_n 1, 1) := by decide +kernel
theorem dX3_tellFly_76 : decode cX3_tellFly 76 = .ok (.iconst 0, 1) := by decide +kernel
theorem dX3_tellFly_77 : decode cX3_tellFly 77 = .ok (.bipush 99, 2) := by decide +kernel
theorem dX3_tellFly_79 : decode cX3_tellFly 79 = .ok (.invokevirtual 91, 3) := by decide +kernel
theorem dX3_tellFly_82 : decode cX3_tellFly 82 = .ok (.aload_n 0, 1) := by decide +kernel
theorem dX3_tellFly_83 : decode cX3_tellFly 83 = .ok (.iload_n 2, 1) := by decide +kernel
theorem dX3_tellFly_84 : decode cX3_tellFly 84 = .ok (.invokevirtual 102, 3) := by decide +kernel
theorem dX3_tellFly_87 : decode cX3_tellFly 87 = .ok (.istore 4, 2) := by decide +kernel
theorem dX3_tellFly_89 : decode cX3_tellFly 89 = .ok (.iload 4, 2) := by decide +kernel
theorem dX3_tellFly_91 : decode cX3_tellFly 91 = .ok (.iconst (-1), 1) := by decide +kernel
theorem dX3_tellFly_92 : decode cX3_tellFly 92 = .ok (.if_icmp .eq 19, 3) := by decide +kernel
theorem dX3_tellFly_95 : decode cX3_tellFly 95 = .ok (.aload_n 0, 1) := by decide +kernel
theorem dX3_tellFly_96 : decode cX3_tellFly 96 = .ok (.iload_n 3, 1) := by decide +kernel
theorem dX3_tellFly_97 : decode cX3_tellFly 97 = .ok (.iconst 0, 1) := by decide +kernel
theorem dX3_tellFly_98 : decode cX3_tellFly 98 = .ok (.aload_n 0, 1) := by decide +kernel
theorem dX3_tellFly_99 : decode cX3_tellFly 99 = .ok (.getfield 37, 3) := by decide +kernel
theorem dX3_tellFly_102 : decode cX3_tellFly 102 = .ok (.getfield 143, 3) := by decide +kernel
theorem dX3_tellFly_105 : decode cX3_tellFly 105 = .ok (.iload 4, 2) := by decide +kernel
theorem dX3_tellFly_107 : decode cX3_tellFly 107 = .ok (.iaload, 1) := by decide +kernel
theorem dX3_tellFly_108 : decode cX3_tellFly 108 = .ok (.invokevirtual 91, 3) := by decide +kernel
theorem dX3_tellFly_111 : decode cX3_tellFly 111 = .ok (.aload_n 0, 1) := by decide +kernel
theorem dX3_tellFly_112 : decode cX3_tellFly 112 = .ok (.getfield 21, 3) := by decide +kernel
theorem dX3_tellFly_115 : decode cX3_tellFly 115 = .ok (.ifCond .ne 22, 3) := by decide +kernel
theorem dX3_tellFly_118 : decode cX3_tellFly 118 = .ok (.aload_n 0, 1) := by decide +kernel
theorem dX3_tellFly_119 : decode cX3_tellFly 119 = .ok (.getfield 37, 3) := by decide +kernel
theorem dX3_tellFly_122 : decode cX3_tellFly 122 = .ok (.aload_n 0, 1) := by decide +kernel
theorem dX3_tellFly_123 : decode cX3_tellFly 123 = .ok (.iload_n 1, 1) := by decide +kernel
theorem dX3_tellFly_124 : decode cX3_tellFly 124 = .ok (.invokevirtual 95, 3) := by decide +kernel
theorem dX3_tellFly_127 : decode cX3_tellFly 127 = .ok (.iload 4, 2) := by decide +kernel
theorem dX3_tellFly_129 : decode cX3_tellFly 129 = .ok (.aload_n 0, 1) := by decide +kernel
theorem dX3_tellFly_130 : decode cX3_tellFly 130 = .ok (.iload_n 3, 1) := by decide +kernel
theorem dX3_tellFly_131 : decode cX3_tellFly 131 = .ok (.invokevirtual 95, 3) := by decide +kernel
theorem dX3_tellFly_134 : decode cX3_tellFly 134 = .ok (.invokevirtual 146, 3) := by decide +kernel
theorem dX3_tellFly_137 : decode cX3_tellFly 137 = .ok (.return_, 1) := by decide +kernel
