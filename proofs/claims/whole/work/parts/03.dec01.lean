theorem dX3_expression_0 : decode cX3_expression 0 = .ok (.aload_n 0, 1) := by decide +kernel
theorem dX3_expression_1 : decode cX3_expression 1 = .ok (.iload_n 1, 1) := by decide +kernel
theorem dX3_expression_2 : decode cX3_expression 2 = .ok (.invokevirtual 149, 3) := by decide +kernel
theorem dX3_expression_5 : decode cX3_expression 5 = .ok (.iconst 0, 1) := by decide +kernel
theorem dX3_expression_6 : decode cX3_expression 6 = .ok (.istore_n 2, 1) := by decide +kernel
theorem dX3_expression_7 : decode cX3_expression 7 = .ok (.iload_n 2, 1) := by decide +kernel
theorem dX3_expression_8 : decode cX3_expression 8 = .ok (.sipush 400, 3) := by decide +kernel
theorem dX3_expression_11 : decode cX3_expression 11 = .ok (.if_icmp .gt 63, 3) := by decide +kernel
theorem dX3_expression_14 : decode cX3_expression 14 = .ok (.aload_n 0, 1) := by decide +kernel
theorem dX3_expression_15 : decode cX3_expression 15 = .ok (.getfield 15, 3) := by decide +kernel
theorem dX3_expression_18 : decode cX3_expression 18 = .ok (.ifCond .ne 56, 3) := by decide +kernel
theorem dX3_expression_21 : decode cX3_expression 21 = .ok (.aload_n 0, 1) := by decide +kernel
theorem dX3_expression_22 : decode cX3_expression 22 = .ok (.getfield 33, 3) := by decide +kernel
theorem dX3_expression_25 : decode cX3_expression 25 = .ok (.getfield 45, 3) := by decide +kernel
theorem dX3_expression_28 : decode cX3_expression 28 = .ok (.aload_n 0, 1) := by decide +kernel
theorem dX3_expression_29 : decode cX3_expression 29 = .ok (.getfield 9, 3) := by decide +kernel
theorem dX3_expression_32 : decode cX3_expression 32 = .ok (.iaload, 1) := by decide +kernel
theorem dX3_expression_33 : decode cX3_expression 33 = .ok (.istore_n 3, 1) := by decide +kernel
theorem dX3_expression_34 : decode cX3_expression 34 = .ok (.iload_n 3, 1) := by decide +kernel
theorem dX3_expression_35 : decode cX3_expression 35 = .ok (.bipush 43, 2) := by decide +kernel
theorem dX3_expression_37 : decode cX3_expression 37 = .ok (.if_icmp .eq 10, 3) := by decide +kernel
theorem dX3_expression_40 : decode cX3_expression 40 = .ok (.iload_n 3, 1) := by decide +kernel
theorem dX3_expression_41 : decode cX3_expression 41 = .ok (.bipush 45, 2) := by decide +kernel
theorem dX3_expression_43 : decode cX3_expression 43 = .ok (.if_icmp .eq 4, 3) := by decide +kernel
theorem dX3_expression_46 : decode cX3_expression 46 = .ok (.return_, 1) := by decide +kernel
theorem dX3_expression_47 : decode cX3_expression 47 = .ok (.aload_n 0, 1) := by decide +kernel
theorem dX3_expression_48 : decode cX3_expression 48 = .ok (.iload_n 3, 1) := by decide +kernel
theorem dX3_expression_49 : decode cX3_expression 49 = .ok (.invokevirtual 75, 3) := by decide +kernel
theorem dX3_expression_52 : decode cX3_expression 52 = .ok (.pop, 1) := by decide +kernel
theorem dX3_expression_53 : decode cX3_expression 53 = .ok (.aload_n 0, 1) := by decide +kernel
theorem dX3_expression_54 : decode cX3_expression 54 = .ok (.iload_n 1, 1) := by decide +kernel
theorem dX3_expression_55 : decode cX3_expression 55 = .ok (.invokevirtual 149, 3) := by decide +kernel
theorem dX3_expression_58 : decode cX3_expression 58 = .ok (.aload_n 0, 1) := by decide +kernel
theorem dX3_expression_59 : decode cX3_expression 59 = .ok (.getfield 37, 3) := by decide +kernel
theorem dX3_expression_62 : decode cX3_expression 62 = .ok (.iload_n 3, 1) := by decide +kernel
theorem dX3_expression_63 : decode cX3_expression 63 = .ok (.iconst 0, 1) := by decide +kernel
theorem dX3_expression_64 : decode cX3_expression 64 = .ok (.invokevirtual 111, 3) := by decide +kernel
theorem dX3_expression_67 : decode cX3_expression 67 = .ok (.pop, 1) := by decide +kernel
theorem dX3_expression_68 : decode cX3_expression 68 = .ok (.iinc 2 1, 3) := by decide +kernel
theorem dX3_expression_71 : decode cX3_expression 71 = .ok (.goto (-64), 3) := by decide +kernel
theorem dX3_expression_74 : decode cX3_expression 74 = .ok (.return_, 1) := by decide +kernel
theorem dX3_part_0 : decode cX3_part 0 = .ok (.aload_n 0, 1) := by decide +kernel
theorem dX3_part_1 : decode cX3_part 1 = .ok (.iload_n 1, 1) := by decide +kernel
theorem dX3_part_2 : decode cX3_part 2 = .ok (.invokevirtual 152, 3) := by decide +kernel
theorem dX3_part_5 : decode cX3_part 5 = .ok (.iconst 0, 1) := by decide +kernel
theorem dX3_part_6 : decode cX3_part 6 = .ok (.istore_n 2, 1) := by decide +kernel
theorem dX3_part_7 : decode cX3_part 7 = .ok (.iload_n 2, 1) := by decide +kernel
theorem dX3_part_8 : decode cX3_part 8 = .ok (.sipush 400, 3) := by decide +kernel
theorem dX3_part_11 : decode cX3_part 11 = .ok (.if_icmp .gt 63, 3) := by decide +kernel
theorem dX3_part_14 : decode cX3_part 14 = .ok (.aload_n 0, 1) := by decide +kernel
theorem dX3_part_15 : decode cX3_part 15 = .ok (.getfield 15, 3) := by decide +kernel
theorem dX3_part_18 : decode cX3_part 18 = .ok (.ifCond .ne 56, 3) := by decide +kernel
theorem dX3_part_21 : decode cX3_part 21 = .ok (.aload_n 0, 1) := by decide +kernel
theorem dX3_part_22 : decode cX3_part 22 = .ok (.getfield 33, 3) := by decide +kernel
theorem dX3_part_25 : decode cX3_part 25 = .ok (.getfield 45, 3) := by decide +kernel
theorem dX3_part_28 : decode cX3_part 28 = .ok (.aload_n 0, 1) := by decide +kernel
theorem dX3_part_29 : decode cX3_part 29 = .ok (.getfield 9, 3) := by decide +kernel
theorem dX3_part_32 : decode cX3_part 32 = .ok (.iaload, 1) := by decide +kernel
theorem dX3_part_33 : decode cX3_part 33 = .ok (.istore_n 3, 1) := by decide +kernel
theorem dX3_part_34 : decode cX3_part 34 = .ok (.iload_n 3, 1) := by decide +kernel
theorem dX3_part_35 : decode cX3_part 35 = .ok (.bipush 42, 2) := by decide +kernel
theorem dX3_part_37 : decode cX3_part 37 = .ok (.if_icmp .eq 10, 3) := by decide +kernel
theorem dX3_part_40 : decode cX3_part 40 = .ok (.iload_n 3, 1) := by decide +kernel
theorem dX3_part_41 : decode cX3_part 41 = .ok (.bipush 47, 2) := by decide +kernel
theorem dX3_part_43 : decode cX3_part 43 = .ok (.if_icmp .eq 4, 3) := by decide +kernel
theorem dX3_part_46 : decode cX3_part 46 = .ok (.return_, 1) := by decide +kernel
theorem dX3_part_47 : decode cX3_part 47 = .ok (.aload_n 0, 1) := by decide +kernel
theorem dX3_part_48 : decode cX3_part 48 = .ok (.iload_n 3, 1) := by decide +kernel
theorem dX3_part_49 : decode cX3_part 49 = .ok (.invokevirtual 75, 3) := by decide +kernel
theorem dX3_part_52 : decode cX3_part 52 = .ok (.pop, 1) := by decide +kernel
theorem dX3_part_53 : decode cX3_part 53 = .ok (.aload_n 0, 1) := by decide +kernel
theorem dX3_part_54 : decode cX3_part 54 = .ok (.iload_n 1, 1) := by decide +kernel
theorem dX3_part_55 : decode cX3_part 55 = .ok (.invokevirtual 152, 3) := by decide +kernel
theorem dX3_part_58 : decode cX3_part 58 = .ok (.aload_n 0, 1) := by decide +kernel
theorem dX3_part_59 : decode cX3_part 59 = .ok (.getfield 37, 3) := by decide +kernel
theorem dX3_part_62 : decode cX3_part 62 = .ok (.iload_n 3, 1) := by decide +kernel
theorem dX3_part_63 : decode cX3_part 63 = .ok (.iconst 0, 1) := by decide +kernel
theorem dX3_part_64 : decode cX3_part 64 = .ok (.invokevirtual 111, 3) := by decide +kernel
theorem dX3_part_67 : decode cX3_part 67 = .ok (.pop, 1) := by decide +kernel
theorem dX3_part_68 : decode cX3_part 68 = .ok (.iinc 2 1, 3) := by decide +kernel
theorem dX3_part_71 : decode cX3_part 71 = .ok (.goto (-64), 3) := by decide +kernel
theorem dX3_part_74 : decode cX3_part 74 = .ok (.return_, 1) := by decide +kernel
theorem dX3_unit_0 : decode cX3_unit 0 = .ok (.aload_n 0, 1) := by decide +kernel
theorem dX3_unit_1 : decode cX3_unit 1 = .ok (.getfield 33, 3) := by decide +kernel
theorem dX3_unit_4 : decode cX3_unit 4 = .ok (.getfield 45, 3) := by decide +kernel
theorem dX3_unit_7 : decode cX3_unit 7 = .ok (.aload_n 0, 1) := by decide +kernel
theorem dX3_unit_8 : decode cX3_unit 8 = .ok (.getfield 9, 3) := by decide +kernel
theorem dX3_unit_11 : decode cX3_unit 11 = .ok (.iaload, 1) := by decide +kernel
theorem dX3_unit_12 : decode cX3_unit 12 = .ok (.istore_n 2, 1) := by decide +kernel
theorem dX3_unit_13 : decode cX3_unit 13 = .ok (.aload_n 0, 1) := by decide +kernel
theorem dX3_unit_14 : decode cX3_unit 14 = .ok (.getfield 15, 3) := by decide +kernel
theorem dX3_unit_17 : decode cX3_unit 17 = .ok (.ifCond .eq 4, 3) := by decide +kernel
theorem dX3_unit_20 : decode cX3_unit 20 = .ok (.return_, 1) := by decide +kernel
theorem dX3_unit_21 : decode cX3_unit 21 = .ok (.iload_n 2, 1) := by decide +kernel
theorem dX3_unit_22 : decode cX3_unit 22 = .ok (.bipush 17, 2) := by decide +kernel
theorem dX3_unit_24 : decode cX3_unit 24 = .ok (.if_icmp .ne 35, 3) := by decide +kernel
theorem dX3_unit_27 : decode cX3_unit 27 = .ok (.aload_n 0, 1) := by decide +kernel
theorem dX3_unit_28 : decode cX3_unit 28 = .ok (.getfield 37, 3) := by decide +kernel
theorem dX3_unit_31 : decode cX3_unit 31 = .ok (.iconst 1, 1) := by decide +kernel
theorem dX3_unit_32 : decode cX3_unit 32 = .ok (.aload_n 0, 1) := by decide +kernel
theorem dX3_unit_33 : decode cX3_unit 33 = .ok (.getfield 33, 3) := by decide +kernel
theorem dX3_unit_36 : decode cX3_unit 36 = .ok (.getfield 79, 3) := by decide +kernel
theorem dX3_unit_39 : decode cX3_unit 39 = .ok (.aload_n 0, 1) := by decide +kernel
theorem dX3_unit_40 : decode cX3_unit 40 = .ok (.getfield 9, 3) := by decide +kernel
theorem dX3_unit_43 : decode cX3_unit 43 = .ok (.laload, 1) := by decide +kernel
theorem dX3_unit_44 : decode cX3_unit 44 = .ok (.l2i, 1) := by decide +kernel
theorem dX3_unit_45 : decode cX3_unit 45 = .ok (.invokevirtual 111, 3) := by decide +kernel
theorem dX3_unit_48 : decode cX3_unit 48 = .ok (.pop, 1) := by decide +kernel
theorem dX3_unit_49 : decode cX3_unit 49 = .ok (.aload_n 0, 1) := by decide +kernel
theorem dX3_unit_50 : decode cX3_unit 50 = .ok (.bipush 17, 2) := by decide +kernel
theorem dX3_unit_52 : decode cX3_unit 52 = .ok (.invokevirtual 75, 3) := by decide +kernel
theorem dX3_unit_55 : decode cX3_unit 55 = .ok (.pop, 1) := by decide +kernel
theorem dX3_unit_56 : decode cX3_unit 56 = .ok (.goto 83, 3) := by decide +kernel
theorem dX3_unit_59 : decode cX3_unit 59 = .ok (.iload_n 2, 1) := by decide +kernel
theorem dX3_unit_60 : decode cX3_unit 60 = .ok (.bipush 11, 2) := by decide +kernel
theorem dX3_unit_62 : decode cX3_unit 62 = .ok (.if_icmp .lt 28, 3) := by decide +kernel
theorem dX3_unit_65 : decode cX3_unit 65 = .ok (.iload_n 2, 1) := by decide +kernel
theorem dX3_unit_66 : decode cX3_unit 66 = .ok (.bipush 15, 2) := by decide +kernel
theorem dX3_unit_68 : decode cX3_unit 68 = .ok (.if_icmp .gt 22, 3) := by decide +kernel
theorem dX3_unit_71 : decode cX3_unit 71 = .ok (.aload_n 0, 1) := by decide +kernel
theorem dX3_unit_72 : decode cX3_unit 72 = .ok (.getfield 37, 3) := by decide +kernel
theorem dX3_unit_75 : decode cX3_unit 75 = .ok (.iconst 2, 1) := by decide +kernel
theorem dX3_unit_76 : decode cX3_unit 76 = .ok (.iload_n 2, 1) := by decide +kernel
theorem dX3_unit_77 : decode cX3_unit 77 = .ok (.invokevirtual 111, 3) := by decide +kernel
theorem dX3_unit_80 : decode cX3_unit 80 = .ok (.pop, 1) := by decide +kernel
theorem dX3_unit_81 : decode cX3_unit 81 = .ok (.aload_n 0, 1) := by decide +kernel
theorem dX3_unit_82 : decode cX3_unit 82 = .ok (.iload_n 2, 1) := by decide +kernel
theorem dX3_unit_83 : decode cX3_unit 83 = .ok (.invokevirtual 75, 3) := by decide +kernel
theorem dX3_unit_86 : decode cX3_unit 86 = .ok (.pop, 1) := by decide +kernel
theorem dX3_unit_87 : decode cX3_unit 87 = .ok (.goto 52, 3) := by decide +kernel
theorem dX3_unit_90 : decode cX3_unit 90 = .ok (.iload_n 2, 1) := by decide +kernel
theorem dX3_unit_91 : decode cX3_unit 91 = .ok (.bipush 40, 2) := by decide +kernel
theorem dX3_unit_93 : decode cX3_unit 93 = .ok (.if_icmp .eq 11, 3) := by decide +kernel
theorem dX3_unit_96 : decode cX3_unit 96 = .ok (.aload_n 0, 1) := by decide +kernel
theorem dX3_unit_97 : decode cX3_unit 97 = .ok (.iconst 1, 1) := by decide +kernel
theorem dX3_unit_98 : decode cX3_unit 98 = .ok (.invokevirtual 66, 3) := by decide +kernel
theorem dX3_unit_101 : decode cX3_unit 101 = .ok (.goto 38, 3) := by decide +kernel
theorem dX3_unit_104 : decode cX3_unit 104 = .ok (.iload_n 1, 1) := by decide +kernel
theorem dX3_unit_105 : decode cX3_unit 105 = .ok (.bipush 6, 2) := by decide +kernel
theorem dX3_unit_107 : decode cX3_unit 107 = .ok (.if_icmp .ne 11, 3) := by decide +kernel
theorem dX3_unit_110 : decode cX3_unit 110 = .ok (.aload_n 0, 1) := by decide +kernel
theorem dX3_unit_111 : decode cX3_unit 111 = .ok (.iconst 2, 1) := by decide +kernel
theorem dX3_unit_112 : decode cX3_unit 112 = .ok (.invokevirtual 66, 3) := by decide +kernel
theorem dX3_unit_115 : decode cX3_unit 115 = .ok (.goto 24, 3) := by decide +kernel
theorem dX3_unit_118 : decode cX3_unit 118 = .ok (.aload_n 0, 1) := by decide +kernel
theorem dX3_unit_119 : decode cX3_unit 119 = .ok (.bipush 40, 2) := by decide +kernel
theorem dX3_unit_121 : decode cX3_unit 121 = .ok (.invokevirtual 75, 3) := by decide +kernel
theorem dX3_unit_124 : decode cX3_unit 124 = .ok (.pop, 1) := by decide +kernel
theorem dX3_unit_125 : decode cX3_unit 125 = .ok (.aload_n 0, 1) := by decide +kernel
theorem dX3_unit_126 : decode cX3_unit 126 = .ok (.iload_n 1, 1) := by decide +kernel
theorem dX3_unit_127 : decode cX3_unit 127 = .ok (.iconst 1, 1) := by decide +kernel
theorem dX3_unit_128 : decode cX3_unit 128 = .ok (.iadd, 1) := by decide +kernel
theorem dX3_unit_129 : decode cX3_unit 129 = .ok (.invokevirtual 108, 3) := by decide +kernel
theorem dX3_unit_132 : decode cX3_unit 132 = .ok (.aload_n 0, 1) := by decide +kernel
theorem dX3_unit_133 : decode cX3_unit 133 = .ok (.bipush 41, 2) := by decide +kernel
theorem dX3_unit_135 : decode cX3_unit 135 = .ok (.invokevirtual 75, 3) := by decide +kernel
theorem dX3_unit_138 : decode cX3_unit 138 = .ok (.pop, 1) := by decide +kernel
theorem dX3_unit_139 : decode cX3_unit 139 = .ok (.return_, 1) := by decide +kernel
theorem dX3_take_0 : decode cX3_take 0 = .ok (.aload_n 0, 1) := by decide +kernel
theorem dX3_take_1 : decode cX3_take 1 = .ok (.getfield 9, 3) := by decide +kernel
theorem dX3_take_4 : decode cX3_take 4 = .ok (.istore_n 2, 1) := by decide +kernel
theorem dX3_take_5 : decode cX3_take 5 = .ok (.aload_n 0, 1) := by decide +kernel
theorem dX3_take_6 : decode cX3_take 6 = .ok (.getfield 15, 3) := by decide +kernel
theorem dX3_take_9 : decode cX3_take 9 = .ok (.ifCond .eq 5, 3) := by decide +kernel
theorem dX3_take_12 : decode cX3_take 12 = .ok (.iload_n 2, 1) := by decide +kernel
theorem dX3_take_13 : decode cX3_take 13 = .ok (.ireturn, 1) := by decide +kernel
theorem dX3_take_14 : decode cX3_take 14 = .ok (.aload_n 0, 1) := by decide +kernel
theorem dX3_take_15 : decode cX3_take 15 = .ok (.getfield 33, 3) := by decide +kernel
theorem dX3_take_18 : decode cX3_take 18 = .ok (.getfield 45, 3) := by decide +kernel
theorem dX3_take_21 : decode cX3_take 21 = .ok (.aload_n 0, 1) := by decide +kernel
theorem dX3_take_22 : decode cX3_take 22 = .ok (.getfield 9, 3) := by decide +kernel
theorem dX3_take_25 : decode cX3_take 25 = .ok (.iaload, 1) := by decide +kernel
theorem dX3_take_26 : decode cX3_take 26 = .ok (.iload_n 1, 1) := by decide +kernel
theorem dX3_take_27 : decode cX3_take 27 = .ok (.if_icmp .eq 11, 3) := by decide +kernel
theorem dX3_take_30 : decode cX3_take 30 = .ok (.aload_n 0, 1) := by decide +kernel
theorem dX3_take_31 : decode cX3_take 31 = .ok (.iconst 1, 1) := by decide +kernel
theorem dX3_take_32 : decode cX3_take 32 = .ok (.invokevirtual 66, 3) := by decide +kernel
theorem dX3_take_35 : decode cX3_take 35 = .ok (.goto 31, 3) := by decide +kernel
theorem dX3_take_38 : decode cX3_take 38 = .ok (.aload_n 0, 1) := by decide +kernel
theorem dX3_take_39 : decode cX3_take 39 = .ok (.getfield 9, 3) := by decide +kernel
theorem dX3_take_42 : decode cX3_take 42 = .ok (.sipush 400, 3) := by decide +kernel
theorem dX3_take_45 : decode cX3_take 45 = .ok (.if_icmp .lt 11, 3) := by decide +kernel
theorem dX3_take_48 : decode cX3_take 48 = .ok (.aload_n 0, 1) := by decide +kernel
theorem dX3_take_49 : decode cX3_take 49 = .ok (.iconst 2, 1) := by decide +kernel
theorem dX3_take_50 : decode cX3_take 50 = .ok (.invokevirtual 66, 3) := by decide +kernel
theorem dX3_take_53 : decode cX3_take 53 = .ok (.goto 13, 3) := by decide +kernel
theorem dX3_take_56 : decode cX3_take 56 = .ok (.aload_n 0, 1) := by decide +kernel
theorem dX3_take_57 : decode cX3_take 57 = .ok (.dup, 1) := by decide +kernel
theorem dX3_take_58 : decode cX3_take 58 = .ok (.getfield 9, 3) := by decide +kernel
theorem dX3_take_61 : decode cX3_take 61 = .ok (.iconst 1, 1) := by decide +kernel
theorem dX3_take_62 : decode cX3_take 62 = .ok (.iadd, 1) := by decide +kernel
theorem dX3_take_63 : decode cX3_take 63 = .ok (.putfield 9, 3) := by decide +kernel
theorem dX3_take_66 : decode cX3_take 66 = .ok (.iload_n 2, 1) := by decide +kernel
theorem dX3_take_67 : decode cX3_take 67 = .ok (.ireturn, 1) := by decide +kernel
theorem dX3_fail_0 : decode cX3_fail 0 = .ok (.aload_n 0, 1) := by decide +kernel
theorem dX3_fail_1 : decode cX3_fail 1 = .ok (.getfield 15, 3) := by decide +kernel
theorem dX3_fail_4 : decode cX3_fail 4 = .ok (.ifCond .ne 24, 3) := by decide +kernel
theorem dX3_fail_7 : decode cX3_fail 7 = .ok (.aload_n 0, 1) := by decide +kernel
theorem dX3_fail_8 : decode cX3_fail 8 = .ok (.iload_n 1, 1) := by decide +kernel
theorem dX3_fail_9 : decode cX3_fail 9 = .ok (.putfield 15, 3) := by decide +kernel
theorem dX3_fail_12 : decode cX3_fail 12 = .ok (.aload_n 0, 1) := by decide +kernel
theorem dX3_fail_13 : decode cX3_fail 13 = .ok (.aload_n 0, 1) := by decide +kernel
theorem dX3_fail_14 : decode cX3_fail 14 = .ok (.getfield 33, 3) := by decide +kernel
theorem dX3_fail_17 : decode cX3_fail 17 = .ok (.getfield 155, 3) := by decide +kernel
theorem dX3_fail_20 : decode cX3_fail 20 = .ok (.aload_n 0, 1) := by decide +kernel
theorem dX3_fail_21 : decode cX3_fail 21 = .ok (.getfield 9, 3) := by decide +kernel
theorem dX3_fail_24 : decode cX3_fail 24 = .ok (.iaload, 1) := by decide +kernel
theorem dX3_fail_25 : decode cX3_fail 25 = .ok (.putfield 18, 3) := by decide +kernel
theorem dX3_fail_28 : decode cX3_fail 28 = .ok (.return_, 1) := by decide +kernel
theorem dX3_slipAt_0 : decode cX3_slipAt 0 = .ok (.aload_n 0, 1) := by decide +kernel
theorem dX3_slipAt_1 : decode cX3_slipAt 1 = .ok (.getfield 21, 3) := by decide +kernel
theorem dX3_slipAt_4 : decode cX3_slipAt 4 = .ok (.ifCond .ne 21, 3) := by decide +kernel
theorem dX3_slipAt_7 : decode cX3_slipAt 7 = .ok (.aload_n 0, 1) := by decide +kernel
theorem dX3_slipAt_8 : decode cX3_slipAt 8 = .ok (.iload_n 1, 1) := by decide +kernel
theorem dX3_slipAt_9 : decode cX3_slipAt 9 = .ok (.putfield 21, 3) := by decide +kernel
theorem dX3_slipAt_12 : decode cX3_slipAt 12 = .ok (.aload_n 0, 1) := by decide +kernel
theorem dX3_slipAt_13 : decode cX3_slipAt 13 = .ok (.aload_n 0, 1) := by decide +kernel
theorem dX3_slipAt_14 : decode cX3_slipAt 14 = .ok (.getfield 33, 3) := by decide +kernel
theorem dX3_slipAt_17 : decode cX3_slipAt 17 = .ok (.getfield 155, 3) := by decide +kernel
theorem dX3_slipAt_20 : decode cX3_slipAt 20 = .ok (.iload_n 2, 1) := by decide +kernel
theorem dX3_slipAt_21 : decode cX3_slipAt 21 = .ok (.iaload, 1) := by decide +kernel
theorem dX3_slipAt_22 : decode cX3_slipAt 22 = .ok (.putfield 24, 3) := by decide +kernel
theorem dX3_slipAt_25 : decode cX3_slipAt 25 = .ok (.return_, 1) := by decide +kernel
theorem dX3_checkInt_0 : decode cX3_checkInt 0 = .ok (.aload_n 0, 1) := by decide +kernel
theorem dX3_checkInt_1 : decode cX3_checkInt 1 = .ok (.iload_n 1, 1) := by decide +kernel
theorem dX3_checkInt_2 : decode cX3_checkInt 2 = .ok (.invokevirtual 95, 3) := by decide +kernel
theorem dX3_checkInt_5 : decode cX3_checkInt 5 = .ok (.iload_n 2, 1) := by decide +kernel
theorem dX3_checkInt_6 : decode cX3_checkInt 6 = .ok (.if_icmp .lt 12, 3) := by decide +kernel
theorem dX3_checkInt_9 : decode cX3_checkInt 9 = .ok (.aload_n 0, 1) := by decide +kernel
theorem dX3_checkInt_10 : decode cX3_checkInt 10 = .ok (.iload_n 1, 1) := by decide +kernel
theorem dX3_checkInt_11 : decode cX3_checkInt 11 = .ok (.invokevirtual 95, 3) := by decide +kernel
theorem dX3_checkInt_14 : decode cX3_checkInt 14 = .ok (.iload_n 3, 1) := by decide +kernel
theorem dX3_checkInt_15 : decode cX3_checkInt 15 = .ok (.if_icmp .le 9, 3) := by decide +kernel
theorem dX3_checkInt_18 : decode cX3_checkInt 18 = .ok (.aload_n 0, 1) := by decide +kernel
theorem dX3_checkInt_19 : decode cX3_checkInt 19 = .ok (.iconst 5, 1) := by decide +kernel
theorem dX3_checkInt_20 : decode cX3_checkInt 20 = .ok (.iload_n 1, 1) := by decide +kernel
theorem dX3_checkInt_21 : decode cX3_checkInt 21 = .ok (.invokevirtual 87, 3) := by decide +kernel
theorem dX3_checkInt_24 : decode cX3_checkInt 24 = .ok (.return_, 1) := by decide +kernel
theorem dX3_intAt_0 : decode cX3_intAt 0 = .ok (.aload_n 0, 1) := by decide +kernel
theorem dX3_intAt_1 : decode cX3_intAt 1 = .ok (.getfield 33, 3) := by decide +kernel
theorem dX3_intAt_4 : decode cX3_intAt 4 = .ok (.getfield 79, 3) := by decide +kernel
theorem dX3_intAt_7 : decode cX3_intAt 7 = .ok (.iload_n 1, 1) := by decide +kernel
theorem dX3_intAt_8 : decode cX3_intAt 8 = .ok (.laload, 1) := by decide +kernel
theorem dX3_intAt_9 : decode cX3_intAt 9 = .ok (.l2i, 1) := by decide +kernel
theorem dX3_intAt_10 : decode cX3_intAt 10 = .ok (.ireturn, 1) := by decide +kernel
theorem dX3_knownBook_0 : decode cX3_knownBook 0 = .ok (.aload_n 0, 1) := by decide +kernel
theorem dX3_knownBook_1 : decode cX3_knownBook 1 = .ok (.getfield 37, 3) := by decide +kernel
theorem dX3_knownBook_4 : decode cX3_knownBook 4 = .ok (.aload_n 0, 1) := by decide +kernel
theorem dX3_knownBook_5 : decode cX3_knownBook 5 = .ok (.getfield 33, 3) := by decide +kernel
theorem dX3_knownBook_8 : decode cX3_knownBook 8 = .ok (.getfield 79, 3) := by decide +kernel
theorem dX3_knownBook_11 : decode cX3_knownBook 11 = .ok (.iload_n 1, 1) := by decide +kernel
theorem dX3_knownBook_12 : decode cX3_knownBook 12 = .ok (.laload, 1) := by decide +kernel
theorem dX3_knownBook_13 : decode cX3_knownBook 13 = .ok (.invokevirtual 83, 3) := by decide +kernel
theorem dX3_knownBook_16 : decode cX3_knownBook 16 = .ok (.istore_n 2, 1) := by decide +kernel
theorem dX3_knownBook_17 : decode cX3_knownBook 17 = .ok (.iload_n 2, 1) := by decide +kernel
theorem dX3_knownBook_18 : decode cX3_knownBook 18 = .ok (.iconst (-1), 1) := by decide +kernel
theorem dX3_knownBook_19 : decode cX3_knownBook 19 = .ok (.if_icmp .ne 9, 3) := by decide +kernel
theorem dX3_knownBook_22 : decode cX3_knownBook 22 = .ok (.aload_n 0, 1) := by decide +kernel
theorem dX3_knownBook_23 : decode cX3_knownBook 23 = .ok (.iconst 4, 1) := by decide +kernel
theorem dX3_knownBook_24 : decode cX3_knownBook 24 = .ok (.iload_n 1, 1) := by decide +kernel
theorem dX3_knownBook_25 : decode cX3_knownBook 25 = .ok (.invokevirtual 87, 3) := by decide +kernel
theorem dX3_knownBook_28 : decode cX3_knownBook 28 = .ok (.iload_n 2, 1) := by decide +kernel
theorem dX3_knownBook_29 : decode cX3_knownBook 29 = .ok (.ireturn, 1) := by decide +kernel
theorem dX4_init_0 : decode cX4_init 0 = .ok (.aload_n 0, 1) := by decide +kernel
theorem dX4_init_1 : decode cX4_init 1 = .ok (.invokespecial 3, 3) := by decide +kernel
theorem dX4_init_4 : decode cX4_init 4 = .ok (.aload_n 0, 1) := by decide +kernel
theorem dX4_init_5 : decode cX4_init 5 = .ok (.iconst 0, 1) := by decide +kernel
theorem dX4_init_6 : decode cX4_init 6 = .ok (.putfield 9, 3) := by decide +kernel
theorem dX4_init_9 : decode cX4_init 9 = .ok (.aload_n 0, 1) := by decide +kernel
theorem dX4_init_10 : decode cX4_init 10 = .ok (.iconst 0, 1) := by decide +kernel
theorem dX4_init_11 : decode cX4_init 11 = .ok (.putfield 15, 3) := by decide +kernel
theorem dX4_init_14 : decode cX4_init 14 = .ok (.aload_n 0, 1) := by decide +kernel
theorem dX4_init_15 : decode cX4_init 15 = .ok (.bipush 50, 2) := by decide +kernel
theorem dX4_init_17 : decode cX4_init 17 = .ok (.newarray .int, 2) := by decide +kernel
theorem dX4_init_19 : decode cX4_init 19 = .ok (.putfield 18, 3) := by decide +kernel
theorem dX4_init_22 : decode cX4_init 22 = .ok (.aload_n 0, 1) := by decide +kernel
theorem dX4_init_23 : decode cX4_init 23 = .ok (.bipush 50, 2) := by decide +kernel
theorem dX4_init_25 : decode cX4_init 25 = .ok (.newarray .int, 2) := by decide +kernel
theorem dX4_init_27 : decode cX4_init 27 = .ok (.putfield 22, 3) := by decide +kernel
theorem dX4_init_30 : decode cX4_init 30 = .ok (.aload_n 0, 1) := by decide +kernel
theorem dX4_init_31 : decode cX4_init 31 = .ok (.bipush 50, 2) := by decide +kernel
theorem dX4_init_33 : decode cX4_init 33 = .ok (.newarray .int, 2) := by decide +kernel
theorem dX4_init_35 : decode cX4_init 35 = .ok (.putfield 25, 3) := by decide +kernel
theorem dX4_init_38 : decode cX4_init 38 = .ok (.aload_n 0, 1) := by decide +kernel
theorem dX4_init_39 : decode cX4_init 39 = .ok (.bipush 50, 2) := by decide +kernel
theorem dX4_init_41 : decode cX4_init 41 = .ok (.newarray .boolean, 2) := by decide +kernel
theorem dX4_init_43 : decode cX4_init 43 = .ok (.putfield 28, 3) := by decide +kernel
theorem dX4_init_46 : decode cX4_init 46 = .ok (.return_, 1) := by decide +kernel
theorem dX4_note_0 : decode cX4_note 0 = .ok (.aload_n 0, 1) := by decide +kernel
theorem dX4_note_1 : decode cX4_note 1 = .ok (.aload_n 0, 1) := by decide +kernel
theorem dX4_note_2 : decode cX4_note 2 = .ok (.getfield 15, 3) := by decide +kernel
theorem dX4_note_5 : decode cX4_note 5 = .ok (.iconst 1, 1) := by decide +kernel
theorem dX4_note_6 : decode cX4_note 6 = .ok (.iadd, 1) := by decide +kernel
theorem dX4_note_7 : decode cX4_note 7 = .ok (.bipush 50, 2) := by decide +kernel
theorem dX4_note_9 : decode cX4_note 9 = .ok (.irem, 1) := by decide +kernel
theorem dX4_note_10 : decode cX4_note 10 = .ok (.putfield 15, 3) := by decide +kernel
theorem dX4_note_13 : decode cX4_note 13 = .ok (.aload_n 0, 1) := by decide +kernel
theorem dX4_note_14 : decode cX4_note 14 = .ok (.getfield 18, 3) := by decide +kernel
theorem dX4_note_17 : decode cX4_note 17 = .ok (.aload_n 0, 1) := by decide +kernel
theorem dX4_note_18 : decode cX4_note 18 = .ok (.getfield 15, 3) := by decide +kernel
theorem dX4_note_21 : decode cX4_note 21 = .ok (.iload_n 1, 1) := by decide +kernel
theorem dX4_note_22 : decode cX4_note 22 = .ok (.iastore, 1) := by decide +kernel
theorem dX4_note_23 : decode cX4_note 23 = .ok (.aload_n 0, 1) := by decide +kernel
theorem dX4_note_24 : decode cX4_note 24 = .ok (.getfield 22, 3) := by decide +kernel
theorem dX4_note_27 : decode cX4_note 27 = .ok (.aload_n 0, 1) := by decide +kernel
theorem dX4_note_28 : decode cX4_note 28 = .ok (.getfield 15, 3) := by decide +kernel
theorem dX4_note_31 : decode cX4_note 31 = .ok (.iload_n 2, 1) := by decide +kernel
theorem dX4_note_32 : decode cX4_note 32 = .ok (.iastore, 1) := by decide +kernel
theorem dX4_note_33 : decode cX4_note 33 = .ok (.aload_n 0, 1) := by decide +kernel
theorem dX4_note_34 : decode cX4_note 34 = .ok (.getfield 25, 3) := by decide +kernel
theorem dX4_note_37 : decode cX4_note 37 = .ok (.aload_n 0, 1) := by decide +kernel
theorem dX4_note_38 : decode cX4_note 38 = .ok (.getfield 15, 3) := by decide +kernel
theorem dX4_note_41 : decode cX4_note 41 = .ok (.iload_n 3, 1) := by decide +kernel
theorem dX4_note_42 : decode cX4_note 42 = .ok (.iastore, 1) := by decide +kernel
theorem dX4_note_43 : decode cX4_note 43 = .ok (.aload_n 0, 1) := by decide +kernel
theorem dX4_note_44 : decode cX4_note 44 = .ok (.getfield 28, 3) := by decide +kernel
theorem dX4_note_47 : decode cX4_note 47 = .ok (.aload_n 0, 1) := by decide +kernel
theorem dX4_note_48 : decode cX4_note 48 = .ok (.getfield 15, 3) := by decide +kernel
theorem dX4_note_51 : decode cX4_note 51 = .ok (.iload 4, 2) := by decide +kernel
theorem dX4_note_53 : decode cX4_note 53 = .ok (.bastore, 1) := by decide +kernel
theorem dX4_note_54 : decode cX4_note 54 = .ok (.aload_n 0, 1) := by decide +kernel
theorem dX4_note_55 : decode cX4_note 55 = .ok (.bipush 50, 2) := by decide +kernel
theorem dX4_note_57 : decode cX4_note 57 = .ok (.aload_n 0, 1) := by decide +kernel
theorem dX4_note_58 : decode cX4_note 58 = .ok (.getfield 9, 3) := by decide +kernel
theorem dX4_note_61 : decode cX4_note 61 = .ok (.iconst 1, 1) := by decide +kernel
theorem dX4_note_62 : decode cX4_note 62 = .ok (.iadd, 1) := by decide +kernel
theorem dX4_note_63 : decode cX4_note 63 = .ok (.invokestatic 32, 3) := by decide +kernel
theorem dX4_note_66 : decode cX4_note 66 = .ok (.putfield 9, 3) := by decide +kernel
theorem dX4_note_69 : decode cX4_note 69 = .ok (.return_, 1) := by decide +kernel
theorem dX4_takeBack_0 : decode cX4_takeBack 0 = .ok (.aload_n 0, 1) := by decide +kernel
theorem dX4_takeBack_1 : decode cX4_takeBack 1 = .ok (.getfield 9, 3) := by decide +kernel
theorem dX4_takeBack_4 : decode cX4_takeBack 4 = .ok (.ifCond .ne 5, 3) := by decide +kernel
theorem dX4_takeBack_7 : decode cX4_takeBack 7 = .ok (.iconst 0, 1) := by decide +kernel
theorem dX4_takeBack_8 : decode cX4_takeBack 8 = .ok (.ireturn, 1) := by decide +kernel
theorem dX4_takeBack_9 : decode cX4_takeBack 9 = .ok (.aload_n 0, 1) := by decide +kernel
theorem dX4_takeBack_10 : decode cX4_takeBack 10 = .ok (.getfield 18, 3) := by decide +kernel
theorem dX4_takeBack_13 : decode cX4_takeBack 13 = .ok (.aload_n 0, 1) := by decide +kernel
theorem dX4_takeBack_14 : decode cX4_takeBack 14 = .ok (.getfield 15, 3) := by decide +kernel
theorem dX4_takeBack_17 : decode cX4_takeBack 17 = .ok (.iaload, 1) := by decide +kernel
theorem dX4_takeBack_18 : decode cX4_takeBack 18 = .ok (.lookupswitch 67 #[(1, 26), (2, 33)], 26) := by decide +kernel
theorem dX4_takeBack_44 : decode cX4_takeBack 44 = .ok (.aload_n 1, 1) := by decide +kernel
theorem dX4_takeBack_45 : decode cX4_takeBack 45 = .ok (.invokevirtual 38, 3) := by decide +kernel
theorem dX4_takeBack_48 : decode cX4_takeBack 48 = .ok (.goto 60, 3) := by decide +kernel
theorem dX4_takeBack_51 : decode cX4_takeBack 51 = .ok (.aload_n 1, 1) := by decide +kernel
theorem dX4_takeBack_52 : decode cX4_takeBack 52 = .ok (.aload_n 0, 1) := by decide +kernel
theorem dX4_takeBack_53 : decode cX4_takeBack 53 = .ok (.getfield 22, 3) := by decide +kernel
theorem dX4_takeBack_56 : decode cX4_takeBack 56 = .ok (.aload_n 0, 1) := by decide +kernel
theorem dX4_takeBack_57 : decode cX4_takeBack 57 = .ok (.getfield 15, 3) := by decide +kernel
theorem dX4_takeBack_60 : decode cX4_takeBack 60 = .ok (.iaload, 1) := by decide +kernel
theorem dX4_takeBack_61 : decode cX4_takeBack 61 = .ok (.aload_n 0, 1) := by decide +kernel
theorem dX4_takeBack_62 : decode cX4_takeBack 62 = .ok (.getfield 25, 3) := by decide +kernel
theorem dX4_takeBack_65 : decode cX4_takeBack 65 = .ok (.aload_n 0, 1) := by decide +kernel
theorem dX4_takeBack_66 : decode cX4_takeBack 66 = .ok (.getfield 15, 3) := by decide +kernel
theorem dX4_takeBack_69 : decode cX4_takeBack 69 = .ok (.iaload, 1) := by decide +kernel
theorem dX4_takeBack_70 : decode cX4_takeBack 70 = .ok (.aload_n 0, 1) := by decide +kernel
theorem dX4_takeBack_71 : decode cX4_takeBack 71 = .ok (.getfield 28, 3) := by decide +kernel
theorem dX4_takeBack_74 : decode cX4_takeBack 74 = .ok (.aload_n 0, 1) := by decide +kernel
theorem dX4_takeBack_75 : decode cX4_takeBack 75 = .ok (.getfield 15, 3) := by decide +kernel
theorem dX4_takeBack_78 : decode cX4_takeBack 78 = .ok (.baload, 1) := by decide +kernel
theorem dX4_takeBack_79 : decode cX4_takeBack 79 = .ok (.invokevirtual 43, 3) := by decide +kernel
theorem dX4_takeBack_82 : decode cX4_takeBack 82 = .ok (.goto 26, 3) := by decide +kernel
theorem dX4_takeBack_85 : decode cX4_takeBack 85 = .ok (.aload_n 1, 1) := by decide +kernel
theorem dX4_takeBack_86 : decode cX4_takeBack 86 = .ok (.aload_n 0, 1) := by decide +kernel
theorem dX4_takeBack_87 : decode cX4_takeBack 87 = .ok (.getfield 22, 3) := by decide +kernel
theorem dX4_takeBack_90 : decode cX4_takeBack 90 = .ok (.aload_n 0, 1) := by decide +kernel
theorem dX4_takeBack_91 : decode cX4_takeBack 91 = .ok (.getfield 15, 3) := by decide +kernel
theorem dX4_takeBack_94 : decode cX4_takeBack 94 = .ok (.iaload, 1) := by decide +kernel
theorem dX4_takeBack_95 : decode cX4_takeBack 95 = .ok (.aload_n 0, 1) := by decide +kernel
theorem dX4_takeBack_96 : decode cX4_takeBack 96 = .ok (.getfield 25, 3) := by decide +kernel
theorem dX4_takeBack_99 : decode cX4_takeBack 99 = .ok (.aload_n 0, 1) := by decide +kernel
theorem dX4_takeBack_100 : decode cX4_takeBack 100 = .ok (.getfield 15, 3) := by decide +kernel
theorem dX4_takeBack_103 : decode cX4_takeBack 103 = .ok (.iaload, 1) := by decide +kernel
theorem dX4_takeBack_104 : decode cX4_takeBack 104 = .ok (.ineg, 1) := by decide +kernel
theorem dX4_takeBack_105 : decode cX4_takeBack 105 = .ok (.invokevirtual 47, 3) := by decide +kernel
theorem dX4_takeBack_108 : decode cX4_takeBack 108 = .ok (.aload_n 0, 1) := by decide +kernel
theorem dX4_takeBack_109 : decode cX4_takeBack 109 = .ok (.aload_n 0, 1) := by decide +kernel
theorem dX4_takeBack_110 : decode cX4_takeBack 110 = .ok (.getfield 15, 3) := by decide +kernel
theorem dX4_takeBack_113 : decode cX4_takeBack 113 = .ok (.bipush 50, 2) := by decide +kernel
theorem dX4_takeBack_115 : decode cX4_takeBack 115 = .ok (.iadd, 1) := by decide +kernel
theorem dX4_takeBack_116 : decode cX4_takeBack 116 = .ok (.iconst 1, 1) := by decide +kernel
theorem dX4_takeBack_117 : decode cX4_takeBack 117 = .ok (.isub, 1) := by decide +kernel
theorem dX4_takeBack_118 : decode cX4_takeBack 118 = .ok (.bipush 50, 2) := by decide +kernel
theorem dX4_takeBack_120 : decode cX4_takeBack 120 = .ok (.irem, 1) := by decide +kernel
theorem dX4_takeBack_121 : decode cX4_takeBack 121 = .ok (.putfield 15, 3) := by decide +kernel
theorem dX4_takeBack_124 : decode cX4_takeBack 124 = .ok (.aload_n 0, 1) := by decide +kernel
theorem dX4_takeBack_125 : decode cX4_takeBack 125 = .ok (.dup, 1) := by decide +kernel
theorem dX4_takeBack_126 : decode cX4_takeBack 126 = .ok (.getfield 9, 3) := by decide +kernel
theorem dX4_takeBack_129 : decode cX4_takeBack 129 = .ok (.iconst 1, 1) := by decide +kernel
theorem dX4_takeBack_130 : decode cX4_takeBack 130 = .ok (.isub, 1) := by decide +kernel
theorem dX4_takeBack_131 : decode cX4_takeBack 131 = .ok (.putfield 9, 3) := by decide +kernel
theorem dX4_takeBack_134 : decode cX4_takeBack 134 = .ok (.iconst 1, 1) := by decide +kernel
theorem dX4_takeBack_135 : decode cX4_takeBack 135 = .ok (.ireturn, 1) := by decide +kernel
theorem dX5_init_0 : decode cX5_init 0 = .ok (.aload_n 0, 1) := by decide +kernel
theorem dX5_init_1 : decode cX5_init 1 = .ok (.invokespecial 3, 3) := by decide +kernel
theorem dX5_init_4 : decode cX5_init 4 = .ok (.aload_n 0, 1) := by decide +kernel
theorem dX5_init_5 : decode cX5_init 5 = .ok (.iconst 0, 1) := by decide +kernel
theorem dX5_init_6 : decode cX5_init 6 = .ok (.putfield 9, 3) := by decide +kernel
theorem dX5_init_9 : decode cX5_init 9 = .ok (.aload_n 0, 1) := by decide +kernel
theorem dX5_init_10 : decode cX5_init 10 = .ok (.bipush 6, 2) := by decide +kernel
theorem dX5_init_12 : decode cX5_init 12 = .ok (.newarray .int, 2) := by decide +kernel
theorem dX5_init_14 : decode cX5_init 14 = .ok (.putfield 15, 3) := by decide +kernel
theorem dX5_init_17 : decode cX5_init 17 = .ok (.aload_n 0, 1) := by decide +kernel
theorem dX5_init_18 : decode cX5_init 18 = .ok (.bipush 6, 2) := by decide +kernel
theorem dX5_init_20 : decode cX5_init 20 = .ok (.newarray .int, 2) := by decide +kernel
theorem dX5_init_22 : decode cX5_init 22 = .ok (.putfield 19, 3) := by decide +kernel
theorem dX5_init_25 : decode cX5_init 25 = .ok (.aload_n 0, 1) := by decide +kernel
theorem dX5_init_26 : decode cX5_init 26 = .ok (.bipush 6, 2) := by decide +kernel
theorem dX5_init_28 : decode cX5_init 28 = .ok (.newarray .boolean, 2) := by decide +kernel
theorem dX5_init_30 : decode cX5_init 30 = .ok (.putfield 22, 3) := by decide +kernel
theorem dX5_init_33 : decode cX5_init 33 = .ok (.return_, 1) := by decide +kernel
theorem dX5_put_0 : decode cX5_put 0 = .ok (.aload_n 0, 1) := by decide +kernel
theorem dX5_put_1 : decode cX5_put 1 = .ok (.getfield 9, 3) := by decide +kernel
theorem dX5_put_4 : decode cX5_put 4 = .ok (.bipush 6, 2) := by decide +kernel
theorem dX5_put_6 : decode cX5_put 6 = .ok (.if_icmp .ge 53, 3) := by decide +kernel
theorem dX5_put_9 : decode cX5_put 9 = .ok (.iload_n 1, 1) := by decide +kernel
theorem dX5_put_10 : decode cX5_put 10 = .ok (.ifCond .lt 49, 3) := by decide +kernel
theorem dX5_put_13 : decode cX5_put 13 = .ok (.iload_n 1, 1) := by decide +kernel
theorem dX5_put_14 : decode cX5_put 14 = .ok (.bipush 6, 2) := by decide +kernel
theorem dX5_put_16 : decode cX5_put 16 = .ok (.if_icmp .ge 43, 3) := by decide +kernel
theorem dX5_put_19 : decode cX5_put 19 = .ok (.aload_n 0, 1) := by decide +kernel
theorem dX5_put_20 : decode cX5_put 20 = .ok (.getfield 15, 3) := by decide +kernel
theorem dX5_put_23 : decode cX5_put 23 = .ok (.aload_n 0, 1) := by decide +kernel
theorem dX5_put_24 : decode cX5_put 24 = .ok (.getfield 9, 3) := by decide +kernel
theorem dX5_put_27 : decode cX5_put 27 = .ok (.iload_n 1, 1) := by decide +kernel
theorem dX5_put_28 : decode cX5_put 28 = .ok (.iastore, 1) := by decide +kernel
theorem dX5_put_29 : decode cX5_put 29 = .ok (.aload_n 0, 1) := by decide +kernel
theorem dX5_put_30 : decode cX5_put 30 = .ok (.getfield 19, 3) := by decide +kernel
theorem dX5_put_33 : decode cX5_put 33 = .ok (.aload_n 0, 1) := by decide +kernel
theorem dX5_put_34 : decode cX5_put 34 = .ok (.getfield 9, 3) := by decide +kernel
theorem dX5_put_37 : decode cX5_put 37 = .ok (.iload_n 2, 1) := by decide +kernel
theorem dX5_put_38 : decode cX5_put 38 = .ok (.iastore, 1) := by decide +kernel
theorem dX5_put_39 : decode cX5_put 39 = .ok (.aload_n 0, 1) := by decide +kernel
theorem dX5_put_40 : decode cX5_put 40 = .ok (.getfield 22, 3) := by decide +kernel
theorem dX5_put_43 : decode cX5_put 43 = .ok (.aload_n 0, 1) := by decide +kernel
theorem dX5_put_44 : decode cX5_put 44 = .ok (.getfield 9, 3) := by decide +kernel
theorem dX5_put_47 : decode cX5_put 47 = .ok (.iload_n 3, 1) := by decide +kernel
theorem dX5_put_48 : decode cX5_put 48 = .ok (.bastore, 1) := by decide +kernel
theorem dX5_put_49 : decode cX5_put 49 = .ok (.aload_n 0, 1) := by decide +kernel
theorem dX5_put_50 : decode cX5_put 50 = .ok (.dup, 1) := by decide +kernel
theorem dX5_put_51 : decode cX5_put 51 = .ok (.getfield 9, 3) := by decide +kernel
theorem dX5_put_54 : decode cX5_put 54 = .ok (.iconst 1, 1) := by decide +kernel
theorem dX5_put_55 : decode cX5_put 55 = .ok (.iadd, 1) := by decide +kernel
theorem dX5_put_56 : decode cX5_put 56 = .ok (.putfield 9, 3) := by decide +kernel
theorem dX5_put_59 : decode cX5_put 59 = .ok (.return_, 1) := by decide +kernel
theorem dX5_drop_0 : decode cX5_drop 0 = .ok (.aload_n 0, 1) := by decide +kernel
theorem dX5_drop_1 : decode cX5_drop 1 = .ok (.getfield 9, 3) := by decide +kernel
theorem dX5_drop_4 : decode cX5_drop 4 = .ok (.ifCond .le 13, 3) := by decide +kernel
theorem dX5_drop_7 : decode cX5_drop 7 = .ok (.aload_n 0, 1) := by decide +kernel
theorem dX5_drop_8 : decode cX5_drop 8 = .ok (.dup, 1) := by decide +kernel
theorem dX5_drop_9 : decode cX5_drop 9 = .ok (.getfield 9, 3) := by decide +kernel
theorem dX5_drop_12 : decode cX5_drop 12 = .ok (.iconst 1, 1) := by decide +kernel
theorem dX5_drop_13 : decode cX5_drop 13 = .ok (.isub, 1) := by decide +kernel
theorem dX5_drop_14 : decode cX5_drop 14 = .ok (.putfield 9, 3) := by decide +kernel
theorem dX5_drop_17 : decode cX5_drop 17 = .ok (.return_, 1) := by decide +kernel
theorem dX5_shift_0 : decode cX5_shift 0 = .ok (.iconst 0, 1) := by decide +kernel
theorem dX5_shift_1 : decode cX5_shift 1 = .ok (.iload_n 1, 1) := by decide +kernel
theorem dX5_shift_2 : decode cX5_shift 2 = .ok (.invokestatic 26, 3) := by decide +kernel
theorem dX5_shift_5 : decode cX5_shift 5 = .ok (.istore_n 3, 1) := by decide +kernel
theorem dX5_shift_6 : decode cX5_shift 6 = .ok (.iload_n 3, 1) := by decide +kernel
theorem dX5_shift_7 : decode cX5_shift 7 = .ok (.aload_n 0, 1) := by decide +kernel
theorem dX5_shift_8 : decode cX5_shift 8 = .ok (.getfield 9, 3) := by decide +kernel
theorem dX5_shift_11 : decode cX5_shift 11 = .ok (.if_icmp .ge 19, 3) := by decide +kernel
theorem dX5_shift_14 : decode cX5_shift 14 = .ok (.aload_n 0, 1) := by decide +kernel
theorem dX5_shift_15 : decode cX5_shift 15 = .ok (.getfield 19, 3) := by decide +kernel
theorem dX5_shift_18 : decode cX5_shift 18 = .ok (.iload_n 3, 1) := by decide +kernel
theorem dX5_shift_19 : decode cX5_shift 19 = .ok (.dup2, 1) := by decide +kernel
theorem dX5_shift_20 : decode cX5_shift 20 = .ok (.iaload, 1) := by decide +kernel
theorem dX5_shift_21 : decode cX5_shift 21 = .ok (.iload_n 2, 1) := by decide +kernel
theorem dX5_shift_22 : decode cX5_shift 22 = .ok (.iadd, 1) := by decide +kernel
theorem dX5_shift_23 : decode cX5_shift 23 = .ok (.iastore, 1) := by decide +kernel
theorem dX5_shift_24 : decode cX5_shift 24 = .ok (.iinc 3 1, 3) := by decide +kernel
theorem dX5_shift_27 : decode cX5_shift 27 = .ok (.goto (-21), 3) := by decide +kernel
theorem dX5_shift_30 : decode cX5_shift 30 = .ok (.return_, 1) := by decide +kernel
theorem dX5_levelOf_0 : decode cX5_levelOf 0 = .ok (.iconst 0, 1) := by decide +kernel
theorem dX5_levelOf_1 : decode cX5_levelOf 1 = .ok (.istore_n 2, 1) := by decide +kernel
theorem dX5_levelOf_2 : decode cX5_levelOf 2 = .ok (.iload_n 2, 1) := by decide +kernel
theorem dX5_levelOf_3 : decode cX5_levelOf 3 = .ok (.aload_n 0, 1) := by decide +kernel
theorem dX5_levelOf_4 : decode cX5_levelOf 4 = .ok (.getfield 9, 3) := by decide +kernel
theorem dX5_levelOf_7 : decode cX5_levelOf 7 = .ok (.if_icmp .ge 21, 3) := by decide +kernel
theorem dX5_levelOf_10 : decode cX5_levelOf 10 = .ok (.aload_n 0, 1) := by decide +kernel
theorem dX5_levelOf_11 : decode cX5_levelOf 11 = .ok (.getfield 15, 3) := by decide +kernel
theorem dX5_levelOf_14 : decode cX5_levelOf 14 = .ok (.iload_n 2, 1) := by decide +kernel
theorem dX5_levelOf_15 : decode cX5_levelOf 15 = .ok (.iaload, 1) := by decide +kernel
theorem dX5_levelOf_16 : decode cX5_levelOf 16 = .ok (.iload_n 1, 1) := by decide +kernel
theorem dX5_levelOf_17 : decode cX5_levelOf 17 = .ok (.if_icmp .ne 5, 3) := by decide +kernel
theorem dX5_levelOf_20 : decode cX5_levelOf 20 = .ok (.iload_n 2, 1) := by decide +kernel
theorem dX5_levelOf_21 : decode cX5_levelOf 21 = .ok (.ireturn, 1) := by decide +kernel
theorem dX5_levelOf_22 : decode cX5_levelOf 22 = .ok (.iinc 2 1, 3) := by decide +kernel
theorem dX5_levelOf_25 : decode cX5_levelOf 25 = .ok (.goto (-23), 3) := by decide +kernel
theorem dX5_levelOf_28 : decode cX5_levelOf 28 = .ok (.iconst (-1), 1) := by decide +kernel
theorem dX5_levelOf_29 : decode cX5_levelOf 29 = .ok (.ireturn, 1) := by decide +kernel
theorem dX5_copyFrom_0 : decode cX5_copyFrom 0 = .ok (.aload_n 0, 1) := by decide +kernel
theorem dX5_copyFrom_1 : decode cX5_copyFrom 1 = .ok (.iconst 0, 1) := by decide +kernel
theorem dX5_copyFrom_2 : decode cX5_copyFrom 2 = .ok (.putfield 9, 3) := by decide +kernel
theorem dX5_copyFrom_5 : decode cX5_copyFrom 5 = .ok (.iconst 0, 1) := by decide +kernel
theorem dX5_copyFrom_6 : decode cX5_copyFrom 6 = .ok (.istore_n 2, 1) := by decide +kernel
theorem dX5_copyFrom_7 : decode cX5_copyFrom 7 = .ok (.iload_n 2, 1) := by decide +kernel
theorem dX5_copyFrom_8 : decode cX5_copyFrom 8 = .ok (.aload_n 1, 1) := by decide +kernel
theorem dX5_copyFrom_9 : decode cX5_copyFrom 9 = .ok (.getfield 9, 3) := by decide +kernel
theorem dX5_copyFrom_12 : decode cX5_copyFrom 12 = .ok (.if_icmp .ge 31, 3) := by decide +kernel
theorem dX5_copyFrom_15 : decode cX5_copyFrom 15 = .ok (.aload_n 0, 1) := by decide +kernel
theorem dX5_copyFrom_16 : decode cX5_copyFrom 16 = .ok (.aload_n 1, 1) := by decide +kernel
theorem dX5_copyFrom_17 : decode cX5_copyFrom 17 = .ok (.getfield 15, 3) := by decide +kernel
theorem dX5_copyFrom_20 : decode cX5_copyFrom 20 = .ok (.iload_n 2, 1) := by decide +kernel
theorem dX5_copyFrom_21 : decode cX5_copyFrom 21 = .ok (.iaload, 1) := by decide +kernel
theorem dX5_copyFrom_22 : decode cX5_copyFrom 22 = .ok (.aload_n 1, 1) := by decide +kernel
theorem dX5_copyFrom_23 : decode cX5_copyFrom 23 = .ok (.getfield 19, 3) := by decide +kernel
theorem dX5_copyFrom_26 : decode cX5_copyFrom 26 = .ok (.iload_n 2, 1) := by decide +kernel
theorem dX5_copyFrom_27 : decode cX5_copyFrom 27 = .ok (.iaload, 1) := by decide +kernel
theorem dX5_copyFrom_28 : decode cX5_copyFrom 28 = .ok (.aload_n 1, 1) := by decide +kernel
theorem dX5_copyFrom_29 : decode cX5_copyFrom 29 = .ok (.getfield 22, 3) := by decide +kernel
theorem dX5_copyFrom_32 : decode cX5_copyFrom 32 = .ok (.iload_n 2, 1) := by decide +kernel
theorem dX5_copyFrom_33 : decode cX5_copyFrom 33 = .ok (.baload, 1) := by decide +kernel
theorem dX5_copyFrom_34 : decode cX5_copyFrom 34 = .ok (.invokevirtual 32, 3) := by decide +kernel
theorem dX5_copyFrom_37 : decode cX5_copyFrom 37 = .ok (.iinc 2 1, 3) := by decide +kernel
theorem dX5_copyFrom_40 : decode cX5_copyFrom 40 = .ok (.goto (-33), 3) := by decide +kernel
theorem dX5_copyFrom_43 : decode cX5_copyFrom 43 = .ok (.return_, 1) := by decide +kernel
theorem dX5_keepOf_0 : decode cX5_keepOf 0 = .ok (.aload_n 0, 1) := by decide +kernel
theorem dX5_keepOf_1 : decode cX5_keepOf 1 = .ok (.iconst 0, 1) := by decide +kernel
theorem dX5_keepOf_2 : decode cX5_keepOf 2 = .ok (.putfield 9, 3) := by decide +kernel
theorem dX5_keepOf_5 : decode cX5_keepOf 5 = .ok (.iconst 0, 1) := by decide +kernel
theorem dX5_keepOf_6 : decode cX5_keepOf 6 = .ok (.istore_n 3, 1) := by decide +kernel
theorem dX5_keepOf_7 : decode cX5_keepOf 7 = .ok (.iload_n 3, 1) := by decide +kernel
theorem dX5_keepOf_8 : decode cX5_keepOf 8 = .ok (.aload_n 1, 1) := by decide +kernel
theorem dX5_keepOf_9 : decode cX5_keepOf 9 = .ok (.getfield 9, 3) := by decide +kernel
theorem dX5_keepOf_12 : decode cX5_keepOf 12 = .ok (.if_icmp .ge 73, 3) := by decide +kernel
theorem dX5_keepOf_15 : decode cX5_keepOf 15 = .ok (.iload_n 3, 1) := by decide +kernel
theorem dX5_keepOf_16 : decode cX5_keepOf 16 = .ok (.ifCond .le 17, 3) := by decide +kernel
theorem dX5_keepOf_19 : decode cX5_keepOf 19 = .ok (.iload_n 2, 1) := by decide +kernel
theorem dX5_keepOf_20 : decode cX5_keepOf 20 = .ok (.iconst 1, 1) := by decide +kernel
theorem dX5_keepOf_21 : decode cX5_keepOf 21 = .ok (.iload_n 3, 1) := by decide +kernel
theorem dX5_keepOf_22 : decode cX5_keepOf 22 = .ok (.iconst 1, 1) := by decide +kernel
theorem dX5_keepOf_23 : decode cX5_keepOf 23 = .ok (.isub, 1) := by decide +kernel
theorem dX5_keepOf_24 : decode cX5_keepOf 24 = .ok (.ishl, 1) := by decide +kernel
theorem dX5_keepOf_25 : decode cX5_keepOf 25 = .ok (.iand, 1) := by decide +kernel
theorem dX5_keepOf_26 : decode cX5_keepOf 26 = .ok (.ifCond .eq 7, 3) := by decide +kernel
theorem dX5_keepOf_29 : decode cX5_keepOf 29 = .ok (.iconst 1, 1) := by decide +kernel
theorem dX5_keepOf_30 : decode cX5_keepOf 30 = .ok (.goto 4, 3) := by decide +kernel
theorem dX5_keepOf_33 : decode cX5_keepOf 33 = .ok (.iconst 0, 1) := by decide +kernel
theorem dX5_keepOf_34 : decode cX5_keepOf 34 = .ok (.istore 4, 2) := by decide +kernel
theorem dX5_keepOf_36 : decode cX5_keepOf 36 = .ok (.iload_n 2, 1) := by decide +kernel
theorem dX5_keepOf_37 : decode cX5_keepOf 37 = .ok (.iconst 1, 1) := by decide +kernel
theorem dX5_keepOf_38 : decode cX5_keepOf 38 = .ok (.iload_n 3, 1) := by decide +kernel
theorem dX5_keepOf_39 : decode cX5_keepOf 39 = .ok (.ishl, 1) := by decide +kernel
theorem dX5_keepOf_40 : decode cX5_keepOf 40 = .ok (.iand, 1) := by decide +kernel
theorem dX5_keepOf_41 : decode cX5_keepOf 41 = .ok (.ifCond .eq 38, 3) := by decide +kernel
theorem dX5_keepOf_44 : decode cX5_keepOf 44 = .ok (.aload_n 0, 1) := by decide +kernel
theorem dX5_keepOf_45 : decode cX5_keepOf 45 = .ok (.aload_n 1, 1) := by decide +kernel
theorem dX5_keepOf_46 : decode cX5_keepOf 46 = .ok (.getfield 15, 3) := by decide +kernel
theorem dX5_keepOf_49 : decode cX5_keepOf 49 = .ok (.iload_n 3, 1) := by decide +kernel
theorem dX5_keepOf_50 : decode cX5_keepOf 50 = .ok (.iaload, 1) := by decide +kernel
theorem dX5_keepOf_51 : decode cX5_keepOf 51 = .ok (.aload_n 1, 1) := by decide +kernel
theorem dX5_keepOf_52 : decode cX5_keepOf 52 = .ok (.getfield 19, 3) := by decide +kernel
theorem dX5_keepOf_55 : decode cX5_keepOf 55 = .ok (.iload_n 3, 1) := by decide +kernel
theorem dX5_keepOf_56 : decode cX5_keepOf 56 = .ok (.iaload, 1) := by decide +kernel
theorem dX5_keepOf_57 : decode cX5_keepOf 57 = .ok (.aload_n 1, 1) := by decide +kernel
theorem dX5_keepOf_58 : decode cX5_keepOf 58 = .ok (.getfield 22, 3) := by decide +kernel
theorem dX5_keepOf_61 : decode cX5_keepOf 61 = .ok (.iload_n 3, 1) := by decide +kernel
theorem dX5_keepOf_62 : decode cX5_keepOf 62 = .ok (.baload, 1) := by decide +kernel
theorem dX5_keepOf_63 : decode cX5_keepOf 63 = .ok (.ifCond .eq 12, 3) := by decide +kernel
theorem dX5_keepOf_66 : decode cX5_keepOf 66 = .ok (.iload 4, 2) := by decide +kernel
theorem dX5_keepOf_68 : decode cX5_keepOf 68 = .ok (.ifCond .eq 7, 3) := by decide +kernel
theorem dX5_keepOf_71 : decode cX5_keepOf 71 = .ok (.iconst 1, 1) := by decide +kernel
theorem dX5_keepOf_72 : decode cX5_keepOf 72 = .ok (.goto 4, 3) := by decide +kernel
theorem dX5_keepOf_75 : decode cX5_keepOf 75 = .ok (.iconst 0, 1) := by decide +kernel
theorem dX5_keepOf_76 : decode cX5_keepOf 76 = .ok (.invokevirtual 32, 3) := by decide +kernel
theorem dX5_keepOf_79 : decode cX5_keepOf 79 = .ok (.iinc 3 1, 3) := by decide +kernel
theorem dX5_keepOf_82 : decode cX5_keepOf 82 = .ok (.goto (-75), 3) := by decide +kernel
theorem dX5_keepOf_85 : decode cX5_keepOf 85 = .ok (.return_, 1) := by decide +kernel
theorem dX5_isHeldByGlue_0 : decode cX5_isHeldByGlue 0 = .ok (.iload_n 1, 1) := by decide +kernel
theorem dX5_isHeldByGlue_1 : decode cX5_isHeldByGlue 1 = .ok (.ifCond .le 16, 3) := by decide +kernel
theorem dX5_isHeldByGlue_4 : decode cX5_isHeldByGlue 4 = .ok (.aload_n 0, 1) := by decide +kernel
theorem dX5_isHeldByGlue_5 : decode cX5_isHeldByGlue 5 = .ok (.getfield 22, 3) := by decide +kernel
theorem dX5_isHeldByGlue_8 : decode cX5_isHeldByGlue 8 = .ok (.iload_n 1, 1) := by decide +kernel
theorem dX5_isHeldByGlue_9 : decode cX5_isHeldByGlue 9 = .ok (.baload, 1) := by decide +kernel
theorem dX5_isHeldByGlue_10 : decode cX5_isHeldByGlue 10 = .ok (.ifCond .eq 7, 3) := by decide +kernel
theorem dX5_isHeldByGlue_13 : decode cX5_isHeldByGlue 13 = .ok (.iconst 1, 1) := by decide +kernel
theorem dX5_isHeldByGlue_14 : decode cX5_isHeldByGlue 14 = .ok (.goto 4, 3) := by decide +kernel
theorem dX5_isHeldByGlue_17 : decode cX5_isHeldByGlue 17 = .ok (.iconst 0, 1) := by decide +kernel
theorem dX5_isHeldByGlue_18 : decode cX5_isHeldByGlue 18 = .ok (.ireturn, 1) := by decide +kernel
theorem dX5_restLeft_0 : decode cX5_restLeft 0 = .ok (.iload_n 2, 1) := by decide +kernel
theorem dX5_restLeft_1 : decode cX5_restLeft 1 = .ok (.ifCond .ne 11, 3) := by decide +kernel
theorem dX5_restLeft_4 : decode cX5_restLeft 4 = .ok (.aload_n 1, 1) := by decide +kernel
theorem dX5_restLeft_5 : decode cX5_restLeft 5 = .ok (.getfield 36, 3) := by decide +kernel
theorem dX5_restLeft_8 : decode cX5_restLeft 8 = .ok (.ineg, 1) := by decide +kernel
theorem dX5_restLeft_9 : decode cX5_restLeft 9 = .ok (.goto 11, 3) := by decide +kernel
theorem dX5_restLeft_12 : decode cX5_restLeft 12 = .ok (.aload_n 0, 1) := by decide +kernel
theorem dX5_restLeft_13 : decode cX5_restLeft 13 = .ok (.getfield 19, 3) := by decide +kernel
theorem dX5_restLeft_16 : decode cX5_restLeft 16 = .ok (.iload_n 2, 1) := by decide +kernel
theorem dX5_restLeft_17 : decode cX5_restLeft 17 = .ok (.iconst 1, 1) := by decide +kernel
theorem dX5_restLeft_18 : decode cX5_restLeft 18 = .ok (.isub, 1) := by decide +kernel
theorem dX5_restLeft_19 : decode cX5_restLeft 19 = .ok (.iaload, 1) := by decide +kernel
theorem dX5_restLeft_20 : decode cX5_restLeft 20 = .ok (.istore_n 3, 1) := by decide +kernel
theorem dX5_restLeft_21 : decode cX5_restLeft 21 = .ok (.iload_n 3, 1) := by decide +kernel
theorem dX5_restLeft_22 : decode cX5_restLeft 22 = .ok (.aload_n 0, 1) := by decide +kernel
theorem dX5_restLeft_23 : decode cX5_restLeft 23 = .ok (.getfield 19, 3) := by decide +kernel
theorem dX5_restLeft_26 : decode cX5_restLeft 26 = .ok (.iload_n 2, 1) := by decide +kernel
theorem dX5_restLeft_27 : decode cX5_restLeft 27 = .ok (.iaload, 1) := by decide +kernel
theorem dX5_restLeft_28 : decode cX5_restLeft 28 = .ok (.invokestatic 26, 3) := by decide +kernel
theorem dX5_restLeft_31 : decode cX5_restLeft 31 = .ok (.ireturn, 1) := by decide +kernel
theorem dX5_restRight_0 : decode cX5_restRight 0 = .ok (.iload_n 2, 1) := by decide +kernel
theorem dX5_restRight_1 : decode cX5_restRight 1 = .ok (.ifCond .ne 7, 3) := by decide +kernel
theorem dX5_restRight_4 : decode cX5_restRight 4 = .ok (.iconst 0, 1) := by decide +kernel
theorem dX5_restRight_5 : decode cX5_restRight 5 = .ok (.goto 11, 3) := by decide +kernel
theorem dX5_restRight_8 : decode cX5_restRight 8 = .ok (.aload_n 0, 1) := by decide +kernel
theorem dX5_restRight_9 : decode cX5_restRight 9 = .ok (.aload_n 1, 1) := by decide +kernel
theorem dX5_restRight_10 : decode cX5_restRight 10 = .ok (.iload_n 2, 1) := by decide +kernel
theorem dX5_restRight_11 : decode cX5_restRight 11 = .ok (.iconst 1, 1) := by decide +kernel
theorem dX5_restRight_12 : decode cX5_restRight 12 = .ok (.isub, 1) := by decide +kernel
theorem dX5_restRight_13 : decode cX5_restRight 13 = .ok (.invokevirtual 41, 3) := by decide +kernel
theorem dX5_restRight_16 : decode cX5_restRight 16 = .ok (.istore_n 3, 1) := by decide +kernel
theorem dX5_restRight_17 : decode cX5_restRight 17 = .ok (.iload_n 3, 1) := by decide +kernel
theorem dX5_restRight_18 : decode cX5_restRight 18 = .ok (.aload_n 0, 1) := by decide +kernel
theorem dX5_restRight_19 : decode cX5_restRight 19 = .ok (.aload_n 1, 1) := by decide +kernel
theorem dX5_restRight_20 : decode cX5_restRight 20 = .ok (.iload_n 2, 1) := by decide +kernel
theorem dX5_restRight_21 : decode cX5_restRight 21 = .ok (.invokevirtual 41, 3) := by decide +kernel
theorem dX5_restRight_24 : decode cX5_restRight 24 = .ok (.invokestatic 45, 3) := by decide +kernel
theorem dX5_restRight_27 : decode cX5_restRight 27 = .ok (.ireturn, 1) := by decide +kernel
theorem dX5_rightEnd_0 : decode cX5_rightEnd 0 = .ok (.aload_n 0, 1) := by decide +kernel
theorem dX5_rightEnd_1 : decode cX5_rightEnd 1 = .ok (.getfield 19, 3) := by decide +kernel
theorem dX5_rightEnd_4 : decode cX5_rightEnd 4 = .ok (.iload_n 2, 1) := by decide +kernel
theorem dX5_rightEnd_5 : decode cX5_rightEnd 5 = .ok (.iaload, 1) := by decide +kernel
theorem dX5_rightEnd_6 : decode cX5_rightEnd 6 = .ok (.aload_n 1, 1) := by decide +kernel
theorem dX5_rightEnd_7 : decode cX5_rightEnd 7 = .ok (.getfield 48, 3) := by decide +kernel
theorem dX5_rightEnd_10 : decode cX5_rightEnd 10 = .ok (.aload_n 0, 1) := by decide +kernel
theorem dX5_rightEnd_11 : decode cX5_rightEnd 11 = .ok (.getfield 15, 3) := by decide +kernel
theorem dX5_rightEnd_14 : decode cX5_rightEnd 14 = .ok (.iload_n 2, 1) := by decide +kernel
theorem dX5_rightEnd_15 : decode cX5_rightEnd 15 = .ok (.iaload, 1) := by decide +kernel
theorem dX5_rightEnd_16 : decode cX5_rightEnd 16 = .ok (.iaload, 1) := by decide +kernel
theorem dX5_rightEnd_17 : decode cX5_rightEnd 17 = .ok (.iadd, 1) := by decide +kernel
theorem dX5_rightEnd_18 : decode cX5_rightEnd 18 = .ok (.ireturn, 1) := by decide +kernel
theorem dX5_twiceMiddle_0 : decode cX5_twiceMiddle 0 = .ok (.aload_n 0, 1) := by decide +kernel
theorem dX5_twiceMiddle_1 : decode cX5_twiceMiddle 1 = .ok (.getfield 19, 3) := by decide +kernel
theorem dX5_twiceMiddle_4 : decode cX5_twiceMiddle 4 = .ok (.iload_n 2, 1) := by decide +kernel
theorem dX5_twiceMiddle_5 : decode cX5_twiceMiddle 5 = .ok (.iaload, 1) := by decide +kernel
theorem dX5_twiceMiddle_6 : decode cX5_twiceMiddle 6 = .ok (.aload_n 0, 1) := by decide +kernel
theorem dX5_twiceMiddle_7 : decode cX5_twiceMiddle 7 = .ok (.aload_n 1, 1) := by decide +kernel
theorem dX5_twiceMiddle_8 : decode cX5_twiceMiddle 8 = .ok (.iload_n 2, 1) := by decide +kernel
theorem dX5_twiceMiddle_9 : decode cX5_twiceMiddle 9 = .ok (.invokevirtual 41, 3) := by decide +kernel
theorem dX5_twiceMiddle_12 : decode cX5_twiceMiddle 12 = .ok (.iadd, 1) := by decide +kernel
theorem dX5_twiceMiddle_13 : decode cX5_twiceMiddle 13 = .ok (.ireturn, 1) := by decide +kernel
theorem dX5_twiceFlyTurn_0 : decode cX5_twiceFlyTurn 0 = .ok (.aload_n 0, 1) := by decide +kernel
theorem dX5_twiceFlyTurn_1 : decode cX5_twiceFlyTurn 1 = .ok (.getfield 15, 3) := by decide +kernel
theorem dX5_twiceFlyTurn_4 : decode cX5_twiceFlyTurn 4 = .ok (.iload_n 2, 1) := by decide +kernel
theorem dX5_twiceFlyTurn_5 : decode cX5_twiceFlyTurn 5 = .ok (.iaload, 1) := by decide +kernel
theorem dX5_twiceFlyTurn_6 : decode cX5_twiceFlyTurn 6 = .ok (.istore_n 3, 1) := by decide +kernel
theorem dX5_twiceFlyTurn_7 : decode cX5_twiceFlyTurn 7 = .ok (.iconst 2, 1) := by decide +kernel
theorem dX5_twiceFlyTurn_8 : decode cX5_twiceFlyTurn 8 = .ok (.aload_n 0, 1) := by decide +kernel
theorem dX5_twiceFlyTurn_9 : decode cX5_twiceFlyTurn 9 = .ok (.getfield 19, 3) := by decide +kernel
theorem dX5_twiceFlyTurn_12 : decode cX5_twiceFlyTurn 12 = .ok (.iload_n 2, 1) := by decide +kernel
theorem dX5_twiceFlyTurn_13 : decode cX5_twiceFlyTurn 13 = .ok (.iaload, 1) := by decide +kernel
theorem dX5_twiceFlyTurn_14 : decode cX5_twiceFlyTurn 14 = .ok (.aload_n 1, 1) := by decide +kernel
theorem dX5_twiceFlyTurn_15 : decode cX5_twiceFlyTurn 15 = .ok (.getfield 51, 3) := by decide +kernel
theorem dX5_twiceFlyTurn_18 : decode cX5_twiceFlyTurn 18 = .ok (.iload_n 3, 1) := by decide +kernel
theorem dX5_twiceFlyTurn_19 : decode cX5_twiceFlyTurn 19 = .ok (.iaload, 1) := by decide +kernel
theorem dX5_twiceFlyTurn_20 : decode cX5_twiceFlyTurn 20 = .ok (.imul, 1) := by decide +kernel
theorem dX5_twiceFlyTurn_21 : decode cX5_twiceFlyTurn 21 = .ok (.aload_n 1, 1) := by decide +kernel
theorem dX5_twiceFlyTurn_22 : decode cX5_twiceFlyTurn 22 = .ok (.getfield 54, 3) := by decide +kernel
theorem dX5_twiceFlyTurn_25 : decode cX5_twiceFlyTurn 25 = .ok (.iload_n 3, 1) := by decide +kernel
theorem dX5_twiceFlyTurn_26 : decode cX5_twiceFlyTurn 26 = .ok (.iaload, 1) := by decide +kernel
theorem dX5_twiceFlyTurn_27 : decode cX5_twiceFlyTurn 27 = .ok (.iadd, 1) := by decide +kernel
theorem dX5_twiceFlyTurn_28 : decode cX5_twiceFlyTurn 28 = .ok (.imul, 1) := by decide +kernel
theorem dX5_twiceFlyTurn_29 : decode cX5_twiceFlyTurn 29 = .ok (.ireturn, 1) := by decide +kernel
theorem dX6_init_0 : decode cX6_init 0 = .ok (.aload_n 0, 1) := by decide +kernel
theorem dX6_init_1 : decode cX6_init 1 = .ok (.invokespecial 1, 3) := by decide +kernel
theorem dX6_init_4 : decode cX6_init 4 = .ok (.aload_n 0, 1) := by decide +kernel
theorem dX6_init_5 : decode cX6_init 5 = .ok (.lconst 0, 1) := by decide +kernel
theorem dX6_init_6 : decode cX6_init 6 = .ok (.putfield 7, 3) := by decide +kernel
theorem dX6_init_9 : decode cX6_init 9 = .ok (.aload_n 0, 1) := by decide +kernel
theorem dX6_init_10 : decode cX6_init 10 = .ok (.lconst 1, 1) := by decide +kernel
theorem dX6_init_11 : decode cX6_init 11 = .ok (.putfield 13, 3) := by decide +kernel
theorem dX6_init_14 : decode cX6_init 14 = .ok (.return_, 1) := by decide +kernel
theorem dX6_become_0 : decode cX6_become 0 = .ok (.lload_n 1, 1) := by decide +kernel
theorem dX6_become_1 : decode cX6_become 1 = .ok (.invokestatic 16, 3) := by decide +kernel
theorem dX6_become_4 : decode cX6_become 4 = .ok (.lload_n 3, 1) := by decide +kernel
theorem dX6_become_5 : decode cX6_become 5 = .ok (.invokestatic 22, 3) := by decide +kernel
theorem dX6_become_8 : decode cX6_become 8 = .ok (.lstore 5, 2) := by decide +kernel
theorem dX6_become_10 : decode cX6_become 10 = .ok (.lload 5, 2) := by decide +kernel
theorem dX6_become_12 : decode cX6_become 12 = .ok (.lconst 0, 1) := by decide +kernel
theorem dX6_become_13 : decode cX6_become 13 = .ok (.lcmp, 1) := by decide +kernel
theorem dX6_become_14 : decode cX6_become 14 = .ok (.ifCond .le 19, 3) := by decide +kernel
theorem dX6_become_17 : decode cX6_become 17 = .ok (.aload_n 0, 1) := by decide +kernel
theorem dX6_become_18 : decode cX6_become 18 = .ok (.lload_n 1, 1) := by decide +kernel
theorem dX6_become_19 : decode cX6_become 19 = .ok (.lload 5, 2) := by decide +kernel
theorem dX6_become_21 : decode cX6_become 21 = .ok (.ldiv, 1) := by decide +kernel
theorem dX6_become_22 : decode cX6_become 22 = .ok (.putfield 7, 3) := by decide +kernel
theorem dX6_become_25 : decode cX6_become 25 = .ok (.aload_n 0, 1) := by decide +kernel
theorem dX6_become_26 : decode cX6_become 26 = .ok (.lload_n 3, 1) := by decide +kernel
theorem dX6_become_27 : decode cX6_become 27 = .ok (.lload 5, 2) := by decide +kernel
theorem dX6_become_29 : decode cX6_become 29 = .ok (.ldiv, 1) := by decide +kernel
theorem dX6_become_30 : decode cX6_become 30 = .ok (.putfield 13, 3) := by decide +kernel
theorem dX6_become_33 : decode cX6_become 33 = .ok (.return_, 1) := by decide +kernel
theorem dX6_copyFrom_0 : decode cX6_copyFrom 0 = .ok (.aload_n 0, 1) := by decide +kernel
theorem dX6_copyFrom_1 : decode cX6_copyFrom 1 = .ok (.aload_n 1, 1) := by decide +kernel
theorem dX6_copyFrom_2 : decode cX6_copyFrom 2 = .ok (.getfield 7, 3) := by decide +kernel
theorem dX6_copyFrom_5 : decode cX6_copyFrom 5 = .ok (.putfield 7, 3) := by decide +kernel
theorem dX6_copyFrom_8 : decode cX6_copyFrom 8 = .ok (.aload_n 0, 1) := by decide +kernel
theorem dX6_copyFrom_9 : decode cX6_copyFrom 9 = .ok (.aload_n 1, 1) := by decide +kernel
theorem dX6_copyFrom_10 : decode cX6_copyFrom 10 = .ok (.getfield 13, 3) := by decide +kernel
theorem dX6_copyFrom_13 : decode cX6_copyFrom 13 = .ok (.putfield 13, 3) := by decide +kernel
theorem dX6_copyFrom_16 : decode cX6_copyFrom 16 = .ok (.return_, 1) := by decide +kernel
theorem dX6_add_0 : decode cX6_add 0 = .ok (.aload_n 0, 1) := by decide +kernel
theorem dX6_add_1 : decode cX6_add 1 = .ok (.getfield 13, 3) := by decide +kernel
theorem dX6_add_4 : decode cX6_add 4 = .ok (.lload_n 3, 1) := by decide +kernel
theorem dX6_add_5 : decode cX6_add 5 = .ok (.invokestatic 22, 3) := by decide +kernel
theorem dX6_add_8 : decode cX6_add 8 = .ok (.lstore 5, 2) := by decide +kernel
theorem dX6_add_10 : decode cX6_add 10 = .ok (.lload 5, 2) := by decide +kernel
theorem dX6_add_12 : decode cX6_add 12 = .ok (.lconst 0, 1) := by decide +kernel
theorem dX6_add_13 : decode cX6_add 13 = .ok (.lcmp, 1) := by decide +kernel
theorem dX6_add_14 : decode cX6_add 14 = .ok (.ifCond .le 37, 3) := by decide +kernel
theorem dX6_add_17 : decode cX6_add 17 = .ok (.lload_n 3, 1) := by decide +kernel
theorem dX6_add_18 : decode cX6_add 18 = .ok (.lload 5, 2) := by decide +kernel
theorem dX6_add_20 : decode cX6_add 20 = .ok (.ldiv, 1) := by decide +kernel
theorem dX6_add_21 : decode cX6_add 21 = .ok (.lstore 7, 2) := by decide +kernel
theorem dX6_add_23 : decode cX6_add 23 = .ok (.aload_n 0, 1) := by decide +kernel
theorem dX6_add_24 : decode cX6_add 24 = .ok (.aload_n 0, 1) := by decide +kernel
theorem dX6_add_25 : decode cX6_add 25 = .ok (.getfield 7, 3) := by decide +kernel
theorem dX6_add_28 : decode cX6_add 28 = .ok (.lload 7, 2) := by decide +kernel
theorem dX6_add_30 : decode cX6_add 30 = .ok (.lmul, 1) := by decide +kernel
theorem dX6_add_31 : decode cX6_add 31 = .ok (.lload_n 1, 1) := by decide +kernel
theorem dX6_add_32 : decode cX6_add 32 = .ok (.aload_n 0, 1) := by decide +kernel
theorem dX6_add_33 : decode cX6_add 33 = .ok (.getfield 13, 3) := by decide +kernel
theorem dX6_add_36 : decode cX6_add 36 = .ok (.lload 5, 2) := by decide +kernel
theorem dX6_add_38 : decode cX6_add 38 = .ok (.ldiv, 1) := by decide +kernel
theorem dX6_add_39 : decode cX6_add 39 = .ok (.lmul, 1) := by decide +kernel
theorem dX6_add_40 : decode cX6_add 40 = .ok (.ladd, 1) := by decide +kernel
theorem dX6_add_41 : decode cX6_add 41 = .ok (.aload_n 0, 1) := by decide +kernel
theorem dX6_add_42 : decode cX6_add 42 = .ok (.getfield 13, 3) := by decide +kernel
theorem dX6_add_45 : decode cX6_add 45 = .ok (.lload 7, 2) := by decide +kernel
theorem dX6_add_47 : decode cX6_add 47 = .ok (.lmul, 1) := by decide +kernel
theorem dX6_add_48 : decode cX6_add 48 = .ok (.invokevirtual 26, 3) := by decide +kernel
theorem dX6_add_51 : decode cX6_add 51 = .ok (.return_, 1) := by decide +kernel
theorem dX6_part_0 : decode cX6_part 0 = .ok (.iload_n 1, 1) := by decide +kernel
theorem dX6_part_1 : decode cX6_part 1 = .ok (.ifCond .eq 10, 3) := by decide +kernel
theorem dX6_part_4 : decode cX6_part 4 = .ok (.aload_n 0, 1) := by decide +kernel
theorem dX6_part_5 : decode cX6_part 5 = .ok (.getfield 13, 3) := by decide +kernel
theorem dX6_part_8 : decode cX6_part 8 = .ok (.goto 7, 3) := by decide +kernel
theorem dX6_part_11 : decode cX6_part 11 = .ok (.aload_n 0, 1) := by decide +kernel
theorem dX6_part_12 : decode cX6_part 12 = .ok (.getfield 7, 3) := by decide +kernel
theorem dX6_part_15 : decode cX6_part 15 = .ok (.lreturn, 1) := by decide +kernel
theorem dX6_isMoreThan_0 : decode cX6_isMoreThan 0 = .ok (.aload_n 0, 1) := by decide +kernel
theorem dX6_isMoreThan_1 : decode cX6_isMoreThan 1 = .ok (.getfield 7, 3) := by decide +kernel
theorem dX6_isMoreThan_4 : decode cX6_isMoreThan 4 = .ok (.lstore_n 2, 1) := by decide +kernel
theorem dX6_isMoreThan_5 : decode cX6_isMoreThan 5 = .ok (.aload_n 0, 1) := by decide +kernel
theorem dX6_isMoreThan_6 : decode cX6_isMoreThan 6 = .ok (.getfield 13, 3) := by decide +kernel
theorem dX6_isMoreThan_9 : decode cX6_isMoreThan 9 = .ok (.lstore 4, 2) := by decide +kernel
theorem dX6_isMoreThan_11 : decode cX6_isMoreThan 11 = .ok (.aload_n 1, 1) := by decide +kernel
theorem dX6_isMoreThan_12 : decode cX6_isMoreThan 12 = .ok (.getfield 7, 3) := by decide +kernel
theorem dX6_isMoreThan_15 : decode cX6_isMoreThan 15 = .ok (.lstore 6, 2) := by decide +kernel
theorem dX6_isMoreThan_17 : decode cX6_isMoreThan 17 = .ok (.aload_n 1, 1) := by decide +kernel
theorem dX6_isMoreThan_18 : decode cX6_isMoreThan 18 = .ok (.getfield 13, 3) := by decide +kernel
theorem dX6_isMoreThan_21 : decode cX6_isMoreThan 21 = .ok (.lstore 8, 2) := by decide +kernel
theorem dX6_isMoreThan_23 : decode cX6_isMoreThan 23 = .ok (.iconst 0, 1) := by decide +kernel
theorem dX6_isMoreThan_24 : decode cX6_isMoreThan 24 = .ok (.istore 10, 2) := by decide +kernel
theorem dX6_isMoreThan_26 : decode cX6_isMoreThan 26 = .ok (.iconst 0, 1) := by decide +kernel
theorem dX6_isMoreThan_27 : decode cX6_isMoreThan 27 = .ok (.istore 11, 2) := by decide +kernel
theorem dX6_isMoreThan_29 : decode cX6_isMoreThan 29 = .ok (.iload 11, 2) := by decide +kernel
theorem dX6_isMoreThan_31 : decode cX6_isMoreThan 31 = .ok (.sipush 200, 3) := by decide +kernel
theorem dX6_isMoreThan_34 : decode cX6_isMoreThan 34 = .ok (.if_icmp .ge 154, 3) := by decide +kernel
theorem dX6_isMoreThan_37 : decode cX6_isMoreThan 37 = .ok (.lload 4, 2) := by decide +kernel
theorem dX6_isMoreThan_39 : decode cX6_isMoreThan 39 = .ok (.lconst 0, 1) := by decide +kernel
theorem dX6_isMoreThan_40 : decode cX6_isMoreThan 40 = .ok (.lcmp, 1) := by decide +kernel
theorem dX6_isMoreThan_41 : decode cX6_isMoreThan 41 = .ok (.ifCond .le 147, 3) := by decide +kernel
theorem dX6_isMoreThan_44 : decode cX6_isMoreThan 44 = .ok (.lload 8, 2) := by decide +kernel
theorem dX6_isMoreThan_46 : decode cX6_isMoreThan 46 = .ok (.lconst 0, 1) := by decide +kernel
theorem dX6_isMoreThan_47 : decode cX6_isMoreThan 47 = .ok (.lcmp, 1) := by decide +kernel
theorem dX6_isMoreThan_48 : decode cX6_isMoreThan 48 = .ok (.ifCond .le 140, 3) := by decide +kernel
theorem dX6_isMoreThan_51 : decode cX6_isMoreThan 51 = .ok (.lload_n 2, 1) := by decide +kernel
theorem dX6_isMoreThan_52 : decode cX6_isMoreThan 52 = .ok (.lload 4, 2) := by decide +kernel
theorem dX6_isMoreThan_54 : decode cX6_isMoreThan 54 = .ok (.ldiv, 1) := by decide +kernel
theorem dX6_isMoreThan_55 : decode cX6_isMoreThan 55 = .ok (.lload 6, 2) := by decide +kernel
theorem dX6_isMoreThan_57 : decode cX6_isMoreThan 57 = .ok (.lload 8, 2) := by decide +kernel
theorem dX6_isMoreThan_59 : decode cX6_isMoreThan 59 = .ok (.ldiv, 1) := by decide +kernel
theorem dX6_isMoreThan_60 : decode cX6_isMoreThan 60 = .ok (.lcmp, 1) := by decide +kernel
theorem dX6_isMoreThan_61 : decode cX6_isMoreThan 61 = .ok (.ifCond .eq 32, 3) := by decide +kernel
theorem dX6_isMoreThan_64 : decode cX6_isMoreThan 64 = .ok (.lload_n 2, 1) := by decide +kernel
theorem dX6_isMoreThan_65 : decode cX6_isMoreThan 65 = .ok (.lload 4, 2) := by decide +kernel
theorem dX6_isMoreThan_67 : decode cX6_isMoreThan 67 = .ok (.ldiv, 1) := by decide +kernel
theorem dX6_isMoreThan_68 : decode cX6_isMoreThan 68 = .ok (.lload 6, 2) := by decide +kernel
theorem dX6_isMoreThan_70 : decode cX6_isMoreThan 70 = .ok (.lload 8, 2) := by decide +kernel
theorem dX6_isMoreThan_72 : decode cX6_isMoreThan 72 = .ok (.ldiv, 1) := by decide +kernel
theorem dX6_isMoreThan_73 : decode cX6_isMoreThan 73 = .ok (.lcmp, 1) := by decide +kernel
theorem dX6_isMoreThan_74 : decode cX6_isMoreThan 74 = .ok (.ifCond .le 7, 3) := by decide +kernel
theorem dX6_isMoreThan_77 : decode cX6_isMoreThan 77 = .ok (.iconst 1, 1) := by decide +kernel
theorem dX6_isMoreThan_78 : decode cX6_isMoreThan 78 = .ok (.goto 4, 3) := by decide +kernel
theorem dX6_isMoreThan_81 : decode cX6_isMoreThan 81 = .ok (.iconst 0, 1) := by decide +kernel
theorem dX6_isMoreThan_82 : decode cX6_isMoreThan 82 = .ok (.iload 10, 2) := by decide +kernel
theorem dX6_isMoreThan_84 : decode cX6_isMoreThan 84 = .ok (.if_icmp .eq 7, 3) := by decide +kernel
theorem dX6_isMoreThan_87 : decode cX6_isMoreThan 87 = .ok (.iconst 1, 1) := by decide +kernel
theorem dX6_isMoreThan_88 : decode cX6_isMoreThan 88 = .ok (.goto 4, 3) := by decide +kernel
theorem dX6_isMoreThan_91 : decode cX6_isMoreThan 91 = .ok (.iconst 0, 1) := by decide +kernel
theorem dX6_isMoreThan_92 : decode cX6_isMoreThan 92 = .ok (.ireturn, 1) := by decide +kernel
theorem dX6_isMoreThan_93 : decode cX6_isMoreThan 93 = .ok (.lload_n 2, 1) := by decide +kernel
theorem dX6_isMoreThan_94 : decode cX6_isMoreThan 94 = .ok (.lload 4, 2) := by decide +kernel
theorem dX6_isMoreThan_96 : decode cX6_isMoreThan 96 = .ok (.lrem, 1) := by decide +kernel
theorem dX6_isMoreThan_97 : decode cX6_isMoreThan 97 = .ok (.lstore 12, 2) := by decide +kernel
theorem dX6_isMoreThan_99 : decode cX6_isMoreThan 99 = .ok (.lload 6, 2) := by decide +kernel
theorem dX6_isMoreThan_101 : decode cX6_isMoreThan 101 = .ok (.lload 8, 2) := by decide +kernel
theorem dX6_isMoreThan_103 : decode cX6_isMoreThan 103 = .ok (.lrem, 1) := by decide +kernel
theorem dX6_isMoreThan_104 : decode cX6_isMoreThan 104 = .ok (.lstore 14, 2) := by decide +kernel
theorem dX6_isMoreThan_106 : decode cX6_isMoreThan 106 = .ok (.lload 12, 2) := by decide +kernel
theorem dX6_isMoreThan_108 : decode cX6_isMoreThan 108 = .ok (.lconst 0, 1) := by decide +kernel
theorem dX6_isMoreThan_109 : decode cX6_isMoreThan 109 = .ok (.lcmp, 1) := by decide +kernel
theorem dX6_isMoreThan_110 : decode cX6_isMoreThan 110 = .ok (.ifCond .eq 10, 3) := by decide +kernel
theorem dX6_isMoreThan_113 : decode cX6_isMoreThan 113 = .ok (.lload 14, 2) := by decide +kernel
theorem dX6_isMoreThan_115 : decode cX6_isMoreThan 115 = .ok (.lconst 0, 1) := by decide +kernel
theorem dX6_isMoreThan_116 : decode cX6_isMoreThan 116 = .ok (.lcmp, 1) := by decide +kernel
theorem dX6_isMoreThan_117 : decode cX6_isMoreThan 117 = .ok (.ifCond .ne 38, 3) := by decide +kernel
theorem dX6_isMoreThan_120 : decode cX6_isMoreThan 120 = .ok (.iload 10, 2) := by decide +kernel
theorem dX6_isMoreThan_122 : decode cX6_isMoreThan 122 = .ok (.ifCond .eq 19, 3) := by decide +kernel
theorem dX6_isMoreThan_125 : decode cX6_isMoreThan 125 = .ok (.lload 12, 2) := by decide +kernel
theorem dX6_isMoreThan_127 : decode cX6_isMoreThan 127 = .ok (.lload 14, 2) := by decide +kernel
theorem dX6_isMoreThan_129 : decode cX6_isMoreThan 129 = .ok (.lcmp, 1) := by decide +kernel
theorem dX6_isMoreThan_130 : decode cX6_isMoreThan 130 = .ok (.ifCond .ge 7, 3) := by decide +kernel
theorem dX6_isMoreThan_133 : decode cX6_isMoreThan 133 = .ok (.iconst 1, 1) := by decide +kernel
theorem dX6_isMoreThan_134 : decode cX6_isMoreThan 134 = .ok (.goto 20, 3) := by decide +kernel
theorem dX6_isMoreThan_137 : decode cX6_isMoreThan 137 = .ok (.iconst 0, 1) := by decide +kernel
theorem dX6_isMoreThan_138 : decode cX6_isMoreThan 138 = .ok (.goto 16, 3) := by decide +kernel
theorem dX6_isMoreThan_141 : decode cX6_isMoreThan 141 = .ok (.lload 12, 2) := by decide +kernel
theorem dX6_isMoreThan_143 : decode cX6_isMoreThan 143 = .ok (.lload 14, 2) := by decide +kernel
theorem dX6_isMoreThan_145 : decode cX6_isMoreThan 145 = .ok (.lcmp, 1) := by decide +kernel
theorem dX6_isMoreThan_146 : decode cX6_isMoreThan 146 = .ok (.ifCond .le 7, 3) := by decide +kernel
theorem dX6_isMoreThan_149 : decode cX6_isMoreThan 149 = .ok (.iconst 1, 1) := by decide +kernel
theorem dX6_isMoreThan_150 : decode cX6_isMoreThan 150 = .ok (.goto 4, 3) := by decide +kernel
theorem dX6_isMoreThan_153 : decode cX6_isMoreThan 153 = .ok (.iconst 0, 1) := by decide +kernel
theorem dX6_isMoreThan_154 : decode cX6_isMoreThan 154 = .ok (.ireturn, 1) := by decide +kernel
theorem dX6_isMoreThan_155 : decode cX6_isMoreThan 155 = .ok (.lload 4, 2) := by decide +kernel
theorem dX6_isMoreThan_157 : decode cX6_isMoreThan 157 = .ok (.lstore_n 2, 1) := by decide +kernel
theorem dX6_isMoreThan_158 : decode cX6_isMoreThan 158 = .ok (.lload 12, 2) := by decide +kernel
theorem dX6_isMoreThan_160 : decode cX6_isMoreThan 160 = .ok (.lstore 4, 2) := by decide +kernel
theorem dX6_isMoreThan_162 : decode cX6_isMoreThan 162 = .ok (.lload 8, 2) := by decide +kernel
theorem dX6_isMoreThan_164 : decode cX6_isMoreThan 164 = .ok (.lstore 6, 2) := by decide +kernel
theorem dX6_isMoreThan_166 : decode cX6_isMoreThan 166 = .ok (.lload 14, 2) := by decide +kernel
theorem dX6_isMoreThan_168 : decode cX6_isMoreThan 168 = .ok (.lstore 8, 2) := by decide +kernel
theorem dX6_isMoreThan_170 : decode cX6_isMoreThan 170 = .ok (.iload 10, 2) := by decide +kernel
theorem dX6_isMoreThan_172 : decode cX6_isMoreThan 172 = .ok (.ifCond .ne 7, 3) := by decide +kernel
theorem dX6_isMoreThan_175 : decode cX6_isMoreThan 175 = .ok (.iconst 1, 1) := by decide +kernel
theorem dX6_isMoreThan_176 : decode cX6_isMoreThan 176 = .ok (.goto 4, 3) := by decide +kernel
theorem dX6_isMoreThan_179 : decode cX6_isMoreThan 179 = .ok (.iconst 0, 1) := by decide +kernel
theorem dX6_isMoreThan_180 : decode cX6_isMoreThan 180 = .ok (.istore 10, 2) := by decide +kernel
theorem dX6_isMoreThan_182 : decode cX6_isMoreThan 182 = .ok (.iinc 11 1, 3) := by decide +kernel
theorem dX6_isMoreThan_185 : decode cX6_isMoreThan 185 = .ok (.goto (-156), 3) := by decide +kernel
theorem dX6_isMoreThan_188 : decode cX6_isMoreThan 188 = .ok (.iconst 0, 1) := by decide +kernel
theorem dX6_isMoreThan_189 : decode cX6_isMoreThan 189 = .ok (.ireturn, 1) := by decide +kernel
theorem dX6_divisor_0 : decode cX6_divisor 0 = .ok (.lload_n 0, 1) := by decide +kernel
theorem dX6_divisor_1 : decode cX6_divisor 1 = .ok (.lstore 4, 2) := by decide +kernel
theorem dX6_divisor_3 : decode cX6_divisor 3 = .ok (.lload_n 2, 1) := by decide +kernel
theorem dX6_divisor_4 : decode cX6_divisor 4 = .ok (.lstore 6, 2) := by decide +kernel
theorem dX6_divisor_6 : decode cX6_divisor 6 = .ok (.iconst 0, 1) := by decide +kernel
theorem dX6_divisor_7 : decode cX6_divisor 7 = .ok (.istore 8, 2) := by decide +kernel
theorem dX6_divisor_9 : decode cX6_divisor 9 = .ok (.iload 8, 2) := by decide +kernel
theorem dX6_divisor_11 : decode cX6_divisor 11 = .ok (.sipush 200, 3) := by decide +kernel
theorem dX6_divisor_14 : decode cX6_divisor 14 = .ok (.if_icmp .ge 31, 3) := by decide +kernel
theorem dX6_divisor_17 : decode cX6_divisor 17 = .ok (.lload 6, 2) := by decide +kernel
theorem dX6_divisor_19 : decode cX6_divisor 19 = .ok (.lconst 0, 1) := by decide +kernel
theorem dX6_divisor_20 : decode cX6_divisor 20 = .ok (.lcmp, 1) := by decide +kernel
theorem dX6_divisor_21 : decode cX6_divisor 21 = .ok (.ifCond .eq 24, 3) := by decide +kernel
theorem dX6_divisor_24 : decode cX6_divisor 24 = .ok (.lload 4, 2) := by decide +kernel
theorem dX6_divisor_26 : decode cX6_divisor 26 = .ok (.lload 6, 2) := by decide +kernel
theorem dX6_divisor_28 : decode cX6_divisor 28 = .ok (.lrem, 1) := by decide +kernel
theorem dX6_divisor_29 : decode cX6_divisor 29 = .ok (.lstore 9, 2) := by decide +kernel
theorem dX6_divisor_31 : decode cX6_divisor 31 = .ok (.lload 6, 2) := by decide +kernel
theorem dX6_divisor_33 : decode cX6_divisor 33 = .ok (.lstore 4, 2) := by decide +kernel
theorem dX6_divisor_35 : decode cX6_divisor 35 = .ok (.lload 9, 2) := by decide +kernel
theorem dX6_divisor_37 : decode cX6_divisor 37 = .ok (.lstore 6, 2) := by decide +kernel
theorem dX6_divisor_39 : decode cX6_divisor 39 = .ok (.iinc 8 1, 3) := by decide +kernel
theorem dX6_divisor_42 : decode cX6_divisor 42 = .ok (.goto (-33), 3) := by decide +kernel
theorem dX6_divisor_45 : decode cX6_divisor 45 = .ok (.lload 4, 2) := by decide +kernel
theorem dX6_divisor_47 : decode cX6_divisor 47 = .ok (.lreturn, 1) := by decide +kernel
theorem dX7_init_0 : decode cX7_init 0 = .ok (.aload_n 0, 1) := by decide +kernel
theorem dX7_init_1 : decode cX7_init 1 = .ok (.invokespecial 3, 3) := by decide +kernel
theorem dX7_init_4 : decode cX7_init 4 = .ok (.aload_n 0, 1) := by decide +kernel
theorem dX7_init_5 : decode cX7_init 5 = .ok (.iconst 0, 1) := by decide +kernel
theorem dX7_init_6 : decode cX7_init 6 = .ok (.putfield 9, 3) := by decide +kernel
theorem dX7_init_9 : decode cX7_init 9 = .ok (.aload_n 0, 1) := by decide +kernel
theorem dX7_init_10 : decode cX7_init 10 = .ok (.iconst 0, 1) := by decide +kernel
theorem dX7_init_11 : decode cX7_init 11 = .ok (.putfield 15, 3) := by decide +kernel
theorem dX7_init_14 : decode cX7_init 14 = .ok (.aload_n 0, 1) := by decide +kernel
theorem dX7_init_15 : decode cX7_init 15 = .ok (.bipush 6, 2) := by decide +kernel
theorem dX7_init_17 : decode cX7_init 17 = .ok (.newarray .int, 2) := by decide +kernel
theorem dX7_init_19 : decode cX7_init 19 = .ok (.putfield 19, 3) := by decide +kernel
theorem dX7_init_22 : decode cX7_init 22 = .ok (.aload_n 0, 1) := by decide +kernel
theorem dX7_init_23 : decode cX7_init 23 = .ok (.bipush 6, 2) := by decide +kernel
theorem dX7_init_25 : decode cX7_init 25 = .ok (.newarray .int, 2) := by decide +kernel
theorem dX7_init_27 : decode cX7_init 27 = .ok (.putfield 23, 3) := by decide +kernel
theorem dX7_init_30 : decode cX7_init 30 = .ok (.aload_n 0, 1) := by decide +kernel
theorem dX7_init_31 : decode cX7_init 31 = .ok (.bipush 6, 2) := by decide +kernel
theorem dX7_init_33 : decode cX7_init 33 = .ok (.newarray .int, 2) := by decide +kernel
theorem dX7_init_35 : decode cX7_init 35 = .ok (.putfield 26, 3) := by decide +kernel
theorem dX7_init_38 : decode cX7_init 38 = .ok (.aload_n 0, 1) := by decide +kernel
theorem dX7_init_39 : decode cX7_init 39 = .ok (.bipush 6, 2) := by decide +kernel
theorem dX7_init_41 : decode cX7_init 41 = .ok (.newarray .int, 2) := by decide +kernel
theorem dX7_init_43 : decode cX7_init 43 = .ok (.putfield 29, 3) := by decide +kernel
theorem dX7_init_46 : decode cX7_init 46 = .ok (.aload_n 0, 1) := by decide +kernel
theorem dX7_init_47 : decode cX7_init 47 = .ok (.bipush 6, 2) := by decide +kernel
theorem dX7_init_49 : decode cX7_init 49 = .ok (.newarray .int, 2) := by decide +kernel
theorem dX7_init_51 : decode cX7_init 51 = .ok (.putfield 32, 3) := by decide +kernel
theorem dX7_init_54 : decode cX7_init 54 = .ok (.aload_n 0, 1) := by decide +kernel
theorem dX7_init_55 : decode cX7_init 55 = .ok (.bipush 6, 2) := by decide +kernel
theorem dX7_init_57 : decode cX7_init 57 = .ok (.newarray .int, 2) := by decide +kernel
theorem dX7_init_59 : decode cX7_init 59 = .ok (.putfield 35, 3) := by decide +kernel
theorem dX7_init_62 : decode cX7_init 62 = .ok (.aload_n 0, 1) := by decide +kernel
theorem dX7_init_63 : decode cX7_init 63 = .ok (.bipush 6, 2) := by decide +kernel
theorem dX7_init_65 : decode cX7_init 65 = .ok (.newarray .boolean, 2) := by decide +kernel
theorem dX7_init_67 : decode cX7_init 67 = .ok (.putfield 38, 3) := by decide +kernel
theorem dX7_init_70 : decode cX7_init 70 = .ok (.return_, 1) := by decide +kernel
theorem dX7_take_0 : decode cX7_take 0 = .ok (.aload_n 0, 1) := by decide +kernel
theorem dX7_take_1 : decode cX7_take 1 = .ok (.iload_n 3, 1) := by decide +kernel
theorem dX7_take_2 : decode cX7_take 2 = .ok (.putfield 9, 3) := by decide +kernel
theorem dX7_take_5 : decode cX7_take 5 = .ok (.aload_n 0, 1) := by decide +kernel
theorem dX7_take_6 : decode cX7_take 6 = .ok (.aload_n 2, 1) := by decide +kernel
theorem dX7_take_7 : decode cX7_take 7 = .ok (.getfield 42, 3) := by decide +kernel
theorem dX7_take_10 : decode cX7_take 10 = .ok (.putfield 15, 3) := by decide +kernel
theorem dX7_take_13 : decode cX7_take 13 = .ok (.iconst 0, 1) := by decide +kernel
theorem dX7_take_14 : decode cX7_take 14 = .ok (.istore 4, 2) := by decide +kernel
theorem dX7_take_16 : decode cX7_take 16 = .ok (.iload 4, 2) := by decide +kernel
theorem dX7_take_18 : decode cX7_take 18 = .ok (.aload_n 0, 1) := by decide +kernel
theorem dX7_take_19 : decode cX7_take 19 = .ok (.getfield 15, 3) := by decide +kernel
theorem dX7_take_22 : decode cX7_take 22 = .ok (.if_icmp .ge 115, 3) := by decide +kernel
theorem dX7_take_25 : decode cX7_take 25 = .ok (.aload_n 0, 1) := by decide +kernel
theorem dX7_take_26 : decode cX7_take 26 = .ok (.getfield 19, 3) := by decide +kernel
theorem dX7_take_29 : decode cX7_take 29 = .ok (.iload 4, 2) := by decide +kernel
theorem dX7_take_31 : decode cX7_take 31 = .ok (.aload_n 2, 1) := by decide +kernel
theorem dX7_take_32 : decode cX7_take 32 = .ok (.getfield 45, 3) := by decide +kernel
theorem dX7_take_35 : decode cX7_take 35 = .ok (.iload 4, 2) := by decide +kernel
theorem dX7_take_37 : decode cX7_take 37 = .ok (.iaload, 1) := by decide +kernel
theorem dX7_take_38 : decode cX7_take 38 = .ok (.iastore, 1) := by decide +kernel
theorem dX7_take_39 : decode cX7_take 39 = .ok (.aload_n 0, 1) := by decide +kernel
theorem dX7_take_40 : decode cX7_take 40 = .ok (.getfield 23, 3) := by decide +kernel
theorem dX7_take_43 : decode cX7_take 43 = .ok (.iload 4, 2) := by decide +kernel
theorem dX7_take_45 : decode cX7_take 45 = .ok (.aload_n 2, 1) := by decide +kernel
theorem dX7_take_46 : decode cX7_take 46 = .ok (.aload_n 1, 1) := by decide +kernel
theorem dX7_take_47 : decode cX7_take 47 = .ok (.iload 4, 2) := by decide +kernel
theorem dX7_take_49 : decode cX7_take 49 = .ok (.invokevirtual 46, 3) := by decide +kernel
theorem dX7_take_52 : decode cX7_take 52 = .ok (.iastore, 1) := by decide +kernel
theorem dX7_take_53 : decode cX7_take 53 = .ok (.aload_n 0, 1) := by decide +kernel
theorem dX7_take_54 : decode cX7_take 54 = .ok (.getfield 26, 3) := by decide +kernel
theorem dX7_take_57 : decode cX7_take 57 = .ok (.iload 4, 2) := by decide +kernel
theorem dX7_take_59 : decode cX7_take 59 = .ok (.aload_n 1, 1) := by decide +kernel
theorem dX7_take_60 : decode cX7_take 60 = .ok (.getfield 50, 3) := by decide +kernel
theorem dX7_take_63 : decode cX7_take 63 = .ok (.aload_n 0, 1) := by decide +kernel
theorem dX7_take_64 : decode cX7_take 64 = .ok (.getfield 19, 3) := by decide +kernel
theorem dX7_take_67 : decode cX7_take 67 = .ok (.iload 4, 2) := by decide +kernel
theorem dX7_take_69 : decode cX7_take 69 = .ok (.iaload, 1) := by decide +kernel
theorem dX7_take_70 : decode cX7_take 70 = .ok (.iaload, 1) := by decide +kernel
theorem dX7_take_71 : decode cX7_take 71 = .ok (.iastore, 1) := by decide +kernel
theorem dX7_take_72 : decode cX7_take 72 = .ok (.aload_n 0, 1) := by decide +kernel
theorem dX7_take_73 : decode cX7_take 73 = .ok (.getfield 29, 3) := by decide +kernel
theorem dX7_take_76 : decode cX7_take 76 = .ok (.iload 4, 2) := by decide +kernel
theorem dX7_take_78 : decode cX7_take 78 = .ok (.aload_n 2, 1) := by decide +kernel
theorem dX7_take_79 : decode cX7_take 79 = .ok (.aload_n 1, 1) := by decide +kernel
theorem dX7_take_80 : decode cX7_take 80 = .ok (.iload 4, 2) := by decide +kernel
theorem dX7_take_82 : decode cX7_take 82 = .ok (.invokevirtual 53, 3) := by decide +kernel
theorem dX7_take_85 : decode cX7_take 85 = .ok (.iastore, 1) := by decide +kernel
theorem dX7_take_86 : decode cX7_take 86 = .ok (.aload_n 0, 1) := by decide +kernel
theorem dX7_take_87 : decode cX7_take 87 = .ok (.getfield 32, 3) := by decide +kernel
theorem dX7_take_90 : decode cX7_take 90 = .ok (.iload 4, 2) := by decide +kernel
theorem dX7_take_92 : decode cX7_take 92 = .ok (.iconst 2, 1) := by decide +kernel
theorem dX7_take_93 : decode cX7_take 93 = .ok (.aload_n 2, 1) := by decide +kernel
theorem dX7_take_94 : decode cX7_take 94 = .ok (.aload_n 1, 1) := by decide +kernel
theorem dX7_take_95 : decode cX7_take 95 = .ok (.iload 4, 2) := by decide +kernel
theorem dX7_take_97 : decode cX7_take 97 = .ok (.invokevirtual 56, 3) := by decide +kernel
theorem dX7_take_100 : decode cX7_take 100 = .ok (.imul, 1) := by decide +kernel
theorem dX7_take_101 : decode cX7_take 101 = .ok (.iastore, 1) := by decide +kernel
theorem dX7_take_102 : decode cX7_take 102 = .ok (.aload_n 0, 1) := by decide +kernel
theorem dX7_take_103 : decode cX7_take 103 = .ok (.getfield 35, 3) := by decide +kernel
theorem dX7_take_106 : decode cX7_take 106 = .ok (.iload 4, 2) := by decide +kernel
theorem dX7_take_108 : decode cX7_take 108 = .ok (.iconst 2, 1) := by decide +kernel
theorem dX7_take_109 : decode cX7_take 109 = .ok (.aload_n 2, 1) := by decide +kernel
theorem dX7_take_110 : decode cX7_take 110 = .ok (.aload_n 1, 1) := by decide +kernel
theorem dX7_take_111 : decode cX7_take 111 = .ok (.iload 4, 2) := by decide +kernel
theorem dX7_take_113 : decode cX7_take 113 = .ok (.invokevirtual 59, 3) := by decide +kernel
theorem dX7_take_116 : decode cX7_take 116 = .ok (.imul, 1) := by decide +kernel
theorem dX7_take_117 : decode cX7_take 117 = .ok (.iastore, 1) := by decide +kernel
theorem dX7_take_118 : decode cX7_take 118 = .ok (.aload_n 0, 1) := by decide +kernel
theorem dX7_take_119 : decode cX7_take 119 = .ok (.getfield 38, 3) := by decide +kernel
theorem dX7_take_122 : decode cX7_take 122 = .ok (.iload 4, 2) := by decide +kernel
theorem dX7_take_124 : decode cX7_take 124 = .ok (.aload_n 2, 1) := by decide +kernel
theorem dX7_take_125 : decode cX7_take 125 = .ok (.iload 4, 2) := by decide +kernel
theorem dX7_take_127 : decode cX7_take 127 = .ok (.invokevirtual 62, 3) := by decide +kernel
theorem dX7_take_130 : decode cX7_take 130 = .ok (.bastore, 1) := by decide +kernel
theorem dX7_take_131 : decode cX7_take 131 = .ok (.iinc 4 1, 3) := by decide +kernel
theorem dX7_take_134 : decode cX7_take 134 = .ok (.goto (-118), 3) := by decide +kernel
theorem dX7_take_137 : decode cX7_take 137 = .ok (.return_, 1) := by decide +kernel
theorem dX7_agrees_0 : decode cX7_agrees 0 = .ok (.iconst 0, 1) := by decide +kernel
theorem dX7_agrees_1 : decode cX7_agrees 1 = .ok (.istore_n 2, 1) := by decide +kernel
theorem dX7_agrees_2 : decode cX7_agrees 2 = .ok (.iconst 0, 1) := by decide +kernel
theorem dX7_agrees_3 : decode cX7_agrees 3 = .ok (.istore_n 3, 1) := by decide +kernel
theorem dX7_agrees_4 : decode cX7_agrees 4 = .ok (.aload_n 0, 1) := by decide +kernel
theorem dX7_agrees_5 : decode cX7_agrees 5 = .ok (.getfield 15, 3) := by decide +kernel
theorem dX7_agrees_8 : decode cX7_agrees 8 = .ok (.iconst 1, 1) := by decide +kernel
theorem dX7_agrees_9 : decode cX7_agrees 9 = .ok (.isub, 1) := by decide +kernel
theorem dX7_agrees_10 : decode cX7_agrees 10 = .ok (.istore 4, 2) := by decide +kernel
theorem dX7_agrees_12 : decode cX7_agrees 12 = .ok (.iload 4, 2) := by decide +kernel
theorem dX7_agrees_14 : decode cX7_agrees 14 = .ok (.ifCond .lt 103, 3) := by decide +kernel
theorem dX7_agrees_17 : decode cX7_agrees 17 = .ok (.aload_n 1, 1) := by decide +kernel
theorem dX7_agrees_18 : decode cX7_agrees 18 = .ok (.aload_n 0, 1) := by decide +kernel
theorem dX7_agrees_19 : decode cX7_agrees 19 = .ok (.getfield 19, 3) := by decide +kernel
theorem dX7_agrees_22 : decode cX7_agrees 22 = .ok (.iload 4, 2) := by decide +kernel
theorem dX7_agrees_24 : decode cX7_agrees 24 = .ok (.iaload, 1) := by decide +kernel
theorem dX7_agrees_25 : decode cX7_agrees 25 = .ok (.iaload, 1) := by decide +kernel
theorem dX7_agrees_26 : decode cX7_agrees 26 = .ok (.istore 5, 2) := by decide +kernel
theorem dX7_agrees_28 : decode cX7_agrees 28 = .ok (.iload_n 2, 1) := by decide +kernel
theorem dX7_agrees_29 : decode cX7_agrees 29 = .ok (.iload 5, 2) := by decide +kernel
theorem dX7_agrees_31 : decode cX7_agrees 31 = .ok (.aload_n 0, 1) := by decide +kernel
theorem dX7_agrees_32 : decode cX7_agrees 32 = .ok (.getfield 26, 3) := by decide +kernel
theorem dX7_agrees_35 : decode cX7_agrees 35 = .ok (.iload 4, 2) := by decide +kernel
theorem dX7_agrees_37 : decode cX7_agrees 37 = .ok (.iaload, 1) := by decide +kernel
theorem dX7_agrees_38 : decode cX7_agrees 38 = .ok (.iadd, 1) := by decide +kernel
theorem dX7_agrees_39 : decode cX7_agrees 39 = .ok (.iadd, 1) := by decide +kernel
theorem dX7_agrees_40 : decode cX7_agrees 40 = .ok (.istore_n 2, 1) := by decide +kernel
theorem dX7_agrees_41 : decode cX7_agrees 41 = .ok (.iload_n 3, 1) := by decide +kernel
theorem dX7_agrees_42 : decode cX7_agrees 42 = .ok (.iload 5, 2) := by decide +kernel
theorem dX7_agrees_44 : decode cX7_agrees 44 = .ok (.aload_n 0, 1) := by decide +kernel
theorem dX7_agrees_45 : decode cX7_agrees 45 = .ok (.getfield 23, 3) := by decide +kernel
theorem dX7_agrees_48 : decode cX7_agrees 48 = .ok (.iload 4, 2) := by decide +kernel
theorem dX7_agrees_50 : decode cX7_agrees 50 = .ok (.iaload, 1) := by decide +kernel
theorem dX7_agrees_51 : decode cX7_agrees 51 = .ok (.imul, 1) := by decide +kernel
theorem dX7_agrees_52 : decode cX7_agrees 52 = .ok (.aload_n 0, 1) := by decide +kernel
theorem dX7_agrees_53 : decode cX7_agrees 53 = .ok (.getfield 29, 3) := by decide +kernel
theorem dX7_agrees_56 : decode cX7_agrees 56 = .ok (.iload 4, 2) := by decide +kernel
theorem dX7_agrees_58 : decode cX7_agrees 58 = .ok (.iaload, 1) := by decide +kernel
theorem dX7_agrees_59 : decode cX7_agrees 59 = .ok (.iadd, 1) := by decide +kernel
theorem dX7_agrees_60 : decode cX7_agrees 60 = .ok (.iadd, 1) := by decide +kernel
theorem dX7_agrees_61 : decode cX7_agrees 61 = .ok (.istore_n 3, 1) := by decide +kernel
theorem dX7_agrees_62 : decode cX7_agrees 62 = .ok (.aload_n 0, 1) := by decide +kernel
theorem dX7_agrees_63 : decode cX7_agrees 63 = .ok (.getfield 38, 3) := by decide +kernel
theorem dX7_agrees_66 : decode cX7_agrees 66 = .ok (.iload 4, 2) := by decide +kernel
theorem dX7_agrees_68 : decode cX7_agrees 68 = .ok (.baload, 1) := by decide +kernel
theorem dX7_agrees_69 : decode cX7_agrees 69 = .ok (.ifCond .ne 42, 3) := by decide +kernel
theorem dX7_agrees_72 : decode cX7_agrees 72 = .ok (.iload_n 3, 1) := by decide +kernel
theorem dX7_agrees_73 : decode cX7_agrees 73 = .ok (.aload_n 0, 1) := by decide +kernel
theorem dX7_agrees_74 : decode cX7_agrees 74 = .ok (.getfield 32, 3) := by decide +kernel
theorem dX7_agrees_77 : decode cX7_agrees 77 = .ok (.iload 4, 2) := by decide +kernel
theorem dX7_agrees_79 : decode cX7_agrees 79 = .ok (.iaload, 1) := by decide +kernel
theorem dX7_agrees_80 : decode cX7_agrees 80 = .ok (.iload_n 2, 1) := by decide +kernel
theorem dX7_agrees_81 : decode cX7_agrees 81 = .ok (.imul, 1) := by decide +kernel
theorem dX7_agrees_82 : decode cX7_agrees 82 = .ok (.if_icmp .lt 16, 3) := by decide +kernel
theorem dX7_agrees_85 : decode cX7_agrees 85 = .ok (.iload_n 3, 1) := by decide +kernel
theorem dX7_agrees_86 : decode cX7_agrees 86 = .ok (.aload_n 0, 1) := by decide +kernel
theorem dX7_agrees_87 : decode cX7_agrees 87 = .ok (.getfield 35, 3) := by decide +kernel
theorem dX7_agrees_90 : decode cX7_agrees 90 = .ok (.iload 4, 2) := by decide +kernel
theorem dX7_agrees_92 : decode cX7_agrees 92 = .ok (.iaload, 1) := by decide +kernel
theorem dX7_agrees_93 : decode cX7_agrees 93 = .ok (.iload_n 2, 1) := by decide +kernel
theorem dX7_agrees_94 : decode cX7_agrees 94 = .ok (.imul, 1) := by decide +kernel
theorem dX7_agrees_95 : decode cX7_agrees 95 = .ok (.if_icmp .le 16, 3) := by decide +kernel
theorem dX7_agrees_98 : decode cX7_agrees 98 = .ok (.aload_n 0, 1) := by decide +kernel
theorem dX7_agrees_99 : decode cX7_agrees 99 = .ok (.getfield 9, 3) := by decide +kernel
theorem dX7_agrees_102 : decode cX7_agrees 102 = .ok (.ifCond .ne 7, 3) := by decide +kernel
theorem dX7_agrees_105 : decode cX7_agrees 105 = .ok (.iconst 1, 1) := by decide +kernel
theorem dX7_agrees_106 : decode cX7_agrees 106 = .ok (.goto 4, 3) := by decide +kernel
theorem dX7_agrees_109 : decode cX7_agrees 109 = .ok (.iconst 0, 1) := by decide +kernel
theorem dX7_agrees_110 : decode cX7_agrees 110 = .ok (.ireturn, 1) := by decide +kernel
theorem dX7_agrees_111 : decode cX7_agrees 111 = .ok (.iinc 4 (-1), 3) := by decide +kernel
theorem dX7_agrees_114 : decode cX7_agrees 114 = .ok (.goto (-102), 3) := by decide +kernel
theorem dX7_agrees_117 : decode cX7_agrees 117 = .ok (.aload_n 0, 1) := by decide +kernel
theorem dX7_agrees_118 : decode cX7_agrees 118 = .ok (.getfield 9, 3) := by decide +kernel
theorem dX7_agrees_121 : decode cX7_agrees 121 = .ok (.ireturn, 1) := by decide +kernel
theorem dX8_init_0 : decode cX8_init 0 = .ok (.aload_n 0, 1) := by decide +kernel
theorem dX8_init_1 : decode cX8_init 1 = .ok (.invokespecial 3, 3) := by decide +kernel
theorem dX8_init_4 : decode cX8_init 4 = .ok (.aload_n 0, 1) := by decide +kernel
theorem dX8_init_5 : decode cX8_init 5 = .ok (.iconst 3, 1) := by decide +kernel
theorem dX8_init_6 : decode cX8_init 6 = .ok (.anewarray 9, 3) := by decide +kernel
theorem dX8_init_9 : decode cX8_init 9 = .ok (.putfield 11, 3) := by decide +kernel
theorem dX8_init_12 : decode cX8_init 12 = .ok (.aload_n 0, 1) := by decide +kernel
theorem dX8_init_13 : decode cX8_init 13 = .ok (.iconst 3, 1) := by decide +kernel
theorem dX8_init_14 : decode cX8_init 14 = .ok (.newarray .boolean, 2) := by decide +kernel
theorem dX8_init_16 : decode cX8_init 16 = .ok (.putfield 17, 3) := by decide +kernel
theorem dX8_init_19 : decode cX8_init 19 = .ok (.iconst 0, 1) := by decide +kernel
theorem dX8_init_20 : decode cX8_init 20 = .ok (.istore_n 1, 1) := by decide +kernel
theorem dX8_init_21 : decode cX8_init 21 = .ok (.iload_n 1, 1) := by decide +kernel
theorem dX8_init_22 : decode cX8_init 22 = .ok (.iconst 3, 1) := by decide +kernel
theorem dX8_init_23 : decode cX8_init 23 = .ok (.if_icmp .ge 22, 3) := by decide +kernel
theorem dX8_init_26 : decode cX8_init 26 = .ok (.aload_n 0, 1) := by decide +kernel
theorem dX8_init_27 : decode cX8_init 27 = .ok (.getfield 11, 3) := by decide +kernel
theorem dX8_init_30 : decode cX8_init 30 = .ok (.iload_n 1, 1) := by decide +kernel
theorem dX8_init_31 : decode cX8_init 31 = .ok (.new 9, 3) := by decide +kernel
theorem dX8_init_34 : decode cX8_init 34 = .ok (.dup, 1) := by decide +kernel
theorem dX8_init_35 : decode cX8_init 35 = .ok (.invokespecial 21, 3) := by decide +kernel
theorem dX8_init_38 : decode cX8_init 38 = .ok (.aastore, 1) := by decide +kernel
theorem dX8_init_39 : decode cX8_init 39 = .ok (.iinc 1 1, 3) := by decide +kernel
theorem dX8_init_42 : decode cX8_init 42 = .ok (.goto (-21), 3) := by decide +kernel
theorem dX8_init_45 : decode cX8_init 45 = .ok (.return_, 1) := by decide +kernel
theorem dX8_empty_0 : decode cX8_empty 0 = .ok (.iconst 0, 1) := by decide +kernel
theorem dX8_empty_1 : decode cX8_empty 1 = .ok (.istore_n 1, 1) := by decide +kernel
theorem dX8_empty_2 : decode cX8_empty 2 = .ok (.iload_n 1, 1) := by decide +kernel
theorem dX8_empty_3 : decode cX8_empty 3 = .ok (.iconst 3, 1) := by decide +kernel
theorem dX8_empty_4 : decode cX8_empty 4 = .ok (.if_icmp .ge 16, 3) := by decide +kernel
theorem dX8_empty_7 : decode cX8_empty 7 = .ok (.aload_n 0, 1) := by decide +kernel
theorem dX8_empty_8 : decode cX8_empty 8 = .ok (.getfield 17, 3) := by decide +kernel
theorem dX8_empty_11 : decode cX8_empty 11 = .ok (.iload_n 1, 1) := by decide +kernel
theorem dX8_empty_12 : decode cX8_empty 12 = .ok (.iconst 0, 1) := by decide +kernel
theorem dX8_empty_13 : decode cX8_empty 13 = .ok (.bastore, 1) := by decide +kernel
theorem dX8_empty_14 : decode cX8_empty 14 = .ok (.iinc 1 1, 3) := by decide +kernel
theorem dX8_empty_17 : decode cX8_empty 17 = .ok (.goto (-15), 3) := by decide +kernel
theorem dX8_empty_20 : decode cX8_empty 20 = .ok (.return_, 1) := by decide +kernel
theorem dX8_keep_0 : decode cX8_keep 0 = .ok (.iload_n 1, 1) := by decide +kernel
theorem dX8_keep_1 : decode cX8_keep 1 = .ok (.ifCond .lt 8, 3) := by decide +kernel
theorem dX8_keep_4 : decode cX8_keep 4 = .ok (.iload_n 1, 1) := by decide +kernel
theorem dX8_keep_5 : decode cX8_keep 5 = .ok (.iconst 3, 1) := by decide +kernel
theorem dX8_keep_6 : decode cX8_keep 6 = .ok (.if_icmp .lt 5, 3) := by decide +kernel
theorem dX8_keep_9 : decode cX8_keep 9 = .ok (.iconst 0, 1) := by decide +kernel
theorem dX8_keep_10 : decode cX8_keep 10 = .ok (.ireturn, 1) := by decide +kernel
theorem dX8_keep_11 : decode cX8_keep 11 = .ok (.aload_n 0, 1) := by decide +kernel
theorem dX8_keep_12 : decode cX8_keep 12 = .ok (.getfield 11, 3) := by decide +kernel
theorem dX8_keep_15 : decode cX8_keep 15 = .ok (.iload_n 1, 1) := by decide +kernel
theorem dX8_keep_16 : decode cX8_keep 16 = .ok (.aaload, 1) := by decide +kernel
theorem dX8_keep_17 : decode cX8_keep 17 = .ok (.aload_n 2, 1) := by decide +kernel
theorem dX8_keep_18 : decode cX8_keep 18 = .ok (.invokevirtual 22, 3) := by decide +kernel
theorem dX8_keep_21 : decode cX8_keep 21 = .ok (.aload_n 0, 1) := by decide +kernel
theorem dX8_keep_22 : decode cX8_keep 22 = .ok (.getfield 17, 3) := by decide +kernel
theorem dX8_keep_25 : decode cX8_keep 25 = .ok (.iload_n 1, 1) := by decide +kernel
theorem dX8_keep_26 : decode cX8_keep 26 = .ok (.iconst 1, 1) := by decide +kernel
theorem dX8_keep_27 : decode cX8_keep 27 = .ok (.bastore, 1) := by decide +kernel
theorem dX8_keep_28 : decode cX8_keep 28 = .ok (.iconst 1, 1) := by decide +kernel
theorem dX8_keep_29 : decode cX8_keep 29 = .ok (.ireturn, 1) := by decide +kernel
theorem dX8_giveBack_0 : decode cX8_giveBack 0 = .ok (.iload_n 1, 1) := by decide +kernel
theorem dX8_giveBack_1 : decode cX8_giveBack 1 = .ok (.ifCond .lt 17, 3) := by decide +kernel
theorem dX8_giveBack_4 : decode cX8_giveBack 4 = .ok (.iload_n 1, 1) := by decide +kernel
theorem dX8_giveBack_5 : decode cX8_giveBack 5 = .ok (.iconst 3, 1) := by decide +kernel
theorem dX8_giveBack_6 : decode cX8_giveBack 6 = .ok (.if_icmp .ge 12, 3) := by decide +kernel
theorem dX8_giveBack_9 : decode cX8_giveBack 9 = .ok (.aload_n 0, 1) := by decide +kernel
theorem dX8_giveBack_10 : decode cX8_giveBack 10 = .ok (.getfield 17, 3) := by decide +kernel
theorem dX8_giveBack_13 : decode cX8_giveBack 13 = .ok (.iload_n 1, 1) := by decide +kernel
theorem dX8_giveBack_14 : decode cX8_giveBack 14 = .ok (.baload, 1) := by decide +kernel
theorem dX8_giveBack_15 : decode cX8_giveBack 15 = .ok (.ifCond .ne 5, 3) := by decide +kernel
theorem dX8_giveBack_18 : decode cX8_giveBack 18 = .ok (.iconst 0, 1) := by decide +kernel
theorem dX8_giveBack_19 : decode cX8_giveBack 19 = .ok (.ireturn, 1) := by decide +kernel
theorem dX8_giveBack_20 : decode cX8_giveBack 20 = .ok (.aload_n 2, 1) := by decide +kernel
theorem dX8_giveBack_21 : decode cX8_giveBack 21 = .ok (.aload_n 0, 1) := by decide +kernel
theorem dX8_giveBack_22 : decode cX8_giveBack 22 = .ok (.getfield 11, 3) := by decide +kernel
theorem dX8_giveBack_25 : decode cX8_giveBack 25 = .ok (.iload_n 1, 1) := by decide +kernel
theorem dX8_giveBack_26 : decode cX8_giveBack 26 = .ok (.aaload, 1) := by decide +kernel
theorem dX8_giveBack_27 : decode cX8_giveBack 27 = .ok (.invokevirtual 22, 3) := by decide +kernel
theorem dX8_giveBack_30 : decode cX8_giveBack 30 = .ok (.iconst 1, 1) := by decide +kernel
theorem dX8_giveBack_31 : decode cX8_giveBack 31 = .ok (.ireturn, 1) := by decide +kernel
theorem dX8_filled_0 : decode cX8_filled 0 = .ok (.iconst 0, 1) := by decide +kernel
theorem dX8_filled_1 : decode cX8_filled 1 = .ok (.istore_n 1, 1) := by decide +kernel
theorem dX8_filled_2 : decode cX8_filled 2 = .ok (.iconst 0, 1) := by decide +kernel
theorem dX8_filled_3 : decode cX8_filled 3 = .ok (.istore_n 2, 1) := by decide +kernel
theorem dX8_filled_4 : decode cX8_filled 4 = .ok (.iload_n 2, 1) := by decide +kernel
theorem dX8_filled_5 : decode cX8_filled 5 = .ok (.iconst 3, 1) := by decide +kernel
theorem dX8_filled_6 : decode cX8_filled 6 = .ok (.if_icmp .ge 26, 3) := by decide +kernel
theorem dX8_filled_9 : decode cX8_filled 9 = .ok (.iload_n 1, 1) := by decide +kernel
theorem dX8_filled_10 : decode cX8_filled 10 = .ok (.aload_n 0, 1) := by decide +kernel
theorem dX8_filled_11 : decode cX8_filled 11 = .ok (.getfield 17, 3) := by decide +kernel
theorem dX8_filled_14 : decode cX8_filled 14 = .ok (.iload_n 2, 1) := by decide +kernel
theorem dX8_filled_15 : decode cX8_filled 15 = .ok (.baload, 1) := by decide +kernel
theorem dX8_filled_16 : decode cX8_filled 16 = .ok (.ifCond .eq 7, 3) := by decide +kernel
theorem dX8_filled_19 : decode cX8_filled 19 = .ok (.iconst 1, 1) := by decide +kernel
theorem dX8_filled_20 : decode cX8_filled 20 = .ok (.goto 4, 3) := by decide +kernel
theorem dX8_filled_23 : decode cX8_filled 23 = .ok (.iconst 0, 1) := by decide +kernel
theorem dX8_filled_24 : decode cX8_filled 24 = .ok (.iadd, 1) := by decide +kernel
theorem dX8_filled_25 : decode cX8_filled 25 = .ok (.istore_n 1, 1) := by decide +kernel
theorem dX8_filled_26 : decode cX8_filled 26 = .ok (.iinc 2 1, 3) := by decide +kernel
theorem dX8_filled_29 : decode cX8_filled 29 = .ok (.goto (-25), 3) := by decide +kernel
theorem dX8_filled_32 : decode cX8_filled 32 = .ok (.iload_n 1, 1) := by decide +kernel
theorem dX8_filled_33 : decode cX8_filled 33 = .ok (.ireturn, 1) := by decide +kernel
theorem dX9_init_0 : decode cX9_init 0 = .ok (.aload_n 0, 1) := by decide +kernel
theorem dX9_init_1 : decode cX9_init 1 = .ok (.invokespecial 3, 3) := by decide +kernel
theorem dX9_init_4 : decode cX9_init 4 = .ok (.aload_n 0, 1) := by decide +kernel
theorem dX9_init_5 : decode cX9_init 5 = .ok (.bipush 16, 2) := by decide +kernel
theorem dX9_init_7 : decode cX9_init 7 = .ok (.newarray .long, 2) := by decide +kernel
theorem dX9_init_9 : decode cX9_init 9 = .ok (.putfield 9, 3) := by decide +kernel
theorem dX9_init_12 : decode cX9_init 12 = .ok (.aload_n 0, 1) := by decide +kernel
theorem dX9_init_13 : decode cX9_init 13 = .ok (.sipush 402, 3) := by decide +kernel
theorem dX9_init_16 : decode cX9_init 16 = .ok (.newarray .int, 2) := by decide +kernel
theorem dX9_init_18 : decode cX9_init 18 = .ok (.putfield 15, 3) := by decide +kernel
theorem dX9_init_21 : decode cX9_init 21 = .ok (.aload_n 0, 1) := by decide +kernel
theorem dX9_init_22 : decode cX9_init 22 = .ok (.sipush 402, 3) := by decide +kernel
theorem dX9_init_25 : decode cX9_init 25 = .ok (.newarray .int, 2) := by decide +kernel
theorem dX9_init_27 : decode cX9_init 27 = .ok (.putfield 19, 3) := by decide +kernel
theorem dX9_init_30 : decode cX9_init 30 = .ok (.aload_n 0, 1) := by decide +kernel
theorem dX9_init_31 : decode cX9_init 31 = .ok (.sipush 402, 3) := by decide +kernel
theorem dX9_init_34 : decode cX9_init 34 = .ok (.newarray .long, 2) := by decide +kernel
theorem dX9_init_36 : decode cX9_init 36 = .ok (.putfield 22, 3) := by decide +kernel
theorem dX9_init_39 : decode cX9_init 39 = .ok (.aload_n 0, 1) := by decide +kernel
theorem dX9_init_40 : decode cX9_init 40 = .ok (.iconst 0, 1) := by decide +kernel
theorem dX9_init_41 : decode cX9_init 41 = .ok (.putfield 25, 3) := by decide +kernel
theorem dX9_init_44 : decode cX9_init 44 = .ok (.iconst 0, 1) := by decide +kernel
theorem dX9_init_45 : decode cX9_init 45 = .ok (.istore_n 1, 1) := by decide +kernel
theorem dX9_init_46 : decode cX9_init 46 = .ok (.lconst 0, 1) := by decide +kernel
theorem dX9_init_47 : decode cX9_init 47 = .ok (.lstore_n 2, 1) := by decide +kernel
theorem dX9_init_48 : decode cX9_init 48 = .ok (.iconst 0, 1) := by decide +kernel
theorem dX9_init_49 : decode cX9_init 49 = .ok (.istore 4, 2) := by decide +kernel
theorem dX9_init_51 : decode cX9_init 51 = .ok (.iload 4, 2) := by decide +kernel
theorem dX9_init_53 : decode cX9_init 53 = .ok (.ldc 29, 2) := by decide +kernel
theorem dX9_init_55 : decode cX9_init 55 = .ok (.invokevirtual 31, 3) := by decide +kernel
theorem dX9_init_58 : decode cX9_init 58 = .ok (.if_icmp .ge 53, 3) := by decide +kernel
theorem dX9_init_61 : decode cX9_init 61 = .ok (.iload_n 1, 1) := by decide +kernel
theorem dX9_init_62 : decode cX9_init 62 = .ok (.bipush 16, 2) := by decide +kernel
theorem dX9_init_64 : decode cX9_init 64 = .ok (.if_icmp .ge 47, 3) := by decide +kernel
theorem dX9_init_67 : decode cX9_init 67 = .ok (.ldc 29, 2) := by decide +kernel
theorem dX9_init_69 : decode cX9_init 69 = .ok (.iload 4, 2) := by decide +kernel
theorem dX9_init_71 : decode cX9_init 71 = .ok (.invokevirtual 37, 3) := by decide +kernel
theorem dX9_init_74 : decode cX9_init 74 = .ok (.istore 5, 2) := by decide +kernel
theorem dX9_init_76 : decode cX9_init 76 = .ok (.iload 5, 2) := by decide +kernel
theorem dX9_init_78 : decode cX9_init 78 = .ok (.bipush 32, 2) := by decide +kernel
theorem dX9_init_80 : decode cX9_init 80 = .ok (.if_icmp .ne 18, 3) := by decide +kernel
theorem dX9_init_83 : decode cX9_init 83 = .ok (.aload_n 0, 1) := by decide +kernel
theorem dX9_init_84 : decode cX9_init 84 = .ok (.getfield 9, 3) := by decide +kernel
theorem dX9_init_87 : decode cX9_init 87 = .ok (.iload_n 1, 1) := by decide +kernel
theorem dX9_init_88 : decode cX9_init 88 = .ok (.lload_n 2, 1) := by decide +kernel
theorem dX9_init_89 : decode cX9_init 89 = .ok (.lastore, 1) := by decide +kernel
theorem dX9_init_90 : decode cX9_init 90 = .ok (.iinc 1 1, 3) := by decide +kernel
theorem dX9_init_93 : decode cX9_init 93 = .ok (.lconst 0, 1) := by decide +kernel
theorem dX9_init_94 : decode cX9_init 94 = .ok (.lstore_n 2, 1) := by decide +kernel
theorem dX9_init_95 : decode cX9_init 95 = .ok (.goto 10, 3) := by decide +kernel
theorem dX9_init_98 : decode cX9_init 98 = .ok (.lload_n 2, 1) := by decide +kernel
theorem dX9_init_99 : decode cX9_init 99 = .ok (.iload 5, 2) := by decide +kernel
theorem dX9_init_101 : decode cX9_init 101 = .ok (.invokestatic 41, 3) := by decide +kernel
theorem dX9_init_104 : decode cX9_init 104 = .ok (.lstore_n 2, 1) := by decide +kernel
theorem dX9_init_105 : decode cX9_init 105 = .ok (.iinc 4 1, 3) := by decide +kernel
theorem dX9_init_108 : decode cX9_init 108 = .ok (.goto (-57), 3) := by decide +kernel
theorem dX9_init_111 : decode cX9_init 111 = .ok (.return_, 1) := by decide +kernel
theorem dX9_scan_0 : decode cX9_scan 0 = .ok (.aload_n 0, 1) := by decide +kernel
theorem dX9_scan_1 : decode cX9_scan 1 = .ok (.iconst 0, 1) := by decide +kernel
theorem dX9_scan_2 : decode cX9_scan 2 = .ok (.putfield 25, 3) := by decide +kernel
theorem dX9_scan_5 : decode cX9_scan 5 = .ok (.iconst 0, 1) := by decide +kernel
theorem dX9_scan_6 : decode cX9_scan 6 = .ok (.istore_n 3, 1) := by decide +kernel
theorem dX9_scan_7 : decode cX9_scan 7 = .ok (.iconst 0, 1) := by decide +kernel
theorem dX9_scan_8 : decode cX9_scan 8 = .ok (.istore 4, 2) := by decide +kernel
theorem dX9_scan_10 : decode cX9_scan 10 = .ok (.iload 4, 2) := by decide +kernel
theorem dX9_scan_12 : decode cX9_scan 12 = .ok (.sipush 2000, 3) := by decide +kernel
theorem dX9_scan_15 : decode cX9_scan 15 = .ok (.if_icmp .ge 52, 3) := by decide +kernel
theorem dX9_scan_18 : decode cX9_scan 18 = .ok (.iload_n 3, 1) := by decide +kernel
theorem dX9_scan_19 : decode cX9_scan 19 = .ok (.iload_n 2, 1) := by decide +kernel
theorem dX9_scan_20 : decode cX9_scan 20 = .ok (.if_icmp .ge 47, 3) := by decide +kernel
theorem dX9_scan_23 : decode cX9_scan 23 = .ok (.aload_n 0, 1) := by decide +kernel
theorem dX9_scan_24 : decode cX9_scan 24 = .ok (.getfield 25, 3) := by decide +kernel
theorem dX9_scan_27 : decode cX9_scan 27 = .ok (.sipush 400, 3) := by decide +kernel
theorem dX9_scan_30 : decode cX9_scan 30 = .ok (.if_icmp .gt 37, 3) := by decide +kernel
theorem dX9_scan_33 : decode cX9_scan 33 = .ok (.aload_n 1, 1) := by decide +kernel
theorem dX9_scan_34 : decode cX9_scan 34 = .ok (.iload_n 3, 1) := by decide +kernel
theorem dX9_scan_35 : decode cX9_scan 35 = .ok (.iload_n 2, 1) := by decide +kernel
theorem dX9_scan_36 : decode cX9_scan 36 = .ok (.invokestatic 45, 3) := by decide +kernel
theorem dX9_scan_39 : decode cX9_scan 39 = .ok (.istore 5, 2) := by decide +kernel
theorem dX9_scan_41 : decode cX9_scan 41 = .ok (.aload_n 1, 1) := by decide +kernel
theorem dX9_scan_42 : decode cX9_scan 42 = .ok (.iload_n 3, 1) := by decide +kernel
theorem dX9_scan_43 : decode cX9_scan 43 = .ok (.caload, 1) := by decide +kernel
theorem dX9_scan_44 : decode cX9_scan 44 = .ok (.invokestatic 49, 3) := by decide +kernel
theorem dX9_scan_47 : decode cX9_scan 47 = .ok (.ifCond .ne 11, 3) := by decide +kernel
theorem dX9_scan_50 : decode cX9_scan 50 = .ok (.aload_n 0, 1) := by decide +kernel
theorem dX9_scan_51 : decode cX9_scan 51 = .ok (.aload_n 1, 1) := by decide +kernel
theorem dX9_scan_52 : decode cX9_scan 52 = .ok (.iload_n 3, 1) := by decide +kernel
theorem dX9_scan_53 : decode cX9_scan 53 = .ok (.iload 5, 2) := by decide +kernel
theorem dX9_scan_55 : decode cX9_scan 55 = .ok (.invokevirtual 53, 3) := by decide +kernel
theorem dX9_scan_58 : decode cX9_scan 58 = .ok (.iload 5, 2) := by decide +kernel
theorem dX9_scan_60 : decode cX9_scan 60 = .ok (.istore_n 3, 1) := by decide +kernel
theorem dX9_scan_61 : decode cX9_scan 61 = .ok (.iinc 4 1, 3) := by decide +kernel
theorem dX9_scan_64 : decode cX9_scan 64 = .ok (.goto (-54), 3) := by decide +kernel
theorem dX9_scan_67 : decode cX9_scan 67 = .ok (.aload_n 0, 1) := by decide +kernel
theorem dX9_scan_68 : decode cX9_scan 68 = .ok (.getfield 15, 3) := by decide +kernel
theorem dX9_scan_71 : decode cX9_scan 71 = .ok (.aload_n 0, 1) := by decide +kernel
theorem dX9_scan_72 : decode cX9_scan 72 = .ok (.getfield 25, 3) := by decide +kernel
theorem dX9_scan_75 : decode cX9_scan 75 = .ok (.bipush 18, 2) := by decide +kernel
theorem dX9_scan_77 : decode cX9_scan 77 = .ok (.iastore, 1) := by decide +kernel
theorem dX9_scan_78 : decode cX9_scan 78 = .ok (.aload_n 0, 1) := by decide +kernel
theorem dX9_scan_79 : decode cX9_scan 79 = .ok (.getfield 19, 3) := by decide +kernel
theorem dX9_scan_82 : decode cX9_scan 82 = .ok (.aload_n 0, 1) := by decide +kernel
theorem dX9_scan_83 : decode cX9_scan 83 = .ok (.getfield 25, 3) := by decide +kernel
theorem dX9_scan_86 : decode cX9_scan 86 = .ok (.iload_n 2, 1) := by decide +kernel
theorem dX9_scan_87 : decode cX9_scan 87 = .ok (.iastore, 1) := by decide +kernel
theorem dX9_scan_88 : decode cX9_scan 88 = .ok (.return_, 1) := by decide +kernel
theorem dX9_endOfRun_0 : decode cX9_endOfRun 0 = .ok (.aload_n 0, 1) := by decide +kernel
theorem dX9_endOfRun_1 : decode cX9_endOfRun 1 = .ok (.iload_n 1, 1) := by decide +kernel
theorem dX9_endOfRun_2 : decode cX9_endOfRun 2 = .ok (.caload, 1) := by decide +kernel
theorem dX9_endOfRun_3 : decode cX9_endOfRun 3 = .ok (.invokestatic 57, 3) := by decide +kernel
theorem dX9_endOfRun_6 : decode cX9_endOfRun 6 = .ok (.istore_n 3, 1) := by decide +kernel
theorem dX9_endOfRun_7 : decode cX9_endOfRun 7 = .ok (.aload_n 0, 1) := by decide +kernel
theorem dX9_endOfRun_8 : decode cX9_endOfRun 8 = .ok (.iload_n 1, 1) := by decide +kernel
theorem dX9_endOfRun_9 : decode cX9_endOfRun 9 = .ok (.caload, 1) := by decide +kernel
theorem dX9_endOfRun_10 : decode cX9_endOfRun 10 = .ok (.invokestatic 60, 3) := by decide +kernel
theorem dX9_endOfRun_13 : decode cX9_endOfRun 13 = .ok (.istore 4, 2) := by decide +kernel
theorem dX9_endOfRun_15 : decode cX9_endOfRun 15 = .ok (.iload_n 1, 1) := by decide +kernel
theorem dX9_endOfRun_16 : decode cX9_endOfRun 16 = .ok (.iconst 1, 1) := by decide +kernel
theorem dX9_endOfRun_17 : decode cX9_endOfRun 17 = .ok (.iadd, 1) := by decide +kernel
theorem dX9_endOfRun_18 : decode cX9_endOfRun 18 = .ok (.istore 5, 2) := by decide +kernel
theorem dX9_endOfRun_20 : decode cX9_endOfRun 20 = .ok (.iload 5, 2) := by decide +kernel
theorem dX9_endOfRun_22 : decode cX9_endOfRun 22 = .ok (.iload_n 2, 1) := by decide +kernel
theorem dX9_endOfRun_23 : decode cX9_endOfRun 23 = .ok (.if_icmp .ge 38, 3) := by decide +kernel
theorem dX9_endOfRun_26 : decode cX9_endOfRun 26 = .ok (.iload_n 3, 1) := by decide +kernel
theorem dX9_endOfRun_27 : decode cX9_endOfRun 27 = .ok (.ifCond .eq 13, 3) := by decide +kernel
theorem dX9_endOfRun_30 : decode cX9_endOfRun 30 = .ok (.aload_n 0, 1) := by decide +kernel
theorem dX9_endOfRun_31 : decode cX9_endOfRun 31 = .ok (.iload 5, 2) := by decide +kernel
theorem dX9_endOfRun_33 : decode cX9_endOfRun 33 = .ok (.caload, 1) := by decide +kernel
theorem dX9_endOfRun_34 : decode cX9_endOfRun 34 = .ok (.invokestatic 57, 3) := by decide +kernel
theorem dX9_endOfRun_37 : decode cX9_endOfRun 37 = .ok (.ifCond .ne 18, 3) := by decide +kernel
theorem dX9_endOfRun_40 : decode cX9_endOfRun 40 = .ok (.iload 4, 2) := by decide +kernel
theorem dX9_endOfRun_42 : decode cX9_endOfRun 42 = .ok (.ifCond .eq 19, 3) := by decide +kernel
theorem dX9_endOfRun_45 : decode cX9_endOfRun 45 = .ok (.aload_n 0, 1) := by decide +kernel
theorem dX9_endOfRun_46 : decode cX9_endOfRun 46 = .ok (.iload 5, 2) := by decide +kernel
theorem dX9_endOfRun_48 : decode cX9_endOfRun 48 = .ok (.caload, 1) := by decide +kernel
theorem dX9_endOfRun_49 : decode cX9_endOfRun 49 = .ok (.invokestatic 60, 3) := by decide +kernel
theorem dX9_endOfRun_52 : decode cX9_endOfRun 52 = .ok (.ifCond .eq 9, 3) := by decide +kernel
theorem dX9_endOfRun_55 : decode cX9_endOfRun 55 = .ok (.iinc 5 1, 3) := by decide +kernel
theorem dX9_endOfRun_58 : decode cX9_endOfRun 58 = .ok (.goto (-38), 3) := by decide +kernel
theorem dX9_endOfRun_61 : decode cX9_endOfRun 61 = .ok (.iload 5, 2) := by decide +kernel
theorem dX9_endOfRun_63 : decode cX9_endOfRun 63 = .ok (.ireturn, 1) := by decide +kernel
theorem dX9_note_0 : decode cX9_note 0 = .ok (.aload_n 1, 1) := by decide +kernel
theorem dX9_note_1 : decode cX9_note 1 = .ok (.iload_n 2, 1) := by decide +kernel
theorem dX9_note_2 : decode cX9_note 2 = .ok (.caload, 1) := by decide +kernel
theorem dX9_note_3 : decode cX9_note 3 = .ok (.istore 4, 2) := by decide +kernel
theorem dX9_note_5 : decode cX9_note 5 = .ok (.aload_n 0, 1) := by decide +kernel
theorem dX9_note_6 : decode cX9_note 6 = .ok (.getfield 15, 3) := by decide +kernel
theorem dX9_note_9 : decode cX9_note 9 = .ok (.aload_n 0, 1) := by decide +kernel
theorem dX9_note_10 : decode cX9_note 10 = .ok (.getfield 25, 3) := by decide +kernel
theorem dX9_note_13 : decode cX9_note 13 = .ok (.bipush 19, 2) := by decide +kernel
theorem dX9_note_15 : decode cX9_note 15 = .ok (.iastore, 1) := by decide +kernel
theorem dX9_note_16 : decode cX9_note 16 = .ok (.aload_n 0, 1) := by decide +kernel
theorem dX9_note_17 : decode cX9_note 17 = .ok (.getfield 19, 3) := by decide +kernel
theorem dX9_note_20 : decode cX9_note 20 = .ok (.aload_n 0, 1) := by decide +kernel
theorem dX9_note_21 : decode cX9_note 21 = .ok (.getfield 25, 3) := by decide +kernel
theorem dX9_note_24 : decode cX9_note 24 = .ok (.iload_n 2, 1) := by decide +kernel
theorem dX9_note_25 : decode cX9_note 25 = .ok (.iastore, 1) := by decide +kernel
theorem dX9_note_26 : decode cX9_note 26 = .ok (.aload_n 0, 1) := by decide +kernel
theorem dX9_note_27 : decode cX9_note 27 = .ok (.getfield 22, 3) := by decide +kernel
theorem dX9_note_30 : decode cX9_note 30 = .ok (.aload_n 0, 1) := by decide +kernel
theorem dX9_note_31 : decode cX9_note 31 = .ok (.getfield 25, 3) := by decide +kernel
theorem dX9_note_34 : decode cX9_note 34 = .ok (.lconst 0, 1) := by decide +kernel
theorem dX9_note_35 : decode cX9_note 35 = .ok (.lastore, 1) := by decide +kernel
theorem dX9_note_36 : decode cX9_note 36 = .ok (.iload 4, 2) := by decide +kernel
theorem dX9_note_38 : decode cX9_note 38 = .ok (.invokestatic 57, 3) := by decide +kernel
theorem dX9_note_41 : decode cX9_note 41 = .ok (.ifCond .eq 21, 3) := by decide +kernel
theorem dX9_note_44 : decode cX9_note 44 = .ok (.iload_n 3, 1) := by decide +kernel
theorem dX9_note_45 : decode cX9_note 45 = .ok (.iload_n 2, 1) := by decide +kernel
theorem dX9_note_46 : decode cX9_note 46 = .ok (.isub, 1) := by decide +kernel
theorem dX9_note_47 : decode cX9_note 47 = .ok (.bipush 8, 2) := by decide +kernel
theorem dX9_note_49 : decode cX9_note 49 = .ok (.if_icmp .gt 13, 3) := by decide +kernel
theorem dX9_note_52 : decode cX9_note 52 = .ok (.aload_n 0, 1) := by decide +kernel
theorem dX9_note_53 : decode cX9_note 53 = .ok (.aload_n 1, 1) := by decide +kernel
theorem dX9_note_54 : decode cX9_note 54 = .ok (.iload_n 2, 1) := by decide +kernel
theorem dX9_note_55 : decode cX9_note 55 = .ok (.iload_n 3, 1) := by decide +kernel
theorem dX9_note_56 : decode cX9_note 56 = .ok (.invokevirtual 63, 3) := by decide +kernel
theorem dX9_note_59 : decode cX9_note 59 = .ok (.goto 49, 3) := by decide +kernel
theorem dX9_note_62 : decode cX9_note 62 = .ok (.iload 4, 2) := by decide +kernel
theorem dX9_note_64 : decode cX9_note 64 = .ok (.invokestatic 60, 3) := by decide +kernel
theorem dX9_note_67 : decode cX9_note 67 = .ok (.ifCond .eq 20, 3) := by decide +kernel
theorem dX9_note_70 : decode cX9_note 70 = .ok (.iload_n 3, 1) := by decide +kernel
theorem dX9_note_71 : decode cX9_note 71 = .ok (.iload_n 2, 1) := by decide +kernel
theorem dX9_note_72 : decode cX9_note 72 = .ok (.isub, 1) := by decide +kernel
theorem dX9_note_73 : decode cX9_note 73 = .ok (.iconst 4, 1) := by decide +kernel
theorem dX9_note_74 : decode cX9_note 74 = .ok (.if_icmp .gt 13, 3) := by decide +kernel
theorem dX9_note_77 : decode cX9_note 77 = .ok (.aload_n 0, 1) := by decide +kernel
theorem dX9_note_78 : decode cX9_note 78 = .ok (.aload_n 1, 1) := by decide +kernel
theorem dX9_note_79 : decode cX9_note 79 = .ok (.iload_n 2, 1) := by decide +kernel
theorem dX9_note_80 : decode cX9_note 80 = .ok (.iload_n 3, 1) := by decide +kernel
theorem dX9_note_81 : decode cX9_note 81 = .ok (.invokevirtual 66, 3) := by decide +kernel
theorem dX9_note_84 : decode cX9_note 84 = .ok (.goto 24, 3) := by decide +kernel
theorem dX9_note_87 : decode cX9_note 87 = .ok (.ldc 69, 2) := by decide +kernel
theorem dX9_note_89 : decode cX9_note 89 = .ok (.iload 4, 2) := by decide +kernel
theorem dX9_note_91 : decode cX9_note 91 = .ok (.invokevirtual 71, 3) := by decide +kernel
theorem dX9_note_94 : decode cX9_note 94 = .ok (.ifCond .lt 14, 3) := by decide +kernel
theorem dX9_note_97 : decode cX9_note 97 = .ok (.aload_n 0, 1) := by decide +kernel
theorem dX9_note_98 : decode cX9_note 98 = .ok (.getfield 15, 3) := by decide +kernel
theorem dX9_note_101 : decode cX9_note 101 = .ok (.aload_n 0, 1) := by decide +kernel
theorem dX9_note_102 : decode cX9_note 102 = .ok (.getfield 25, 3) := by decide +kernel
theorem dX9_note_105 : decode cX9_note 105 = .ok (.iload 4, 2) := by decide +kernel
theorem dX9_note_107 : decode cX9_note 107 = .ok (.iastore, 1) := by decide +kernel
theorem dX9_note_108 : decode cX9_note 108 = .ok (.aload_n 0, 1) := by decide +kernel
theorem dX9_note_109 : decode cX9_note 109 = .ok (.dup, 1) := by decide +kernel
theorem dX9_note_110 : decode cX9_note 110 = .ok (.getfield 25, 3) := by decide +kernel
theorem dX9_note_113 : decode cX9_note 113 = .ok (.iconst 1, 1) := by decide +kernel
theorem dX9_note_114 : decode cX9_note 114 = .ok (.iadd, 1) := by decide +kernel
theorem dX9_note_115 : decode cX9_note 115 = .ok (.putfield 25, 3) := by decide +kernel
theorem dX9_note_118 : decode cX9_note 118 = .ok (.return_, 1) := by decide +kernel
theorem dX9_noteWord_0 : decode cX9_noteWord 0 = .ok (.lconst 0, 1) := by decide +kernel
theorem dX9_noteWord_1 : decode cX9_noteWord 1 = .ok (.lstore 4, 2) := by decide +kernel
theorem dX9_noteWord_3 : decode cX9_noteWord 3 = .ok (.iload_n 2, 1) := by decide +kernel
theorem dX9_noteWord_4 : decode cX9_noteWord 4 = .ok (.istore 6, 2) := by decide +kernel
theorem dX9_noteWord_6 : decode cX9_noteWord 6 = .ok (.iload 6, 2) := by decide +kernel
theorem dX9_noteWord_8 : decode cX9_noteWord 8 = .ok (.iload_n 3, 1) := by decide +kernel
theorem dX9_noteWord_9 : decode cX9_noteWord 9 = .ok (.if_icmp .ge 20, 3) := by decide +kernel
theorem dX9_noteWord_12 : decode cX9_noteWord 12 = .ok (.lload 4, 2) := by decide +kernel
theorem dX9_noteWord_14 : decode cX9_noteWord 14 = .ok (.aload_n 1, 1) := by decide +kernel
theorem dX9_noteWord_15 : decode cX9_noteWord 15 = .ok (.iload 6, 2) := by decide +kernel
theorem dX9_noteWord_17 : decode cX9_noteWord 17 = .ok (.caload, 1) := by decide +kernel
theorem dX9_noteWord_18 : decode cX9_noteWord 18 = .ok (.invokestatic 41, 3) := by decide +kernel
theorem dX9_noteWord_21 : decode cX9_noteWord 21 = .ok (.lstore 4, 2) := by decide +kernel
theorem dX9_noteWord_23 : decode cX9_noteWord 23 = .ok (.iinc 6 1, 3) := by decide +kernel
theorem dX9_noteWord_26 : decode cX9_noteWord 26 = .ok (.goto (-20), 3) := by decide +kernel
theorem dX9_noteWord_29 : decode cX9_noteWord 29 = .ok (.aload_n 0, 1) := by decide +kernel
theorem dX9_noteWord_30 : decode cX9_noteWord 30 = .ok (.getfield 15, 3) := by decide +kernel
theorem dX9_noteWord_33 : decode cX9_noteWord 33 = .ok (.aload_n 0, 1) := by decide +kernel
theorem dX9_noteWord_34 : decode cX9_noteWord 34 = .ok (.getfield 25, 3) := by decide +kernel
theorem dX9_noteWord_37 : decode cX9_noteWord 37 = .ok (.bipush 16, 2) := by decide +kernel
theorem dX9_noteWord_39 : decode cX9_noteWord 39 = .ok (.iastore, 1) := by decide +kernel
theorem dX9_noteWord_40 : decode cX9_noteWord 40 = .ok (.aload_n 0, 1) := by decide +kernel
theorem dX9_noteWord_41 : decode cX9_noteWord 41 = .ok (.getfield 22, 3) := by decide +kernel
theorem dX9_noteWord_44 : decode cX9_noteWord 44 = .ok (.aload_n 0, 1) := by decide +kernel
theorem dX9_noteWord_45 : decode cX9_noteWord 45 = .ok (.getfield 25, 3) := by decide +kernel
theorem dX9_noteWord_48 : decode cX9_noteWord 48 = .ok (.lload 4, 2) := by decide +kernel
theorem dX9_noteWord_50 : decode cX9_noteWord 50 = .ok (.lastore, 1) := by decide +kernel
theorem dX9_noteWord_51 : decode cX9_noteWord 51 = .ok (.iconst 0, 1) := by decide +kernel
theorem dX9_noteWord_52 : decode cX9_noteWord 52 = .ok (.istore 6, 2) := by decide +kernel
theorem dX9_noteWord_54 : decode cX9_noteWord 54 = .ok (.iload 6, 2) := by decide +kernel
theorem dX9_noteWord_56 : decode cX9_noteWord 56 = .ok (.bipush 16, 2) := by decide +kernel
theorem dX9_noteWord_58 : decode cX9_noteWord 58 = .ok (.if_icmp .ge 33, 3) := by decide +kernel
theorem dX9_noteWord_61 : decode cX9_noteWord 61 = .ok (.aload_n 0, 1) := by decide +kernel
theorem dX9_noteWord_62 : decode cX9_noteWord 62 = .ok (.getfield 9, 3) := by decide +kernel
theorem dX9_noteWord_65 : decode cX9_noteWord 65 = .ok (.iload 6, 2) := by decide +kernel
theorem dX9_noteWord_67 : decode cX9_noteWord 67 = .ok (.laload, 1) := by decide +kernel
theorem dX9_noteWord_68 : decode cX9_noteWord 68 = .ok (.lload 4, 2) := by decide +kernel
theorem dX9_noteWord_70 : decode cX9_noteWord 70 = .ok (.lcmp, 1) := by decide +kernel
theorem dX9_noteWord_71 : decode cX9_noteWord 71 = .ok (.ifCond .ne 14, 3) := by decide +kernel
theorem dX9_noteWord_74 : decode cX9_noteWord 74 = .ok (.aload_n 0, 1) := by decide +kernel
theorem dX9_noteWord_75 : decode cX9_noteWord 75 = .ok (.getfield 15, 3) := by decide +kernel
theorem dX9_noteWord_78 : decode cX9_noteWord 78 = .ok (.aload_n 0, 1) := by decide +kernel
theorem dX9_noteWord_79 : decode cX9_noteWord 79 = .ok (.getfield 25, 3) := by decide +kernel
theorem dX9_noteWord_82 : decode cX9_noteWord 82 = .ok (.iload 6, 2) := by decide +kernel
theorem dX9_noteWord_84 : decode cX9_noteWord 84 = .ok (.iastore, 1) := by decide +kernel
theorem dX9_noteWord_85 : decode cX9_noteWord 85 = .ok (.iinc 6 1, 3) := by decide +kernel
theorem dX9_noteWord_88 : decode cX9_noteWord 88 = .ok (.goto (-34), 3) := by decide +kernel
theorem dX9_noteWord_91 : decode cX9_noteWord 91 = .ok (.return_, 1) := by decide +kernel
theorem dX9_noteInt_0 : decode cX9_noteInt 0 = .ok (.iconst 0, 1) := by decide +kernel
theorem dX9_noteInt_1 : decode cX9_noteInt 1 = .ok (.istore 4, 2) := by decide +kernel
theorem dX9_noteInt_3 : decode cX9_noteInt 3 = .ok (.iload_n 2, 1) := by decide +kernel
theorem dX9_noteInt_4 : decode cX9_noteInt 4 = .ok (.istore 5, 2) := by decide +kernel
theorem dX9_noteInt_6 : decode cX9_noteInt 6 = .ok (.iload 5, 2) := by decide +kernel
theorem dX9_noteInt_8 : decode cX9_noteInt 8 = .ok (.iload_n 3, 1) := by decide +kernel
theorem dX9_noteInt_9 : decode cX9_noteInt 9 = .ok (.if_icmp .ge 24, 3) := by decide +kernel
theorem dX9_noteInt_12 : decode cX9_noteInt 12 = .ok (.iload 4, 2) := by decide +kernel
theorem dX9_noteInt_14 : decode cX9_noteInt 14 = .ok (.bipush 10, 2) := by decide +kernel
theorem dX9_noteInt_16 : decode cX9_noteInt 16 = .ok (.imul, 1) := by decide +kernel
theorem dX9_noteInt_17 : decode cX9_noteInt 17 = .ok (.aload_n 1, 1) := by decide +kernel
theorem dX9_noteInt_18 : decode cX9_noteInt 18 = .ok (.iload 5, 2) := by decide +kernel
theorem dX9_noteInt_20 : decode cX9_noteInt 20 = .ok (.caload, 1) := by decide +kernel
theorem dX9_noteInt_21 : decode cX9_noteInt 21 = .ok (.iadd, 1) := by decide +kernel
theorem dX9_noteInt_22 : decode cX9_noteInt 22 = .ok (.bipush 48, 2) := by decide +kernel
theorem dX9_noteInt_24 : decode cX9_noteInt 24 = .ok (.isub, 1) := by decide +kernel
theorem dX9_noteInt_25 : decode cX9_noteInt 25 = .ok (.istore 4, 2) := by decide +kernel
theorem dX9_noteInt_27 : decode cX9_noteInt 27 = .ok (.iinc 5 1, 3) := by decide +kernel
theorem dX9_noteInt_30 : decode cX9_noteInt 30 = .ok (.goto (-24), 3) := by decide +kernel
theorem dX9_noteInt_33 : decode cX9_noteInt 33 = .ok (.aload_n 0, 1) := by decide +kernel
theorem dX9_noteInt_34 : decode cX9_noteInt 34 = .ok (.getfield 15, 3) := by decide +kernel
theorem dX9_noteInt_37 : decode cX9_noteInt 37 = .ok (.aload_n 0, 1) := by decide +kernel
theorem dX9_noteInt_38 : decode cX9_noteInt 38 = .ok (.getfield 25, 3) := by decide +kernel
theorem dX9_noteInt_41 : decode cX9_noteInt 41 = .ok (.bipush 17, 2) := by decide +kernel
theorem dX9_noteInt_43 : decode cX9_noteInt 43 = .ok (.iastore, 1) := by decide +kernel
theorem dX9_noteInt_44 : decode cX9_noteInt 44 = .ok (.aload_n 0, 1) := by decide +kernel
theorem dX9_noteInt_45 : decode cX9_noteInt 45 = .ok (.getfield 22, 3) := by decide +kernel
theorem dX9_noteInt_48 : decode cX9_noteInt 48 = .ok (.aload_n 0, 1) := by decide +kernel
theorem dX9_noteInt_49 : decode cX9_noteInt 49 = .ok (.getfield 25, 3) := by decide +kernel
theorem dX9_noteInt_52 : decode cX9_noteInt 52 = .ok (.iload 4, 2) := by decide +kernel
theorem dX9_noteInt_54 : decode cX9_noteInt 54 = .ok (.i2l, 1) := by decide +kernel
theorem dX9_noteInt_55 : decode cX9_noteInt 55 = .ok (.lastore, 1) := by decide +kernel
theorem dX9_noteInt_56 : decode cX9_noteInt 56 = .ok (.return_, 1) := by decide +kernel
theorem dX9_packLetter_0 : decode cX9_packLetter 0 = .ok (.lload_n 0, 1) := by decide +kernel
theorem dX9_packLetter_1 : decode cX9_packLetter 1 = .ok (.ldc2_w 75, 3) := by decide +kernel
theorem dX9_packLetter_4 : decode cX9_packLetter 4 = .ok (.lmul, 1) := by decide +kernel
theorem dX9_packLetter_5 : decode cX9_packLetter 5 = .ok (.iload_n 2, 1) := by decide +kernel
theorem dX9_packLetter_6 : decode cX9_packLetter 6 = .ok (.i2l, 1) := by decide +kernel
theorem dX9_packLetter_7 : decode cX9_packLetter 7 = .ok (.ladd, 1) := by decide +kernel
theorem dX9_packLetter_8 : decode cX9_packLetter 8 = .ok (.ldc2_w 77, 3) := by decide +kernel
theorem dX9_packLetter_11 : decode cX9_packLetter 11 = .ok (.lsub, 1) := by decide +kernel
theorem dX9_packLetter_12 : decode cX9_packLetter 12 = .ok (.lconst 1, 1) := by decide +kernel
theorem dX9_packLetter_13 : decode cX9_packLetter 13 = .ok (.ladd, 1) := by decide +kernel
theorem dX9_packLetter_14 : decode cX9_packLetter 14 = .ok (.lreturn, 1) := by decide +kernel
theorem dX9_isLetter_0 : decode cX9_isLetter 0 = .ok (.iload_n 0, 1) := by decide +kernel
theorem dX9_isLetter_1 : decode cX9_isLetter 1 = .ok (.bipush 97, 2) := by decide +kernel
theorem dX9_isLetter_3 : decode cX9_isLetter 3 = .ok (.if_icmp .lt 13, 3) := by decide +kernel
theorem dX9_isLetter_6 : decode cX9_isLetter 6 = .ok (.iload_n 0, 1) := by decide +kernel
theorem dX9_isLetter_7 : decode cX9_isLetter 7 = .ok (.bipush 122, 2) := by decide +kernel
theorem dX9_isLetter_9 : decode cX9_isLetter 9 = .ok (.if_icmp .gt 7, 3) := by decide +kernel
theorem dX9_isLetter_12 : decode cX9_isLetter 12 = .ok (.iconst 1, 1) := by decide +kernel
theorem dX9_isLetter_13 : decode cX9_isLetter 13 = .ok (.goto 4, 3) := by decide +kernel
theorem dX9_isLetter_16 : decode cX9_isLetter 16 = .ok (.iconst 0, 1) := by decide +kernel
theorem dX9_isLetter_17 : decode cX9_isLetter 17 = .ok (.ireturn, 1) := by decide +kernel
theorem dX9_isDigit_0 : decode cX9_isDigit 0 = .ok (.iload_n 0, 1) := by decide +kernel
theorem dX9_isDigit_1 : decode cX9_isDigit 1 = .ok (.bipush 48, 2) := by decide +kernel
theorem dX9_isDigit_3 : decode cX9_isDigit 3 = .ok (.if_icmp .lt 13, 3) := by decide +kernel
theorem dX9_isDigit_6 : decode cX9_isDigit 6 = .ok (.iload_n 0, 1) := by decide +kernel
theorem dX9_isDigit_7 : decode cX9_isDigit 7 = .ok (.bipush 57, 2) := by decide +kernel
theorem dX9_isDigit_9 : decode cX9_isDigit 9 = .ok (.if_icmp .gt 7, 3) := by decide +kernel
theorem dX9_isDigit_12 : decode cX9_isDigit 12 = .ok (.iconst 1, 1) := by decide +kernel
theorem dX9_isDigit_13 : decode cX9_isDigit 13 = .ok (.goto 4, 3) := by decide +kernel
theorem dX9_isDigit_16 : decode cX9_isDigit 16 = .ok (.iconst 0, 1) := by decide +kernel
theorem dX9_isDigit_17 : decode cX9_isDigit 17 = .ok (.ireturn, 1) := by decide +kernel
theorem dX9_isBlank_0 : decode cX9_isBlank 0 = .ok (.iload_n 0, 1) := by decide +kernel
theorem dX9_isBlank_1 : decode cX9_isBlank 1 = .ok (.bipush 9, 2) := by decide +kernel
theorem dX9_isBlank_3 : decode cX9_isBlank 3 = .ok (.if_icmp .eq 21, 3) := by decide +kernel
theorem dX9_isBlank_6 : decode cX9_isBlank 6 = .ok (.iload_n 0, 1) := by decide +kernel
theorem dX9_isBlank_7 : decode cX9_isBlank 7 = .ok (.bipush 10, 2) := by decide +kernel
theorem dX9_isBlank_9 : decode cX9_isBlank 9 = .ok (.if_icmp .eq 15, 3) := by decide +kernel
theorem dX9_isBlank_12 : decode cX9_isBlank 12 = .ok (.iload_n 0, 1) := by decide +kernel
theorem dX9_isBlank_13 : decode cX9_isBlank 13 = .ok (.bipush 13, 2) := by decide +kernel
theorem dX9_isBlank_15 : decode cX9_isBlank 15 = .ok (.if_icmp .eq 9, 3) := by decide +kernel
theorem dX9_isBlank_18 : decode cX9_isBlank 18 = .ok (.iload_n 0, 1) := by decide +kernel
theorem dX9_isBlank_19 : decode cX9_isBlank 19 = .ok (.bipush 32, 2) := by decide +kernel
theorem dX9_isBlank_21 : decode cX9_isBlank 21 = .ok (.if_icmp .ne 7, 3) := by decide +kernel
theorem dX9_isBlank_24 : decode cX9_isBlank 24 = .ok (.iconst 1, 1) := by decide +kernel
theorem dX9_isBlank_25 : decode cX9_isBlank 25 = .ok (.goto 4, 3) := by decide +kernel
theorem dX9_isBlank_28 : decode cX9_isBlank 28 = .ok (.iconst 0, 1) := by decide +kernel
theorem dX9_isBlank_29 : decode cX9_isBlank 29 = .ok (.ireturn, 1) := by decide +kernel
