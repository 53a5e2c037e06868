theorem dX12_overNow_0 : decode cX12_overNow 0 = .ok (.iconst 0, 1) := by decide +kernel
theorem dX12_overNow_1 : decode cX12_overNow 1 = .ok (.istore_n 1, 1) := by decide +kernel
theorem dX12_overNow_2 : decode cX12_overNow 2 = .ok (.iconst 0, 1) := by decide +kernel
theorem dX12_overNow_3 : decode cX12_overNow 3 = .ok (.istore_n 2, 1) := by decide +kernel
theorem dX12_overNow_4 : decode cX12_overNow 4 = .ok (.iload_n 2, 1) := by decide +kernel
theorem dX12_overNow_5 : decode cX12_overNow 5 = .ok (.aload_n 0, 1) := by decide +kernel
theorem dX12_overNow_6 : decode cX12_overNow 6 = .ok (.getfield 110, 3) := by decide +kernel
theorem dX12_overNow_9 : decode cX12_overNow 9 = .ok (.bipush 18, 2) := by decide +kernel
theorem dX12_overNow_11 : decode cX12_overNow 11 = .ok (.iaload, 1) := by decide +kernel
theorem dX12_overNow_12 : decode cX12_overNow 12 = .ok (.if_icmp .ge 44, 3) := by decide +kernel
theorem dX12_overNow_15 : decode cX12_overNow 15 = .ok (.aload_n 0, 1) := by decide +kernel
theorem dX12_overNow_16 : decode cX12_overNow 16 = .ok (.getfield 110, 3) := by decide +kernel
theorem dX12_overNow_19 : decode cX12_overNow 19 = .ok (.bipush 6, 2) := by decide +kernel
theorem dX12_overNow_21 : decode cX12_overNow 21 = .ok (.iload_n 2, 1) := by decide +kernel
theorem dX12_overNow_22 : decode cX12_overNow 22 = .ok (.iadd, 1) := by decide +kernel
theorem dX12_overNow_23 : decode cX12_overNow 23 = .ok (.iaload, 1) := by decide +kernel
theorem dX12_overNow_24 : decode cX12_overNow 24 = .ok (.aload_n 0, 1) := by decide +kernel
theorem dX12_overNow_25 : decode cX12_overNow 25 = .ok (.iload_n 2, 1) := by decide +kernel
theorem dX12_overNow_26 : decode cX12_overNow 26 = .ok (.invokevirtual 317, 3) := by decide +kernel
theorem dX12_overNow_29 : decode cX12_overNow 29 = .ok (.iadd, 1) := by decide +kernel
theorem dX12_overNow_30 : decode cX12_overNow 30 = .ok (.iload_n 1, 1) := by decide +kernel
theorem dX12_overNow_31 : decode cX12_overNow 31 = .ok (.if_icmp .le 19, 3) := by decide +kernel
theorem dX12_overNow_34 : decode cX12_overNow 34 = .ok (.aload_n 0, 1) := by decide +kernel
theorem dX12_overNow_35 : decode cX12_overNow 35 = .ok (.getfield 110, 3) := by decide +kernel
theorem dX12_overNow_38 : decode cX12_overNow 38 = .ok (.bipush 6, 2) := by decide +kernel
theorem dX12_overNow_40 : decode cX12_overNow 40 = .ok (.iload_n 2, 1) := by decide +kernel
theorem dX12_overNow_41 : decode cX12_overNow 41 = .ok (.iadd, 1) := by decide +kernel
theorem dX12_overNow_42 : decode cX12_overNow 42 = .ok (.iaload, 1) := by decide +kernel
theorem dX12_overNow_43 : decode cX12_overNow 43 = .ok (.aload_n 0, 1) := by decide +kernel
theorem dX12_overNow_44 : decode cX12_overNow 44 = .ok (.iload_n 2, 1) := by decide +kernel
theorem dX12_overNow_45 : decode cX12_overNow 45 = .ok (.invokevirtual 317, 3) := by decide +kernel
theorem dX12_overNow_48 : decode cX12_overNow 48 = .ok (.iadd, 1) := by decide +kernel
theorem dX12_overNow_49 : decode cX12_overNow 49 = .ok (.istore_n 1, 1) := by decide +kernel
theorem dX12_overNow_50 : decode cX12_overNow 50 = .ok (.iinc 2 1, 3) := by decide +kernel
theorem dX12_overNow_53 : decode cX12_overNow 53 = .ok (.goto (-49), 3) := by decide +kernel
theorem dX12_overNow_56 : decode cX12_overNow 56 = .ok (.iload_n 1, 1) := by decide +kernel
theorem dX12_overNow_57 : decode cX12_overNow 57 = .ok (.ireturn, 1) := by decide +kernel
theorem dX12_over_0 : decode cX12_over 0 = .ok (.aload_n 0, 1) := by decide +kernel
theorem dX12_over_1 : decode cX12_over 1 = .ok (.invokevirtual 346, 3) := by decide +kernel
theorem dX12_over_4 : decode cX12_over 4 = .ok (.aload_n 0, 1) := by decide +kernel
theorem dX12_over_5 : decode cX12_over 5 = .ok (.invokevirtual 364, 3) := by decide +kernel
theorem dX12_over_8 : decode cX12_over 8 = .ok (.ireturn, 1) := by decide +kernel
theorem dX12_keeps_0 : decode cX12_keeps 0 = .ok (.aload_n 0, 1) := by decide +kernel
theorem dX12_keeps_1 : decode cX12_keeps 1 = .ok (.getfield 239, 3) := by decide +kernel
theorem dX12_keeps_4 : decode cX12_keeps 4 = .ok (.bipush 50, 2) := by decide +kernel
theorem dX12_keeps_6 : decode cX12_keeps 6 = .ok (.if_icmp .ne 43, 3) := by decide +kernel
theorem dX12_keeps_9 : decode cX12_keeps 9 = .ok (.iconst 0, 1) := by decide +kernel
theorem dX12_keeps_10 : decode cX12_keeps 10 = .ok (.istore_n 1, 1) := by decide +kernel
theorem dX12_keeps_11 : decode cX12_keeps 11 = .ok (.iload_n 1, 1) := by decide +kernel
theorem dX12_keeps_12 : decode cX12_keeps 12 = .ok (.sipush 980, 3) := by decide +kernel
theorem dX12_keeps_15 : decode cX12_keeps 15 = .ok (.if_icmp .ge 24, 3) := by decide +kernel
theorem dX12_keeps_18 : decode cX12_keeps 18 = .ok (.aload_n 0, 1) := by decide +kernel
theorem dX12_keeps_19 : decode cX12_keeps 19 = .ok (.getfield 122, 3) := by decide +kernel
theorem dX12_keeps_22 : decode cX12_keeps 22 = .ok (.iload_n 1, 1) := by decide +kernel
theorem dX12_keeps_23 : decode cX12_keeps 23 = .ok (.aload_n 0, 1) := by decide +kernel
theorem dX12_keeps_24 : decode cX12_keeps 24 = .ok (.getfield 122, 3) := by decide +kernel
theorem dX12_keeps_27 : decode cX12_keeps 27 = .ok (.iload_n 1, 1) := by decide +kernel
theorem dX12_keeps_28 : decode cX12_keeps 28 = .ok (.bipush 20, 2) := by decide +kernel
theorem dX12_keeps_30 : decode cX12_keeps 30 = .ok (.iadd, 1) := by decide +kernel
theorem dX12_keeps_31 : decode cX12_keeps 31 = .ok (.iaload, 1) := by decide +kernel
theorem dX12_keeps_32 : decode cX12_keeps 32 = .ok (.iastore, 1) := by decide +kernel
theorem dX12_keeps_33 : decode cX12_keeps 33 = .ok (.iinc 1 1, 3) := by decide +kernel
theorem dX12_keeps_36 : decode cX12_keeps 36 = .ok (.goto (-25), 3) := by decide +kernel
theorem dX12_keeps_39 : decode cX12_keeps 39 = .ok (.aload_n 0, 1) := by decide +kernel
theorem dX12_keeps_40 : decode cX12_keeps 40 = .ok (.dup, 1) := by decide +kernel
theorem dX12_keeps_41 : decode cX12_keeps 41 = .ok (.getfield 239, 3) := by decide +kernel
theorem dX12_keeps_44 : decode cX12_keeps 44 = .ok (.iconst 1, 1) := by decide +kernel
theorem dX12_keeps_45 : decode cX12_keeps 45 = .ok (.isub, 1) := by decide +kernel
theorem dX12_keeps_46 : decode cX12_keeps 46 = .ok (.putfield 239, 3) := by decide +kernel
theorem dX12_keeps_49 : decode cX12_keeps 49 = .ok (.iconst 0, 1) := by decide +kernel
theorem dX12_keeps_50 : decode cX12_keeps 50 = .ok (.istore_n 1, 1) := by decide +kernel
theorem dX12_keeps_51 : decode cX12_keeps 51 = .ok (.iload_n 1, 1) := by decide +kernel
theorem dX12_keeps_52 : decode cX12_keeps 52 = .ok (.bipush 20, 2) := by decide +kernel
theorem dX12_keeps_54 : decode cX12_keeps 54 = .ok (.if_icmp .ge 29, 3) := by decide +kernel
theorem dX12_keeps_57 : decode cX12_keeps 57 = .ok (.aload_n 0, 1) := by decide +kernel
theorem dX12_keeps_58 : decode cX12_keeps 58 = .ok (.getfield 122, 3) := by decide +kernel
theorem dX12_keeps_61 : decode cX12_keeps 61 = .ok (.bipush 20, 2) := by decide +kernel
theorem dX12_keeps_63 : decode cX12_keeps 63 = .ok (.aload_n 0, 1) := by decide +kernel
theorem dX12_keeps_64 : decode cX12_keeps 64 = .ok (.getfield 239, 3) := by decide +kernel
theorem dX12_keeps_67 : decode cX12_keeps 67 = .ok (.imul, 1) := by decide +kernel
theorem dX12_keeps_68 : decode cX12_keeps 68 = .ok (.iload_n 1, 1) := by decide +kernel
theorem dX12_keeps_69 : decode cX12_keeps 69 = .ok (.iadd, 1) := by decide +kernel
theorem dX12_keeps_70 : decode cX12_keeps 70 = .ok (.aload_n 0, 1) := by decide +kernel
theorem dX12_keeps_71 : decode cX12_keeps 71 = .ok (.getfield 107, 3) := by decide +kernel
theorem dX12_keeps_74 : decode cX12_keeps 74 = .ok (.iload_n 1, 1) := by decide +kernel
theorem dX12_keeps_75 : decode cX12_keeps 75 = .ok (.iaload, 1) := by decide +kernel
theorem dX12_keeps_76 : decode cX12_keeps 76 = .ok (.iastore, 1) := by decide +kernel
theorem dX12_keeps_77 : decode cX12_keeps 77 = .ok (.iinc 1 1, 3) := by decide +kernel
theorem dX12_keeps_80 : decode cX12_keeps 80 = .ok (.goto (-29), 3) := by decide +kernel
theorem dX12_keeps_83 : decode cX12_keeps 83 = .ok (.aload_n 0, 1) := by decide +kernel
theorem dX12_keeps_84 : decode cX12_keeps 84 = .ok (.dup, 1) := by decide +kernel
theorem dX12_keeps_85 : decode cX12_keeps 85 = .ok (.getfield 239, 3) := by decide +kernel
theorem dX12_keeps_88 : decode cX12_keeps 88 = .ok (.iconst 1, 1) := by decide +kernel
theorem dX12_keeps_89 : decode cX12_keeps 89 = .ok (.iadd, 1) := by decide +kernel
theorem dX12_keeps_90 : decode cX12_keeps 90 = .ok (.putfield 239, 3) := by decide +kernel
theorem dX12_keeps_93 : decode cX12_keeps 93 = .ok (.iconst 0, 1) := by decide +kernel
theorem dX12_keeps_94 : decode cX12_keeps 94 = .ok (.istore_n 1, 1) := by decide +kernel
theorem dX12_keeps_95 : decode cX12_keeps 95 = .ok (.iload_n 1, 1) := by decide +kernel
theorem dX12_keeps_96 : decode cX12_keeps 96 = .ok (.bipush 20, 2) := by decide +kernel
theorem dX12_keeps_98 : decode cX12_keeps 98 = .ok (.if_icmp .ge 21, 3) := by decide +kernel
theorem dX12_keeps_101 : decode cX12_keeps 101 = .ok (.aload_n 0, 1) := by decide +kernel
theorem dX12_keeps_102 : decode cX12_keeps 102 = .ok (.getfield 107, 3) := by decide +kernel
theorem dX12_keeps_105 : decode cX12_keeps 105 = .ok (.iload_n 1, 1) := by decide +kernel
theorem dX12_keeps_106 : decode cX12_keeps 106 = .ok (.aload_n 0, 1) := by decide +kernel
theorem dX12_keeps_107 : decode cX12_keeps 107 = .ok (.getfield 110, 3) := by decide +kernel
theorem dX12_keeps_110 : decode cX12_keeps 110 = .ok (.iload_n 1, 1) := by decide +kernel
theorem dX12_keeps_111 : decode cX12_keeps 111 = .ok (.iaload, 1) := by decide +kernel
theorem dX12_keeps_112 : decode cX12_keeps 112 = .ok (.iastore, 1) := by decide +kernel
theorem dX12_keeps_113 : decode cX12_keeps 113 = .ok (.iinc 1 1, 3) := by decide +kernel
theorem dX12_keeps_116 : decode cX12_keeps 116 = .ok (.goto (-21), 3) := by decide +kernel
theorem dX12_keeps_119 : decode cX12_keeps 119 = .ok (.return_, 1) := by decide +kernel
theorem dX12_lay_0 : decode cX12_lay 0 = .ok (.aload_n 0, 1) := by decide +kernel
theorem dX12_lay_1 : decode cX12_lay 1 = .ok (.iload_n 1, 1) := by decide +kernel
theorem dX12_lay_2 : decode cX12_lay 2 = .ok (.invokevirtual 343, 3) := by decide +kernel
theorem dX12_lay_5 : decode cX12_lay 5 = .ok (.ifCond .eq 16, 3) := by decide +kernel
theorem dX12_lay_8 : decode cX12_lay 8 = .ok (.iload_n 2, 1) := by decide +kernel
theorem dX12_lay_9 : decode cX12_lay 9 = .ok (.sipush (-999), 3) := by decide +kernel
theorem dX12_lay_12 : decode cX12_lay 12 = .ok (.sipush 999, 3) := by decide +kernel
theorem dX12_lay_15 : decode cX12_lay 15 = .ok (.invokestatic 298, 3) := by decide +kernel
theorem dX12_lay_18 : decode cX12_lay 18 = .ok (.ifCond .ne 5, 3) := by decide +kernel
theorem dX12_lay_21 : decode cX12_lay 21 = .ok (.iconst (-1), 1) := by decide +kernel
theorem dX12_lay_22 : decode cX12_lay 22 = .ok (.ireturn, 1) := by decide +kernel
theorem dX12_lay_23 : decode cX12_lay 23 = .ok (.aload_n 0, 1) := by decide +kernel
theorem dX12_lay_24 : decode cX12_lay 24 = .ok (.invokevirtual 346, 3) := by decide +kernel
theorem dX12_lay_27 : decode cX12_lay 27 = .ok (.aload_n 0, 1) := by decide +kernel
theorem dX12_lay_28 : decode cX12_lay 28 = .ok (.iload_n 1, 1) := by decide +kernel
theorem dX12_lay_29 : decode cX12_lay 29 = .ok (.invokevirtual 349, 3) := by decide +kernel
theorem dX12_lay_32 : decode cX12_lay 32 = .ok (.ifCond .lt 5, 3) := by decide +kernel
theorem dX12_lay_35 : decode cX12_lay 35 = .ok (.iconst (-1), 1) := by decide +kernel
theorem dX12_lay_36 : decode cX12_lay 36 = .ok (.ireturn, 1) := by decide +kernel
theorem dX12_lay_37 : decode cX12_lay 37 = .ok (.aload_n 0, 1) := by decide +kernel
theorem dX12_lay_38 : decode cX12_lay 38 = .ok (.getfield 110, 3) := by decide +kernel
theorem dX12_lay_41 : decode cX12_lay 41 = .ok (.bipush 18, 2) := by decide +kernel
theorem dX12_lay_43 : decode cX12_lay 43 = .ok (.iaload, 1) := by decide +kernel
theorem dX12_lay_44 : decode cX12_lay 44 = .ok (.istore 4, 2) := by decide +kernel
theorem dX12_lay_46 : decode cX12_lay 46 = .ok (.aload_n 0, 1) := by decide +kernel
theorem dX12_lay_47 : decode cX12_lay 47 = .ok (.getfield 110, 3) := by decide +kernel
theorem dX12_lay_50 : decode cX12_lay 50 = .ok (.iload 4, 2) := by decide +kernel
theorem dX12_lay_52 : decode cX12_lay 52 = .ok (.iload_n 1, 1) := by decide +kernel
theorem dX12_lay_53 : decode cX12_lay 53 = .ok (.iastore, 1) := by decide +kernel
theorem dX12_lay_54 : decode cX12_lay 54 = .ok (.aload_n 0, 1) := by decide +kernel
theorem dX12_lay_55 : decode cX12_lay 55 = .ok (.getfield 110, 3) := by decide +kernel
theorem dX12_lay_58 : decode cX12_lay 58 = .ok (.bipush 6, 2) := by decide +kernel
theorem dX12_lay_60 : decode cX12_lay 60 = .ok (.iload 4, 2) := by decide +kernel
theorem dX12_lay_62 : decode cX12_lay 62 = .ok (.iadd, 1) := by decide +kernel
theorem dX12_lay_63 : decode cX12_lay 63 = .ok (.iload_n 2, 1) := by decide +kernel
theorem dX12_lay_64 : decode cX12_lay 64 = .ok (.iastore, 1) := by decide +kernel
theorem dX12_lay_65 : decode cX12_lay 65 = .ok (.aload_n 0, 1) := by decide +kernel
theorem dX12_lay_66 : decode cX12_lay 66 = .ok (.getfield 110, 3) := by decide +kernel
theorem dX12_lay_69 : decode cX12_lay 69 = .ok (.bipush 12, 2) := by decide +kernel
theorem dX12_lay_71 : decode cX12_lay 71 = .ok (.iload 4, 2) := by decide +kernel
theorem dX12_lay_73 : decode cX12_lay 73 = .ok (.iadd, 1) := by decide +kernel
theorem dX12_lay_74 : decode cX12_lay 74 = .ok (.iload_n 3, 1) := by decide +kernel
theorem dX12_lay_75 : decode cX12_lay 75 = .ok (.ifCond .eq 7, 3) := by decide +kernel
theorem dX12_lay_78 : decode cX12_lay 78 = .ok (.iconst 1, 1) := by decide +kernel
theorem dX12_lay_79 : decode cX12_lay 79 = .ok (.goto 4, 3) := by decide +kernel
theorem dX12_lay_82 : decode cX12_lay 82 = .ok (.iconst 0, 1) := by decide +kernel
theorem dX12_lay_83 : decode cX12_lay 83 = .ok (.iastore, 1) := by decide +kernel
theorem dX12_lay_84 : decode cX12_lay 84 = .ok (.aload_n 0, 1) := by decide +kernel
theorem dX12_lay_85 : decode cX12_lay 85 = .ok (.getfield 110, 3) := by decide +kernel
theorem dX12_lay_88 : decode cX12_lay 88 = .ok (.bipush 18, 2) := by decide +kernel
theorem dX12_lay_90 : decode cX12_lay 90 = .ok (.dup2, 1) := by decide +kernel
theorem dX12_lay_91 : decode cX12_lay 91 = .ok (.iaload, 1) := by decide +kernel
theorem dX12_lay_92 : decode cX12_lay 92 = .ok (.iconst 1, 1) := by decide +kernel
theorem dX12_lay_93 : decode cX12_lay 93 = .ok (.iadd, 1) := by decide +kernel
theorem dX12_lay_94 : decode cX12_lay 94 = .ok (.iastore, 1) := by decide +kernel
theorem dX12_lay_95 : decode cX12_lay 95 = .ok (.aload_n 0, 1) := by decide +kernel
theorem dX12_lay_96 : decode cX12_lay 96 = .ok (.invokevirtual 367, 3) := by decide +kernel
theorem dX12_lay_99 : decode cX12_lay 99 = .ok (.iload 4, 2) := by decide +kernel
theorem dX12_lay_101 : decode cX12_lay 101 = .ok (.ireturn, 1) := by decide +kernel
theorem dX12_lift_0 : decode cX12_lift 0 = .ok (.aload_n 0, 1) := by decide +kernel
theorem dX12_lift_1 : decode cX12_lift 1 = .ok (.getfield 107, 3) := by decide +kernel
theorem dX12_lift_4 : decode cX12_lift 4 = .ok (.bipush 18, 2) := by decide +kernel
theorem dX12_lift_6 : decode cX12_lift 6 = .ok (.iaload, 1) := by decide +kernel
theorem dX12_lift_7 : decode cX12_lift 7 = .ok (.ifCond .ne 5, 3) := by decide +kernel
theorem dX12_lift_10 : decode cX12_lift 10 = .ok (.iconst (-1), 1) := by decide +kernel
theorem dX12_lift_11 : decode cX12_lift 11 = .ok (.ireturn, 1) := by decide +kernel
theorem dX12_lift_12 : decode cX12_lift 12 = .ok (.aload_n 0, 1) := by decide +kernel
theorem dX12_lift_13 : decode cX12_lift 13 = .ok (.invokevirtual 346, 3) := by decide +kernel
theorem dX12_lift_16 : decode cX12_lift 16 = .ok (.aload_n 0, 1) := by decide +kernel
theorem dX12_lift_17 : decode cX12_lift 17 = .ok (.getfield 110, 3) := by decide +kernel
theorem dX12_lift_20 : decode cX12_lift 20 = .ok (.bipush 18, 2) := by decide +kernel
theorem dX12_lift_22 : decode cX12_lift 22 = .ok (.dup2, 1) := by decide +kernel
theorem dX12_lift_23 : decode cX12_lift 23 = .ok (.iaload, 1) := by decide +kernel
theorem dX12_lift_24 : decode cX12_lift 24 = .ok (.iconst 1, 1) := by decide +kernel
theorem dX12_lift_25 : decode cX12_lift 25 = .ok (.isub, 1) := by decide +kernel
theorem dX12_lift_26 : decode cX12_lift 26 = .ok (.iastore, 1) := by decide +kernel
theorem dX12_lift_27 : decode cX12_lift 27 = .ok (.aload_n 0, 1) := by decide +kernel
theorem dX12_lift_28 : decode cX12_lift 28 = .ok (.getfield 110, 3) := by decide +kernel
theorem dX12_lift_31 : decode cX12_lift 31 = .ok (.aload_n 0, 1) := by decide +kernel
theorem dX12_lift_32 : decode cX12_lift 32 = .ok (.getfield 110, 3) := by decide +kernel
theorem dX12_lift_35 : decode cX12_lift 35 = .ok (.bipush 18, 2) := by decide +kernel
theorem dX12_lift_37 : decode cX12_lift 37 = .ok (.iaload, 1) := by decide +kernel
theorem dX12_lift_38 : decode cX12_lift 38 = .ok (.iaload, 1) := by decide +kernel
theorem dX12_lift_39 : decode cX12_lift 39 = .ok (.istore_n 1, 1) := by decide +kernel
theorem dX12_lift_40 : decode cX12_lift 40 = .ok (.aload_n 0, 1) := by decide +kernel
theorem dX12_lift_41 : decode cX12_lift 41 = .ok (.invokevirtual 367, 3) := by decide +kernel
theorem dX12_lift_44 : decode cX12_lift 44 = .ok (.iload_n 1, 1) := by decide +kernel
theorem dX12_lift_45 : decode cX12_lift 45 = .ok (.ireturn, 1) := by decide +kernel
theorem dX12_shifts_0 : decode cX12_shifts 0 = .ok (.iload_n 1, 1) := by decide +kernel
theorem dX12_shifts_1 : decode cX12_shifts 1 = .ok (.istore_n 3, 1) := by decide +kernel
theorem dX12_shifts_2 : decode cX12_shifts 2 = .ok (.iload_n 3, 1) := by decide +kernel
theorem dX12_shifts_3 : decode cX12_shifts 3 = .ok (.aload_n 0, 1) := by decide +kernel
theorem dX12_shifts_4 : decode cX12_shifts 4 = .ok (.getfield 110, 3) := by decide +kernel
theorem dX12_shifts_7 : decode cX12_shifts 7 = .ok (.bipush 18, 2) := by decide +kernel
theorem dX12_shifts_9 : decode cX12_shifts 9 = .ok (.iaload, 1) := by decide +kernel
theorem dX12_shifts_10 : decode cX12_shifts 10 = .ok (.if_icmp .ge 22, 3) := by decide +kernel
theorem dX12_shifts_13 : decode cX12_shifts 13 = .ok (.aload_n 0, 1) := by decide +kernel
theorem dX12_shifts_14 : decode cX12_shifts 14 = .ok (.getfield 110, 3) := by decide +kernel
theorem dX12_shifts_17 : decode cX12_shifts 17 = .ok (.bipush 6, 2) := by decide +kernel
theorem dX12_shifts_19 : decode cX12_shifts 19 = .ok (.iload_n 3, 1) := by decide +kernel
theorem dX12_shifts_20 : decode cX12_shifts 20 = .ok (.iadd, 1) := by decide +kernel
theorem dX12_shifts_21 : decode cX12_shifts 21 = .ok (.dup2, 1) := by decide +kernel
theorem dX12_shifts_22 : decode cX12_shifts 22 = .ok (.iaload, 1) := by decide +kernel
theorem dX12_shifts_23 : decode cX12_shifts 23 = .ok (.iload_n 2, 1) := by decide +kernel
theorem dX12_shifts_24 : decode cX12_shifts 24 = .ok (.iadd, 1) := by decide +kernel
theorem dX12_shifts_25 : decode cX12_shifts 25 = .ok (.iastore, 1) := by decide +kernel
theorem dX12_shifts_26 : decode cX12_shifts 26 = .ok (.iinc 3 1, 3) := by decide +kernel
theorem dX12_shifts_29 : decode cX12_shifts 29 = .ok (.goto (-27), 3) := by decide +kernel
theorem dX12_shifts_32 : decode cX12_shifts 32 = .ok (.return_, 1) := by decide +kernel
theorem dX12_move_0 : decode cX12_move 0 = .ok (.aload_n 0, 1) := by decide +kernel
theorem dX12_move_1 : decode cX12_move 1 = .ok (.iload_n 1, 1) := by decide +kernel
theorem dX12_move_2 : decode cX12_move 2 = .ok (.invokevirtual 352, 3) := by decide +kernel
theorem dX12_move_5 : decode cX12_move 5 = .ok (.ifCond .eq 16, 3) := by decide +kernel
theorem dX12_move_8 : decode cX12_move 8 = .ok (.iload_n 2, 1) := by decide +kernel
theorem dX12_move_9 : decode cX12_move 9 = .ok (.sipush (-1998), 3) := by decide +kernel
theorem dX12_move_12 : decode cX12_move 12 = .ok (.sipush 1998, 3) := by decide +kernel
theorem dX12_move_15 : decode cX12_move 15 = .ok (.invokestatic 298, 3) := by decide +kernel
theorem dX12_move_18 : decode cX12_move 18 = .ok (.ifCond .ne 5, 3) := by decide +kernel
theorem dX12_move_21 : decode cX12_move 21 = .ok (.iconst 0, 1) := by decide +kernel
theorem dX12_move_22 : decode cX12_move 22 = .ok (.ireturn, 1) := by decide +kernel
theorem dX12_move_23 : decode cX12_move 23 = .ok (.aload_n 0, 1) := by decide +kernel
theorem dX12_move_24 : decode cX12_move 24 = .ok (.invokevirtual 346, 3) := by decide +kernel
theorem dX12_move_27 : decode cX12_move 27 = .ok (.aload_n 0, 1) := by decide +kernel
theorem dX12_move_28 : decode cX12_move 28 = .ok (.iload_n 1, 1) := by decide +kernel
theorem dX12_move_29 : decode cX12_move 29 = .ok (.iload_n 2, 1) := by decide +kernel
theorem dX12_move_30 : decode cX12_move 30 = .ok (.invokevirtual 370, 3) := by decide +kernel
theorem dX12_move_33 : decode cX12_move 33 = .ok (.iload_n 1, 1) := by decide +kernel
theorem dX12_move_34 : decode cX12_move 34 = .ok (.istore_n 3, 1) := by decide +kernel
theorem dX12_move_35 : decode cX12_move 35 = .ok (.iload_n 3, 1) := by decide +kernel
theorem dX12_move_36 : decode cX12_move 36 = .ok (.aload_n 0, 1) := by decide +kernel
theorem dX12_move_37 : decode cX12_move 37 = .ok (.getfield 110, 3) := by decide +kernel
theorem dX12_move_40 : decode cX12_move 40 = .ok (.bipush 18, 2) := by decide +kernel
theorem dX12_move_42 : decode cX12_move 42 = .ok (.iaload, 1) := by decide +kernel
theorem dX12_move_43 : decode cX12_move 43 = .ok (.if_icmp .ge 32, 3) := by decide +kernel
theorem dX12_move_46 : decode cX12_move 46 = .ok (.aload_n 0, 1) := by decide +kernel
theorem dX12_move_47 : decode cX12_move 47 = .ok (.getfield 110, 3) := by decide +kernel
theorem dX12_move_50 : decode cX12_move 50 = .ok (.bipush 6, 2) := by decide +kernel
theorem dX12_move_52 : decode cX12_move 52 = .ok (.iload_n 3, 1) := by decide +kernel
theorem dX12_move_53 : decode cX12_move 53 = .ok (.iadd, 1) := by decide +kernel
theorem dX12_move_54 : decode cX12_move 54 = .ok (.iaload, 1) := by decide +kernel
theorem dX12_move_55 : decode cX12_move 55 = .ok (.sipush (-999), 3) := by decide +kernel
theorem dX12_move_58 : decode cX12_move 58 = .ok (.sipush 999, 3) := by decide +kernel
theorem dX12_move_61 : decode cX12_move 61 = .ok (.invokestatic 298, 3) := by decide +kernel
theorem dX12_move_64 : decode cX12_move 64 = .ok (.ifCond .ne 5, 3) := by decide +kernel
theorem dX12_move_67 : decode cX12_move 67 = .ok (.iconst 0, 1) := by decide +kernel
theorem dX12_move_68 : decode cX12_move 68 = .ok (.ireturn, 1) := by decide +kernel
theorem dX12_move_69 : decode cX12_move 69 = .ok (.iinc 3 1, 3) := by decide +kernel
theorem dX12_move_72 : decode cX12_move 72 = .ok (.goto (-37), 3) := by decide +kernel
theorem dX12_move_75 : decode cX12_move 75 = .ok (.aload_n 0, 1) := by decide +kernel
theorem dX12_move_76 : decode cX12_move 76 = .ok (.invokevirtual 367, 3) := by decide +kernel
theorem dX12_move_79 : decode cX12_move 79 = .ok (.iconst 1, 1) := by decide +kernel
theorem dX12_move_80 : decode cX12_move 80 = .ok (.ireturn, 1) := by decide +kernel
theorem dX12_undo_0 : decode cX12_undo 0 = .ok (.aload_n 0, 1) := by decide +kernel
theorem dX12_undo_1 : decode cX12_undo 1 = .ok (.getfield 239, 3) := by decide +kernel
theorem dX12_undo_4 : decode cX12_undo 4 = .ok (.ifCond .ne 5, 3) := by decide +kernel
theorem dX12_undo_7 : decode cX12_undo 7 = .ok (.iconst 0, 1) := by decide +kernel
theorem dX12_undo_8 : decode cX12_undo 8 = .ok (.ireturn, 1) := by decide +kernel
theorem dX12_undo_9 : decode cX12_undo 9 = .ok (.aload_n 0, 1) := by decide +kernel
theorem dX12_undo_10 : decode cX12_undo 10 = .ok (.dup, 1) := by decide +kernel
theorem dX12_undo_11 : decode cX12_undo 11 = .ok (.getfield 239, 3) := by decide +kernel
theorem dX12_undo_14 : decode cX12_undo 14 = .ok (.iconst 1, 1) := by decide +kernel
theorem dX12_undo_15 : decode cX12_undo 15 = .ok (.isub, 1) := by decide +kernel
theorem dX12_undo_16 : decode cX12_undo 16 = .ok (.putfield 239, 3) := by decide +kernel
theorem dX12_undo_19 : decode cX12_undo 19 = .ok (.iconst 0, 1) := by decide +kernel
theorem dX12_undo_20 : decode cX12_undo 20 = .ok (.istore_n 1, 1) := by decide +kernel
theorem dX12_undo_21 : decode cX12_undo 21 = .ok (.iload_n 1, 1) := by decide +kernel
theorem dX12_undo_22 : decode cX12_undo 22 = .ok (.bipush 20, 2) := by decide +kernel
theorem dX12_undo_24 : decode cX12_undo 24 = .ok (.if_icmp .ge 29, 3) := by decide +kernel
theorem dX12_undo_27 : decode cX12_undo 27 = .ok (.aload_n 0, 1) := by decide +kernel
theorem dX12_undo_28 : decode cX12_undo 28 = .ok (.getfield 107, 3) := by decide +kernel
theorem dX12_undo_31 : decode cX12_undo 31 = .ok (.iload_n 1, 1) := by decide +kernel
theorem dX12_undo_32 : decode cX12_undo 32 = .ok (.aload_n 0, 1) := by decide +kernel
theorem dX12_undo_33 : decode cX12_undo 33 = .ok (.getfield 122, 3) := by decide +kernel
theorem dX12_undo_36 : decode cX12_undo 36 = .ok (.bipush 20, 2) := by decide +kernel
theorem dX12_undo_38 : decode cX12_undo 38 = .ok (.aload_n 0, 1) := by decide +kernel
theorem dX12_undo_39 : decode cX12_undo 39 = .ok (.getfield 239, 3) := by decide +kernel
theorem dX12_undo_42 : decode cX12_undo 42 = .ok (.imul, 1) := by decide +kernel
theorem dX12_undo_43 : decode cX12_undo 43 = .ok (.iload_n 1, 1) := by decide +kernel
theorem dX12_undo_44 : decode cX12_undo 44 = .ok (.iadd, 1) := by decide +kernel
theorem dX12_undo_45 : decode cX12_undo 45 = .ok (.iaload, 1) := by decide +kernel
theorem dX12_undo_46 : decode cX12_undo 46 = .ok (.iastore, 1) := by decide +kernel
theorem dX12_undo_47 : decode cX12_undo 47 = .ok (.iinc 1 1, 3) := by decide +kernel
theorem dX12_undo_50 : decode cX12_undo 50 = .ok (.goto (-29), 3) := by decide +kernel
theorem dX12_undo_53 : decode cX12_undo 53 = .ok (.iconst 1, 1) := by decide +kernel
theorem dX12_undo_54 : decode cX12_undo 54 = .ok (.ireturn, 1) := by decide +kernel
theorem dX12_canSit_0 : decode cX12_canSit 0 = .ok (.aload_n 0, 1) := by decide +kernel
theorem dX12_canSit_1 : decode cX12_canSit 1 = .ok (.iload_n 1, 1) := by decide +kernel
theorem dX12_canSit_2 : decode cX12_canSit 2 = .ok (.invokevirtual 343, 3) := by decide +kernel
theorem dX12_canSit_5 : decode cX12_canSit 5 = .ok (.ifCond .eq 25, 3) := by decide +kernel
theorem dX12_canSit_8 : decode cX12_canSit 8 = .ok (.iload_n 2, 1) := by decide +kernel
theorem dX12_canSit_9 : decode cX12_canSit 9 = .ok (.iconst 0, 1) := by decide +kernel
theorem dX12_canSit_10 : decode cX12_canSit 10 = .ok (.aload_n 0, 1) := by decide +kernel
theorem dX12_canSit_11 : decode cX12_canSit 11 = .ok (.getfield 46, 3) := by decide +kernel
theorem dX12_canSit_14 : decode cX12_canSit 14 = .ok (.bipush 6, 2) := by decide +kernel
theorem dX12_canSit_16 : decode cX12_canSit 16 = .ok (.aload_n 0, 1) := by decide +kernel
theorem dX12_canSit_17 : decode cX12_canSit 17 = .ok (.getfield 221, 3) := by decide +kernel
theorem dX12_canSit_20 : decode cX12_canSit 20 = .ok (.imul, 1) := by decide +kernel
theorem dX12_canSit_21 : decode cX12_canSit 21 = .ok (.iload_n 1, 1) := by decide +kernel
theorem dX12_canSit_22 : decode cX12_canSit 22 = .ok (.iadd, 1) := by decide +kernel
theorem dX12_canSit_23 : decode cX12_canSit 23 = .ok (.iaload, 1) := by decide +kernel
theorem dX12_canSit_24 : decode cX12_canSit 24 = .ok (.invokestatic 298, 3) := by decide +kernel
theorem dX12_canSit_27 : decode cX12_canSit 27 = .ok (.ifCond .ne 5, 3) := by decide +kernel
theorem dX12_canSit_30 : decode cX12_canSit 30 = .ok (.iconst 0, 1) := by decide +kernel
theorem dX12_canSit_31 : decode cX12_canSit 31 = .ok (.ireturn, 1) := by decide +kernel
theorem dX12_canSit_32 : decode cX12_canSit 32 = .ok (.aload_n 0, 1) := by decide +kernel
theorem dX12_canSit_33 : decode cX12_canSit 33 = .ok (.invokevirtual 346, 3) := by decide +kernel
theorem dX12_canSit_36 : decode cX12_canSit 36 = .ok (.aload_n 0, 1) := by decide +kernel
theorem dX12_canSit_37 : decode cX12_canSit 37 = .ok (.iload_n 1, 1) := by decide +kernel
theorem dX12_canSit_38 : decode cX12_canSit 38 = .ok (.invokevirtual 349, 3) := by decide +kernel
theorem dX12_canSit_41 : decode cX12_canSit 41 = .ok (.ifCond .ge 5, 3) := by decide +kernel
theorem dX12_canSit_44 : decode cX12_canSit 44 = .ok (.iconst 0, 1) := by decide +kernel
theorem dX12_canSit_45 : decode cX12_canSit 45 = .ok (.ireturn, 1) := by decide +kernel
theorem dX12_canSit_46 : decode cX12_canSit 46 = .ok (.aload_n 0, 1) := by decide +kernel
theorem dX12_canSit_47 : decode cX12_canSit 47 = .ok (.iload_n 1, 1) := by decide +kernel
theorem dX12_canSit_48 : decode cX12_canSit 48 = .ok (.putfield 305, 3) := by decide +kernel
theorem dX12_canSit_51 : decode cX12_canSit 51 = .ok (.aload_n 0, 1) := by decide +kernel
theorem dX12_canSit_52 : decode cX12_canSit 52 = .ok (.iload_n 2, 1) := by decide +kernel
theorem dX12_canSit_53 : decode cX12_canSit 53 = .ok (.putfield 322, 3) := by decide +kernel
theorem dX12_canSit_56 : decode cX12_canSit 56 = .ok (.iconst 1, 1) := by decide +kernel
theorem dX12_canSit_57 : decode cX12_canSit 57 = .ok (.ireturn, 1) := by decide +kernel
theorem dX12_bears_0 : decode cX12_bears 0 = .ok (.aload_n 0, 1) := by decide +kernel
theorem dX12_bears_1 : decode cX12_bears 1 = .ok (.iload_n 1, 1) := by decide +kernel
theorem dX12_bears_2 : decode cX12_bears 2 = .ok (.iload_n 2, 1) := by decide +kernel
theorem dX12_bears_3 : decode cX12_bears 3 = .ok (.invokevirtual 373, 3) := by decide +kernel
theorem dX12_bears_6 : decode cX12_bears 6 = .ok (.ifCond .ne 5, 3) := by decide +kernel
theorem dX12_bears_9 : decode cX12_bears 9 = .ok (.iconst (-1), 1) := by decide +kernel
theorem dX12_bears_10 : decode cX12_bears 10 = .ok (.ireturn, 1) := by decide +kernel
theorem dX12_bears_11 : decode cX12_bears 11 = .ok (.aload_n 0, 1) := by decide +kernel
theorem dX12_bears_12 : decode cX12_bears 12 = .ok (.sipush 9999, 3) := by decide +kernel
theorem dX12_bears_15 : decode cX12_bears 15 = .ok (.putfield 302, 3) := by decide +kernel
theorem dX12_bears_18 : decode cX12_bears 18 = .ok (.aload_n 0, 1) := by decide +kernel
theorem dX12_bears_19 : decode cX12_bears 19 = .ok (.getfield 302, 3) := by decide +kernel
theorem dX12_bears_22 : decode cX12_bears 22 = .ok (.ifCond .lt 28, 3) := by decide +kernel
theorem dX12_bears_25 : decode cX12_bears 25 = .ok (.aload_n 0, 1) := by decide +kernel
theorem dX12_bears_26 : decode cX12_bears 26 = .ok (.invokevirtual 361, 3) := by decide +kernel
theorem dX12_bears_29 : decode cX12_bears 29 = .ok (.ifCond .ge 8, 3) := by decide +kernel
theorem dX12_bears_32 : decode cX12_bears 32 = .ok (.aload_n 0, 1) := by decide +kernel
theorem dX12_bears_33 : decode cX12_bears 33 = .ok (.getfield 302, 3) := by decide +kernel
theorem dX12_bears_36 : decode cX12_bears 36 = .ok (.ireturn, 1) := by decide +kernel
theorem dX12_bears_37 : decode cX12_bears 37 = .ok (.aload_n 0, 1) := by decide +kernel
theorem dX12_bears_38 : decode cX12_bears 38 = .ok (.dup, 1) := by decide +kernel
theorem dX12_bears_39 : decode cX12_bears 39 = .ok (.getfield 302, 3) := by decide +kernel
theorem dX12_bears_42 : decode cX12_bears 42 = .ok (.iconst 1, 1) := by decide +kernel
theorem dX12_bears_43 : decode cX12_bears 43 = .ok (.isub, 1) := by decide +kernel
theorem dX12_bears_44 : decode cX12_bears 44 = .ok (.putfield 302, 3) := by decide +kernel
theorem dX12_bears_47 : decode cX12_bears 47 = .ok (.goto (-29), 3) := by decide +kernel
theorem dX12_bears_50 : decode cX12_bears 50 = .ok (.bipush (-2), 2) := by decide +kernel
theorem dX12_bears_52 : decode cX12_bears 52 = .ok (.ireturn, 1) := by decide +kernel
theorem dX12_holds_0 : decode cX12_holds 0 = .ok (.aload_n 0, 1) := by decide +kernel
theorem dX12_holds_1 : decode cX12_holds 1 = .ok (.iload_n 1, 1) := by decide +kernel
theorem dX12_holds_2 : decode cX12_holds 2 = .ok (.iload_n 2, 1) := by decide +kernel
theorem dX12_holds_3 : decode cX12_holds 3 = .ok (.invokevirtual 373, 3) := by decide +kernel
theorem dX12_holds_6 : decode cX12_holds 6 = .ok (.ifCond .ne 5, 3) := by decide +kernel
theorem dX12_holds_9 : decode cX12_holds 9 = .ok (.iconst (-1), 1) := by decide +kernel
theorem dX12_holds_10 : decode cX12_holds 10 = .ok (.ireturn, 1) := by decide +kernel
theorem dX12_holds_11 : decode cX12_holds 11 = .ok (.aload_n 0, 1) := by decide +kernel
theorem dX12_holds_12 : decode cX12_holds 12 = .ok (.iconst 0, 1) := by decide +kernel
theorem dX12_holds_13 : decode cX12_holds 13 = .ok (.putfield 302, 3) := by decide +kernel
theorem dX12_holds_16 : decode cX12_holds 16 = .ok (.aload_n 0, 1) := by decide +kernel
theorem dX12_holds_17 : decode cX12_holds 17 = .ok (.getfield 302, 3) := by decide +kernel
theorem dX12_holds_20 : decode cX12_holds 20 = .ok (.sipush 10000, 3) := by decide +kernel
theorem dX12_holds_23 : decode cX12_holds 23 = .ok (.if_icmp .ge 28, 3) := by decide +kernel
theorem dX12_holds_26 : decode cX12_holds 26 = .ok (.aload_n 0, 1) := by decide +kernel
theorem dX12_holds_27 : decode cX12_holds 27 = .ok (.invokevirtual 361, 3) := by decide +kernel
theorem dX12_holds_30 : decode cX12_holds 30 = .ok (.ifCond .ge 8, 3) := by decide +kernel
theorem dX12_holds_33 : decode cX12_holds 33 = .ok (.aload_n 0, 1) := by decide +kernel
theorem dX12_holds_34 : decode cX12_holds 34 = .ok (.getfield 302, 3) := by decide +kernel
theorem dX12_holds_37 : decode cX12_holds 37 = .ok (.ireturn, 1) := by decide +kernel
theorem dX12_holds_38 : decode cX12_holds 38 = .ok (.aload_n 0, 1) := by decide +kernel
theorem dX12_holds_39 : decode cX12_holds 39 = .ok (.dup, 1) := by decide +kernel
theorem dX12_holds_40 : decode cX12_holds 40 = .ok (.getfield 302, 3) := by decide +kernel
theorem dX12_holds_43 : decode cX12_holds 43 = .ok (.iconst 1, 1) := by decide +kernel
theorem dX12_holds_44 : decode cX12_holds 44 = .ok (.iadd, 1) := by decide +kernel
theorem dX12_holds_45 : decode cX12_holds 45 = .ok (.putfield 302, 3) := by decide +kernel
theorem dX12_holds_48 : decode cX12_holds 48 = .ok (.goto (-32), 3) := by decide +kernel
theorem dX12_holds_51 : decode cX12_holds 51 = .ok (.bipush (-2), 2) := by decide +kernel
theorem dX12_holds_53 : decode cX12_holds 53 = .ok (.ireturn, 1) := by decide +kernel
theorem dX12_isStandingNow_0 : decode cX12_isStandingNow 0 = .ok (.aload_n 0, 1) := by decide +kernel
theorem dX12_isStandingNow_1 : decode cX12_isStandingNow 1 = .ok (.invokevirtual 337, 3) := by decide +kernel
theorem dX12_isStandingNow_4 : decode cX12_isStandingNow 4 = .ok (.aload_n 0, 1) := by decide +kernel
theorem dX12_isStandingNow_5 : decode cX12_isStandingNow 5 = .ok (.iload_n 1, 1) := by decide +kernel
theorem dX12_isStandingNow_6 : decode cX12_isStandingNow 6 = .ok (.invokevirtual 340, 3) := by decide +kernel
theorem dX12_isStandingNow_9 : decode cX12_isStandingNow 9 = .ok (.ireturn, 1) := by decide +kernel
theorem dX12_pushed_0 : decode cX12_pushed 0 = .ok (.iload_n 1, 1) := by decide +kernel
theorem dX12_pushed_1 : decode cX12_pushed 1 = .ok (.iconst 0, 1) := by decide +kernel
theorem dX12_pushed_2 : decode cX12_pushed 2 = .ok (.iconst 1, 1) := by decide +kernel
theorem dX12_pushed_3 : decode cX12_pushed 3 = .ok (.invokestatic 298, 3) := by decide +kernel
theorem dX12_pushed_6 : decode cX12_pushed 6 = .ok (.ifCond .ne 5, 3) := by decide +kernel
theorem dX12_pushed_9 : decode cX12_pushed 9 = .ok (.iconst (-1), 1) := by decide +kernel
theorem dX12_pushed_10 : decode cX12_pushed 10 = .ok (.ireturn, 1) := by decide +kernel
theorem dX12_pushed_11 : decode cX12_pushed 11 = .ok (.aload_n 0, 1) := by decide +kernel
theorem dX12_pushed_12 : decode cX12_pushed 12 = .ok (.invokevirtual 346, 3) := by decide +kernel
theorem dX12_pushed_15 : decode cX12_pushed 15 = .ok (.aload_n 0, 1) := by decide +kernel
theorem dX12_pushed_16 : decode cX12_pushed 16 = .ok (.getfield 110, 3) := by decide +kernel
theorem dX12_pushed_19 : decode cX12_pushed 19 = .ok (.bipush 18, 2) := by decide +kernel
theorem dX12_pushed_21 : decode cX12_pushed 21 = .ok (.iaload, 1) := by decide +kernel
theorem dX12_pushed_22 : decode cX12_pushed 22 = .ok (.iconst 1, 1) := by decide +kernel
theorem dX12_pushed_23 : decode cX12_pushed 23 = .ok (.isub, 1) := by decide +kernel
theorem dX12_pushed_24 : decode cX12_pushed 24 = .ok (.istore_n 2, 1) := by decide +kernel
theorem dX12_pushed_25 : decode cX12_pushed 25 = .ok (.iload_n 2, 1) := by decide +kernel
theorem dX12_pushed_26 : decode cX12_pushed 26 = .ok (.ifCond .lt 67, 3) := by decide +kernel
theorem dX12_pushed_29 : decode cX12_pushed 29 = .ok (.aload_n 0, 1) := by decide +kernel
theorem dX12_pushed_30 : decode cX12_pushed 30 = .ok (.iload_n 2, 1) := by decide +kernel
theorem dX12_pushed_31 : decode cX12_pushed 31 = .ok (.invokevirtual 377, 3) := by decide +kernel
theorem dX12_pushed_34 : decode cX12_pushed 34 = .ok (.ifCond .ne 6, 3) := by decide +kernel
theorem dX12_pushed_37 : decode cX12_pushed 37 = .ok (.goto 50, 3) := by decide +kernel
theorem dX12_pushed_40 : decode cX12_pushed 40 = .ok (.iconst 0, 1) := by decide +kernel
theorem dX12_pushed_41 : decode cX12_pushed 41 = .ok (.istore_n 3, 1) := by decide +kernel
theorem dX12_pushed_42 : decode cX12_pushed 42 = .ok (.iconst 1, 1) := by decide +kernel
theorem dX12_pushed_43 : decode cX12_pushed 43 = .ok (.istore 4, 2) := by decide +kernel
theorem dX12_pushed_45 : decode cX12_pushed 45 = .ok (.iload 4, 2) := by decide +kernel
theorem dX12_pushed_47 : decode cX12_pushed 47 = .ok (.ifCond .eq 29, 3) := by decide +kernel
theorem dX12_pushed_50 : decode cX12_pushed 50 = .ok (.iload_n 3, 1) := by decide +kernel
theorem dX12_pushed_51 : decode cX12_pushed 51 = .ok (.sipush 200, 3) := by decide +kernel
theorem dX12_pushed_54 : decode cX12_pushed 54 = .ok (.if_icmp .ge 22, 3) := by decide +kernel
theorem dX12_pushed_57 : decode cX12_pushed 57 = .ok (.aload_n 0, 1) := by decide +kernel
theorem dX12_pushed_58 : decode cX12_pushed 58 = .ok (.iload_n 2, 1) := by decide +kernel
theorem dX12_pushed_59 : decode cX12_pushed 59 = .ok (.iconst 1, 1) := by decide +kernel
theorem dX12_pushed_60 : decode cX12_pushed 60 = .ok (.invokevirtual 370, 3) := by decide +kernel
theorem dX12_pushed_63 : decode cX12_pushed 63 = .ok (.iinc 3 1, 3) := by decide +kernel
theorem dX12_pushed_66 : decode cX12_pushed 66 = .ok (.aload_n 0, 1) := by decide +kernel
theorem dX12_pushed_67 : decode cX12_pushed 67 = .ok (.iload_n 2, 1) := by decide +kernel
theorem dX12_pushed_68 : decode cX12_pushed 68 = .ok (.invokevirtual 377, 3) := by decide +kernel
theorem dX12_pushed_71 : decode cX12_pushed 71 = .ok (.istore 4, 2) := by decide +kernel
theorem dX12_pushed_73 : decode cX12_pushed 73 = .ok (.goto (-28), 3) := by decide +kernel
theorem dX12_pushed_76 : decode cX12_pushed 76 = .ok (.iload 4, 2) := by decide +kernel
theorem dX12_pushed_78 : decode cX12_pushed 78 = .ok (.ifCond .ne 9, 3) := by decide +kernel
theorem dX12_pushed_81 : decode cX12_pushed 81 = .ok (.aload_n 0, 1) := by decide +kernel
theorem dX12_pushed_82 : decode cX12_pushed 82 = .ok (.iload_n 2, 1) := by decide +kernel
theorem dX12_pushed_83 : decode cX12_pushed 83 = .ok (.iconst (-1), 1) := by decide +kernel
theorem dX12_pushed_84 : decode cX12_pushed 84 = .ok (.invokevirtual 370, 3) := by decide +kernel
theorem dX12_pushed_87 : decode cX12_pushed 87 = .ok (.iinc 2 (-1), 3) := by decide +kernel
theorem dX12_pushed_90 : decode cX12_pushed 90 = .ok (.goto (-65), 3) := by decide +kernel
theorem dX12_pushed_93 : decode cX12_pushed 93 = .ok (.iload_n 1, 1) := by decide +kernel
theorem dX12_pushed_94 : decode cX12_pushed 94 = .ok (.ifCond .ne 10, 3) := by decide +kernel
theorem dX12_pushed_97 : decode cX12_pushed 97 = .ok (.aload_n 0, 1) := by decide +kernel
theorem dX12_pushed_98 : decode cX12_pushed 98 = .ok (.invokevirtual 364, 3) := by decide +kernel
theorem dX12_pushed_101 : decode cX12_pushed 101 = .ok (.goto 15, 3) := by decide +kernel
theorem dX12_pushed_104 : decode cX12_pushed 104 = .ok (.aload_n 0, 1) := by decide +kernel
theorem dX12_pushed_105 : decode cX12_pushed 105 = .ok (.invokevirtual 361, 3) := by decide +kernel
theorem dX12_pushed_108 : decode cX12_pushed 108 = .ok (.ifCond .ge 7, 3) := by decide +kernel
theorem dX12_pushed_111 : decode cX12_pushed 111 = .ok (.iconst 1, 1) := by decide +kernel
theorem dX12_pushed_112 : decode cX12_pushed 112 = .ok (.goto 4, 3) := by decide +kernel
theorem dX12_pushed_115 : decode cX12_pushed 115 = .ok (.iconst 0, 1) := by decide +kernel
theorem dX12_pushed_116 : decode cX12_pushed 116 = .ok (.ireturn, 1) := by decide +kernel
theorem dX12_takesLevels_0 : decode cX12_takesLevels 0 = .ok (.aload_n 0, 1) := by decide +kernel
theorem dX12_takesLevels_1 : decode cX12_takesLevels 1 = .ok (.invokevirtual 346, 3) := by decide +kernel
theorem dX12_takesLevels_4 : decode cX12_takesLevels 4 = .ok (.iconst 0, 1) := by decide +kernel
theorem dX12_takesLevels_5 : decode cX12_takesLevels 5 = .ok (.istore_n 2, 1) := by decide +kernel
theorem dX12_takesLevels_6 : decode cX12_takesLevels 6 = .ok (.iconst 0, 1) := by decide +kernel
theorem dX12_takesLevels_7 : decode cX12_takesLevels 7 = .ok (.istore_n 3, 1) := by decide +kernel
theorem dX12_takesLevels_8 : decode cX12_takesLevels 8 = .ok (.iload_n 3, 1) := by decide +kernel
theorem dX12_takesLevels_9 : decode cX12_takesLevels 9 = .ok (.aload_n 0, 1) := by decide +kernel
theorem dX12_takesLevels_10 : decode cX12_takesLevels 10 = .ok (.getfield 107, 3) := by decide +kernel
theorem dX12_takesLevels_13 : decode cX12_takesLevels 13 = .ok (.bipush 18, 2) := by decide +kernel
theorem dX12_takesLevels_15 : decode cX12_takesLevels 15 = .ok (.iaload, 1) := by decide +kernel
theorem dX12_takesLevels_16 : decode cX12_takesLevels 16 = .ok (.if_icmp .ge 90, 3) := by decide +kernel
theorem dX12_takesLevels_19 : decode cX12_takesLevels 19 = .ok (.iload_n 1, 1) := by decide +kernel
theorem dX12_takesLevels_20 : decode cX12_takesLevels 20 = .ok (.iload_n 3, 1) := by decide +kernel
theorem dX12_takesLevels_21 : decode cX12_takesLevels 21 = .ok (.ishr, 1) := by decide +kernel
theorem dX12_takesLevels_22 : decode cX12_takesLevels 22 = .ok (.iconst 1, 1) := by decide +kernel
theorem dX12_takesLevels_23 : decode cX12_takesLevels 23 = .ok (.iand, 1) := by decide +kernel
theorem dX12_takesLevels_24 : decode cX12_takesLevels 24 = .ok (.ifCond .ne 6, 3) := by decide +kernel
theorem dX12_takesLevels_27 : decode cX12_takesLevels 27 = .ok (.goto 73, 3) := by decide +kernel
theorem dX12_takesLevels_30 : decode cX12_takesLevels 30 = .ok (.aload_n 0, 1) := by decide +kernel
theorem dX12_takesLevels_31 : decode cX12_takesLevels 31 = .ok (.getfield 110, 3) := by decide +kernel
theorem dX12_takesLevels_34 : decode cX12_takesLevels 34 = .ok (.iload_n 2, 1) := by decide +kernel
theorem dX12_takesLevels_35 : decode cX12_takesLevels 35 = .ok (.aload_n 0, 1) := by decide +kernel
theorem dX12_takesLevels_36 : decode cX12_takesLevels 36 = .ok (.getfield 107, 3) := by decide +kernel
theorem dX12_takesLevels_39 : decode cX12_takesLevels 39 = .ok (.iload_n 3, 1) := by decide +kernel
theorem dX12_takesLevels_40 : decode cX12_takesLevels 40 = .ok (.iaload, 1) := by decide +kernel
theorem dX12_takesLevels_41 : decode cX12_takesLevels 41 = .ok (.iastore, 1) := by decide +kernel
theorem dX12_takesLevels_42 : decode cX12_takesLevels 42 = .ok (.aload_n 0, 1) := by decide +kernel
theorem dX12_takesLevels_43 : decode cX12_takesLevels 43 = .ok (.getfield 110, 3) := by decide +kernel
theorem dX12_takesLevels_46 : decode cX12_takesLevels 46 = .ok (.bipush 6, 2) := by decide +kernel
theorem dX12_takesLevels_48 : decode cX12_takesLevels 48 = .ok (.iload_n 2, 1) := by decide +kernel
theorem dX12_takesLevels_49 : decode cX12_takesLevels 49 = .ok (.iadd, 1) := by decide +kernel
theorem dX12_takesLevels_50 : decode cX12_takesLevels 50 = .ok (.aload_n 0, 1) := by decide +kernel
theorem dX12_takesLevels_51 : decode cX12_takesLevels 51 = .ok (.getfield 107, 3) := by decide +kernel
theorem dX12_takesLevels_54 : decode cX12_takesLevels 54 = .ok (.bipush 6, 2) := by decide +kernel
theorem dX12_takesLevels_56 : decode cX12_takesLevels 56 = .ok (.iload_n 3, 1) := by decide +kernel
theorem dX12_takesLevels_57 : decode cX12_takesLevels 57 = .ok (.iadd, 1) := by decide +kernel
theorem dX12_takesLevels_58 : decode cX12_takesLevels 58 = .ok (.iaload, 1) := by decide +kernel
theorem dX12_takesLevels_59 : decode cX12_takesLevels 59 = .ok (.iastore, 1) := by decide +kernel
theorem dX12_takesLevels_60 : decode cX12_takesLevels 60 = .ok (.aload_n 0, 1) := by decide +kernel
theorem dX12_takesLevels_61 : decode cX12_takesLevels 61 = .ok (.getfield 110, 3) := by decide +kernel
theorem dX12_takesLevels_64 : decode cX12_takesLevels 64 = .ok (.bipush 12, 2) := by decide +kernel
theorem dX12_takesLevels_66 : decode cX12_takesLevels 66 = .ok (.iload_n 2, 1) := by decide +kernel
theorem dX12_takesLevels_67 : decode cX12_takesLevels 67 = .ok (.iadd, 1) := by decide +kernel
theorem dX12_takesLevels_68 : decode cX12_takesLevels 68 = .ok (.iload_n 3, 1) := by decide +kernel
theorem dX12_takesLevels_69 : decode cX12_takesLevels 69 = .ok (.ifCond .le 26, 3) := by decide +kernel
theorem dX12_takesLevels_72 : decode cX12_takesLevels 72 = .ok (.iload_n 1, 1) := by decide +kernel
theorem dX12_takesLevels_73 : decode cX12_takesLevels 73 = .ok (.iload_n 3, 1) := by decide +kernel
theorem dX12_takesLevels_74 : decode cX12_takesLevels 74 = .ok (.iconst 1, 1) := by decide +kernel
theorem dX12_takesLevels_75 : decode cX12_takesLevels 75 = .ok (.isub, 1) := by decide +kernel
theorem dX12_takesLevels_76 : decode cX12_takesLevels 76 = .ok (.ishr, 1) := by decide +kernel
theorem dX12_takesLevels_77 : decode cX12_takesLevels 77 = .ok (.iconst 1, 1) := by decide +kernel
theorem dX12_takesLevels_78 : decode cX12_takesLevels 78 = .ok (.iand, 1) := by decide +kernel
theorem dX12_takesLevels_79 : decode cX12_takesLevels 79 = .ok (.iconst 1, 1) := by decide +kernel
theorem dX12_takesLevels_80 : decode cX12_takesLevels 80 = .ok (.if_icmp .ne 15, 3) := by decide +kernel
theorem dX12_takesLevels_83 : decode cX12_takesLevels 83 = .ok (.aload_n 0, 1) := by decide +kernel
theorem dX12_takesLevels_84 : decode cX12_takesLevels 84 = .ok (.getfield 107, 3) := by decide +kernel
theorem dX12_takesLevels_87 : decode cX12_takesLevels 87 = .ok (.bipush 12, 2) := by decide +kernel
theorem dX12_takesLevels_89 : decode cX12_takesLevels 89 = .ok (.iload_n 3, 1) := by decide +kernel
theorem dX12_takesLevels_90 : decode cX12_takesLevels 90 = .ok (.iadd, 1) := by decide +kernel
theorem dX12_takesLevels_91 : decode cX12_takesLevels 91 = .ok (.iaload, 1) := by decide +kernel
theorem dX12_takesLevels_92 : decode cX12_takesLevels 92 = .ok (.goto 4, 3) := by decide +kernel
theorem dX12_takesLevels_95 : decode cX12_takesLevels 95 = .ok (.iconst 0, 1) := by decide +kernel
theorem dX12_takesLevels_96 : decode cX12_takesLevels 96 = .ok (.iastore, 1) := by decide +kernel
theorem dX12_takesLevels_97 : decode cX12_takesLevels 97 = .ok (.iinc 2 1, 3) := by decide +kernel
theorem dX12_takesLevels_100 : decode cX12_takesLevels 100 = .ok (.iinc 3 1, 3) := by decide +kernel
theorem dX12_takesLevels_103 : decode cX12_takesLevels 103 = .ok (.goto (-95), 3) := by decide +kernel
theorem dX12_takesLevels_106 : decode cX12_takesLevels 106 = .ok (.aload_n 0, 1) := by decide +kernel
theorem dX12_takesLevels_107 : decode cX12_takesLevels 107 = .ok (.getfield 110, 3) := by decide +kernel
theorem dX12_takesLevels_110 : decode cX12_takesLevels 110 = .ok (.bipush 18, 2) := by decide +kernel
theorem dX12_takesLevels_112 : decode cX12_takesLevels 112 = .ok (.iload_n 2, 1) := by decide +kernel
theorem dX12_takesLevels_113 : decode cX12_takesLevels 113 = .ok (.iastore, 1) := by decide +kernel
theorem dX12_takesLevels_114 : decode cX12_takesLevels 114 = .ok (.return_, 1) := by decide +kernel
theorem dX12_takings_0 : decode cX12_takings 0 = .ok (.iconst 1, 1) := by decide +kernel
theorem dX12_takings_1 : decode cX12_takings 1 = .ok (.aload_n 0, 1) := by decide +kernel
theorem dX12_takings_2 : decode cX12_takings 2 = .ok (.getfield 107, 3) := by decide +kernel
theorem dX12_takings_5 : decode cX12_takings 5 = .ok (.bipush 18, 2) := by decide +kernel
theorem dX12_takings_7 : decode cX12_takings 7 = .ok (.iaload, 1) := by decide +kernel
theorem dX12_takings_8 : decode cX12_takings 8 = .ok (.ishl, 1) := by decide +kernel
theorem dX12_takings_9 : decode cX12_takings 9 = .ok (.istore_n 1, 1) := by decide +kernel
theorem dX12_takings_10 : decode cX12_takings 10 = .ok (.aload_n 0, 1) := by decide +kernel
theorem dX12_takings_11 : decode cX12_takings 11 = .ok (.getfield 125, 3) := by decide +kernel
theorem dX12_takings_14 : decode cX12_takings 14 = .ok (.iconst 0, 1) := by decide +kernel
theorem dX12_takings_15 : decode cX12_takings 15 = .ok (.iconst 1, 1) := by decide +kernel
theorem dX12_takings_16 : decode cX12_takings 16 = .ok (.iastore, 1) := by decide +kernel
theorem dX12_takings_17 : decode cX12_takings 17 = .ok (.iconst 1, 1) := by decide +kernel
theorem dX12_takings_18 : decode cX12_takings 18 = .ok (.istore_n 2, 1) := by decide +kernel
theorem dX12_takings_19 : decode cX12_takings 19 = .ok (.iload_n 2, 1) := by decide +kernel
theorem dX12_takings_20 : decode cX12_takings 20 = .ok (.iload_n 1, 1) := by decide +kernel
theorem dX12_takings_21 : decode cX12_takings 21 = .ok (.if_icmp .ge 80, 3) := by decide +kernel
theorem dX12_takings_24 : decode cX12_takings 24 = .ok (.aload_n 0, 1) := by decide +kernel
theorem dX12_takings_25 : decode cX12_takings 25 = .ok (.getfield 125, 3) := by decide +kernel
theorem dX12_takings_28 : decode cX12_takings 28 = .ok (.iload_n 2, 1) := by decide +kernel
theorem dX12_takings_29 : decode cX12_takings 29 = .ok (.iconst 0, 1) := by decide +kernel
theorem dX12_takings_30 : decode cX12_takings 30 = .ok (.iastore, 1) := by decide +kernel
theorem dX12_takings_31 : decode cX12_takings 31 = .ok (.aload_n 0, 1) := by decide +kernel
theorem dX12_takings_32 : decode cX12_takings 32 = .ok (.iload_n 2, 1) := by decide +kernel
theorem dX12_takings_33 : decode cX12_takings 33 = .ok (.invokevirtual 380, 3) := by decide +kernel
theorem dX12_takings_36 : decode cX12_takings 36 = .ok (.aload_n 0, 1) := by decide +kernel
theorem dX12_takings_37 : decode cX12_takings 37 = .ok (.invokevirtual 361, 3) := by decide +kernel
theorem dX12_takings_40 : decode cX12_takings 40 = .ok (.ifCond .lt 6, 3) := by decide +kernel
theorem dX12_takings_43 : decode cX12_takings 43 = .ok (.goto 52, 3) := by decide +kernel
theorem dX12_takings_46 : decode cX12_takings 46 = .ok (.iconst 0, 1) := by decide +kernel
theorem dX12_takings_47 : decode cX12_takings 47 = .ok (.istore_n 3, 1) := by decide +kernel
theorem dX12_takings_48 : decode cX12_takings 48 = .ok (.iload_n 3, 1) := by decide +kernel
theorem dX12_takings_49 : decode cX12_takings 49 = .ok (.aload_n 0, 1) := by decide +kernel
theorem dX12_takings_50 : decode cX12_takings 50 = .ok (.getfield 107, 3) := by decide +kernel
theorem dX12_takings_53 : decode cX12_takings 53 = .ok (.bipush 18, 2) := by decide +kernel
theorem dX12_takings_55 : decode cX12_takings 55 = .ok (.iaload, 1) := by decide +kernel
theorem dX12_takings_56 : decode cX12_takings 56 = .ok (.if_icmp .ge 39, 3) := by decide +kernel
theorem dX12_takings_59 : decode cX12_takings 59 = .ok (.iload_n 2, 1) := by decide +kernel
theorem dX12_takings_60 : decode cX12_takings 60 = .ok (.iload_n 3, 1) := by decide +kernel
theorem dX12_takings_61 : decode cX12_takings 61 = .ok (.ishr, 1) := by decide +kernel
theorem dX12_takings_62 : decode cX12_takings 62 = .ok (.iconst 1, 1) := by decide +kernel
theorem dX12_takings_63 : decode cX12_takings 63 = .ok (.iand, 1) := by decide +kernel
theorem dX12_takings_64 : decode cX12_takings 64 = .ok (.iconst 1, 1) := by decide +kernel
theorem dX12_takings_65 : decode cX12_takings 65 = .ok (.if_icmp .ne 24, 3) := by decide +kernel
theorem dX12_takings_68 : decode cX12_takings 68 = .ok (.aload_n 0, 1) := by decide +kernel
theorem dX12_takings_69 : decode cX12_takings 69 = .ok (.getfield 125, 3) := by decide +kernel
theorem dX12_takings_72 : decode cX12_takings 72 = .ok (.iload_n 2, 1) := by decide +kernel
theorem dX12_takings_73 : decode cX12_takings 73 = .ok (.dup2, 1) := by decide +kernel
theorem dX12_takings_74 : decode cX12_takings 74 = .ok (.iaload, 1) := by decide +kernel
theorem dX12_takings_75 : decode cX12_takings 75 = .ok (.aload_n 0, 1) := by decide +kernel
theorem dX12_takings_76 : decode cX12_takings 76 = .ok (.getfield 125, 3) := by decide +kernel
theorem dX12_takings_79 : decode cX12_takings 79 = .ok (.iload_n 2, 1) := by decide +kernel
theorem dX12_takings_80 : decode cX12_takings 80 = .ok (.iconst 1, 1) := by decide +kernel
theorem dX12_takings_81 : decode cX12_takings 81 = .ok (.iload_n 3, 1) := by decide +kernel
theorem dX12_takings_82 : decode cX12_takings 82 = .ok (.ishl, 1) := by decide +kernel
theorem dX12_takings_83 : decode cX12_takings 83 = .ok (.iconst (-1), 1) := by decide +kernel
theorem dX12_takings_84 : decode cX12_takings 84 = .ok (.ixor, 1) := by decide +kernel
theorem dX12_takings_85 : decode cX12_takings 85 = .ok (.iand, 1) := by decide +kernel
theorem dX12_takings_86 : decode cX12_takings 86 = .ok (.iaload, 1) := by decide +kernel
theorem dX12_takings_87 : decode cX12_takings 87 = .ok (.iadd, 1) := by decide +kernel
theorem dX12_takings_88 : decode cX12_takings 88 = .ok (.iastore, 1) := by decide +kernel
theorem dX12_takings_89 : decode cX12_takings 89 = .ok (.iinc 3 1, 3) := by decide +kernel
theorem dX12_takings_92 : decode cX12_takings 92 = .ok (.goto (-44), 3) := by decide +kernel
theorem dX12_takings_95 : decode cX12_takings 95 = .ok (.iinc 2 1, 3) := by decide +kernel
theorem dX12_takings_98 : decode cX12_takings 98 = .ok (.goto (-79), 3) := by decide +kernel
theorem dX12_takings_101 : decode cX12_takings 101 = .ok (.aload_n 0, 1) := by decide +kernel
theorem dX12_takings_102 : decode cX12_takings 102 = .ok (.getfield 125, 3) := by decide +kernel
theorem dX12_takings_105 : decode cX12_takings 105 = .ok (.iload_n 1, 1) := by decide +kernel
theorem dX12_takings_106 : decode cX12_takings 106 = .ok (.iconst 1, 1) := by decide +kernel
theorem dX12_takings_107 : decode cX12_takings 107 = .ok (.isub, 1) := by decide +kernel
theorem dX12_takings_108 : decode cX12_takings 108 = .ok (.iaload, 1) := by decide +kernel
theorem dX12_takings_109 : decode cX12_takings 109 = .ok (.ireturn, 1) := by decide +kernel
theorem dX12_slides_0 : decode cX12_slides 0 = .ok (.aload_n 0, 1) := by decide +kernel
theorem dX12_slides_1 : decode cX12_slides 1 = .ok (.iload_n 1, 1) := by decide +kernel
theorem dX12_slides_2 : decode cX12_slides 2 = .ok (.invokevirtual 352, 3) := by decide +kernel
theorem dX12_slides_5 : decode cX12_slides 5 = .ok (.ifCond .ne 7, 3) := by decide +kernel
theorem dX12_slides_8 : decode cX12_slides 8 = .ok (.sipush (-1000), 3) := by decide +kernel
theorem dX12_slides_11 : decode cX12_slides 11 = .ok (.ireturn, 1) := by decide +kernel
theorem dX12_slides_12 : decode cX12_slides 12 = .ok (.aload_n 0, 1) := by decide +kernel
theorem dX12_slides_13 : decode cX12_slides 13 = .ok (.invokevirtual 346, 3) := by decide +kernel
theorem dX12_slides_16 : decode cX12_slides 16 = .ok (.aload_n 0, 1) := by decide +kernel
theorem dX12_slides_17 : decode cX12_slides 17 = .ok (.invokevirtual 361, 3) := by decide +kernel
theorem dX12_slides_20 : decode cX12_slides 20 = .ok (.ifCond .lt 7, 3) := by decide +kernel
theorem dX12_slides_23 : decode cX12_slides 23 = .ok (.sipush (-2000), 3) := by decide +kernel
theorem dX12_slides_26 : decode cX12_slides 26 = .ok (.ireturn, 1) := by decide +kernel
theorem dX12_slides_27 : decode cX12_slides 27 = .ok (.iload_n 2, 1) := by decide +kernel
theorem dX12_slides_28 : decode cX12_slides 28 = .ok (.ifCond .eq 7, 3) := by decide +kernel
theorem dX12_slides_31 : decode cX12_slides 31 = .ok (.iconst 1, 1) := by decide +kernel
theorem dX12_slides_32 : decode cX12_slides 32 = .ok (.goto 4, 3) := by decide +kernel
theorem dX12_slides_35 : decode cX12_slides 35 = .ok (.iconst (-1), 1) := by decide +kernel
theorem dX12_slides_36 : decode cX12_slides 36 = .ok (.istore_n 3, 1) := by decide +kernel
theorem dX12_slides_37 : decode cX12_slides 37 = .ok (.iconst 0, 1) := by decide +kernel
theorem dX12_slides_38 : decode cX12_slides 38 = .ok (.istore 4, 2) := by decide +kernel
theorem dX12_slides_40 : decode cX12_slides 40 = .ok (.iload 4, 2) := by decide +kernel
theorem dX12_slides_42 : decode cX12_slides 42 = .ok (.sipush 200, 3) := by decide +kernel
theorem dX12_slides_45 : decode cX12_slides 45 = .ok (.if_icmp .ge 27, 3) := by decide +kernel
theorem dX12_slides_48 : decode cX12_slides 48 = .ok (.aload_n 0, 1) := by decide +kernel
theorem dX12_slides_49 : decode cX12_slides 49 = .ok (.iload_n 1, 1) := by decide +kernel
theorem dX12_slides_50 : decode cX12_slides 50 = .ok (.iload_n 3, 1) := by decide +kernel
theorem dX12_slides_51 : decode cX12_slides 51 = .ok (.invokevirtual 370, 3) := by decide +kernel
theorem dX12_slides_54 : decode cX12_slides 54 = .ok (.aload_n 0, 1) := by decide +kernel
theorem dX12_slides_55 : decode cX12_slides 55 = .ok (.invokevirtual 361, 3) := by decide +kernel
theorem dX12_slides_58 : decode cX12_slides 58 = .ok (.ifCond .lt 8, 3) := by decide +kernel
theorem dX12_slides_61 : decode cX12_slides 61 = .ok (.iload_n 3, 1) := by decide +kernel
theorem dX12_slides_62 : decode cX12_slides 62 = .ok (.iload 4, 2) := by decide +kernel
theorem dX12_slides_64 : decode cX12_slides 64 = .ok (.imul, 1) := by decide +kernel
theorem dX12_slides_65 : decode cX12_slides 65 = .ok (.ireturn, 1) := by decide +kernel
theorem dX12_slides_66 : decode cX12_slides 66 = .ok (.iinc 4 1, 3) := by decide +kernel
theorem dX12_slides_69 : decode cX12_slides 69 = .ok (.goto (-29), 3) := by decide +kernel
theorem dX12_slides_72 : decode cX12_slides 72 = .ok (.iload_n 3, 1) := by decide +kernel
theorem dX12_slides_73 : decode cX12_slides 73 = .ok (.iload 4, 2) := by decide +kernel
theorem dX12_slides_75 : decode cX12_slides 75 = .ok (.imul, 1) := by decide +kernel
theorem dX12_slides_76 : decode cX12_slides 76 = .ok (.ireturn, 1) := by decide +kernel
theorem dX12_out_0 : decode cX12_out 0 = .ok (.aload_n 0, 1) := by decide +kernel
theorem dX12_out_1 : decode cX12_out 1 = .ok (.iload_n 1, 1) := by decide +kernel
theorem dX12_out_2 : decode cX12_out 2 = .ok (.invokevirtual 352, 3) := by decide +kernel
theorem dX12_out_5 : decode cX12_out 5 = .ok (.ifCond .ne 5, 3) := by decide +kernel
theorem dX12_out_8 : decode cX12_out 8 = .ok (.iconst (-1), 1) := by decide +kernel
theorem dX12_out_9 : decode cX12_out 9 = .ok (.ireturn, 1) := by decide +kernel
theorem dX12_out_10 : decode cX12_out 10 = .ok (.aload_n 0, 1) := by decide +kernel
theorem dX12_out_11 : decode cX12_out 11 = .ok (.iconst 1, 1) := by decide +kernel
theorem dX12_out_12 : decode cX12_out 12 = .ok (.aload_n 0, 1) := by decide +kernel
theorem dX12_out_13 : decode cX12_out 13 = .ok (.getfield 107, 3) := by decide +kernel
theorem dX12_out_16 : decode cX12_out 16 = .ok (.bipush 18, 2) := by decide +kernel
theorem dX12_out_18 : decode cX12_out 18 = .ok (.iaload, 1) := by decide +kernel
theorem dX12_out_19 : decode cX12_out 19 = .ok (.ishl, 1) := by decide +kernel
theorem dX12_out_20 : decode cX12_out 20 = .ok (.iconst 1, 1) := by decide +kernel
theorem dX12_out_21 : decode cX12_out 21 = .ok (.isub, 1) := by decide +kernel
theorem dX12_out_22 : decode cX12_out 22 = .ok (.iconst 1, 1) := by decide +kernel
theorem dX12_out_23 : decode cX12_out 23 = .ok (.iload_n 1, 1) := by decide +kernel
theorem dX12_out_24 : decode cX12_out 24 = .ok (.ishl, 1) := by decide +kernel
theorem dX12_out_25 : decode cX12_out 25 = .ok (.iconst (-1), 1) := by decide +kernel
theorem dX12_out_26 : decode cX12_out 26 = .ok (.ixor, 1) := by decide +kernel
theorem dX12_out_27 : decode cX12_out 27 = .ok (.iand, 1) := by decide +kernel
theorem dX12_out_28 : decode cX12_out 28 = .ok (.invokevirtual 380, 3) := by decide +kernel
theorem dX12_out_31 : decode cX12_out 31 = .ok (.aload_n 0, 1) := by decide +kernel
theorem dX12_out_32 : decode cX12_out 32 = .ok (.invokevirtual 361, 3) := by decide +kernel
theorem dX12_out_35 : decode cX12_out 35 = .ok (.ifCond .ge 7, 3) := by decide +kernel
theorem dX12_out_38 : decode cX12_out 38 = .ok (.iconst 1, 1) := by decide +kernel
theorem dX12_out_39 : decode cX12_out 39 = .ok (.goto 4, 3) := by decide +kernel
theorem dX12_out_42 : decode cX12_out 42 = .ok (.iconst 0, 1) := by decide +kernel
theorem dX12_out_43 : decode cX12_out 43 = .ok (.ireturn, 1) := by decide +kernel
theorem dX12_adds_0 : decode cX12_adds 0 = .ok (.aload_n 0, 1) := by decide +kernel
theorem dX12_adds_1 : decode cX12_adds 1 = .ok (.getfield 383, 3) := by decide +kernel
theorem dX12_adds_4 : decode cX12_adds 4 = .ok (.lload_n 3, 1) := by decide +kernel
theorem dX12_adds_5 : decode cX12_adds 5 = .ok (.invokestatic 357, 3) := by decide +kernel
theorem dX12_adds_8 : decode cX12_adds 8 = .ok (.lstore 5, 2) := by decide +kernel
theorem dX12_adds_10 : decode cX12_adds 10 = .ok (.aload_n 0, 1) := by decide +kernel
theorem dX12_adds_11 : decode cX12_adds 11 = .ok (.aload_n 0, 1) := by decide +kernel
theorem dX12_adds_12 : decode cX12_adds 12 = .ok (.getfield 387, 3) := by decide +kernel
theorem dX12_adds_15 : decode cX12_adds 15 = .ok (.lload_n 3, 1) := by decide +kernel
theorem dX12_adds_16 : decode cX12_adds 16 = .ok (.lload 5, 2) := by decide +kernel
theorem dX12_adds_18 : decode cX12_adds 18 = .ok (.ldiv, 1) := by decide +kernel
theorem dX12_adds_19 : decode cX12_adds 19 = .ok (.lmul, 1) := by decide +kernel
theorem dX12_adds_20 : decode cX12_adds 20 = .ok (.lload_n 1, 1) := by decide +kernel
theorem dX12_adds_21 : decode cX12_adds 21 = .ok (.aload_n 0, 1) := by decide +kernel
theorem dX12_adds_22 : decode cX12_adds 22 = .ok (.getfield 383, 3) := by decide +kernel
theorem dX12_adds_25 : decode cX12_adds 25 = .ok (.lload 5, 2) := by decide +kernel
theorem dX12_adds_27 : decode cX12_adds 27 = .ok (.ldiv, 1) := by decide +kernel
theorem dX12_adds_28 : decode cX12_adds 28 = .ok (.lmul, 1) := by decide +kernel
theorem dX12_adds_29 : decode cX12_adds 29 = .ok (.ladd, 1) := by decide +kernel
theorem dX12_adds_30 : decode cX12_adds 30 = .ok (.putfield 387, 3) := by decide +kernel
theorem dX12_adds_33 : decode cX12_adds 33 = .ok (.aload_n 0, 1) := by decide +kernel
theorem dX12_adds_34 : decode cX12_adds 34 = .ok (.aload_n 0, 1) := by decide +kernel
theorem dX12_adds_35 : decode cX12_adds 35 = .ok (.getfield 383, 3) := by decide +kernel
theorem dX12_adds_38 : decode cX12_adds 38 = .ok (.lload 5, 2) := by decide +kernel
theorem dX12_adds_40 : decode cX12_adds 40 = .ok (.ldiv, 1) := by decide +kernel
theorem dX12_adds_41 : decode cX12_adds 41 = .ok (.lload_n 3, 1) := by decide +kernel
theorem dX12_adds_42 : decode cX12_adds 42 = .ok (.lmul, 1) := by decide +kernel
theorem dX12_adds_43 : decode cX12_adds 43 = .ok (.putfield 383, 3) := by decide +kernel
theorem dX12_adds_46 : decode cX12_adds 46 = .ok (.aload_n 0, 1) := by decide +kernel
theorem dX12_adds_47 : decode cX12_adds 47 = .ok (.getfield 387, 3) := by decide +kernel
theorem dX12_adds_50 : decode cX12_adds 50 = .ok (.aload_n 0, 1) := by decide +kernel
theorem dX12_adds_51 : decode cX12_adds 51 = .ok (.getfield 383, 3) := by decide +kernel
theorem dX12_adds_54 : decode cX12_adds 54 = .ok (.invokestatic 357, 3) := by decide +kernel
theorem dX12_adds_57 : decode cX12_adds 57 = .ok (.lstore 5, 2) := by decide +kernel
theorem dX12_adds_59 : decode cX12_adds 59 = .ok (.aload_n 0, 1) := by decide +kernel
theorem dX12_adds_60 : decode cX12_adds 60 = .ok (.dup, 1) := by decide +kernel
theorem dX12_adds_61 : decode cX12_adds 61 = .ok (.getfield 387, 3) := by decide +kernel
theorem dX12_adds_64 : decode cX12_adds 64 = .ok (.lload 5, 2) := by decide +kernel
theorem dX12_adds_66 : decode cX12_adds 66 = .ok (.ldiv, 1) := by decide +kernel
theorem dX12_adds_67 : decode cX12_adds 67 = .ok (.putfield 387, 3) := by decide +kernel
theorem dX12_adds_70 : decode cX12_adds 70 = .ok (.aload_n 0, 1) := by decide +kernel
theorem dX12_adds_71 : decode cX12_adds 71 = .ok (.dup, 1) := by decide +kernel
theorem dX12_adds_72 : decode cX12_adds 72 = .ok (.getfield 383, 3) := by decide +kernel
theorem dX12_adds_75 : decode cX12_adds 75 = .ok (.lload 5, 2) := by decide +kernel
theorem dX12_adds_77 : decode cX12_adds 77 = .ok (.ldiv, 1) := by decide +kernel
theorem dX12_adds_78 : decode cX12_adds 78 = .ok (.putfield 383, 3) := by decide +kernel
theorem dX12_adds_81 : decode cX12_adds 81 = .ok (.return_, 1) := by decide +kernel
theorem dX12_reaches_0 : decode cX12_reaches 0 = .ok (.aload_n 0, 1) := by decide +kernel
theorem dX12_reaches_1 : decode cX12_reaches 1 = .ok (.lconst 0, 1) := by decide +kernel
theorem dX12_reaches_2 : decode cX12_reaches 2 = .ok (.putfield 387, 3) := by decide +kernel
theorem dX12_reaches_5 : decode cX12_reaches 5 = .ok (.aload_n 0, 1) := by decide +kernel
theorem dX12_reaches_6 : decode cX12_reaches 6 = .ok (.lconst 1, 1) := by decide +kernel
theorem dX12_reaches_7 : decode cX12_reaches 7 = .ok (.putfield 383, 3) := by decide +kernel
theorem dX12_reaches_10 : decode cX12_reaches 10 = .ok (.iconst 0, 1) := by decide +kernel
theorem dX12_reaches_11 : decode cX12_reaches 11 = .ok (.istore_n 1, 1) := by decide +kernel
theorem dX12_reaches_12 : decode cX12_reaches 12 = .ok (.aload_n 0, 1) := by decide +kernel
theorem dX12_reaches_13 : decode cX12_reaches 13 = .ok (.getfield 390, 3) := by decide +kernel
theorem dX12_reaches_16 : decode cX12_reaches 16 = .ok (.iconst 1, 1) := by decide +kernel
theorem dX12_reaches_17 : decode cX12_reaches 17 = .ok (.isub, 1) := by decide +kernel
theorem dX12_reaches_18 : decode cX12_reaches 18 = .ok (.istore_n 2, 1) := by decide +kernel
theorem dX12_reaches_19 : decode cX12_reaches 19 = .ok (.iload_n 2, 1) := by decide +kernel
theorem dX12_reaches_20 : decode cX12_reaches 20 = .ok (.ifCond .lt 58, 3) := by decide +kernel
theorem dX12_reaches_23 : decode cX12_reaches 23 = .ok (.bipush 6, 2) := by decide +kernel
theorem dX12_reaches_25 : decode cX12_reaches 25 = .ok (.aload_n 0, 1) := by decide +kernel
theorem dX12_reaches_26 : decode cX12_reaches 26 = .ok (.getfield 221, 3) := by decide +kernel
theorem dX12_reaches_29 : decode cX12_reaches 29 = .ok (.imul, 1) := by decide +kernel
theorem dX12_reaches_30 : decode cX12_reaches 30 = .ok (.aload_n 0, 1) := by decide +kernel
theorem dX12_reaches_31 : decode cX12_reaches 31 = .ok (.getfield 128, 3) := by decide +kernel
theorem dX12_reaches_34 : decode cX12_reaches 34 = .ok (.iload_n 2, 1) := by decide +kernel
theorem dX12_reaches_35 : decode cX12_reaches 35 = .ok (.iaload, 1) := by decide +kernel
theorem dX12_reaches_36 : decode cX12_reaches 36 = .ok (.iadd, 1) := by decide +kernel
theorem dX12_reaches_37 : decode cX12_reaches 37 = .ok (.istore_n 3, 1) := by decide +kernel
theorem dX12_reaches_38 : decode cX12_reaches 38 = .ok (.iload_n 1, 1) := by decide +kernel
theorem dX12_reaches_39 : decode cX12_reaches 39 = .ok (.aload_n 0, 1) := by decide +kernel
theorem dX12_reaches_40 : decode cX12_reaches 40 = .ok (.getfield 49, 3) := by decide +kernel
theorem dX12_reaches_43 : decode cX12_reaches 43 = .ok (.iload_n 3, 1) := by decide +kernel
theorem dX12_reaches_44 : decode cX12_reaches 44 = .ok (.iaload, 1) := by decide +kernel
theorem dX12_reaches_45 : decode cX12_reaches 45 = .ok (.iadd, 1) := by decide +kernel
theorem dX12_reaches_46 : decode cX12_reaches 46 = .ok (.istore_n 1, 1) := by decide +kernel
theorem dX12_reaches_47 : decode cX12_reaches 47 = .ok (.aload_n 0, 1) := by decide +kernel
theorem dX12_reaches_48 : decode cX12_reaches 48 = .ok (.aload_n 0, 1) := by decide +kernel
theorem dX12_reaches_49 : decode cX12_reaches 49 = .ok (.getfield 49, 3) := by decide +kernel
theorem dX12_reaches_52 : decode cX12_reaches 52 = .ok (.iload_n 3, 1) := by decide +kernel
theorem dX12_reaches_53 : decode cX12_reaches 53 = .ok (.iaload, 1) := by decide +kernel
theorem dX12_reaches_54 : decode cX12_reaches 54 = .ok (.i2l, 1) := by decide +kernel
theorem dX12_reaches_55 : decode cX12_reaches 55 = .ok (.aload_n 0, 1) := by decide +kernel
theorem dX12_reaches_56 : decode cX12_reaches 56 = .ok (.getfield 46, 3) := by decide +kernel
theorem dX12_reaches_59 : decode cX12_reaches 59 = .ok (.iload_n 3, 1) := by decide +kernel
theorem dX12_reaches_60 : decode cX12_reaches 60 = .ok (.iaload, 1) := by decide +kernel
theorem dX12_reaches_61 : decode cX12_reaches 61 = .ok (.i2l, 1) := by decide +kernel
theorem dX12_reaches_62 : decode cX12_reaches 62 = .ok (.lmul, 1) := by decide +kernel
theorem dX12_reaches_63 : decode cX12_reaches 63 = .ok (.ldc2_w 320, 3) := by decide +kernel
theorem dX12_reaches_66 : decode cX12_reaches 66 = .ok (.iload_n 1, 1) := by decide +kernel
theorem dX12_reaches_67 : decode cX12_reaches 67 = .ok (.i2l, 1) := by decide +kernel
theorem dX12_reaches_68 : decode cX12_reaches 68 = .ok (.lmul, 1) := by decide +kernel
theorem dX12_reaches_69 : decode cX12_reaches 69 = .ok (.invokevirtual 393, 3) := by decide +kernel
theorem dX12_reaches_72 : decode cX12_reaches 72 = .ok (.iinc 2 (-1), 3) := by decide +kernel
theorem dX12_reaches_75 : decode cX12_reaches 75 = .ok (.goto (-56), 3) := by decide +kernel
theorem dX12_reaches_78 : decode cX12_reaches 78 = .ok (.return_, 1) := by decide +kernel
theorem dX12_takesOrder_0 : decode cX12_takesOrder 0 = .ok (.iload_n 1, 1) := by decide +kernel
theorem dX12_takesOrder_1 : decode cX12_takesOrder 1 = .ok (.istore_n 2, 1) := by decide +kernel
theorem dX12_takesOrder_2 : decode cX12_takesOrder 2 = .ok (.iconst 0, 1) := by decide +kernel
theorem dX12_takesOrder_3 : decode cX12_takesOrder 3 = .ok (.istore_n 3, 1) := by decide +kernel
theorem dX12_takesOrder_4 : decode cX12_takesOrder 4 = .ok (.iconst 0, 1) := by decide +kernel
theorem dX12_takesOrder_5 : decode cX12_takesOrder 5 = .ok (.istore 4, 2) := by decide +kernel
theorem dX12_takesOrder_7 : decode cX12_takesOrder 7 = .ok (.iload_n 2, 1) := by decide +kernel
theorem dX12_takesOrder_8 : decode cX12_takesOrder 8 = .ok (.iconst 1, 1) := by decide +kernel
theorem dX12_takesOrder_9 : decode cX12_takesOrder 9 = .ok (.if_icmp .lt 10, 3) := by decide +kernel
theorem dX12_takesOrder_12 : decode cX12_takesOrder 12 = .ok (.iload_n 2, 1) := by decide +kernel
theorem dX12_takesOrder_13 : decode cX12_takesOrder 13 = .ok (.ldc_w 397, 3) := by decide +kernel
theorem dX12_takesOrder_16 : decode cX12_takesOrder 16 = .ok (.if_icmp .le 5, 3) := by decide +kernel
theorem dX12_takesOrder_19 : decode cX12_takesOrder 19 = .ok (.iconst 0, 1) := by decide +kernel
theorem dX12_takesOrder_20 : decode cX12_takesOrder 20 = .ok (.ireturn, 1) := by decide +kernel
theorem dX12_takesOrder_21 : decode cX12_takesOrder 21 = .ok (.iload_n 2, 1) := by decide +kernel
theorem dX12_takesOrder_22 : decode cX12_takesOrder 22 = .ok (.ifCond .le 61, 3) := by decide +kernel
theorem dX12_takesOrder_25 : decode cX12_takesOrder 25 = .ok (.iload_n 2, 1) := by decide +kernel
theorem dX12_takesOrder_26 : decode cX12_takesOrder 26 = .ok (.bipush 10, 2) := by decide +kernel
theorem dX12_takesOrder_28 : decode cX12_takesOrder 28 = .ok (.irem, 1) := by decide +kernel
theorem dX12_takesOrder_29 : decode cX12_takesOrder 29 = .ok (.iconst 1, 1) := by decide +kernel
theorem dX12_takesOrder_30 : decode cX12_takesOrder 30 = .ok (.isub, 1) := by decide +kernel
theorem dX12_takesOrder_31 : decode cX12_takesOrder 31 = .ok (.istore 5, 2) := by decide +kernel
theorem dX12_takesOrder_33 : decode cX12_takesOrder 33 = .ok (.aload_n 0, 1) := by decide +kernel
theorem dX12_takesOrder_34 : decode cX12_takesOrder 34 = .ok (.iload 5, 2) := by decide +kernel
theorem dX12_takesOrder_36 : decode cX12_takesOrder 36 = .ok (.invokevirtual 343, 3) := by decide +kernel
theorem dX12_takesOrder_39 : decode cX12_takesOrder 39 = .ok (.ifCond .eq 14, 3) := by decide +kernel
theorem dX12_takesOrder_42 : decode cX12_takesOrder 42 = .ok (.iload 4, 2) := by decide +kernel
theorem dX12_takesOrder_44 : decode cX12_takesOrder 44 = .ok (.iload 5, 2) := by decide +kernel
theorem dX12_takesOrder_46 : decode cX12_takesOrder 46 = .ok (.ishr, 1) := by decide +kernel
theorem dX12_takesOrder_47 : decode cX12_takesOrder 47 = .ok (.iconst 1, 1) := by decide +kernel
theorem dX12_takesOrder_48 : decode cX12_takesOrder 48 = .ok (.iand, 1) := by decide +kernel
theorem dX12_takesOrder_49 : decode cX12_takesOrder 49 = .ok (.iconst 1, 1) := by decide +kernel
theorem dX12_takesOrder_50 : decode cX12_takesOrder 50 = .ok (.if_icmp .ne 5, 3) := by decide +kernel
theorem dX12_takesOrder_53 : decode cX12_takesOrder 53 = .ok (.iconst 0, 1) := by decide +kernel
theorem dX12_takesOrder_54 : decode cX12_takesOrder 54 = .ok (.ireturn, 1) := by decide +kernel
theorem dX12_takesOrder_55 : decode cX12_takesOrder 55 = .ok (.iload 4, 2) := by decide +kernel
theorem dX12_takesOrder_57 : decode cX12_takesOrder 57 = .ok (.iconst 1, 1) := by decide +kernel
theorem dX12_takesOrder_58 : decode cX12_takesOrder 58 = .ok (.iload 5, 2) := by decide +kernel
theorem dX12_takesOrder_60 : decode cX12_takesOrder 60 = .ok (.ishl, 1) := by decide +kernel
theorem dX12_takesOrder_61 : decode cX12_takesOrder 61 = .ok (.ior, 1) := by decide +kernel
theorem dX12_takesOrder_62 : decode cX12_takesOrder 62 = .ok (.istore 4, 2) := by decide +kernel
theorem dX12_takesOrder_64 : decode cX12_takesOrder 64 = .ok (.aload_n 0, 1) := by decide +kernel
theorem dX12_takesOrder_65 : decode cX12_takesOrder 65 = .ok (.getfield 128, 3) := by decide +kernel
theorem dX12_takesOrder_68 : decode cX12_takesOrder 68 = .ok (.iload_n 3, 1) := by decide +kernel
theorem dX12_takesOrder_69 : decode cX12_takesOrder 69 = .ok (.iload 5, 2) := by decide +kernel
theorem dX12_takesOrder_71 : decode cX12_takesOrder 71 = .ok (.iastore, 1) := by decide +kernel
theorem dX12_takesOrder_72 : decode cX12_takesOrder 72 = .ok (.iinc 3 1, 3) := by decide +kernel
theorem dX12_takesOrder_75 : decode cX12_takesOrder 75 = .ok (.iload_n 2, 1) := by decide +kernel
theorem dX12_takesOrder_76 : decode cX12_takesOrder 76 = .ok (.bipush 10, 2) := by decide +kernel
theorem dX12_takesOrder_78 : decode cX12_takesOrder 78 = .ok (.idiv, 1) := by decide +kernel
theorem dX12_takesOrder_79 : decode cX12_takesOrder 79 = .ok (.istore_n 2, 1) := by decide +kernel
theorem dX12_takesOrder_80 : decode cX12_takesOrder 80 = .ok (.goto (-59), 3) := by decide +kernel
theorem dX12_takesOrder_83 : decode cX12_takesOrder 83 = .ok (.aload_n 0, 1) := by decide +kernel
theorem dX12_takesOrder_84 : decode cX12_takesOrder 84 = .ok (.iload_n 3, 1) := by decide +kernel
theorem dX12_takesOrder_85 : decode cX12_takesOrder 85 = .ok (.putfield 390, 3) := by decide +kernel
theorem dX12_takesOrder_88 : decode cX12_takesOrder 88 = .ok (.iconst 0, 1) := by decide +kernel
theorem dX12_takesOrder_89 : decode cX12_takesOrder 89 = .ok (.istore 5, 2) := by decide +kernel
theorem dX12_takesOrder_91 : decode cX12_takesOrder 91 = .ok (.iload_n 3, 1) := by decide +kernel
theorem dX12_takesOrder_92 : decode cX12_takesOrder 92 = .ok (.iconst 1, 1) := by decide +kernel
theorem dX12_takesOrder_93 : decode cX12_takesOrder 93 = .ok (.isub, 1) := by decide +kernel
theorem dX12_takesOrder_94 : decode cX12_takesOrder 94 = .ok (.istore 6, 2) := by decide +kernel
theorem dX12_takesOrder_96 : decode cX12_takesOrder 96 = .ok (.iload 5, 2) := by decide +kernel
theorem dX12_takesOrder_98 : decode cX12_takesOrder 98 = .ok (.iload 6, 2) := by decide +kernel
theorem dX12_takesOrder_100 : decode cX12_takesOrder 100 = .ok (.if_icmp .ge 44, 3) := by decide +kernel
theorem dX12_takesOrder_103 : decode cX12_takesOrder 103 = .ok (.aload_n 0, 1) := by decide +kernel
theorem dX12_takesOrder_104 : decode cX12_takesOrder 104 = .ok (.getfield 128, 3) := by decide +kernel
theorem dX12_takesOrder_107 : decode cX12_takesOrder 107 = .ok (.iload 5, 2) := by decide +kernel
theorem dX12_takesOrder_109 : decode cX12_takesOrder 109 = .ok (.iaload, 1) := by decide +kernel
theorem dX12_takesOrder_110 : decode cX12_takesOrder 110 = .ok (.istore 7, 2) := by decide +kernel
theorem dX12_takesOrder_112 : decode cX12_takesOrder 112 = .ok (.aload_n 0, 1) := by decide +kernel
theorem dX12_takesOrder_113 : decode cX12_takesOrder 113 = .ok (.getfield 128, 3) := by decide +kernel
theorem dX12_takesOrder_116 : decode cX12_takesOrder 116 = .ok (.iload 5, 2) := by decide +kernel
theorem dX12_takesOrder_118 : decode cX12_takesOrder 118 = .ok (.aload_n 0, 1) := by decide +kernel
theorem dX12_takesOrder_119 : decode cX12_takesOrder 119 = .ok (.getfield 128, 3) := by decide +kernel
theorem dX12_takesOrder_122 : decode cX12_takesOrder 122 = .ok (.iload 6, 2) := by decide +kernel
theorem dX12_takesOrder_124 : decode cX12_takesOrder 124 = .ok (.iaload, 1) := by decide +kernel
theorem dX12_takesOrder_125 : decode cX12_takesOrder 125 = .ok (.iastore, 1) := by decide +kernel
theorem dX12_takesOrder_126 : decode cX12_takesOrder 126 = .ok (.aload_n 0, 1) := by decide +kernel
theorem dX12_takesOrder_127 : decode cX12_takesOrder 127 = .ok (.getfield 128, 3) := by decide +kernel
theorem dX12_takesOrder_130 : decode cX12_takesOrder 130 = .ok (.iload 6, 2) := by decide +kernel
theorem dX12_takesOrder_132 : decode cX12_takesOrder 132 = .ok (.iload 7, 2) := by decide +kernel
theorem dX12_takesOrder_134 : decode cX12_takesOrder 134 = .ok (.iastore, 1) := by decide +kernel
theorem dX12_takesOrder_135 : decode cX12_takesOrder 135 = .ok (.iinc 5 1, 3) := by decide +kernel
theorem dX12_takesOrder_138 : decode cX12_takesOrder 138 = .ok (.iinc 6 (-1), 3) := by decide +kernel
theorem dX12_takesOrder_141 : decode cX12_takesOrder 141 = .ok (.goto (-45), 3) := by decide +kernel
theorem dX12_takesOrder_144 : decode cX12_takesOrder 144 = .ok (.iconst 1, 1) := by decide +kernel
theorem dX12_takesOrder_145 : decode cX12_takesOrder 145 = .ok (.ireturn, 1) := by decide +kernel
theorem dX12_reach_0 : decode cX12_reach 0 = .ok (.aload_n 0, 1) := by decide +kernel
theorem dX12_reach_1 : decode cX12_reach 1 = .ok (.iload_n 1, 1) := by decide +kernel
theorem dX12_reach_2 : decode cX12_reach 2 = .ok (.invokevirtual 398, 3) := by decide +kernel
theorem dX12_reach_5 : decode cX12_reach 5 = .ok (.ifCond .ne 7, 3) := by decide +kernel
theorem dX12_reach_8 : decode cX12_reach 8 = .ok (.ldc2_w 401, 3) := by decide +kernel
theorem dX12_reach_11 : decode cX12_reach 11 = .ok (.lreturn, 1) := by decide +kernel
theorem dX12_reach_12 : decode cX12_reach 12 = .ok (.aload_n 0, 1) := by decide +kernel
theorem dX12_reach_13 : decode cX12_reach 13 = .ok (.invokevirtual 403, 3) := by decide +kernel
theorem dX12_reach_16 : decode cX12_reach 16 = .ok (.iload_n 2, 1) := by decide +kernel
theorem dX12_reach_17 : decode cX12_reach 17 = .ok (.ifCond .eq 10, 3) := by decide +kernel
theorem dX12_reach_20 : decode cX12_reach 20 = .ok (.aload_n 0, 1) := by decide +kernel
theorem dX12_reach_21 : decode cX12_reach 21 = .ok (.getfield 383, 3) := by decide +kernel
theorem dX12_reach_24 : decode cX12_reach 24 = .ok (.goto 7, 3) := by decide +kernel
theorem dX12_reach_27 : decode cX12_reach 27 = .ok (.aload_n 0, 1) := by decide +kernel
theorem dX12_reach_28 : decode cX12_reach 28 = .ok (.getfield 387, 3) := by decide +kernel
theorem dX12_reach_31 : decode cX12_reach 31 = .ok (.lreturn, 1) := by decide +kernel
theorem dX12_isMore_0 : decode cX12_isMore 0 = .ok (.lload_n 0, 1) := by decide +kernel
theorem dX12_isMore_1 : decode cX12_isMore 1 = .ok (.lstore 8, 2) := by decide +kernel
theorem dX12_isMore_3 : decode cX12_isMore 3 = .ok (.lload_n 2, 1) := by decide +kernel
theorem dX12_isMore_4 : decode cX12_isMore 4 = .ok (.lstore 10, 2) := by decide +kernel
theorem dX12_isMore_6 : decode cX12_isMore 6 = .ok (.lload 4, 2) := by decide +kernel
theorem dX12_isMore_8 : decode cX12_isMore 8 = .ok (.lstore 12, 2) := by decide +kernel
theorem dX12_isMore_10 : decode cX12_isMore 10 = .ok (.lload 6, 2) := by decide +kernel
theorem dX12_isMore_12 : decode cX12_isMore 12 = .ok (.lstore 14, 2) := by decide +kernel
theorem dX12_isMore_14 : decode cX12_isMore 14 = .ok (.lload 8, 2) := by decide +kernel
theorem dX12_isMore_16 : decode cX12_isMore 16 = .ok (.lload 10, 2) := by decide +kernel
theorem dX12_isMore_18 : decode cX12_isMore 18 = .ok (.ldiv, 1) := by decide +kernel
theorem dX12_isMore_19 : decode cX12_isMore 19 = .ok (.lstore 16, 2) := by decide +kernel
theorem dX12_isMore_21 : decode cX12_isMore 21 = .ok (.lload 12, 2) := by decide +kernel
theorem dX12_isMore_23 : decode cX12_isMore 23 = .ok (.lload 14, 2) := by decide +kernel
theorem dX12_isMore_25 : decode cX12_isMore 25 = .ok (.ldiv, 1) := by decide +kernel
theorem dX12_isMore_26 : decode cX12_isMore 26 = .ok (.lstore 18, 2) := by decide +kernel
theorem dX12_isMore_28 : decode cX12_isMore 28 = .ok (.lload 16, 2) := by decide +kernel
theorem dX12_isMore_30 : decode cX12_isMore 30 = .ok (.lload 18, 2) := by decide +kernel
theorem dX12_isMore_32 : decode cX12_isMore 32 = .ok (.lcmp, 1) := by decide +kernel
theorem dX12_isMore_33 : decode cX12_isMore 33 = .ok (.ifCond .eq 17, 3) := by decide +kernel
theorem dX12_isMore_36 : decode cX12_isMore 36 = .ok (.lload 16, 2) := by decide +kernel
theorem dX12_isMore_38 : decode cX12_isMore 38 = .ok (.lload 18, 2) := by decide +kernel
theorem dX12_isMore_40 : decode cX12_isMore 40 = .ok (.lcmp, 1) := by decide +kernel
theorem dX12_isMore_41 : decode cX12_isMore 41 = .ok (.ifCond .le 7, 3) := by decide +kernel
theorem dX12_isMore_44 : decode cX12_isMore 44 = .ok (.iconst 1, 1) := by decide +kernel
theorem dX12_isMore_45 : decode cX12_isMore 45 = .ok (.goto 4, 3) := by decide +kernel
theorem dX12_isMore_48 : decode cX12_isMore 48 = .ok (.iconst 0, 1) := by decide +kernel
theorem dX12_isMore_49 : decode cX12_isMore 49 = .ok (.ireturn, 1) := by decide +kernel
theorem dX12_isMore_50 : decode cX12_isMore 50 = .ok (.lload 8, 2) := by decide +kernel
theorem dX12_isMore_52 : decode cX12_isMore 52 = .ok (.lload 10, 2) := by decide +kernel
theorem dX12_isMore_54 : decode cX12_isMore 54 = .ok (.lrem, 1) := by decide +kernel
theorem dX12_isMore_55 : decode cX12_isMore 55 = .ok (.lstore 8, 2) := by decide +kernel
theorem dX12_isMore_57 : decode cX12_isMore 57 = .ok (.lload 12, 2) := by decide +kernel
theorem dX12_isMore_59 : decode cX12_isMore 59 = .ok (.lload 14, 2) := by decide +kernel
theorem dX12_isMore_61 : decode cX12_isMore 61 = .ok (.lrem, 1) := by decide +kernel
theorem dX12_isMore_62 : decode cX12_isMore 62 = .ok (.lstore 12, 2) := by decide +kernel
theorem dX12_isMore_64 : decode cX12_isMore 64 = .ok (.lload 8, 2) := by decide +kernel
theorem dX12_isMore_66 : decode cX12_isMore 66 = .ok (.lconst 0, 1) := by decide +kernel
theorem dX12_isMore_67 : decode cX12_isMore 67 = .ok (.lcmp, 1) := by decide +kernel
theorem dX12_isMore_68 : decode cX12_isMore 68 = .ok (.ifCond .ne 5, 3) := by decide +kernel
theorem dX12_isMore_71 : decode cX12_isMore 71 = .ok (.iconst 0, 1) := by decide +kernel
theorem dX12_isMore_72 : decode cX12_isMore 72 = .ok (.ireturn, 1) := by decide +kernel
theorem dX12_isMore_73 : decode cX12_isMore 73 = .ok (.lload 12, 2) := by decide +kernel
theorem dX12_isMore_75 : decode cX12_isMore 75 = .ok (.lconst 0, 1) := by decide +kernel
theorem dX12_isMore_76 : decode cX12_isMore 76 = .ok (.lcmp, 1) := by decide +kernel
theorem dX12_isMore_77 : decode cX12_isMore 77 = .ok (.ifCond .ne 5, 3) := by decide +kernel
theorem dX12_isMore_80 : decode cX12_isMore 80 = .ok (.iconst 1, 1) := by decide +kernel
theorem dX12_isMore_81 : decode cX12_isMore 81 = .ok (.ireturn, 1) := by decide +kernel
theorem dX12_isMore_82 : decode cX12_isMore 82 = .ok (.lload 8, 2) := by decide +kernel
theorem dX12_isMore_84 : decode cX12_isMore 84 = .ok (.lstore 20, 2) := by decide +kernel
theorem dX12_isMore_86 : decode cX12_isMore 86 = .ok (.lload 14, 2) := by decide +kernel
theorem dX12_isMore_88 : decode cX12_isMore 88 = .ok (.lstore 8, 2) := by decide +kernel
theorem dX12_isMore_90 : decode cX12_isMore 90 = .ok (.lload 20, 2) := by decide +kernel
theorem dX12_isMore_92 : decode cX12_isMore 92 = .ok (.lstore 14, 2) := by decide +kernel
theorem dX12_isMore_94 : decode cX12_isMore 94 = .ok (.lload 10, 2) := by decide +kernel
theorem dX12_isMore_96 : decode cX12_isMore 96 = .ok (.lstore 20, 2) := by decide +kernel
theorem dX12_isMore_98 : decode cX12_isMore 98 = .ok (.lload 12, 2) := by decide +kernel
theorem dX12_isMore_100 : decode cX12_isMore 100 = .ok (.lstore 10, 2) := by decide +kernel
theorem dX12_isMore_102 : decode cX12_isMore 102 = .ok (.lload 20, 2) := by decide +kernel
theorem dX12_isMore_104 : decode cX12_isMore 104 = .ok (.lstore 12, 2) := by decide +kernel
theorem dX12_isMore_106 : decode cX12_isMore 106 = .ok (.goto (-92), 3) := by decide +kernel
theorem dX12_nextOrder_0 : decode cX12_nextOrder 0 = .ok (.aload_n 0, 1) := by decide +kernel
theorem dX12_nextOrder_1 : decode cX12_nextOrder 1 = .ok (.getfield 390, 3) := by decide +kernel
theorem dX12_nextOrder_4 : decode cX12_nextOrder 4 = .ok (.istore_n 1, 1) := by decide +kernel
theorem dX12_nextOrder_5 : decode cX12_nextOrder 5 = .ok (.iload_n 1, 1) := by decide +kernel
theorem dX12_nextOrder_6 : decode cX12_nextOrder 6 = .ok (.iconst 2, 1) := by decide +kernel
theorem dX12_nextOrder_7 : decode cX12_nextOrder 7 = .ok (.isub, 1) := by decide +kernel
theorem dX12_nextOrder_8 : decode cX12_nextOrder 8 = .ok (.istore_n 2, 1) := by decide +kernel
theorem dX12_nextOrder_9 : decode cX12_nextOrder 9 = .ok (.iload_n 2, 1) := by decide +kernel
theorem dX12_nextOrder_10 : decode cX12_nextOrder 10 = .ok (.ifCond .lt 26, 3) := by decide +kernel
theorem dX12_nextOrder_13 : decode cX12_nextOrder 13 = .ok (.aload_n 0, 1) := by decide +kernel
theorem dX12_nextOrder_14 : decode cX12_nextOrder 14 = .ok (.getfield 128, 3) := by decide +kernel
theorem dX12_nextOrder_17 : decode cX12_nextOrder 17 = .ok (.iload_n 2, 1) := by decide +kernel
theorem dX12_nextOrder_18 : decode cX12_nextOrder 18 = .ok (.iaload, 1) := by decide +kernel
theorem dX12_nextOrder_19 : decode cX12_nextOrder 19 = .ok (.aload_n 0, 1) := by decide +kernel
theorem dX12_nextOrder_20 : decode cX12_nextOrder 20 = .ok (.getfield 128, 3) := by decide +kernel
theorem dX12_nextOrder_23 : decode cX12_nextOrder 23 = .ok (.iload_n 2, 1) := by decide +kernel
theorem dX12_nextOrder_24 : decode cX12_nextOrder 24 = .ok (.iconst 1, 1) := by decide +kernel
theorem dX12_nextOrder_25 : decode cX12_nextOrder 25 = .ok (.iadd, 1) := by decide +kernel
theorem dX12_nextOrder_26 : decode cX12_nextOrder 26 = .ok (.iaload, 1) := by decide +kernel
theorem dX12_nextOrder_27 : decode cX12_nextOrder 27 = .ok (.if_icmp .le 9, 3) := by decide +kernel
theorem dX12_nextOrder_30 : decode cX12_nextOrder 30 = .ok (.iinc 2 (-1), 3) := by decide +kernel
theorem dX12_nextOrder_33 : decode cX12_nextOrder 33 = .ok (.goto (-24), 3) := by decide +kernel
theorem dX12_nextOrder_36 : decode cX12_nextOrder 36 = .ok (.iload_n 2, 1) := by decide +kernel
theorem dX12_nextOrder_37 : decode cX12_nextOrder 37 = .ok (.ifCond .ge 5, 3) := by decide +kernel
theorem dX12_nextOrder_40 : decode cX12_nextOrder 40 = .ok (.iconst 0, 1) := by decide +kernel
theorem dX12_nextOrder_41 : decode cX12_nextOrder 41 = .ok (.ireturn, 1) := by decide +kernel
theorem dX12_nextOrder_42 : decode cX12_nextOrder 42 = .ok (.iload_n 1, 1) := by decide +kernel
theorem dX12_nextOrder_43 : decode cX12_nextOrder 43 = .ok (.iconst 1, 1) := by decide +kernel
theorem dX12_nextOrder_44 : decode cX12_nextOrder 44 = .ok (.isub, 1) := by decide +kernel
theorem dX12_nextOrder_45 : decode cX12_nextOrder 45 = .ok (.istore_n 3, 1) := by decide +kernel
theorem dX12_nextOrder_46 : decode cX12_nextOrder 46 = .ok (.aload_n 0, 1) := by decide +kernel
theorem dX12_nextOrder_47 : decode cX12_nextOrder 47 = .ok (.getfield 128, 3) := by decide +kernel
theorem dX12_nextOrder_50 : decode cX12_nextOrder 50 = .ok (.iload_n 3, 1) := by decide +kernel
theorem dX12_nextOrder_51 : decode cX12_nextOrder 51 = .ok (.iaload, 1) := by decide +kernel
theorem dX12_nextOrder_52 : decode cX12_nextOrder 52 = .ok (.aload_n 0, 1) := by decide +kernel
theorem dX12_nextOrder_53 : decode cX12_nextOrder 53 = .ok (.getfield 128, 3) := by decide +kernel
theorem dX12_nextOrder_56 : decode cX12_nextOrder 56 = .ok (.iload_n 2, 1) := by decide +kernel
theorem dX12_nextOrder_57 : decode cX12_nextOrder 57 = .ok (.iaload, 1) := by decide +kernel
theorem dX12_nextOrder_58 : decode cX12_nextOrder 58 = .ok (.if_icmp .ge 9, 3) := by decide +kernel
theorem dX12_nextOrder_61 : decode cX12_nextOrder 61 = .ok (.iinc 3 (-1), 3) := by decide +kernel
theorem dX12_nextOrder_64 : decode cX12_nextOrder 64 = .ok (.goto (-18), 3) := by decide +kernel
theorem dX12_nextOrder_67 : decode cX12_nextOrder 67 = .ok (.aload_n 0, 1) := by decide +kernel
theorem dX12_nextOrder_68 : decode cX12_nextOrder 68 = .ok (.getfield 128, 3) := by decide +kernel
theorem dX12_nextOrder_71 : decode cX12_nextOrder 71 = .ok (.iload_n 2, 1) := by decide +kernel
theorem dX12_nextOrder_72 : decode cX12_nextOrder 72 = .ok (.iaload, 1) := by decide +kernel
theorem dX12_nextOrder_73 : decode cX12_nextOrder 73 = .ok (.istore 4, 2) := by decide +kernel
theorem dX12_nextOrder_75 : decode cX12_nextOrder 75 = .ok (.aload_n 0, 1) := by decide +kernel
theorem dX12_nextOrder_76 : decode cX12_nextOrder 76 = .ok (.getfield 128, 3) := by decide +kernel
theorem dX12_nextOrder_79 : decode cX12_nextOrder 79 = .ok (.iload_n 2, 1) := by decide +kernel
theorem dX12_nextOrder_80 : decode cX12_nextOrder 80 = .ok (.aload_n 0, 1) := by decide +kernel
theorem dX12_nextOrder_81 : decode cX12_nextOrder 81 = .ok (.getfield 128, 3) := by decide +kernel
theorem dX12_nextOrder_84 : decode cX12_nextOrder 84 = .ok (.iload_n 3, 1) := by decide +kernel
theorem dX12_nextOrder_85 : decode cX12_nextOrder 85 = .ok (.iaload, 1) := by decide +kernel
theorem dX12_nextOrder_86 : decode cX12_nextOrder 86 = .ok (.iastore, 1) := by decide +kernel
theorem dX12_nextOrder_87 : decode cX12_nextOrder 87 = .ok (.aload_n 0, 1) := by decide +kernel
theorem dX12_nextOrder_88 : decode cX12_nextOrder 88 = .ok (.getfield 128, 3) := by decide +kernel
theorem dX12_nextOrder_91 : decode cX12_nextOrder 91 = .ok (.iload_n 3, 1) := by decide +kernel
theorem dX12_nextOrder_92 : decode cX12_nextOrder 92 = .ok (.iload 4, 2) := by decide +kernel
theorem dX12_nextOrder_94 : decode cX12_nextOrder 94 = .ok (.iastore, 1) := by decide +kernel
theorem dX12_nextOrder_95 : decode cX12_nextOrder 95 = .ok (.iload_n 2, 1) := by decide +kernel
theorem dX12_nextOrder_96 : decode cX12_nextOrder 96 = .ok (.iconst 1, 1) := by decide +kernel
theorem dX12_nextOrder_97 : decode cX12_nextOrder 97 = .ok (.iadd, 1) := by decide +kernel
theorem dX12_nextOrder_98 : decode cX12_nextOrder 98 = .ok (.istore 5, 2) := by decide +kernel
theorem dX12_nextOrder_100 : decode cX12_nextOrder 100 = .ok (.iload_n 1, 1) := by decide +kernel
theorem dX12_nextOrder_101 : decode cX12_nextOrder 101 = .ok (.iconst 1, 1) := by decide +kernel
theorem dX12_nextOrder_102 : decode cX12_nextOrder 102 = .ok (.isub, 1) := by decide +kernel
theorem dX12_nextOrder_103 : decode cX12_nextOrder 103 = .ok (.istore 6, 2) := by decide +kernel
theorem dX12_nextOrder_105 : decode cX12_nextOrder 105 = .ok (.iload 5, 2) := by decide +kernel
theorem dX12_nextOrder_107 : decode cX12_nextOrder 107 = .ok (.iload 6, 2) := by decide +kernel
theorem dX12_nextOrder_109 : decode cX12_nextOrder 109 = .ok (.if_icmp .ge 44, 3) := by decide +kernel
theorem dX12_nextOrder_112 : decode cX12_nextOrder 112 = .ok (.aload_n 0, 1) := by decide +kernel
theorem dX12_nextOrder_113 : decode cX12_nextOrder 113 = .ok (.getfield 128, 3) := by decide +kernel
theorem dX12_nextOrder_116 : decode cX12_nextOrder 116 = .ok (.iload 5, 2) := by decide +kernel
theorem dX12_nextOrder_118 : decode cX12_nextOrder 118 = .ok (.iaload, 1) := by decide +kernel
theorem dX12_nextOrder_119 : decode cX12_nextOrder 119 = .ok (.istore 4, 2) := by decide +kernel
theorem dX12_nextOrder_121 : decode cX12_nextOrder 121 = .ok (.aload_n 0, 1) := by decide +kernel
theorem dX12_nextOrder_122 : decode cX12_nextOrder 122 = .ok (.getfield 128, 3) := by decide +kernel
theorem dX12_nextOrder_125 : decode cX12_nextOrder 125 = .ok (.iload 5, 2) := by decide +kernel
theorem dX12_nextOrder_127 : decode cX12_nextOrder 127 = .ok (.aload_n 0, 1) := by decide +kernel
theorem dX12_nextOrder_128 : decode cX12_nextOrder 128 = .ok (.getfield 128, 3) := by decide +kernel
theorem dX12_nextOrder_131 : decode cX12_nextOrder 131 = .ok (.iload 6, 2) := by decide +kernel
theorem dX12_nextOrder_133 : decode cX12_nextOrder 133 = .ok (.iaload, 1) := by decide +kernel
theorem dX12_nextOrder_134 : decode cX12_nextOrder 134 = .ok (.iastore, 1) := by decide +kernel
theorem dX12_nextOrder_135 : decode cX12_nextOrder 135 = .ok (.aload_n 0, 1) := by decide +kernel
theorem dX12_nextOrder_136 : decode cX12_nextOrder 136 = .ok (.getfield 128, 3) := by decide +kernel
theorem dX12_nextOrder_139 : decode cX12_nextOrder 139 = .ok (.iload 6, 2) := by decide +kernel
theorem dX12_nextOrder_141 : decode cX12_nextOrder 141 = .ok (.iload 4, 2) := by decide +kernel
theorem dX12_nextOrder_143 : decode cX12_nextOrder 143 = .ok (.iastore, 1) := by decide +kernel
theorem dX12_nextOrder_144 : decode cX12_nextOrder 144 = .ok (.iinc 5 1, 3) := by decide +kernel
theorem dX12_nextOrder_147 : decode cX12_nextOrder 147 = .ok (.iinc 6 (-1), 3) := by decide +kernel
theorem dX12_nextOrder_150 : decode cX12_nextOrder 150 = .ok (.goto (-45), 3) := by decide +kernel
theorem dX12_nextOrder_153 : decode cX12_nextOrder 153 = .ok (.iconst 1, 1) := by decide +kernel
theorem dX12_nextOrder_154 : decode cX12_nextOrder 154 = .ok (.ireturn, 1) := by decide +kernel
theorem dX12_bestOrder_0 : decode cX12_bestOrder 0 = .ok (.iload_n 1, 1) := by decide +kernel
theorem dX12_bestOrder_1 : decode cX12_bestOrder 1 = .ok (.iconst 1, 1) := by decide +kernel
theorem dX12_bestOrder_2 : decode cX12_bestOrder 2 = .ok (.iconst 1, 1) := by decide +kernel
theorem dX12_bestOrder_3 : decode cX12_bestOrder 3 = .ok (.aload_n 0, 1) := by decide +kernel
theorem dX12_bestOrder_4 : decode cX12_bestOrder 4 = .ok (.getfield 43, 3) := by decide +kernel
theorem dX12_bestOrder_7 : decode cX12_bestOrder 7 = .ok (.aload_n 0, 1) := by decide +kernel
theorem dX12_bestOrder_8 : decode cX12_bestOrder 8 = .ok (.getfield 221, 3) := by decide +kernel
theorem dX12_bestOrder_11 : decode cX12_bestOrder 11 = .ok (.iaload, 1) := by decide +kernel
theorem dX12_bestOrder_12 : decode cX12_bestOrder 12 = .ok (.ishl, 1) := by decide +kernel
theorem dX12_bestOrder_13 : decode cX12_bestOrder 13 = .ok (.iconst 1, 1) := by decide +kernel
theorem dX12_bestOrder_14 : decode cX12_bestOrder 14 = .ok (.isub, 1) := by decide +kernel
theorem dX12_bestOrder_15 : decode cX12_bestOrder 15 = .ok (.invokestatic 298, 3) := by decide +kernel
theorem dX12_bestOrder_18 : decode cX12_bestOrder 18 = .ok (.ifCond .ne 5, 3) := by decide +kernel
theorem dX12_bestOrder_21 : decode cX12_bestOrder 21 = .ok (.iconst (-1), 1) := by decide +kernel
theorem dX12_bestOrder_22 : decode cX12_bestOrder 22 = .ok (.ireturn, 1) := by decide +kernel
theorem dX12_bestOrder_23 : decode cX12_bestOrder 23 = .ok (.aload_n 0, 1) := by decide +kernel
theorem dX12_bestOrder_24 : decode cX12_bestOrder 24 = .ok (.iconst 0, 1) := by decide +kernel
theorem dX12_bestOrder_25 : decode cX12_bestOrder 25 = .ok (.putfield 390, 3) := by decide +kernel
theorem dX12_bestOrder_28 : decode cX12_bestOrder 28 = .ok (.iconst 0, 1) := by decide +kernel
theorem dX12_bestOrder_29 : decode cX12_bestOrder 29 = .ok (.istore_n 2, 1) := by decide +kernel
theorem dX12_bestOrder_30 : decode cX12_bestOrder 30 = .ok (.iload_n 2, 1) := by decide +kernel
theorem dX12_bestOrder_31 : decode cX12_bestOrder 31 = .ok (.bipush 6, 2) := by decide +kernel
theorem dX12_bestOrder_33 : decode cX12_bestOrder 33 = .ok (.if_icmp .ge 40, 3) := by decide +kernel
theorem dX12_bestOrder_36 : decode cX12_bestOrder 36 = .ok (.iload_n 1, 1) := by decide +kernel
theorem dX12_bestOrder_37 : decode cX12_bestOrder 37 = .ok (.iload_n 2, 1) := by decide +kernel
theorem dX12_bestOrder_38 : decode cX12_bestOrder 38 = .ok (.ishr, 1) := by decide +kernel
theorem dX12_bestOrder_39 : decode cX12_bestOrder 39 = .ok (.iconst 1, 1) := by decide +kernel
theorem dX12_bestOrder_40 : decode cX12_bestOrder 40 = .ok (.iand, 1) := by decide +kernel
theorem dX12_bestOrder_41 : decode cX12_bestOrder 41 = .ok (.ifCond .ne 6, 3) := by decide +kernel
theorem dX12_bestOrder_44 : decode cX12_bestOrder 44 = .ok (.goto 23, 3) := by decide +kernel
theorem dX12_bestOrder_47 : decode cX12_bestOrder 47 = .ok (.aload_n 0, 1) := by decide +kernel
theorem dX12_bestOrder_48 : decode cX12_bestOrder 48 = .ok (.getfield 128, 3) := by decide +kernel
theorem dX12_bestOrder_51 : decode cX12_bestOrder 51 = .ok (.aload_n 0, 1) := by decide +kernel
theorem dX12_bestOrder_52 : decode cX12_bestOrder 52 = .ok (.getfield 390, 3) := by decide +kernel
theorem dX12_bestOrder_55 : decode cX12_bestOrder 55 = .ok (.iload_n 2, 1) := by decide +kernel
theorem dX12_bestOrder_56 : decode cX12_bestOrder 56 = .ok (.iastore, 1) := by decide +kernel
theorem dX12_bestOrder_57 : decode cX12_bestOrder 57 = .ok (.aload_n 0, 1) := by decide +kernel
theorem dX12_bestOrder_58 : decode cX12_bestOrder 58 = .ok (.dup, 1) := by decide +kernel
theorem dX12_bestOrder_59 : decode cX12_bestOrder 59 = .ok (.getfield 390, 3) := by decide +kernel
theorem dX12_bestOrder_62 : decode cX12_bestOrder 62 = .ok (.iconst 1, 1) := by decide +kernel
theorem dX12_bestOrder_63 : decode cX12_bestOrder 63 = .ok (.iadd, 1) := by decide +kernel
theorem dX12_bestOrder_64 : decode cX12_bestOrder 64 = .ok (.putfield 390, 3) := by decide +kernel
theorem dX12_bestOrder_67 : decode cX12_bestOrder 67 = .ok (.iinc 2 1, 3) := by decide +kernel
theorem dX12_bestOrder_70 : decode cX12_bestOrder 70 = .ok (.goto (-40), 3) := by decide +kernel
theorem dX12_bestOrder_73 : decode cX12_bestOrder 73 = .ok (.iconst (-1), 1) := by decide +kernel
theorem dX12_bestOrder_74 : decode cX12_bestOrder 74 = .ok (.istore_n 2, 1) := by decide +kernel
theorem dX12_bestOrder_75 : decode cX12_bestOrder 75 = .ok (.lconst 0, 1) := by decide +kernel
theorem dX12_bestOrder_76 : decode cX12_bestOrder 76 = .ok (.lstore_n 3, 1) := by decide +kernel
theorem dX12_bestOrder_77 : decode cX12_bestOrder 77 = .ok (.lconst 1, 1) := by decide +kernel
theorem dX12_bestOrder_78 : decode cX12_bestOrder 78 = .ok (.lstore 5, 2) := by decide +kernel
theorem dX12_bestOrder_80 : decode cX12_bestOrder 80 = .ok (.iconst 1, 1) := by decide +kernel
theorem dX12_bestOrder_81 : decode cX12_bestOrder 81 = .ok (.istore 7, 2) := by decide +kernel
theorem dX12_bestOrder_83 : decode cX12_bestOrder 83 = .ok (.iload 7, 2) := by decide +kernel
theorem dX12_bestOrder_85 : decode cX12_bestOrder 85 = .ok (.ifCond .eq 83, 3) := by decide +kernel
theorem dX12_bestOrder_88 : decode cX12_bestOrder 88 = .ok (.aload_n 0, 1) := by decide +kernel
theorem dX12_bestOrder_89 : decode cX12_bestOrder 89 = .ok (.invokevirtual 403, 3) := by decide +kernel
theorem dX12_bestOrder_92 : decode cX12_bestOrder 92 = .ok (.iload_n 2, 1) := by decide +kernel
theorem dX12_bestOrder_93 : decode cX12_bestOrder 93 = .ok (.ifCond .lt 20, 3) := by decide +kernel
theorem dX12_bestOrder_96 : decode cX12_bestOrder 96 = .ok (.aload_n 0, 1) := by decide +kernel
theorem dX12_bestOrder_97 : decode cX12_bestOrder 97 = .ok (.getfield 387, 3) := by decide +kernel
theorem dX12_bestOrder_100 : decode cX12_bestOrder 100 = .ok (.aload_n 0, 1) := by decide +kernel
theorem dX12_bestOrder_101 : decode cX12_bestOrder 101 = .ok (.getfield 383, 3) := by decide +kernel
theorem dX12_bestOrder_104 : decode cX12_bestOrder 104 = .ok (.lload_n 3, 1) := by decide +kernel
theorem dX12_bestOrder_105 : decode cX12_bestOrder 105 = .ok (.lload 5, 2) := by decide +kernel
theorem dX12_bestOrder_107 : decode cX12_bestOrder 107 = .ok (.invokestatic 406, 3) := by decide +kernel
theorem dX12_bestOrder_110 : decode cX12_bestOrder 110 = .ok (.ifCond .eq 49, 3) := by decide +kernel
theorem dX12_bestOrder_113 : decode cX12_bestOrder 113 = .ok (.iconst 0, 1) := by decide +kernel
theorem dX12_bestOrder_114 : decode cX12_bestOrder 114 = .ok (.istore_n 2, 1) := by decide +kernel
theorem dX12_bestOrder_115 : decode cX12_bestOrder 115 = .ok (.iconst 0, 1) := by decide +kernel
theorem dX12_bestOrder_116 : decode cX12_bestOrder 116 = .ok (.istore 8, 2) := by decide +kernel
theorem dX12_bestOrder_118 : decode cX12_bestOrder 118 = .ok (.iload 8, 2) := by decide +kernel
theorem dX12_bestOrder_120 : decode cX12_bestOrder 120 = .ok (.aload_n 0, 1) := by decide +kernel
theorem dX12_bestOrder_121 : decode cX12_bestOrder 121 = .ok (.getfield 390, 3) := by decide +kernel
theorem dX12_bestOrder_124 : decode cX12_bestOrder 124 = .ok (.if_icmp .ge 24, 3) := by decide +kernel
theorem dX12_bestOrder_127 : decode cX12_bestOrder 127 = .ok (.bipush 10, 2) := by decide +kernel
theorem dX12_bestOrder_129 : decode cX12_bestOrder 129 = .ok (.iload_n 2, 1) := by decide +kernel
theorem dX12_bestOrder_130 : decode cX12_bestOrder 130 = .ok (.imul, 1) := by decide +kernel
theorem dX12_bestOrder_131 : decode cX12_bestOrder 131 = .ok (.aload_n 0, 1) := by decide +kernel
theorem dX12_bestOrder_132 : decode cX12_bestOrder 132 = .ok (.getfield 128, 3) := by decide +kernel
theorem dX12_bestOrder_135 : decode cX12_bestOrder 135 = .ok (.iload 8, 2) := by decide +kernel
theorem dX12_bestOrder_137 : decode cX12_bestOrder 137 = .ok (.iaload, 1) := by decide +kernel
theorem dX12_bestOrder_138 : decode cX12_bestOrder 138 = .ok (.iadd, 1) := by decide +kernel
theorem dX12_bestOrder_139 : decode cX12_bestOrder 139 = .ok (.iconst 1, 1) := by decide +kernel
theorem dX12_bestOrder_140 : decode cX12_bestOrder 140 = .ok (.iadd, 1) := by decide +kernel
theorem dX12_bestOrder_141 : decode cX12_bestOrder 141 = .ok (.istore_n 2, 1) := by decide +kernel
theorem dX12_bestOrder_142 : decode cX12_bestOrder 142 = .ok (.iinc 8 1, 3) := by decide +kernel
theorem dX12_bestOrder_145 : decode cX12_bestOrder 145 = .ok (.goto (-27), 3) := by decide +kernel
theorem dX12_bestOrder_148 : decode cX12_bestOrder 148 = .ok (.aload_n 0, 1) := by decide +kernel
theorem dX12_bestOrder_149 : decode cX12_bestOrder 149 = .ok (.getfield 387, 3) := by decide +kernel
theorem dX12_bestOrder_152 : decode cX12_bestOrder 152 = .ok (.lstore_n 3, 1) := by decide +kernel
theorem dX12_bestOrder_153 : decode cX12_bestOrder 153 = .ok (.aload_n 0, 1) := by decide +kernel
theorem dX12_bestOrder_154 : decode cX12_bestOrder 154 = .ok (.getfield 383, 3) := by decide +kernel
theorem dX12_bestOrder_157 : decode cX12_bestOrder 157 = .ok (.lstore 5, 2) := by decide +kernel
theorem dX12_bestOrder_159 : decode cX12_bestOrder 159 = .ok (.aload_n 0, 1) := by decide +kernel
theorem dX12_bestOrder_160 : decode cX12_bestOrder 160 = .ok (.invokevirtual 410, 3) := by decide +kernel
theorem dX12_bestOrder_163 : decode cX12_bestOrder 163 = .ok (.istore 7, 2) := by decide +kernel
theorem dX12_bestOrder_165 : decode cX12_bestOrder 165 = .ok (.goto (-82), 3) := by decide +kernel
theorem dX12_bestOrder_168 : decode cX12_bestOrder 168 = .ok (.iload_n 2, 1) := by decide +kernel
theorem dX12_bestOrder_169 : decode cX12_bestOrder 169 = .ok (.ireturn, 1) := by decide +kernel
theorem dX12_alikes_0 : decode cX12_alikes 0 = .ok (.aload_n 0, 1) := by decide +kernel
theorem dX12_alikes_1 : decode cX12_alikes 1 = .ok (.lconst 0, 1) := by decide +kernel
theorem dX12_alikes_2 : decode cX12_alikes 2 = .ok (.putfield 387, 3) := by decide +kernel
theorem dX12_alikes_5 : decode cX12_alikes 5 = .ok (.aload_n 0, 1) := by decide +kernel
theorem dX12_alikes_6 : decode cX12_alikes 6 = .ok (.lconst 1, 1) := by decide +kernel
theorem dX12_alikes_7 : decode cX12_alikes 7 = .ok (.putfield 383, 3) := by decide +kernel
theorem dX12_alikes_10 : decode cX12_alikes 10 = .ok (.iconst 1, 1) := by decide +kernel
theorem dX12_alikes_11 : decode cX12_alikes 11 = .ok (.istore_n 2, 1) := by decide +kernel
theorem dX12_alikes_12 : decode cX12_alikes 12 = .ok (.iload_n 2, 1) := by decide +kernel
theorem dX12_alikes_13 : decode cX12_alikes 13 = .ok (.iload_n 1, 1) := by decide +kernel
theorem dX12_alikes_14 : decode cX12_alikes 14 = .ok (.if_icmp .gt 20, 3) := by decide +kernel
theorem dX12_alikes_17 : decode cX12_alikes 17 = .ok (.aload_n 0, 1) := by decide +kernel
theorem dX12_alikes_18 : decode cX12_alikes 18 = .ok (.lconst 1, 1) := by decide +kernel
theorem dX12_alikes_19 : decode cX12_alikes 19 = .ok (.ldc2_w 320, 3) := by decide +kernel
theorem dX12_alikes_22 : decode cX12_alikes 22 = .ok (.iload_n 2, 1) := by decide +kernel
theorem dX12_alikes_23 : decode cX12_alikes 23 = .ok (.i2l, 1) := by decide +kernel
theorem dX12_alikes_24 : decode cX12_alikes 24 = .ok (.lmul, 1) := by decide +kernel
theorem dX12_alikes_25 : decode cX12_alikes 25 = .ok (.invokevirtual 393, 3) := by decide +kernel
theorem dX12_alikes_28 : decode cX12_alikes 28 = .ok (.iinc 2 1, 3) := by decide +kernel
theorem dX12_alikes_31 : decode cX12_alikes 31 = .ok (.goto (-19), 3) := by decide +kernel
theorem dX12_alikes_34 : decode cX12_alikes 34 = .ok (.return_, 1) := by decide +kernel
theorem dX12_alike_0 : decode cX12_alike 0 = .ok (.iload_n 1, 1) := by decide +kernel
theorem dX12_alike_1 : decode cX12_alike 1 = .ok (.iconst 1, 1) := by decide +kernel
theorem dX12_alike_2 : decode cX12_alike 2 = .ok (.bipush 40, 2) := by decide +kernel
theorem dX12_alike_4 : decode cX12_alike 4 = .ok (.invokestatic 298, 3) := by decide +kernel
theorem dX12_alike_7 : decode cX12_alike 7 = .ok (.ifCond .ne 7, 3) := by decide +kernel
theorem dX12_alike_10 : decode cX12_alike 10 = .ok (.ldc2_w 401, 3) := by decide +kernel
theorem dX12_alike_13 : decode cX12_alike 13 = .ok (.lreturn, 1) := by decide +kernel
theorem dX12_alike_14 : decode cX12_alike 14 = .ok (.aload_n 0, 1) := by decide +kernel
theorem dX12_alike_15 : decode cX12_alike 15 = .ok (.iload_n 1, 1) := by decide +kernel
theorem dX12_alike_16 : decode cX12_alike 16 = .ok (.invokevirtual 414, 3) := by decide +kernel
theorem dX12_alike_19 : decode cX12_alike 19 = .ok (.iload_n 2, 1) := by decide +kernel
theorem dX12_alike_20 : decode cX12_alike 20 = .ok (.ifCond .eq 10, 3) := by decide +kernel
theorem dX12_alike_23 : decode cX12_alike 23 = .ok (.aload_n 0, 1) := by decide +kernel
theorem dX12_alike_24 : decode cX12_alike 24 = .ok (.getfield 383, 3) := by decide +kernel
theorem dX12_alike_27 : decode cX12_alike 27 = .ok (.goto 7, 3) := by decide +kernel
theorem dX12_alike_30 : decode cX12_alike 30 = .ok (.aload_n 0, 1) := by decide +kernel
theorem dX12_alike_31 : decode cX12_alike 31 = .ok (.getfield 387, 3) := by decide +kernel
theorem dX12_alike_34 : decode cX12_alike 34 = .ok (.lreturn, 1) := by decide +kernel
theorem dX12_needed_0 : decode cX12_needed 0 = .ok (.iload_n 1, 1) := by decide +kernel
theorem dX12_needed_1 : decode cX12_needed 1 = .ok (.iconst 0, 1) := by decide +kernel
theorem dX12_needed_2 : decode cX12_needed 2 = .ok (.bipush 99, 2) := by decide +kernel
theorem dX12_needed_4 : decode cX12_needed 4 = .ok (.invokestatic 298, 3) := by decide +kernel
theorem dX12_needed_7 : decode cX12_needed 7 = .ok (.ifCond .eq 13, 3) := by decide +kernel
theorem dX12_needed_10 : decode cX12_needed 10 = .ok (.iload_n 2, 1) := by decide +kernel
theorem dX12_needed_11 : decode cX12_needed 11 = .ok (.iconst 1, 1) := by decide +kernel
theorem dX12_needed_12 : decode cX12_needed 12 = .ok (.bipush 99, 2) := by decide +kernel
theorem dX12_needed_14 : decode cX12_needed 14 = .ok (.invokestatic 298, 3) := by decide +kernel
theorem dX12_needed_17 : decode cX12_needed 17 = .ok (.ifCond .ne 5, 3) := by decide +kernel
theorem dX12_needed_20 : decode cX12_needed 20 = .ok (.iconst (-1), 1) := by decide +kernel
theorem dX12_needed_21 : decode cX12_needed 21 = .ok (.ireturn, 1) := by decide +kernel
theorem dX12_needed_22 : decode cX12_needed 22 = .ok (.iconst 1, 1) := by decide +kernel
theorem dX12_needed_23 : decode cX12_needed 23 = .ok (.istore_n 3, 1) := by decide +kernel
theorem dX12_needed_24 : decode cX12_needed 24 = .ok (.iload_n 3, 1) := by decide +kernel
theorem dX12_needed_25 : decode cX12_needed 25 = .ok (.bipush 40, 2) := by decide +kernel
theorem dX12_needed_27 : decode cX12_needed 27 = .ok (.if_icmp .gt 34, 3) := by decide +kernel
theorem dX12_needed_30 : decode cX12_needed 30 = .ok (.aload_n 0, 1) := by decide +kernel
theorem dX12_needed_31 : decode cX12_needed 31 = .ok (.iload_n 3, 1) := by decide +kernel
theorem dX12_needed_32 : decode cX12_needed 32 = .ok (.invokevirtual 414, 3) := by decide +kernel
theorem dX12_needed_35 : decode cX12_needed 35 = .ok (.aload_n 0, 1) := by decide +kernel
theorem dX12_needed_36 : decode cX12_needed 36 = .ok (.getfield 387, 3) := by decide +kernel
theorem dX12_needed_39 : decode cX12_needed 39 = .ok (.iload_n 2, 1) := by decide +kernel
theorem dX12_needed_40 : decode cX12_needed 40 = .ok (.i2l, 1) := by decide +kernel
theorem dX12_needed_41 : decode cX12_needed 41 = .ok (.lmul, 1) := by decide +kernel
theorem dX12_needed_42 : decode cX12_needed 42 = .ok (.iload_n 1, 1) := by decide +kernel
theorem dX12_needed_43 : decode cX12_needed 43 = .ok (.i2l, 1) := by decide +kernel
theorem dX12_needed_44 : decode cX12_needed 44 = .ok (.aload_n 0, 1) := by decide +kernel
theorem dX12_needed_45 : decode cX12_needed 45 = .ok (.getfield 383, 3) := by decide +kernel
theorem dX12_needed_48 : decode cX12_needed 48 = .ok (.lmul, 1) := by decide +kernel
theorem dX12_needed_49 : decode cX12_needed 49 = .ok (.lcmp, 1) := by decide +kernel
theorem dX12_needed_50 : decode cX12_needed 50 = .ok (.ifCond .lt 5, 3) := by decide +kernel
theorem dX12_needed_53 : decode cX12_needed 53 = .ok (.iload_n 3, 1) := by decide +kernel
theorem dX12_needed_54 : decode cX12_needed 54 = .ok (.ireturn, 1) := by decide +kernel
theorem dX12_needed_55 : decode cX12_needed 55 = .ok (.iinc 3 1, 3) := by decide +kernel
theorem dX12_needed_58 : decode cX12_needed 58 = .ok (.goto (-34), 3) := by decide +kernel
theorem dX12_needed_61 : decode cX12_needed 61 = .ok (.bipush (-2), 2) := by decide +kernel
theorem dX12_needed_63 : decode cX12_needed 63 = .ok (.ireturn, 1) := by decide +kernel
theorem dX12_see_0 : decode cX12_see 0 = .ok (.aload_n 0, 1) := by decide +kernel
theorem dX12_see_1 : decode cX12_see 1 = .ok (.getfield 242, 3) := by decide +kernel
theorem dX12_see_4 : decode cX12_see 4 = .ok (.bipush 6, 2) := by decide +kernel
theorem dX12_see_6 : decode cX12_see 6 = .ok (.if_icmp .ne 5, 3) := by decide +kernel
theorem dX12_see_9 : decode cX12_see 9 = .ok (.iconst (-1), 1) := by decide +kernel
theorem dX12_see_10 : decode cX12_see 10 = .ok (.ireturn, 1) := by decide +kernel
theorem dX12_see_11 : decode cX12_see 11 = .ok (.iconst 0, 1) := by decide +kernel
theorem dX12_see_12 : decode cX12_see 12 = .ok (.istore_n 2, 1) := by decide +kernel
theorem dX12_see_13 : decode cX12_see 13 = .ok (.iload_n 2, 1) := by decide +kernel
theorem dX12_see_14 : decode cX12_see 14 = .ok (.bipush 20, 2) := by decide +kernel
theorem dX12_see_16 : decode cX12_see 16 = .ok (.if_icmp .ge 29, 3) := by decide +kernel
theorem dX12_see_19 : decode cX12_see 19 = .ok (.aload_n 0, 1) := by decide +kernel
theorem dX12_see_20 : decode cX12_see 20 = .ok (.getfield 131, 3) := by decide +kernel
theorem dX12_see_23 : decode cX12_see 23 = .ok (.bipush 20, 2) := by decide +kernel
theorem dX12_see_25 : decode cX12_see 25 = .ok (.aload_n 0, 1) := by decide +kernel
theorem dX12_see_26 : decode cX12_see 26 = .ok (.getfield 242, 3) := by decide +kernel
theorem dX12_see_29 : decode cX12_see 29 = .ok (.imul, 1) := by decide +kernel
theorem dX12_see_30 : decode cX12_see 30 = .ok (.iload_n 2, 1) := by decide +kernel
theorem dX12_see_31 : decode cX12_see 31 = .ok (.iadd, 1) := by decide +kernel
theorem dX12_see_32 : decode cX12_see 32 = .ok (.aload_n 0, 1) := by decide +kernel
theorem dX12_see_33 : decode cX12_see 33 = .ok (.getfield 107, 3) := by decide +kernel
theorem dX12_see_36 : decode cX12_see 36 = .ok (.iload_n 2, 1) := by decide +kernel
theorem dX12_see_37 : decode cX12_see 37 = .ok (.iaload, 1) := by decide +kernel
theorem dX12_see_38 : decode cX12_see 38 = .ok (.iastore, 1) := by decide +kernel
theorem dX12_see_39 : decode cX12_see 39 = .ok (.iinc 2 1, 3) := by decide +kernel
theorem dX12_see_42 : decode cX12_see 42 = .ok (.goto (-29), 3) := by decide +kernel
theorem dX12_see_45 : decode cX12_see 45 = .ok (.aload_n 0, 1) := by decide +kernel
theorem dX12_see_46 : decode cX12_see 46 = .ok (.getfield 134, 3) := by decide +kernel
theorem dX12_see_49 : decode cX12_see 49 = .ok (.aload_n 0, 1) := by decide +kernel
theorem dX12_see_50 : decode cX12_see 50 = .ok (.getfield 242, 3) := by decide +kernel
theorem dX12_see_53 : decode cX12_see 53 = .ok (.iload_n 1, 1) := by decide +kernel
theorem dX12_see_54 : decode cX12_see 54 = .ok (.bastore, 1) := by decide +kernel
theorem dX12_see_55 : decode cX12_see 55 = .ok (.aload_n 0, 1) := by decide +kernel
theorem dX12_see_56 : decode cX12_see 56 = .ok (.dup, 1) := by decide +kernel
theorem dX12_see_57 : decode cX12_see 57 = .ok (.getfield 242, 3) := by decide +kernel
theorem dX12_see_60 : decode cX12_see 60 = .ok (.iconst 1, 1) := by decide +kernel
theorem dX12_see_61 : decode cX12_see 61 = .ok (.iadd, 1) := by decide +kernel
theorem dX12_see_62 : decode cX12_see 62 = .ok (.putfield 242, 3) := by decide +kernel
theorem dX12_see_65 : decode cX12_see 65 = .ok (.aload_n 0, 1) := by decide +kernel
theorem dX12_see_66 : decode cX12_see 66 = .ok (.getfield 242, 3) := by decide +kernel
theorem dX12_see_69 : decode cX12_see 69 = .ok (.iconst 1, 1) := by decide +kernel
theorem dX12_see_70 : decode cX12_see 70 = .ok (.isub, 1) := by decide +kernel
theorem dX12_see_71 : decode cX12_see 71 = .ok (.ireturn, 1) := by decide +kernel
theorem dX12_forget_0 : decode cX12_forget 0 = .ok (.aload_n 0, 1) := by decide +kernel
theorem dX12_forget_1 : decode cX12_forget 1 = .ok (.getfield 242, 3) := by decide +kernel
theorem dX12_forget_4 : decode cX12_forget 4 = .ok (.istore_n 1, 1) := by decide +kernel
theorem dX12_forget_5 : decode cX12_forget 5 = .ok (.aload_n 0, 1) := by decide +kernel
theorem dX12_forget_6 : decode cX12_forget 6 = .ok (.iconst 0, 1) := by decide +kernel
theorem dX12_forget_7 : decode cX12_forget 7 = .ok (.putfield 242, 3) := by decide +kernel
theorem dX12_forget_10 : decode cX12_forget 10 = .ok (.iload_n 1, 1) := by decide +kernel
theorem dX12_forget_11 : decode cX12_forget 11 = .ok (.ireturn, 1) := by decide +kernel
theorem dX12_isSo_0 : decode cX12_isSo 0 = .ok (.iconst 0, 1) := by decide +kernel
theorem dX12_isSo_1 : decode cX12_isSo 1 = .ok (.istore_n 2, 1) := by decide +kernel
theorem dX12_isSo_2 : decode cX12_isSo 2 = .ok (.iload_n 2, 1) := by decide +kernel
theorem dX12_isSo_3 : decode cX12_isSo 3 = .ok (.iload_n 1, 1) := by decide +kernel
theorem dX12_isSo_4 : decode cX12_isSo 4 = .ok (.if_icmp .ge 63, 3) := by decide +kernel
theorem dX12_isSo_7 : decode cX12_isSo 7 = .ok (.iconst 0, 1) := by decide +kernel
theorem dX12_isSo_8 : decode cX12_isSo 8 = .ok (.istore_n 3, 1) := by decide +kernel
theorem dX12_isSo_9 : decode cX12_isSo 9 = .ok (.iload_n 3, 1) := by decide +kernel
theorem dX12_isSo_10 : decode cX12_isSo 10 = .ok (.bipush 20, 2) := by decide +kernel
theorem dX12_isSo_12 : decode cX12_isSo 12 = .ok (.if_icmp .ge 26, 3) := by decide +kernel
theorem dX12_isSo_15 : decode cX12_isSo 15 = .ok (.aload_n 0, 1) := by decide +kernel
theorem dX12_isSo_16 : decode cX12_isSo 16 = .ok (.getfield 110, 3) := by decide +kernel
theorem dX12_isSo_19 : decode cX12_isSo 19 = .ok (.iload_n 3, 1) := by decide +kernel
theorem dX12_isSo_20 : decode cX12_isSo 20 = .ok (.aload_n 0, 1) := by decide +kernel
theorem dX12_isSo_21 : decode cX12_isSo 21 = .ok (.getfield 131, 3) := by decide +kernel
theorem dX12_isSo_24 : decode cX12_isSo 24 = .ok (.bipush 20, 2) := by decide +kernel
theorem dX12_isSo_26 : decode cX12_isSo 26 = .ok (.iload_n 2, 1) := by decide +kernel
theorem dX12_isSo_27 : decode cX12_isSo 27 = .ok (.imul, 1) := by decide +kernel
theorem dX12_isSo_28 : decode cX12_isSo 28 = .ok (.iload_n 3, 1) := by decide +kernel
theorem dX12_isSo_29 : decode cX12_isSo 29 = .ok (.iadd, 1) := by decide +kernel
theorem dX12_isSo_30 : decode cX12_isSo 30 = .ok (.iaload, 1) := by decide +kernel
theorem dX12_isSo_31 : decode cX12_isSo 31 = .ok (.iastore, 1) := by decide +kernel
theorem dX12_isSo_32 : decode cX12_isSo 32 = .ok (.iinc 3 1, 3) := by decide +kernel
theorem dX12_isSo_35 : decode cX12_isSo 35 = .ok (.goto (-26), 3) := by decide +kernel
theorem dX12_isSo_38 : decode cX12_isSo 38 = .ok (.aload_n 0, 1) := by decide +kernel
theorem dX12_isSo_39 : decode cX12_isSo 39 = .ok (.invokevirtual 361, 3) := by decide +kernel
theorem dX12_isSo_42 : decode cX12_isSo 42 = .ok (.ifCond .ge 7, 3) := by decide +kernel
theorem dX12_isSo_45 : decode cX12_isSo 45 = .ok (.iconst 1, 1) := by decide +kernel
theorem dX12_isSo_46 : decode cX12_isSo 46 = .ok (.goto 4, 3) := by decide +kernel
theorem dX12_isSo_49 : decode cX12_isSo 49 = .ok (.iconst 0, 1) := by decide +kernel
theorem dX12_isSo_50 : decode cX12_isSo 50 = .ok (.aload_n 0, 1) := by decide +kernel
theorem dX12_isSo_51 : decode cX12_isSo 51 = .ok (.getfield 134, 3) := by decide +kernel
theorem dX12_isSo_54 : decode cX12_isSo 54 = .ok (.iload_n 2, 1) := by decide +kernel
theorem dX12_isSo_55 : decode cX12_isSo 55 = .ok (.baload, 1) := by decide +kernel
theorem dX12_isSo_56 : decode cX12_isSo 56 = .ok (.if_icmp .eq 5, 3) := by decide +kernel
theorem dX12_isSo_59 : decode cX12_isSo 59 = .ok (.iconst 0, 1) := by decide +kernel
theorem dX12_isSo_60 : decode cX12_isSo 60 = .ok (.ireturn, 1) := by decide +kernel
theorem dX12_isSo_61 : decode cX12_isSo 61 = .ok (.iinc 2 1, 3) := by decide +kernel
theorem dX12_isSo_64 : decode cX12_isSo 64 = .ok (.goto (-62), 3) := by decide +kernel
theorem dX12_isSo_67 : decode cX12_isSo 67 = .ok (.iconst 1, 1) := by decide +kernel
theorem dX12_isSo_68 : decode cX12_isSo 68 = .ok (.ireturn, 1) := by decide +kernel
theorem dX12_fillsFits_0 : decode cX12_fillsFits 0 = .ok (.aload_n 0, 1) := by decide +kernel
theorem dX12_fillsFits_1 : decode cX12_fillsFits 1 = .ok (.invokevirtual 346, 3) := by decide +kernel
theorem dX12_fillsFits_4 : decode cX12_fillsFits 4 = .ok (.iconst 1, 1) := by decide +kernel
theorem dX12_fillsFits_5 : decode cX12_fillsFits 5 = .ok (.istore_n 3, 1) := by decide +kernel
theorem dX12_fillsFits_6 : decode cX12_fillsFits 6 = .ok (.iconst 0, 1) := by decide +kernel
theorem dX12_fillsFits_7 : decode cX12_fillsFits 7 = .ok (.istore 4, 2) := by decide +kernel
theorem dX12_fillsFits_9 : decode cX12_fillsFits 9 = .ok (.iload 4, 2) := by decide +kernel
theorem dX12_fillsFits_11 : decode cX12_fillsFits 11 = .ok (.aload_n 0, 1) := by decide +kernel
theorem dX12_fillsFits_12 : decode cX12_fillsFits 12 = .ok (.getfield 43, 3) := by decide +kernel
theorem dX12_fillsFits_15 : decode cX12_fillsFits 15 = .ok (.aload_n 0, 1) := by decide +kernel
theorem dX12_fillsFits_16 : decode cX12_fillsFits 16 = .ok (.getfield 221, 3) := by decide +kernel
theorem dX12_fillsFits_19 : decode cX12_fillsFits 19 = .ok (.iaload, 1) := by decide +kernel
theorem dX12_fillsFits_20 : decode cX12_fillsFits 20 = .ok (.if_icmp .ge 13, 3) := by decide +kernel
theorem dX12_fillsFits_23 : decode cX12_fillsFits 23 = .ok (.iload_n 3, 1) := by decide +kernel
theorem dX12_fillsFits_24 : decode cX12_fillsFits 24 = .ok (.iload_n 1, 1) := by decide +kernel
theorem dX12_fillsFits_25 : decode cX12_fillsFits 25 = .ok (.imul, 1) := by decide +kernel
theorem dX12_fillsFits_26 : decode cX12_fillsFits 26 = .ok (.istore_n 3, 1) := by decide +kernel
theorem dX12_fillsFits_27 : decode cX12_fillsFits 27 = .ok (.iinc 4 1, 3) := by decide +kernel
theorem dX12_fillsFits_30 : decode cX12_fillsFits 30 = .ok (.goto (-21), 3) := by decide +kernel
theorem dX12_fillsFits_33 : decode cX12_fillsFits 33 = .ok (.iconst 0, 1) := by decide +kernel
theorem dX12_fillsFits_34 : decode cX12_fillsFits 34 = .ok (.istore 4, 2) := by decide +kernel
theorem dX12_fillsFits_36 : decode cX12_fillsFits 36 = .ok (.iconst 0, 1) := by decide +kernel
theorem dX12_fillsFits_37 : decode cX12_fillsFits 37 = .ok (.istore 5, 2) := by decide +kernel
theorem dX12_fillsFits_39 : decode cX12_fillsFits 39 = .ok (.iload 5, 2) := by decide +kernel
theorem dX12_fillsFits_41 : decode cX12_fillsFits 41 = .ok (.iload_n 3, 1) := by decide +kernel
theorem dX12_fillsFits_42 : decode cX12_fillsFits 42 = .ok (.if_icmp .ge 164, 3) := by decide +kernel
theorem dX12_fillsFits_45 : decode cX12_fillsFits 45 = .ok (.iload 5, 2) := by decide +kernel
theorem dX12_fillsFits_47 : decode cX12_fillsFits 47 = .ok (.istore 6, 2) := by decide +kernel
theorem dX12_fillsFits_49 : decode cX12_fillsFits 49 = .ok (.iconst 0, 1) := by decide +kernel
theorem dX12_fillsFits_50 : decode cX12_fillsFits 50 = .ok (.istore 7, 2) := by decide +kernel
theorem dX12_fillsFits_52 : decode cX12_fillsFits 52 = .ok (.iload 7, 2) := by decide +kernel
theorem dX12_fillsFits_54 : decode cX12_fillsFits 54 = .ok (.aload_n 0, 1) := by decide +kernel
theorem dX12_fillsFits_55 : decode cX12_fillsFits 55 = .ok (.getfield 43, 3) := by decide +kernel
theorem dX12_fillsFits_58 : decode cX12_fillsFits 58 = .ok (.aload_n 0, 1) := by decide +kernel
theorem dX12_fillsFits_59 : decode cX12_fillsFits 59 = .ok (.getfield 221, 3) := by decide +kernel
theorem dX12_fillsFits_62 : decode cX12_fillsFits 62 = .ok (.iaload, 1) := by decide +kernel
theorem dX12_fillsFits_63 : decode cX12_fillsFits 63 = .ok (.if_icmp .ge 28, 3) := by decide +kernel
theorem dX12_fillsFits_66 : decode cX12_fillsFits 66 = .ok (.aload_n 0, 1) := by decide +kernel
theorem dX12_fillsFits_67 : decode cX12_fillsFits 67 = .ok (.getfield 113, 3) := by decide +kernel
theorem dX12_fillsFits_70 : decode cX12_fillsFits 70 = .ok (.iload 7, 2) := by decide +kernel
theorem dX12_fillsFits_72 : decode cX12_fillsFits 72 = .ok (.iconst 1, 1) := by decide +kernel
theorem dX12_fillsFits_73 : decode cX12_fillsFits 73 = .ok (.iload 6, 2) := by decide +kernel
theorem dX12_fillsFits_75 : decode cX12_fillsFits 75 = .ok (.iload_n 1, 1) := by decide +kernel
theorem dX12_fillsFits_76 : decode cX12_fillsFits 76 = .ok (.irem, 1) := by decide +kernel
theorem dX12_fillsFits_77 : decode cX12_fillsFits 77 = .ok (.iadd, 1) := by decide +kernel
theorem dX12_fillsFits_78 : decode cX12_fillsFits 78 = .ok (.iastore, 1) := by decide +kernel
theorem dX12_fillsFits_79 : decode cX12_fillsFits 79 = .ok (.iload 6, 2) := by decide +kernel
theorem dX12_fillsFits_81 : decode cX12_fillsFits 81 = .ok (.iload_n 1, 1) := by decide +kernel
theorem dX12_fillsFits_82 : decode cX12_fillsFits 82 = .ok (.idiv, 1) := by decide +kernel
theorem dX12_fillsFits_83 : decode cX12_fillsFits 83 = .ok (.istore 6, 2) := by decide +kernel
theorem dX12_fillsFits_85 : decode cX12_fillsFits 85 = .ok (.iinc 7 1, 3) := by decide +kernel
theorem dX12_fillsFits_88 : decode cX12_fillsFits 88 = .ok (.goto (-36), 3) := by decide +kernel
theorem dX12_fillsFits_91 : decode cX12_fillsFits 91 = .ok (.aload_n 0, 1) := by decide +kernel
theorem dX12_fillsFits_92 : decode cX12_fillsFits 92 = .ok (.iload_n 2, 1) := by decide +kernel
theorem dX12_fillsFits_93 : decode cX12_fillsFits 93 = .ok (.invokevirtual 417, 3) := by decide +kernel
theorem dX12_fillsFits_96 : decode cX12_fillsFits 96 = .ok (.ifCond .ne 6, 3) := by decide +kernel
theorem dX12_fillsFits_99 : decode cX12_fillsFits 99 = .ok (.goto 101, 3) := by decide +kernel
theorem dX12_fillsFits_102 : decode cX12_fillsFits 102 = .ok (.iconst 0, 1) := by decide +kernel
theorem dX12_fillsFits_103 : decode cX12_fillsFits 103 = .ok (.istore 7, 2) := by decide +kernel
theorem dX12_fillsFits_105 : decode cX12_fillsFits 105 = .ok (.iload 7, 2) := by decide +kernel
theorem dX12_fillsFits_107 : decode cX12_fillsFits 107 = .ok (.aload_n 0, 1) := by decide +kernel
theorem dX12_fillsFits_108 : decode cX12_fillsFits 108 = .ok (.getfield 43, 3) := by decide +kernel
theorem dX12_fillsFits_111 : decode cX12_fillsFits 111 = .ok (.aload_n 0, 1) := by decide +kernel
theorem dX12_fillsFits_112 : decode cX12_fillsFits 112 = .ok (.getfield 221, 3) := by decide +kernel
theorem dX12_fillsFits_115 : decode cX12_fillsFits 115 = .ok (.iaload, 1) := by decide +kernel
theorem dX12_fillsFits_116 : decode cX12_fillsFits 116 = .ok (.if_icmp .ge 81, 3) := by decide +kernel
theorem dX12_fillsFits_119 : decode cX12_fillsFits 119 = .ok (.iload 4, 2) := by decide +kernel
theorem dX12_fillsFits_121 : decode cX12_fillsFits 121 = .ok (.ifCond .eq 20, 3) := by decide +kernel
theorem dX12_fillsFits_124 : decode cX12_fillsFits 124 = .ok (.aload_n 0, 1) := by decide +kernel
theorem dX12_fillsFits_125 : decode cX12_fillsFits 125 = .ok (.getfield 113, 3) := by decide +kernel
theorem dX12_fillsFits_128 : decode cX12_fillsFits 128 = .ok (.iload 7, 2) := by decide +kernel
theorem dX12_fillsFits_130 : decode cX12_fillsFits 130 = .ok (.iaload, 1) := by decide +kernel
theorem dX12_fillsFits_131 : decode cX12_fillsFits 131 = .ok (.aload_n 0, 1) := by decide +kernel
theorem dX12_fillsFits_132 : decode cX12_fillsFits 132 = .ok (.getfield 137, 3) := by decide +kernel
theorem dX12_fillsFits_135 : decode cX12_fillsFits 135 = .ok (.iload 7, 2) := by decide +kernel
theorem dX12_fillsFits_137 : decode cX12_fillsFits 137 = .ok (.iaload, 1) := by decide +kernel
theorem dX12_fillsFits_138 : decode cX12_fillsFits 138 = .ok (.if_icmp .ge 17, 3) := by decide +kernel
theorem dX12_fillsFits_141 : decode cX12_fillsFits 141 = .ok (.aload_n 0, 1) := by decide +kernel
theorem dX12_fillsFits_142 : decode cX12_fillsFits 142 = .ok (.getfield 137, 3) := by decide +kernel
theorem dX12_fillsFits_145 : decode cX12_fillsFits 145 = .ok (.iload 7, 2) := by decide +kernel
theorem dX12_fillsFits_147 : decode cX12_fillsFits 147 = .ok (.aload_n 0, 1) := by decide +kernel
theorem dX12_fillsFits_148 : decode cX12_fillsFits 148 = .ok (.getfield 113, 3) := by decide +kernel
theorem dX12_fillsFits_151 : decode cX12_fillsFits 151 = .ok (.iload 7, 2) := by decide +kernel
theorem dX12_fillsFits_153 : decode cX12_fillsFits 153 = .ok (.iaload, 1) := by decide +kernel
theorem dX12_fillsFits_154 : decode cX12_fillsFits 154 = .ok (.iastore, 1) := by decide +kernel
theorem dX12_fillsFits_155 : decode cX12_fillsFits 155 = .ok (.iload 4, 2) := by decide +kernel
theorem dX12_fillsFits_157 : decode cX12_fillsFits 157 = .ok (.ifCond .eq 20, 3) := by decide +kernel
theorem dX12_fillsFits_160 : decode cX12_fillsFits 160 = .ok (.aload_n 0, 1) := by decide +kernel
theorem dX12_fillsFits_161 : decode cX12_fillsFits 161 = .ok (.getfield 113, 3) := by decide +kernel
theorem dX12_fillsFits_164 : decode cX12_fillsFits 164 = .ok (.iload 7, 2) := by decide +kernel
theorem dX12_fillsFits_166 : decode cX12_fillsFits 166 = .ok (.iaload, 1) := by decide +kernel
theorem dX12_fillsFits_167 : decode cX12_fillsFits 167 = .ok (.aload_n 0, 1) := by decide +kernel
theorem dX12_fillsFits_168 : decode cX12_fillsFits 168 = .ok (.getfield 140, 3) := by decide +kernel
theorem dX12_fillsFits_171 : decode cX12_fillsFits 171 = .ok (.iload 7, 2) := by decide +kernel
theorem dX12_fillsFits_173 : decode cX12_fillsFits 173 = .ok (.iaload, 1) := by decide +kernel
theorem dX12_fillsFits_174 : decode cX12_fillsFits 174 = .ok (.if_icmp .le 17, 3) := by decide +kernel
theorem dX12_fillsFits_177 : decode cX12_fillsFits 177 = .ok (.aload_n 0, 1) := by decide +kernel
theorem dX12_fillsFits_178 : decode cX12_fillsFits 178 = .ok (.getfield 140, 3) := by decide +kernel
theorem dX12_fillsFits_181 : decode cX12_fillsFits 181 = .ok (.iload 7, 2) := by decide +kernel
theorem dX12_fillsFits_183 : decode cX12_fillsFits 183 = .ok (.aload_n 0, 1) := by decide +kernel
theorem dX12_fillsFits_184 : decode cX12_fillsFits 184 = .ok (.getfield 113, 3) := by decide +kernel
theorem dX12_fillsFits_187 : decode cX12_fillsFits 187 = .ok (.iload 7, 2) := by decide +kernel
theorem dX12_fillsFits_189 : decode cX12_fillsFits 189 = .ok (.iaload, 1) := by decide +kernel
theorem dX12_fillsFits_190 : decode cX12_fillsFits 190 = .ok (.iastore, 1) := by decide +kernel
theorem dX12_fillsFits_191 : decode cX12_fillsFits 191 = .ok (.iinc 7 1, 3) := by decide +kernel
theorem dX12_fillsFits_194 : decode cX12_fillsFits 194 = .ok (.goto (-89), 3) := by decide +kernel
theorem dX12_fillsFits_197 : decode cX12_fillsFits 197 = .ok (.iinc 4 1, 3) := by decide +kernel
theorem dX12_fillsFits_200 : decode cX12_fillsFits 200 = .ok (.iinc 5 1, 3) := by decide +kernel
theorem dX12_fillsFits_203 : decode cX12_fillsFits 203 = .ok (.goto (-164), 3) := by decide +kernel
theorem dX12_fillsFits_206 : decode cX12_fillsFits 206 = .ok (.iload 4, 2) := by decide +kernel
theorem dX12_fillsFits_208 : decode cX12_fillsFits 208 = .ok (.ireturn, 1) := by decide +kernel
theorem dX12_fits_0 : decode cX12_fits 0 = .ok (.iload_n 1, 1) := by decide +kernel
theorem dX12_fits_1 : decode cX12_fits 1 = .ok (.iconst 1, 1) := by decide +kernel
theorem dX12_fits_2 : decode cX12_fits 2 = .ok (.bipush 6, 2) := by decide +kernel
theorem dX12_fits_4 : decode cX12_fits 4 = .ok (.invokestatic 298, 3) := by decide +kernel
theorem dX12_fits_7 : decode cX12_fits 7 = .ok (.ifCond .eq 24, 3) := by decide +kernel
theorem dX12_fits_10 : decode cX12_fits 10 = .ok (.iload_n 2, 1) := by decide +kernel
theorem dX12_fits_11 : decode cX12_fits 11 = .ok (.iconst 0, 1) := by decide +kernel
theorem dX12_fits_12 : decode cX12_fits 12 = .ok (.aload_n 0, 1) := by decide +kernel
theorem dX12_fits_13 : decode cX12_fits 13 = .ok (.getfield 242, 3) := by decide +kernel
theorem dX12_fits_16 : decode cX12_fits 16 = .ok (.invokestatic 298, 3) := by decide +kernel
theorem dX12_fits_19 : decode cX12_fits 19 = .ok (.ifCond .eq 12, 3) := by decide +kernel
theorem dX12_fits_22 : decode cX12_fits 22 = .ok (.aload_n 0, 1) := by decide +kernel
theorem dX12_fits_23 : decode cX12_fits 23 = .ok (.iload_n 1, 1) := by decide +kernel
theorem dX12_fits_24 : decode cX12_fits 24 = .ok (.iload_n 2, 1) := by decide +kernel
theorem dX12_fits_25 : decode cX12_fits 25 = .ok (.invokevirtual 420, 3) := by decide +kernel
theorem dX12_fits_28 : decode cX12_fits 28 = .ok (.goto 4, 3) := by decide +kernel
theorem dX12_fits_31 : decode cX12_fits 31 = .ok (.iconst (-1), 1) := by decide +kernel
theorem dX12_fits_32 : decode cX12_fits 32 = .ok (.ireturn, 1) := by decide +kernel
theorem dX12_span_0 : decode cX12_span 0 = .ok (.iload_n 1, 1) := by decide +kernel
theorem dX12_span_1 : decode cX12_span 1 = .ok (.iconst 1, 1) := by decide +kernel
theorem dX12_span_2 : decode cX12_span 2 = .ok (.bipush 6, 2) := by decide +kernel
theorem dX12_span_4 : decode cX12_span 4 = .ok (.invokestatic 298, 3) := by decide +kernel
theorem dX12_span_7 : decode cX12_span 7 = .ok (.ifCond .eq 23, 3) := by decide +kernel
theorem dX12_span_10 : decode cX12_span 10 = .ok (.iload_n 2, 1) := by decide +kernel
theorem dX12_span_11 : decode cX12_span 11 = .ok (.iconst 0, 1) := by decide +kernel
theorem dX12_span_12 : decode cX12_span 12 = .ok (.aload_n 0, 1) := by decide +kernel
theorem dX12_span_13 : decode cX12_span 13 = .ok (.getfield 242, 3) := by decide +kernel
theorem dX12_span_16 : decode cX12_span 16 = .ok (.invokestatic 298, 3) := by decide +kernel
theorem dX12_span_19 : decode cX12_span 19 = .ok (.ifCond .eq 11, 3) := by decide +kernel
theorem dX12_span_22 : decode cX12_span 22 = .ok (.aload_n 0, 1) := by decide +kernel
theorem dX12_span_23 : decode cX12_span 23 = .ok (.iload_n 3, 1) := by decide +kernel
theorem dX12_span_24 : decode cX12_span 24 = .ok (.invokevirtual 343, 3) := by decide +kernel
theorem dX12_span_27 : decode cX12_span 27 = .ok (.ifCond .ne 5, 3) := by decide +kernel
theorem dX12_span_30 : decode cX12_span 30 = .ok (.iconst (-1), 1) := by decide +kernel
theorem dX12_span_31 : decode cX12_span 31 = .ok (.ireturn, 1) := by decide +kernel
theorem dX12_span_32 : decode cX12_span 32 = .ok (.aload_n 0, 1) := by decide +kernel
theorem dX12_span_33 : decode cX12_span 33 = .ok (.iload_n 1, 1) := by decide +kernel
theorem dX12_span_34 : decode cX12_span 34 = .ok (.iload_n 2, 1) := by decide +kernel
theorem dX12_span_35 : decode cX12_span 35 = .ok (.invokevirtual 420, 3) := by decide +kernel
theorem dX12_span_38 : decode cX12_span 38 = .ok (.ifCond .ne 8, 3) := by decide +kernel
theorem dX12_span_41 : decode cX12_span 41 = .ok (.bipush (-2), 2) := by decide +kernel
theorem dX12_span_43 : decode cX12_span 43 = .ok (.goto 19, 3) := by decide +kernel
theorem dX12_span_46 : decode cX12_span 46 = .ok (.bipush 10, 2) := by decide +kernel
theorem dX12_span_48 : decode cX12_span 48 = .ok (.aload_n 0, 1) := by decide +kernel
theorem dX12_span_49 : decode cX12_span 49 = .ok (.getfield 137, 3) := by decide +kernel
theorem dX12_span_52 : decode cX12_span 52 = .ok (.iload_n 3, 1) := by decide +kernel
theorem dX12_span_53 : decode cX12_span 53 = .ok (.iaload, 1) := by decide +kernel
theorem dX12_span_54 : decode cX12_span 54 = .ok (.imul, 1) := by decide +kernel
theorem dX12_span_55 : decode cX12_span 55 = .ok (.aload_n 0, 1) := by decide +kernel
theorem dX12_span_56 : decode cX12_span 56 = .ok (.getfield 140, 3) := by decide +kernel
theorem dX12_span_59 : decode cX12_span 59 = .ok (.iload_n 3, 1) := by decide +kernel
theorem dX12_span_60 : decode cX12_span 60 = .ok (.iaload, 1) := by decide +kernel
theorem dX12_span_61 : decode cX12_span 61 = .ok (.iadd, 1) := by decide +kernel
theorem dX12_span_62 : decode cX12_span 62 = .ok (.ireturn, 1) := by decide +kernel
theorem dX12_hold_0 : decode cX12_hold 0 = .ok (.iload_n 1, 1) := by decide +kernel
theorem dX12_hold_1 : decode cX12_hold 1 = .ok (.iconst 0, 1) := by decide +kernel
theorem dX12_hold_2 : decode cX12_hold 2 = .ok (.iconst 2, 1) := by decide +kernel
theorem dX12_hold_3 : decode cX12_hold 3 = .ok (.invokestatic 298, 3) := by decide +kernel
theorem dX12_hold_6 : decode cX12_hold 6 = .ok (.ifCond .ne 5, 3) := by decide +kernel
theorem dX12_hold_9 : decode cX12_hold 9 = .ok (.iconst 0, 1) := by decide +kernel
theorem dX12_hold_10 : decode cX12_hold 10 = .ok (.ireturn, 1) := by decide +kernel
theorem dX12_hold_11 : decode cX12_hold 11 = .ok (.aload_n 0, 1) := by decide +kernel
theorem dX12_hold_12 : decode cX12_hold 12 = .ok (.getfield 143, 3) := by decide +kernel
theorem dX12_hold_15 : decode cX12_hold 15 = .ok (.iload_n 1, 1) := by decide +kernel
theorem dX12_hold_16 : decode cX12_hold 16 = .ok (.iconst 1, 1) := by decide +kernel
theorem dX12_hold_17 : decode cX12_hold 17 = .ok (.bastore, 1) := by decide +kernel
theorem dX12_hold_18 : decode cX12_hold 18 = .ok (.iconst 0, 1) := by decide +kernel
theorem dX12_hold_19 : decode cX12_hold 19 = .ok (.istore_n 2, 1) := by decide +kernel
theorem dX12_hold_20 : decode cX12_hold 20 = .ok (.iload_n 2, 1) := by decide +kernel
theorem dX12_hold_21 : decode cX12_hold 21 = .ok (.bipush 20, 2) := by decide +kernel
theorem dX12_hold_23 : decode cX12_hold 23 = .ok (.if_icmp .ge 26, 3) := by decide +kernel
theorem dX12_hold_26 : decode cX12_hold 26 = .ok (.aload_n 0, 1) := by decide +kernel
theorem dX12_hold_27 : decode cX12_hold 27 = .ok (.getfield 146, 3) := by decide +kernel
theorem dX12_hold_30 : decode cX12_hold 30 = .ok (.bipush 20, 2) := by decide +kernel
theorem dX12_hold_32 : decode cX12_hold 32 = .ok (.iload_n 1, 1) := by decide +kernel
theorem dX12_hold_33 : decode cX12_hold 33 = .ok (.imul, 1) := by decide +kernel
theorem dX12_hold_34 : decode cX12_hold 34 = .ok (.iload_n 2, 1) := by decide +kernel
theorem dX12_hold_35 : decode cX12_hold 35 = .ok (.iadd, 1) := by decide +kernel
theorem dX12_hold_36 : decode cX12_hold 36 = .ok (.aload_n 0, 1) := by decide +kernel
theorem dX12_hold_37 : decode cX12_hold 37 = .ok (.getfield 107, 3) := by decide +kernel
theorem dX12_hold_40 : decode cX12_hold 40 = .ok (.iload_n 2, 1) := by decide +kernel
theorem dX12_hold_41 : decode cX12_hold 41 = .ok (.iaload, 1) := by decide +kernel
theorem dX12_hold_42 : decode cX12_hold 42 = .ok (.iastore, 1) := by decide +kernel
theorem dX12_hold_43 : decode cX12_hold 43 = .ok (.iinc 2 1, 3) := by decide +kernel
theorem dX12_hold_46 : decode cX12_hold 46 = .ok (.goto (-26), 3) := by decide +kernel
theorem dX12_hold_49 : decode cX12_hold 49 = .ok (.iconst 1, 1) := by decide +kernel
theorem dX12_hold_50 : decode cX12_hold 50 = .ok (.ireturn, 1) := by decide +kernel
