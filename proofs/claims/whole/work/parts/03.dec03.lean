theorem dX11_farthestOut_0 : decode cX11_farthestOut 0 = .ok (.iconst 0, 1) := by decide +kernel
theorem dX11_farthestOut_1 : decode cX11_farthestOut 1 = .ok (.istore_n 2, 1) := by decide +kernel
theorem dX11_farthestOut_2 : decode cX11_farthestOut 2 = .ok (.iconst 0, 1) := by decide +kernel
theorem dX11_farthestOut_3 : decode cX11_farthestOut 3 = .ok (.istore_n 3, 1) := by decide +kernel
theorem dX11_farthestOut_4 : decode cX11_farthestOut 4 = .ok (.iload_n 3, 1) := by decide +kernel
theorem dX11_farthestOut_5 : decode cX11_farthestOut 5 = .ok (.aload_n 1, 1) := by decide +kernel
theorem dX11_farthestOut_6 : decode cX11_farthestOut 6 = .ok (.getfield 210, 3) := by decide +kernel
theorem dX11_farthestOut_9 : decode cX11_farthestOut 9 = .ok (.if_icmp .ge 35, 3) := by decide +kernel
theorem dX11_farthestOut_12 : decode cX11_farthestOut 12 = .ok (.iload_n 2, 1) := by decide +kernel
theorem dX11_farthestOut_13 : decode cX11_farthestOut 13 = .ok (.aload_n 1, 1) := by decide +kernel
theorem dX11_farthestOut_14 : decode cX11_farthestOut 14 = .ok (.getfield 149, 3) := by decide +kernel
theorem dX11_farthestOut_17 : decode cX11_farthestOut 17 = .ok (.iload_n 3, 1) := by decide +kernel
theorem dX11_farthestOut_18 : decode cX11_farthestOut 18 = .ok (.iaload, 1) := by decide +kernel
theorem dX11_farthestOut_19 : decode cX11_farthestOut 19 = .ok (.aload_n 0, 1) := by decide +kernel
theorem dX11_farthestOut_20 : decode cX11_farthestOut 20 = .ok (.getfield 27, 3) := by decide +kernel
theorem dX11_farthestOut_23 : decode cX11_farthestOut 23 = .ok (.getfield 139, 3) := by decide +kernel
theorem dX11_farthestOut_26 : decode cX11_farthestOut 26 = .ok (.aload_n 1, 1) := by decide +kernel
theorem dX11_farthestOut_27 : decode cX11_farthestOut 27 = .ok (.getfield 159, 3) := by decide +kernel
theorem dX11_farthestOut_30 : decode cX11_farthestOut 30 = .ok (.iload_n 3, 1) := by decide +kernel
theorem dX11_farthestOut_31 : decode cX11_farthestOut 31 = .ok (.iaload, 1) := by decide +kernel
theorem dX11_farthestOut_32 : decode cX11_farthestOut 32 = .ok (.iaload, 1) := by decide +kernel
theorem dX11_farthestOut_33 : decode cX11_farthestOut 33 = .ok (.iadd, 1) := by decide +kernel
theorem dX11_farthestOut_34 : decode cX11_farthestOut 34 = .ok (.invokestatic 309, 3) := by decide +kernel
theorem dX11_farthestOut_37 : decode cX11_farthestOut 37 = .ok (.istore_n 2, 1) := by decide +kernel
theorem dX11_farthestOut_38 : decode cX11_farthestOut 38 = .ok (.iinc 3 1, 3) := by decide +kernel
theorem dX11_farthestOut_41 : decode cX11_farthestOut 41 = .ok (.goto (-37), 3) := by decide +kernel
theorem dX11_farthestOut_44 : decode cX11_farthestOut 44 = .ok (.iload_n 2, 1) := by decide +kernel
theorem dX11_farthestOut_45 : decode cX11_farthestOut 45 = .ok (.ireturn, 1) := by decide +kernel
theorem dX11_canBear_0 : decode cX11_canBear 0 = .ok (.aload_n 0, 1) := by decide +kernel
theorem dX11_canBear_1 : decode cX11_canBear 1 = .ok (.iload_n 1, 1) := by decide +kernel
theorem dX11_canBear_2 : decode cX11_canBear 2 = .ok (.invokevirtual 131, 3) := by decide +kernel
theorem dX11_canBear_5 : decode cX11_canBear 5 = .ok (.ifCond .eq 32, 3) := by decide +kernel
theorem dX11_canBear_8 : decode cX11_canBear 8 = .ok (.aload_n 0, 1) := by decide +kernel
theorem dX11_canBear_9 : decode cX11_canBear 9 = .ok (.getfield 46, 3) := by decide +kernel
theorem dX11_canBear_12 : decode cX11_canBear 12 = .ok (.iload_n 1, 1) := by decide +kernel
theorem dX11_canBear_13 : decode cX11_canBear 13 = .ok (.invokevirtual 135, 3) := by decide +kernel
theorem dX11_canBear_16 : decode cX11_canBear 16 = .ok (.iconst (-1), 1) := by decide +kernel
theorem dX11_canBear_17 : decode cX11_canBear 17 = .ok (.if_icmp .eq 20, 3) := by decide +kernel
theorem dX11_canBear_20 : decode cX11_canBear 20 = .ok (.iload_n 2, 1) := by decide +kernel
theorem dX11_canBear_21 : decode cX11_canBear 21 = .ok (.ifCond .lt 16, 3) := by decide +kernel
theorem dX11_canBear_24 : decode cX11_canBear 24 = .ok (.iload_n 2, 1) := by decide +kernel
theorem dX11_canBear_25 : decode cX11_canBear 25 = .ok (.aload_n 0, 1) := by decide +kernel
theorem dX11_canBear_26 : decode cX11_canBear 26 = .ok (.getfield 27, 3) := by decide +kernel
theorem dX11_canBear_29 : decode cX11_canBear 29 = .ok (.getfield 139, 3) := by decide +kernel
theorem dX11_canBear_32 : decode cX11_canBear 32 = .ok (.iload_n 1, 1) := by decide +kernel
theorem dX11_canBear_33 : decode cX11_canBear 33 = .ok (.iaload, 1) := by decide +kernel
theorem dX11_canBear_34 : decode cX11_canBear 34 = .ok (.if_icmp .le 5, 3) := by decide +kernel
theorem dX11_canBear_37 : decode cX11_canBear 37 = .ok (.iconst 0, 1) := by decide +kernel
theorem dX11_canBear_38 : decode cX11_canBear 38 = .ok (.ireturn, 1) := by decide +kernel
theorem dX11_canBear_39 : decode cX11_canBear 39 = .ok (.aload_n 0, 1) := by decide +kernel
theorem dX11_canBear_40 : decode cX11_canBear 40 = .ok (.getfield 58, 3) := by decide +kernel
theorem dX11_canBear_43 : decode cX11_canBear 43 = .ok (.aload_n 0, 1) := by decide +kernel
theorem dX11_canBear_44 : decode cX11_canBear 44 = .ok (.getfield 27, 3) := by decide +kernel
theorem dX11_canBear_47 : decode cX11_canBear 47 = .ok (.aload_n 0, 1) := by decide +kernel
theorem dX11_canBear_48 : decode cX11_canBear 48 = .ok (.getfield 46, 3) := by decide +kernel
theorem dX11_canBear_51 : decode cX11_canBear 51 = .ok (.invokevirtual 162, 3) := by decide +kernel
theorem dX11_canBear_54 : decode cX11_canBear 54 = .ok (.iconst 1, 1) := by decide +kernel
theorem dX11_canBear_55 : decode cX11_canBear 55 = .ok (.ireturn, 1) := by decide +kernel
theorem dX11_pushRight_0 : decode cX11_pushRight 0 = .ok (.aload_n 0, 1) := by decide +kernel
theorem dX11_pushRight_1 : decode cX11_pushRight 1 = .ok (.getfield 58, 3) := by decide +kernel
theorem dX11_pushRight_4 : decode cX11_pushRight 4 = .ok (.aload_n 0, 1) := by decide +kernel
theorem dX11_pushRight_5 : decode cX11_pushRight 5 = .ok (.getfield 27, 3) := by decide +kernel
theorem dX11_pushRight_8 : decode cX11_pushRight 8 = .ok (.aload_n 0, 1) := by decide +kernel
theorem dX11_pushRight_9 : decode cX11_pushRight 9 = .ok (.getfield 50, 3) := by decide +kernel
theorem dX11_pushRight_12 : decode cX11_pushRight 12 = .ok (.invokevirtual 162, 3) := by decide +kernel
theorem dX11_pushRight_15 : decode cX11_pushRight 15 = .ok (.aload_n 0, 1) := by decide +kernel
theorem dX11_pushRight_16 : decode cX11_pushRight 16 = .ok (.getfield 58, 3) := by decide +kernel
theorem dX11_pushRight_19 : decode cX11_pushRight 19 = .ok (.iload_n 1, 1) := by decide +kernel
theorem dX11_pushRight_20 : decode cX11_pushRight 20 = .ok (.invokevirtual 315, 3) := by decide +kernel
theorem dX11_pushRight_23 : decode cX11_pushRight 23 = .ok (.istore_n 2, 1) := by decide +kernel
theorem dX11_pushRight_24 : decode cX11_pushRight 24 = .ok (.iconst 1, 1) := by decide +kernel
theorem dX11_pushRight_25 : decode cX11_pushRight 25 = .ok (.istore_n 3, 1) := by decide +kernel
theorem dX11_pushRight_26 : decode cX11_pushRight 26 = .ok (.iload_n 3, 1) := by decide +kernel
theorem dX11_pushRight_27 : decode cX11_pushRight 27 = .ok (.sipush 200, 3) := by decide +kernel
theorem dX11_pushRight_30 : decode cX11_pushRight 30 = .ok (.if_icmp .gt 59, 3) := by decide +kernel
theorem dX11_pushRight_33 : decode cX11_pushRight 33 = .ok (.iload_n 2, 1) := by decide +kernel
theorem dX11_pushRight_34 : decode cX11_pushRight 34 = .ok (.ifCond .eq 55, 3) := by decide +kernel
theorem dX11_pushRight_37 : decode cX11_pushRight 37 = .ok (.aload_n 0, 1) := by decide +kernel
theorem dX11_pushRight_38 : decode cX11_pushRight 38 = .ok (.getfield 50, 3) := by decide +kernel
theorem dX11_pushRight_41 : decode cX11_pushRight 41 = .ok (.iload_n 1, 1) := by decide +kernel
theorem dX11_pushRight_42 : decode cX11_pushRight 42 = .ok (.iconst 1, 1) := by decide +kernel
theorem dX11_pushRight_43 : decode cX11_pushRight 43 = .ok (.invokevirtual 214, 3) := by decide +kernel
theorem dX11_pushRight_46 : decode cX11_pushRight 46 = .ok (.aload_n 0, 1) := by decide +kernel
theorem dX11_pushRight_47 : decode cX11_pushRight 47 = .ok (.getfield 58, 3) := by decide +kernel
theorem dX11_pushRight_50 : decode cX11_pushRight 50 = .ok (.aload_n 0, 1) := by decide +kernel
theorem dX11_pushRight_51 : decode cX11_pushRight 51 = .ok (.getfield 27, 3) := by decide +kernel
theorem dX11_pushRight_54 : decode cX11_pushRight 54 = .ok (.aload_n 0, 1) := by decide +kernel
theorem dX11_pushRight_55 : decode cX11_pushRight 55 = .ok (.getfield 50, 3) := by decide +kernel
theorem dX11_pushRight_58 : decode cX11_pushRight 58 = .ok (.invokevirtual 162, 3) := by decide +kernel
theorem dX11_pushRight_61 : decode cX11_pushRight 61 = .ok (.aload_n 0, 1) := by decide +kernel
theorem dX11_pushRight_62 : decode cX11_pushRight 62 = .ok (.getfield 58, 3) := by decide +kernel
theorem dX11_pushRight_65 : decode cX11_pushRight 65 = .ok (.iload_n 1, 1) := by decide +kernel
theorem dX11_pushRight_66 : decode cX11_pushRight 66 = .ok (.invokevirtual 315, 3) := by decide +kernel
theorem dX11_pushRight_69 : decode cX11_pushRight 69 = .ok (.istore_n 2, 1) := by decide +kernel
theorem dX11_pushRight_70 : decode cX11_pushRight 70 = .ok (.iload_n 2, 1) := by decide +kernel
theorem dX11_pushRight_71 : decode cX11_pushRight 71 = .ok (.ifCond .ne 12, 3) := by decide +kernel
theorem dX11_pushRight_74 : decode cX11_pushRight 74 = .ok (.aload_n 0, 1) := by decide +kernel
theorem dX11_pushRight_75 : decode cX11_pushRight 75 = .ok (.getfield 50, 3) := by decide +kernel
theorem dX11_pushRight_78 : decode cX11_pushRight 78 = .ok (.iload_n 1, 1) := by decide +kernel
theorem dX11_pushRight_79 : decode cX11_pushRight 79 = .ok (.iconst (-1), 1) := by decide +kernel
theorem dX11_pushRight_80 : decode cX11_pushRight 80 = .ok (.invokevirtual 214, 3) := by decide +kernel
theorem dX11_pushRight_83 : decode cX11_pushRight 83 = .ok (.iinc 3 1, 3) := by decide +kernel
theorem dX11_pushRight_86 : decode cX11_pushRight 86 = .ok (.goto (-60), 3) := by decide +kernel
theorem dX11_pushRight_89 : decode cX11_pushRight 89 = .ok (.return_, 1) := by decide +kernel
theorem dX11_waysOn_0 : decode cX11_waysOn 0 = .ok (.iconst 0, 1) := by decide +kernel
theorem dX11_waysOn_1 : decode cX11_waysOn 1 = .ok (.istore_n 2, 1) := by decide +kernel
theorem dX11_waysOn_2 : decode cX11_waysOn 2 = .ok (.iconst 0, 1) := by decide +kernel
theorem dX11_waysOn_3 : decode cX11_waysOn 3 = .ok (.istore_n 3, 1) := by decide +kernel
theorem dX11_waysOn_4 : decode cX11_waysOn 4 = .ok (.iload_n 3, 1) := by decide +kernel
theorem dX11_waysOn_5 : decode cX11_waysOn 5 = .ok (.bipush 6, 2) := by decide +kernel
theorem dX11_waysOn_7 : decode cX11_waysOn 7 = .ok (.if_icmp .ge 32, 3) := by decide +kernel
theorem dX11_waysOn_10 : decode cX11_waysOn 10 = .ok (.iload_n 1, 1) := by decide +kernel
theorem dX11_waysOn_11 : decode cX11_waysOn 11 = .ok (.iconst 1, 1) := by decide +kernel
theorem dX11_waysOn_12 : decode cX11_waysOn 12 = .ok (.iload_n 3, 1) := by decide +kernel
theorem dX11_waysOn_13 : decode cX11_waysOn 13 = .ok (.ishl, 1) := by decide +kernel
theorem dX11_waysOn_14 : decode cX11_waysOn 14 = .ok (.iand, 1) := by decide +kernel
theorem dX11_waysOn_15 : decode cX11_waysOn 15 = .ok (.ifCond .eq 18, 3) := by decide +kernel
theorem dX11_waysOn_18 : decode cX11_waysOn 18 = .ok (.iload_n 2, 1) := by decide +kernel
theorem dX11_waysOn_19 : decode cX11_waysOn 19 = .ok (.aload_n 0, 1) := by decide +kernel
theorem dX11_waysOn_20 : decode cX11_waysOn 20 = .ok (.getfield 97, 3) := by decide +kernel
theorem dX11_waysOn_23 : decode cX11_waysOn 23 = .ok (.iload_n 1, 1) := by decide +kernel
theorem dX11_waysOn_24 : decode cX11_waysOn 24 = .ok (.iconst 1, 1) := by decide +kernel
theorem dX11_waysOn_25 : decode cX11_waysOn 25 = .ok (.iload_n 3, 1) := by decide +kernel
theorem dX11_waysOn_26 : decode cX11_waysOn 26 = .ok (.ishl, 1) := by decide +kernel
theorem dX11_waysOn_27 : decode cX11_waysOn 27 = .ok (.iconst (-1), 1) := by decide +kernel
theorem dX11_waysOn_28 : decode cX11_waysOn 28 = .ok (.ixor, 1) := by decide +kernel
theorem dX11_waysOn_29 : decode cX11_waysOn 29 = .ok (.iand, 1) := by decide +kernel
theorem dX11_waysOn_30 : decode cX11_waysOn 30 = .ok (.iaload, 1) := by decide +kernel
theorem dX11_waysOn_31 : decode cX11_waysOn 31 = .ok (.iadd, 1) := by decide +kernel
theorem dX11_waysOn_32 : decode cX11_waysOn 32 = .ok (.istore_n 2, 1) := by decide +kernel
theorem dX11_waysOn_33 : decode cX11_waysOn 33 = .ok (.iinc 3 1, 3) := by decide +kernel
theorem dX11_waysOn_36 : decode cX11_waysOn 36 = .ok (.goto (-32), 3) := by decide +kernel
theorem dX11_waysOn_39 : decode cX11_waysOn 39 = .ok (.iload_n 2, 1) := by decide +kernel
theorem dX11_waysOn_40 : decode cX11_waysOn 40 = .ok (.ireturn, 1) := by decide +kernel
theorem dX11_canFit_0 : decode cX11_canFit 0 = .ok (.iload_n 1, 1) := by decide +kernel
theorem dX11_canFit_1 : decode cX11_canFit 1 = .ok (.iconst 1, 1) := by decide +kernel
theorem dX11_canFit_2 : decode cX11_canFit 2 = .ok (.if_icmp .lt 28, 3) := by decide +kernel
theorem dX11_canFit_5 : decode cX11_canFit 5 = .ok (.iload_n 1, 1) := by decide +kernel
theorem dX11_canFit_6 : decode cX11_canFit 6 = .ok (.bipush 6, 2) := by decide +kernel
theorem dX11_canFit_8 : decode cX11_canFit 8 = .ok (.if_icmp .gt 22, 3) := by decide +kernel
theorem dX11_canFit_11 : decode cX11_canFit 11 = .ok (.iload_n 2, 1) := by decide +kernel
theorem dX11_canFit_12 : decode cX11_canFit 12 = .ok (.ifCond .lt 18, 3) := by decide +kernel
theorem dX11_canFit_15 : decode cX11_canFit 15 = .ok (.iload_n 2, 1) := by decide +kernel
theorem dX11_canFit_16 : decode cX11_canFit 16 = .ok (.aload_n 0, 1) := by decide +kernel
theorem dX11_canFit_17 : decode cX11_canFit 17 = .ok (.getfield 79, 3) := by decide +kernel
theorem dX11_canFit_20 : decode cX11_canFit 20 = .ok (.getfield 124, 3) := by decide +kernel
theorem dX11_canFit_23 : decode cX11_canFit 23 = .ok (.if_icmp .gt 7, 3) := by decide +kernel
theorem dX11_canFit_26 : decode cX11_canFit 26 = .ok (.iconst 1, 1) := by decide +kernel
theorem dX11_canFit_27 : decode cX11_canFit 27 = .ok (.goto 4, 3) := by decide +kernel
theorem dX11_canFit_30 : decode cX11_canFit 30 = .ok (.iconst 0, 1) := by decide +kernel
theorem dX11_canFit_31 : decode cX11_canFit 31 = .ok (.ireturn, 1) := by decide +kernel
theorem dX11_fliesInPile_0 : decode cX11_fliesInPile 0 = .ok (.iconst 0, 1) := by decide +kernel
theorem dX11_fliesInPile_1 : decode cX11_fliesInPile 1 = .ok (.istore_n 1, 1) := by decide +kernel
theorem dX11_fliesInPile_2 : decode cX11_fliesInPile 2 = .ok (.iconst 0, 1) := by decide +kernel
theorem dX11_fliesInPile_3 : decode cX11_fliesInPile 3 = .ok (.istore_n 2, 1) := by decide +kernel
theorem dX11_fliesInPile_4 : decode cX11_fliesInPile 4 = .ok (.iload_n 2, 1) := by decide +kernel
theorem dX11_fliesInPile_5 : decode cX11_fliesInPile 5 = .ok (.aload_n 0, 1) := by decide +kernel
theorem dX11_fliesInPile_6 : decode cX11_fliesInPile 6 = .ok (.getfield 27, 3) := by decide +kernel
theorem dX11_fliesInPile_9 : decode cX11_fliesInPile 9 = .ok (.getfield 296, 3) := by decide +kernel
theorem dX11_fliesInPile_12 : decode cX11_fliesInPile 12 = .ok (.if_icmp .ge 32, 3) := by decide +kernel
theorem dX11_fliesInPile_15 : decode cX11_fliesInPile 15 = .ok (.aload_n 0, 1) := by decide +kernel
theorem dX11_fliesInPile_16 : decode cX11_fliesInPile 16 = .ok (.getfield 46, 3) := by decide +kernel
theorem dX11_fliesInPile_19 : decode cX11_fliesInPile 19 = .ok (.aload_n 0, 1) := by decide +kernel
theorem dX11_fliesInPile_20 : decode cX11_fliesInPile 20 = .ok (.getfield 27, 3) := by decide +kernel
theorem dX11_fliesInPile_23 : decode cX11_fliesInPile 23 = .ok (.getfield 318, 3) := by decide +kernel
theorem dX11_fliesInPile_26 : decode cX11_fliesInPile 26 = .ok (.iload_n 2, 1) := by decide +kernel
theorem dX11_fliesInPile_27 : decode cX11_fliesInPile 27 = .ok (.iaload, 1) := by decide +kernel
theorem dX11_fliesInPile_28 : decode cX11_fliesInPile 28 = .ok (.invokevirtual 135, 3) := by decide +kernel
theorem dX11_fliesInPile_31 : decode cX11_fliesInPile 31 = .ok (.iconst (-1), 1) := by decide +kernel
theorem dX11_fliesInPile_32 : decode cX11_fliesInPile 32 = .ok (.if_icmp .eq 6, 3) := by decide +kernel
theorem dX11_fliesInPile_35 : decode cX11_fliesInPile 35 = .ok (.iinc 1 1, 3) := by decide +kernel
theorem dX11_fliesInPile_38 : decode cX11_fliesInPile 38 = .ok (.iinc 2 1, 3) := by decide +kernel
theorem dX11_fliesInPile_41 : decode cX11_fliesInPile 41 = .ok (.goto (-37), 3) := by decide +kernel
theorem dX11_fliesInPile_44 : decode cX11_fliesInPile 44 = .ok (.iload_n 1, 1) := by decide +kernel
theorem dX11_fliesInPile_45 : decode cX11_fliesInPile 45 = .ok (.ireturn, 1) := by decide +kernel
theorem dX12_init_0 : decode cX12_init 0 = .ok (.aload_n 0, 1) := by decide +kernel
theorem dX12_init_1 : decode cX12_init 1 = .ok (.invokespecial 7, 3) := by decide +kernel
theorem dX12_init_4 : decode cX12_init 4 = .ok (.aload_n 0, 1) := by decide +kernel
theorem dX12_init_5 : decode cX12_init 5 = .ok (.sipush 2000, 3) := by decide +kernel
theorem dX12_init_8 : decode cX12_init 8 = .ok (.newarray .byte, 2) := by decide +kernel
theorem dX12_init_10 : decode cX12_init 10 = .ok (.putfield 13, 3) := by decide +kernel
theorem dX12_init_13 : decode cX12_init 13 = .ok (.aload_n 0, 1) := by decide +kernel
theorem dX12_init_14 : decode cX12_init 14 = .ok (.sipush 2000, 3) := by decide +kernel
theorem dX12_init_17 : decode cX12_init 17 = .ok (.newarray .byte, 2) := by decide +kernel
theorem dX12_init_19 : decode cX12_init 19 = .ok (.putfield 17, 3) := by decide +kernel
theorem dX12_init_22 : decode cX12_init 22 = .ok (.aload_n 0, 1) := by decide +kernel
theorem dX12_init_23 : decode cX12_init 23 = .ok (.sipush 403, 3) := by decide +kernel
theorem dX12_init_26 : decode cX12_init 26 = .ok (.newarray .int, 2) := by decide +kernel
theorem dX12_init_28 : decode cX12_init 28 = .ok (.putfield 20, 3) := by decide +kernel
theorem dX12_init_31 : decode cX12_init 31 = .ok (.aload_n 0, 1) := by decide +kernel
theorem dX12_init_32 : decode cX12_init 32 = .ok (.sipush 403, 3) := by decide +kernel
theorem dX12_init_35 : decode cX12_init 35 = .ok (.newarray .int, 2) := by decide +kernel
theorem dX12_init_37 : decode cX12_init 37 = .ok (.putfield 24, 3) := by decide +kernel
theorem dX12_init_40 : decode cX12_init 40 = .ok (.aload_n 0, 1) := by decide +kernel
theorem dX12_init_41 : decode cX12_init 41 = .ok (.sipush 403, 3) := by decide +kernel
theorem dX12_init_44 : decode cX12_init 44 = .ok (.newarray .int, 2) := by decide +kernel
theorem dX12_init_46 : decode cX12_init 46 = .ok (.putfield 27, 3) := by decide +kernel
theorem dX12_init_49 : decode cX12_init 49 = .ok (.aload_n 0, 1) := by decide +kernel
theorem dX12_init_50 : decode cX12_init 50 = .ok (.sipush 403, 3) := by decide +kernel
theorem dX12_init_53 : decode cX12_init 53 = .ok (.newarray .long, 2) := by decide +kernel
theorem dX12_init_55 : decode cX12_init 55 = .ok (.putfield 30, 3) := by decide +kernel
theorem dX12_init_58 : decode cX12_init 58 = .ok (.aload_n 0, 1) := by decide +kernel
theorem dX12_init_59 : decode cX12_init 59 = .ok (.bipush 16, 2) := by decide +kernel
theorem dX12_init_61 : decode cX12_init 61 = .ok (.newarray .long, 2) := by decide +kernel
theorem dX12_init_63 : decode cX12_init 63 = .ok (.putfield 34, 3) := by decide +kernel
theorem dX12_init_66 : decode cX12_init 66 = .ok (.aload_n 0, 1) := by decide +kernel
theorem dX12_init_67 : decode cX12_init 67 = .ok (.iconst (-1), 1) := by decide +kernel
theorem dX12_init_68 : decode cX12_init 68 = .ok (.putfield 37, 3) := by decide +kernel
theorem dX12_init_71 : decode cX12_init 71 = .ok (.aload_n 0, 1) := by decide +kernel
theorem dX12_init_72 : decode cX12_init 72 = .ok (.bipush 6, 2) := by decide +kernel
theorem dX12_init_74 : decode cX12_init 74 = .ok (.newarray .long, 2) := by decide +kernel
theorem dX12_init_76 : decode cX12_init 76 = .ok (.putfield 40, 3) := by decide +kernel
theorem dX12_init_79 : decode cX12_init 79 = .ok (.aload_n 0, 1) := by decide +kernel
theorem dX12_init_80 : decode cX12_init 80 = .ok (.iconst 2, 1) := by decide +kernel
theorem dX12_init_81 : decode cX12_init 81 = .ok (.newarray .int, 2) := by decide +kernel
theorem dX12_init_83 : decode cX12_init 83 = .ok (.putfield 43, 3) := by decide +kernel
theorem dX12_init_86 : decode cX12_init 86 = .ok (.aload_n 0, 1) := by decide +kernel
theorem dX12_init_87 : decode cX12_init 87 = .ok (.bipush 12, 2) := by decide +kernel
theorem dX12_init_89 : decode cX12_init 89 = .ok (.newarray .int, 2) := by decide +kernel
theorem dX12_init_91 : decode cX12_init 91 = .ok (.putfield 46, 3) := by decide +kernel
theorem dX12_init_94 : decode cX12_init 94 = .ok (.aload_n 0, 1) := by decide +kernel
theorem dX12_init_95 : decode cX12_init 95 = .ok (.bipush 12, 2) := by decide +kernel
theorem dX12_init_97 : decode cX12_init 97 = .ok (.newarray .int, 2) := by decide +kernel
theorem dX12_init_99 : decode cX12_init 99 = .ok (.putfield 49, 3) := by decide +kernel
theorem dX12_init_102 : decode cX12_init 102 = .ok (.aload_n 0, 1) := by decide +kernel
theorem dX12_init_103 : decode cX12_init 103 = .ok (.iconst 2, 1) := by decide +kernel
theorem dX12_init_104 : decode cX12_init 104 = .ok (.newarray .int, 2) := by decide +kernel
theorem dX12_init_106 : decode cX12_init 106 = .ok (.putfield 52, 3) := by decide +kernel
theorem dX12_init_109 : decode cX12_init 109 = .ok (.aload_n 0, 1) := by decide +kernel
theorem dX12_init_110 : decode cX12_init 110 = .ok (.iconst 2, 1) := by decide +kernel
theorem dX12_init_111 : decode cX12_init 111 = .ok (.newarray .int, 2) := by decide +kernel
theorem dX12_init_113 : decode cX12_init 113 = .ok (.putfield 55, 3) := by decide +kernel
theorem dX12_init_116 : decode cX12_init 116 = .ok (.aload_n 0, 1) := by decide +kernel
theorem dX12_init_117 : decode cX12_init 117 = .ok (.bipush 12, 2) := by decide +kernel
theorem dX12_init_119 : decode cX12_init 119 = .ok (.newarray .int, 2) := by decide +kernel
theorem dX12_init_121 : decode cX12_init 121 = .ok (.putfield 58, 3) := by decide +kernel
theorem dX12_init_124 : decode cX12_init 124 = .ok (.aload_n 0, 1) := by decide +kernel
theorem dX12_init_125 : decode cX12_init 125 = .ok (.bipush 12, 2) := by decide +kernel
theorem dX12_init_127 : decode cX12_init 127 = .ok (.newarray .int, 2) := by decide +kernel
theorem dX12_init_129 : decode cX12_init 129 = .ok (.putfield 61, 3) := by decide +kernel
theorem dX12_init_132 : decode cX12_init 132 = .ok (.aload_n 0, 1) := by decide +kernel
theorem dX12_init_133 : decode cX12_init 133 = .ok (.bipush 12, 2) := by decide +kernel
theorem dX12_init_135 : decode cX12_init 135 = .ok (.newarray .int, 2) := by decide +kernel
theorem dX12_init_137 : decode cX12_init 137 = .ok (.putfield 64, 3) := by decide +kernel
theorem dX12_init_140 : decode cX12_init 140 = .ok (.aload_n 0, 1) := by decide +kernel
theorem dX12_init_141 : decode cX12_init 141 = .ok (.bipush 40, 2) := by decide +kernel
theorem dX12_init_143 : decode cX12_init 143 = .ok (.newarray .int, 2) := by decide +kernel
theorem dX12_init_145 : decode cX12_init 145 = .ok (.putfield 67, 3) := by decide +kernel
theorem dX12_init_148 : decode cX12_init 148 = .ok (.aload_n 0, 1) := by decide +kernel
theorem dX12_init_149 : decode cX12_init 149 = .ok (.bipush 12, 2) := by decide +kernel
theorem dX12_init_151 : decode cX12_init 151 = .ok (.newarray .int, 2) := by decide +kernel
theorem dX12_init_153 : decode cX12_init 153 = .ok (.putfield 70, 3) := by decide +kernel
theorem dX12_init_156 : decode cX12_init 156 = .ok (.aload_n 0, 1) := by decide +kernel
theorem dX12_init_157 : decode cX12_init 157 = .ok (.bipush 12, 2) := by decide +kernel
theorem dX12_init_159 : decode cX12_init 159 = .ok (.newarray .int, 2) := by decide +kernel
theorem dX12_init_161 : decode cX12_init 161 = .ok (.putfield 73, 3) := by decide +kernel
theorem dX12_init_164 : decode cX12_init 164 = .ok (.aload_n 0, 1) := by decide +kernel
theorem dX12_init_165 : decode cX12_init 165 = .ok (.sipush 260, 3) := by decide +kernel
theorem dX12_init_168 : decode cX12_init 168 = .ok (.newarray .boolean, 2) := by decide +kernel
theorem dX12_init_170 : decode cX12_init 170 = .ok (.putfield 76, 3) := by decide +kernel
theorem dX12_init_173 : decode cX12_init 173 = .ok (.aload_n 0, 1) := by decide +kernel
theorem dX12_init_174 : decode cX12_init 174 = .ok (.sipush 260, 3) := by decide +kernel
theorem dX12_init_177 : decode cX12_init 177 = .ok (.newarray .int, 2) := by decide +kernel
theorem dX12_init_179 : decode cX12_init 179 = .ok (.putfield 80, 3) := by decide +kernel
theorem dX12_init_182 : decode cX12_init 182 = .ok (.aload_n 0, 1) := by decide +kernel
theorem dX12_init_183 : decode cX12_init 183 = .ok (.sipush 260, 3) := by decide +kernel
theorem dX12_init_186 : decode cX12_init 186 = .ok (.newarray .int, 2) := by decide +kernel
theorem dX12_init_188 : decode cX12_init 188 = .ok (.putfield 83, 3) := by decide +kernel
theorem dX12_init_191 : decode cX12_init 191 = .ok (.aload_n 0, 1) := by decide +kernel
theorem dX12_init_192 : decode cX12_init 192 = .ok (.sipush 260, 3) := by decide +kernel
theorem dX12_init_195 : decode cX12_init 195 = .ok (.newarray .int, 2) := by decide +kernel
theorem dX12_init_197 : decode cX12_init 197 = .ok (.putfield 86, 3) := by decide +kernel
theorem dX12_init_200 : decode cX12_init 200 = .ok (.aload_n 0, 1) := by decide +kernel
theorem dX12_init_201 : decode cX12_init 201 = .ok (.sipush 260, 3) := by decide +kernel
theorem dX12_init_204 : decode cX12_init 204 = .ok (.newarray .int, 2) := by decide +kernel
theorem dX12_init_206 : decode cX12_init 206 = .ok (.putfield 89, 3) := by decide +kernel
theorem dX12_init_209 : decode cX12_init 209 = .ok (.aload_n 0, 1) := by decide +kernel
theorem dX12_init_210 : decode cX12_init 210 = .ok (.sipush 840, 3) := by decide +kernel
theorem dX12_init_213 : decode cX12_init 213 = .ok (.newarray .int, 2) := by decide +kernel
theorem dX12_init_215 : decode cX12_init 215 = .ok (.putfield 92, 3) := by decide +kernel
theorem dX12_init_218 : decode cX12_init 218 = .ok (.aload_n 0, 1) := by decide +kernel
theorem dX12_init_219 : decode cX12_init 219 = .ok (.sipush 840, 3) := by decide +kernel
theorem dX12_init_222 : decode cX12_init 222 = .ok (.newarray .int, 2) := by decide +kernel
theorem dX12_init_224 : decode cX12_init 224 = .ok (.putfield 95, 3) := by decide +kernel
theorem dX12_init_227 : decode cX12_init 227 = .ok (.aload_n 0, 1) := by decide +kernel
theorem dX12_init_228 : decode cX12_init 228 = .ok (.bipush 64, 2) := by decide +kernel
theorem dX12_init_230 : decode cX12_init 230 = .ok (.newarray .int, 2) := by decide +kernel
theorem dX12_init_232 : decode cX12_init 232 = .ok (.putfield 98, 3) := by decide +kernel
theorem dX12_init_235 : decode cX12_init 235 = .ok (.aload_n 0, 1) := by decide +kernel
theorem dX12_init_236 : decode cX12_init 236 = .ok (.iconst 5, 1) := by decide +kernel
theorem dX12_init_237 : decode cX12_init 237 = .ok (.newarray .int, 2) := by decide +kernel
theorem dX12_init_239 : decode cX12_init 239 = .ok (.putfield 101, 3) := by decide +kernel
theorem dX12_init_242 : decode cX12_init 242 = .ok (.aload_n 0, 1) := by decide +kernel
theorem dX12_init_243 : decode cX12_init 243 = .ok (.sipush 400, 3) := by decide +kernel
theorem dX12_init_246 : decode cX12_init 246 = .ok (.newarray .int, 2) := by decide +kernel
theorem dX12_init_248 : decode cX12_init 248 = .ok (.putfield 104, 3) := by decide +kernel
theorem dX12_init_251 : decode cX12_init 251 = .ok (.aload_n 0, 1) := by decide +kernel
theorem dX12_init_252 : decode cX12_init 252 = .ok (.bipush 20, 2) := by decide +kernel
theorem dX12_init_254 : decode cX12_init 254 = .ok (.newarray .int, 2) := by decide +kernel
theorem dX12_init_256 : decode cX12_init 256 = .ok (.putfield 107, 3) := by decide +kernel
theorem dX12_init_259 : decode cX12_init 259 = .ok (.aload_n 0, 1) := by decide +kernel
theorem dX12_init_260 : decode cX12_init 260 = .ok (.bipush 20, 2) := by decide +kernel
theorem dX12_init_262 : decode cX12_init 262 = .ok (.newarray .int, 2) := by decide +kernel
theorem dX12_init_264 : decode cX12_init 264 = .ok (.putfield 110, 3) := by decide +kernel
theorem dX12_init_267 : decode cX12_init 267 = .ok (.aload_n 0, 1) := by decide +kernel
theorem dX12_init_268 : decode cX12_init 268 = .ok (.bipush 6, 2) := by decide +kernel
theorem dX12_init_270 : decode cX12_init 270 = .ok (.newarray .int, 2) := by decide +kernel
theorem dX12_init_272 : decode cX12_init 272 = .ok (.putfield 113, 3) := by decide +kernel
theorem dX12_init_275 : decode cX12_init 275 = .ok (.aload_n 0, 1) := by decide +kernel
theorem dX12_init_276 : decode cX12_init 276 = .ok (.bipush 6, 2) := by decide +kernel
theorem dX12_init_278 : decode cX12_init 278 = .ok (.newarray .long, 2) := by decide +kernel
theorem dX12_init_280 : decode cX12_init 280 = .ok (.putfield 116, 3) := by decide +kernel
theorem dX12_init_283 : decode cX12_init 283 = .ok (.aload_n 0, 1) := by decide +kernel
theorem dX12_init_284 : decode cX12_init 284 = .ok (.bipush 6, 2) := by decide +kernel
theorem dX12_init_286 : decode cX12_init 286 = .ok (.newarray .long, 2) := by decide +kernel
theorem dX12_init_288 : decode cX12_init 288 = .ok (.putfield 119, 3) := by decide +kernel
theorem dX12_init_291 : decode cX12_init 291 = .ok (.aload_n 0, 1) := by decide +kernel
theorem dX12_init_292 : decode cX12_init 292 = .ok (.sipush 1000, 3) := by decide +kernel
theorem dX12_init_295 : decode cX12_init 295 = .ok (.newarray .int, 2) := by decide +kernel
theorem dX12_init_297 : decode cX12_init 297 = .ok (.putfield 122, 3) := by decide +kernel
theorem dX12_init_300 : decode cX12_init 300 = .ok (.aload_n 0, 1) := by decide +kernel
theorem dX12_init_301 : decode cX12_init 301 = .ok (.bipush 64, 2) := by decide +kernel
theorem dX12_init_303 : decode cX12_init 303 = .ok (.newarray .int, 2) := by decide +kernel
theorem dX12_init_305 : decode cX12_init 305 = .ok (.putfield 125, 3) := by decide +kernel
theorem dX12_init_308 : decode cX12_init 308 = .ok (.aload_n 0, 1) := by decide +kernel
theorem dX12_init_309 : decode cX12_init 309 = .ok (.bipush 6, 2) := by decide +kernel
theorem dX12_init_311 : decode cX12_init 311 = .ok (.newarray .int, 2) := by decide +kernel
theorem dX12_init_313 : decode cX12_init 313 = .ok (.putfield 128, 3) := by decide +kernel
theorem dX12_init_316 : decode cX12_init 316 = .ok (.aload_n 0, 1) := by decide +kernel
theorem dX12_init_317 : decode cX12_init 317 = .ok (.bipush 120, 2) := by decide +kernel
theorem dX12_init_319 : decode cX12_init 319 = .ok (.newarray .int, 2) := by decide +kernel
theorem dX12_init_321 : decode cX12_init 321 = .ok (.putfield 131, 3) := by decide +kernel
theorem dX12_init_324 : decode cX12_init 324 = .ok (.aload_n 0, 1) := by decide +kernel
theorem dX12_init_325 : decode cX12_init 325 = .ok (.bipush 6, 2) := by decide +kernel
theorem dX12_init_327 : decode cX12_init 327 = .ok (.newarray .boolean, 2) := by decide +kernel
theorem dX12_init_329 : decode cX12_init 329 = .ok (.putfield 134, 3) := by decide +kernel
theorem dX12_init_332 : decode cX12_init 332 = .ok (.aload_n 0, 1) := by decide +kernel
theorem dX12_init_333 : decode cX12_init 333 = .ok (.bipush 6, 2) := by decide +kernel
theorem dX12_init_335 : decode cX12_init 335 = .ok (.newarray .int, 2) := by decide +kernel
theorem dX12_init_337 : decode cX12_init 337 = .ok (.putfield 137, 3) := by decide +kernel
theorem dX12_init_340 : decode cX12_init 340 = .ok (.aload_n 0, 1) := by decide +kernel
theorem dX12_init_341 : decode cX12_init 341 = .ok (.bipush 6, 2) := by decide +kernel
theorem dX12_init_343 : decode cX12_init 343 = .ok (.newarray .int, 2) := by decide +kernel
theorem dX12_init_345 : decode cX12_init 345 = .ok (.putfield 140, 3) := by decide +kernel
theorem dX12_init_348 : decode cX12_init 348 = .ok (.aload_n 0, 1) := by decide +kernel
theorem dX12_init_349 : decode cX12_init 349 = .ok (.iconst 3, 1) := by decide +kernel
theorem dX12_init_350 : decode cX12_init 350 = .ok (.newarray .boolean, 2) := by decide +kernel
theorem dX12_init_352 : decode cX12_init 352 = .ok (.putfield 143, 3) := by decide +kernel
theorem dX12_init_355 : decode cX12_init 355 = .ok (.aload_n 0, 1) := by decide +kernel
theorem dX12_init_356 : decode cX12_init 356 = .ok (.bipush 60, 2) := by decide +kernel
theorem dX12_init_358 : decode cX12_init 358 = .ok (.newarray .int, 2) := by decide +kernel
theorem dX12_init_360 : decode cX12_init 360 = .ok (.putfield 146, 3) := by decide +kernel
theorem dX12_init_363 : decode cX12_init 363 = .ok (.aload_n 0, 1) := by decide +kernel
theorem dX12_init_364 : decode cX12_init 364 = .ok (.getfield 52, 3) := by decide +kernel
theorem dX12_init_367 : decode cX12_init 367 = .ok (.iconst 0, 1) := by decide +kernel
theorem dX12_init_368 : decode cX12_init 368 = .ok (.bipush 100, 2) := by decide +kernel
theorem dX12_init_370 : decode cX12_init 370 = .ok (.iastore, 1) := by decide +kernel
theorem dX12_init_371 : decode cX12_init 371 = .ok (.aload_n 0, 1) := by decide +kernel
theorem dX12_init_372 : decode cX12_init 372 = .ok (.getfield 34, 3) := by decide +kernel
theorem dX12_init_375 : decode cX12_init 375 = .ok (.iconst 0, 1) := by decide +kernel
theorem dX12_init_376 : decode cX12_init 376 = .ok (.bipush 98, 2) := by decide +kernel
theorem dX12_init_378 : decode cX12_init 378 = .ok (.bipush 111, 2) := by decide +kernel
theorem dX12_init_380 : decode cX12_init 380 = .ok (.bipush 111, 2) := by decide +kernel
theorem dX12_init_382 : decode cX12_init 382 = .ok (.bipush 107, 2) := by decide +kernel
theorem dX12_init_384 : decode cX12_init 384 = .ok (.iconst 0, 1) := by decide +kernel
theorem dX12_init_385 : decode cX12_init 385 = .ok (.iconst 0, 1) := by decide +kernel
theorem dX12_init_386 : decode cX12_init 386 = .ok (.iconst 0, 1) := by decide +kernel
theorem dX12_init_387 : decode cX12_init 387 = .ok (.invokestatic 149, 3) := by decide +kernel
theorem dX12_init_390 : decode cX12_init 390 = .ok (.lastore, 1) := by decide +kernel
theorem dX12_init_391 : decode cX12_init 391 = .ok (.aload_n 0, 1) := by decide +kernel
theorem dX12_init_392 : decode cX12_init 392 = .ok (.getfield 34, 3) := by decide +kernel
theorem dX12_init_395 : decode cX12_init 395 = .ok (.iconst 1, 1) := by decide +kernel
theorem dX12_init_396 : decode cX12_init 396 = .ok (.bipush 104, 2) := by decide +kernel
theorem dX12_init_398 : decode cX12_init 398 = .ok (.bipush 101, 2) := by decide +kernel
theorem dX12_init_400 : decode cX12_init 400 = .ok (.bipush 97, 2) := by decide +kernel
theorem dX12_init_402 : decode cX12_init 402 = .ok (.bipush 118, 2) := by decide +kernel
theorem dX12_init_404 : decode cX12_init 404 = .ok (.bipush 121, 2) := by decide +kernel
theorem dX12_init_406 : decode cX12_init 406 = .ok (.iconst 0, 1) := by decide +kernel
theorem dX12_init_407 : decode cX12_init 407 = .ok (.iconst 0, 1) := by decide +kernel
theorem dX12_init_408 : decode cX12_init 408 = .ok (.invokestatic 149, 3) := by decide +kernel
theorem dX12_init_411 : decode cX12_init 411 = .ok (.lastore, 1) := by decide +kernel
theorem dX12_init_412 : decode cX12_init 412 = .ok (.aload_n 0, 1) := by decide +kernel
theorem dX12_init_413 : decode cX12_init 413 = .ok (.getfield 34, 3) := by decide +kernel
theorem dX12_init_416 : decode cX12_init 416 = .ok (.iconst 2, 1) := by decide +kernel
theorem dX12_init_417 : decode cX12_init 417 = .ok (.bipush 116, 2) := by decide +kernel
theorem dX12_init_419 : decode cX12_init 419 = .ok (.bipush 97, 2) := by decide +kernel
theorem dX12_init_421 : decode cX12_init 421 = .ok (.bipush 98, 2) := by decide +kernel
theorem dX12_init_423 : decode cX12_init 423 = .ok (.bipush 108, 2) := by decide +kernel
theorem dX12_init_425 : decode cX12_init 425 = .ok (.bipush 101, 2) := by decide +kernel
theorem dX12_init_427 : decode cX12_init 427 = .ok (.iconst 0, 1) := by decide +kernel
theorem dX12_init_428 : decode cX12_init 428 = .ok (.iconst 0, 1) := by decide +kernel
theorem dX12_init_429 : decode cX12_init 429 = .ok (.invokestatic 149, 3) := by decide +kernel
theorem dX12_init_432 : decode cX12_init 432 = .ok (.lastore, 1) := by decide +kernel
theorem dX12_init_433 : decode cX12_init 433 = .ok (.aload_n 0, 1) := by decide +kernel
theorem dX12_init_434 : decode cX12_init 434 = .ok (.getfield 34, 3) := by decide +kernel
theorem dX12_init_437 : decode cX12_init 437 = .ok (.iconst 3, 1) := by decide +kernel
theorem dX12_init_438 : decode cX12_init 438 = .ok (.bipush 112, 2) := by decide +kernel
theorem dX12_init_440 : decode cX12_init 440 = .ok (.bipush 105, 2) := by decide +kernel
theorem dX12_init_442 : decode cX12_init 442 = .ok (.bipush 108, 2) := by decide +kernel
theorem dX12_init_444 : decode cX12_init 444 = .ok (.bipush 101, 2) := by decide +kernel
theorem dX12_init_446 : decode cX12_init 446 = .ok (.iconst 0, 1) := by decide +kernel
theorem dX12_init_447 : decode cX12_init 447 = .ok (.iconst 0, 1) := by decide +kernel
theorem dX12_init_448 : decode cX12_init 448 = .ok (.iconst 0, 1) := by decide +kernel
theorem dX12_init_449 : decode cX12_init 449 = .ok (.invokestatic 149, 3) := by decide +kernel
theorem dX12_init_452 : decode cX12_init 452 = .ok (.lastore, 1) := by decide +kernel
theorem dX12_init_453 : decode cX12_init 453 = .ok (.aload_n 0, 1) := by decide +kernel
theorem dX12_init_454 : decode cX12_init 454 = .ok (.getfield 34, 3) := by decide +kernel
theorem dX12_init_457 : decode cX12_init 457 = .ok (.iconst 4, 1) := by decide +kernel
theorem dX12_init_458 : decode cX12_init 458 = .ok (.bipush 97, 2) := by decide +kernel
theorem dX12_init_460 : decode cX12_init 460 = .ok (.bipush 116, 2) := by decide +kernel
theorem dX12_init_462 : decode cX12_init 462 = .ok (.iconst 0, 1) := by decide +kernel
theorem dX12_init_463 : decode cX12_init 463 = .ok (.iconst 0, 1) := by decide +kernel
theorem dX12_init_464 : decode cX12_init 464 = .ok (.iconst 0, 1) := by decide +kernel
theorem dX12_init_465 : decode cX12_init 465 = .ok (.iconst 0, 1) := by decide +kernel
theorem dX12_init_466 : decode cX12_init 466 = .ok (.iconst 0, 1) := by decide +kernel
theorem dX12_init_467 : decode cX12_init 467 = .ok (.invokestatic 149, 3) := by decide +kernel
theorem dX12_init_470 : decode cX12_init 470 = .ok (.lastore, 1) := by decide +kernel
theorem dX12_init_471 : decode cX12_init 471 = .ok (.aload_n 0, 1) := by decide +kernel
theorem dX12_init_472 : decode cX12_init 472 = .ok (.getfield 34, 3) := by decide +kernel
theorem dX12_init_475 : decode cX12_init 475 = .ok (.iconst 5, 1) := by decide +kernel
theorem dX12_init_476 : decode cX12_init 476 = .ok (.bipush 103, 2) := by decide +kernel
theorem dX12_init_478 : decode cX12_init 478 = .ok (.bipush 108, 2) := by decide +kernel
theorem dX12_init_480 : decode cX12_init 480 = .ok (.bipush 117, 2) := by decide +kernel
theorem dX12_init_482 : decode cX12_init 482 = .ok (.bipush 101, 2) := by decide +kernel
theorem dX12_init_484 : decode cX12_init 484 = .ok (.bipush 100, 2) := by decide +kernel
theorem dX12_init_486 : decode cX12_init 486 = .ok (.iconst 0, 1) := by decide +kernel
theorem dX12_init_487 : decode cX12_init 487 = .ok (.iconst 0, 1) := by decide +kernel
theorem dX12_init_488 : decode cX12_init 488 = .ok (.invokestatic 149, 3) := by decide +kernel
theorem dX12_init_491 : decode cX12_init 491 = .ok (.lastore, 1) := by decide +kernel
theorem dX12_init_492 : decode cX12_init 492 = .ok (.aload_n 0, 1) := by decide +kernel
theorem dX12_init_493 : decode cX12_init 493 = .ok (.getfield 34, 3) := by decide +kernel
theorem dX12_init_496 : decode cX12_init 496 = .ok (.bipush 6, 2) := by decide +kernel
theorem dX12_init_498 : decode cX12_init 498 = .ok (.bipush 102, 2) := by decide +kernel
theorem dX12_init_500 : decode cX12_init 500 = .ok (.bipush 108, 2) := by decide +kernel
theorem dX12_init_502 : decode cX12_init 502 = .ok (.bipush 121, 2) := by decide +kernel
theorem dX12_init_504 : decode cX12_init 504 = .ok (.iconst 0, 1) := by decide +kernel
theorem dX12_init_505 : decode cX12_init 505 = .ok (.iconst 0, 1) := by decide +kernel
theorem dX12_init_506 : decode cX12_init 506 = .ok (.iconst 0, 1) := by decide +kernel
theorem dX12_init_507 : decode cX12_init 507 = .ok (.iconst 0, 1) := by decide +kernel
theorem dX12_init_508 : decode cX12_init 508 = .ok (.invokestatic 149, 3) := by decide +kernel
theorem dX12_init_511 : decode cX12_init 511 = .ok (.lastore, 1) := by decide +kernel
theorem dX12_init_512 : decode cX12_init 512 = .ok (.aload_n 0, 1) := by decide +kernel
theorem dX12_init_513 : decode cX12_init 513 = .ok (.getfield 34, 3) := by decide +kernel
theorem dX12_init_516 : decode cX12_init 516 = .ok (.bipush 7, 2) := by decide +kernel
theorem dX12_init_518 : decode cX12_init 518 = .ok (.bipush 111, 2) := by decide +kernel
theorem dX12_init_520 : decode cX12_init 520 = .ok (.bipush 110, 2) := by decide +kernel
theorem dX12_init_522 : decode cX12_init 522 = .ok (.iconst 0, 1) := by decide +kernel
theorem dX12_init_523 : decode cX12_init 523 = .ok (.iconst 0, 1) := by decide +kernel
theorem dX12_init_524 : decode cX12_init 524 = .ok (.iconst 0, 1) := by decide +kernel
theorem dX12_init_525 : decode cX12_init 525 = .ok (.iconst 0, 1) := by decide +kernel
theorem dX12_init_526 : decode cX12_init 526 = .ok (.iconst 0, 1) := by decide +kernel
theorem dX12_init_527 : decode cX12_init 527 = .ok (.invokestatic 149, 3) := by decide +kernel
theorem dX12_init_530 : decode cX12_init 530 = .ok (.lastore, 1) := by decide +kernel
theorem dX12_init_531 : decode cX12_init 531 = .ok (.aload_n 0, 1) := by decide +kernel
theorem dX12_init_532 : decode cX12_init 532 = .ok (.getfield 34, 3) := by decide +kernel
theorem dX12_init_535 : decode cX12_init 535 = .ok (.bipush 8, 2) := by decide +kernel
theorem dX12_init_537 : decode cX12_init 537 = .ok (.bipush 105, 2) := by decide +kernel
theorem dX12_init_539 : decode cX12_init 539 = .ok (.bipush 102, 2) := by decide +kernel
theorem dX12_init_541 : decode cX12_init 541 = .ok (.iconst 0, 1) := by decide +kernel
theorem dX12_init_542 : decode cX12_init 542 = .ok (.iconst 0, 1) := by decide +kernel
theorem dX12_init_543 : decode cX12_init 543 = .ok (.iconst 0, 1) := by decide +kernel
theorem dX12_init_544 : decode cX12_init 544 = .ok (.iconst 0, 1) := by decide +kernel
theorem dX12_init_545 : decode cX12_init 545 = .ok (.iconst 0, 1) := by decide +kernel
theorem dX12_init_546 : decode cX12_init 546 = .ok (.invokestatic 149, 3) := by decide +kernel
theorem dX12_init_549 : decode cX12_init 549 = .ok (.lastore, 1) := by decide +kernel
theorem dX12_init_550 : decode cX12_init 550 = .ok (.aload_n 0, 1) := by decide +kernel
theorem dX12_init_551 : decode cX12_init 551 = .ok (.getfield 34, 3) := by decide +kernel
theorem dX12_init_554 : decode cX12_init 554 = .ok (.bipush 9, 2) := by decide +kernel
theorem dX12_init_556 : decode cX12_init 556 = .ok (.bipush 116, 2) := by decide +kernel
theorem dX12_init_558 : decode cX12_init 558 = .ok (.bipush 104, 2) := by decide +kernel
theorem dX12_init_560 : decode cX12_init 560 = .ok (.bipush 101, 2) := by decide +kernel
theorem dX12_init_562 : decode cX12_init 562 = .ok (.bipush 110, 2) := by decide +kernel
theorem dX12_init_564 : decode cX12_init 564 = .ok (.iconst 0, 1) := by decide +kernel
theorem dX12_init_565 : decode cX12_init 565 = .ok (.iconst 0, 1) := by decide +kernel
theorem dX12_init_566 : decode cX12_init 566 = .ok (.iconst 0, 1) := by decide +kernel
theorem dX12_init_567 : decode cX12_init 567 = .ok (.invokestatic 149, 3) := by decide +kernel
theorem dX12_init_570 : decode cX12_init 570 = .ok (.lastore, 1) := by decide +kernel
theorem dX12_init_571 : decode cX12_init 571 = .ok (.aload_n 0, 1) := by decide +kernel
theorem dX12_init_572 : decode cX12_init 572 = .ok (.getfield 34, 3) := by decide +kernel
theorem dX12_init_575 : decode cX12_init 575 = .ok (.bipush 10, 2) := by decide +kernel
theorem dX12_init_577 : decode cX12_init 577 = .ok (.bipush 101, 2) := by decide +kernel
theorem dX12_init_579 : decode cX12_init 579 = .ok (.bipush 108, 2) := by decide +kernel
theorem dX12_init_581 : decode cX12_init 581 = .ok (.bipush 115, 2) := by decide +kernel
theorem dX12_init_583 : decode cX12_init 583 = .ok (.bipush 101, 2) := by decide +kernel
theorem dX12_init_585 : decode cX12_init 585 = .ok (.iconst 0, 1) := by decide +kernel
theorem dX12_init_586 : decode cX12_init 586 = .ok (.iconst 0, 1) := by decide +kernel
theorem dX12_init_587 : decode cX12_init 587 = .ok (.iconst 0, 1) := by decide +kernel
theorem dX12_init_588 : decode cX12_init 588 = .ok (.invokestatic 149, 3) := by decide +kernel
theorem dX12_init_591 : decode cX12_init 591 = .ok (.lastore, 1) := by decide +kernel
theorem dX12_init_592 : decode cX12_init 592 = .ok (.aload_n 0, 1) := by decide +kernel
theorem dX12_init_593 : decode cX12_init 593 = .ok (.getfield 34, 3) := by decide +kernel
theorem dX12_init_596 : decode cX12_init 596 = .ok (.bipush 11, 2) := by decide +kernel
theorem dX12_init_598 : decode cX12_init 598 = .ok (.bipush 108, 2) := by decide +kernel
theorem dX12_init_600 : decode cX12_init 600 = .ok (.bipush 111, 2) := by decide +kernel
theorem dX12_init_602 : decode cX12_init 602 = .ok (.bipush 110, 2) := by decide +kernel
theorem dX12_init_604 : decode cX12_init 604 = .ok (.bipush 103, 2) := by decide +kernel
theorem dX12_init_606 : decode cX12_init 606 = .ok (.iconst 0, 1) := by decide +kernel
theorem dX12_init_607 : decode cX12_init 607 = .ok (.iconst 0, 1) := by decide +kernel
theorem dX12_init_608 : decode cX12_init 608 = .ok (.iconst 0, 1) := by decide +kernel
theorem dX12_init_609 : decode cX12_init 609 = .ok (.invokestatic 149, 3) := by decide +kernel
theorem dX12_init_612 : decode cX12_init 612 = .ok (.lastore, 1) := by decide +kernel
theorem dX12_init_613 : decode cX12_init 613 = .ok (.aload_n 0, 1) := by decide +kernel
theorem dX12_init_614 : decode cX12_init 614 = .ok (.getfield 34, 3) := by decide +kernel
theorem dX12_init_617 : decode cX12_init 617 = .ok (.bipush 12, 2) := by decide +kernel
theorem dX12_init_619 : decode cX12_init 619 = .ok (.bipush 116, 2) := by decide +kernel
theorem dX12_init_621 : decode cX12_init 621 = .ok (.bipush 111, 2) := by decide +kernel
theorem dX12_init_623 : decode cX12_init 623 = .ok (.bipush 108, 2) := by decide +kernel
theorem dX12_init_625 : decode cX12_init 625 = .ok (.bipush 100, 2) := by decide +kernel
theorem dX12_init_627 : decode cX12_init 627 = .ok (.iconst 0, 1) := by decide +kernel
theorem dX12_init_628 : decode cX12_init 628 = .ok (.iconst 0, 1) := by decide +kernel
theorem dX12_init_629 : decode cX12_init 629 = .ok (.iconst 0, 1) := by decide +kernel
theorem dX12_init_630 : decode cX12_init 630 = .ok (.invokestatic 149, 3) := by decide +kernel
theorem dX12_init_633 : decode cX12_init 633 = .ok (.lastore, 1) := by decide +kernel
theorem dX12_init_634 : decode cX12_init 634 = .ok (.aload_n 0, 1) := by decide +kernel
theorem dX12_init_635 : decode cX12_init 635 = .ok (.getfield 34, 3) := by decide +kernel
theorem dX12_init_638 : decode cX12_init 638 = .ok (.bipush 13, 2) := by decide +kernel
theorem dX12_init_640 : decode cX12_init 640 = .ok (.bipush 108, 2) := by decide +kernel
theorem dX12_init_642 : decode cX12_init 642 = .ok (.bipush 101, 2) := by decide +kernel
theorem dX12_init_644 : decode cX12_init 644 = .ok (.bipush 118, 2) := by decide +kernel
theorem dX12_init_646 : decode cX12_init 646 = .ok (.bipush 101, 2) := by decide +kernel
theorem dX12_init_648 : decode cX12_init 648 = .ok (.bipush 108, 2) := by decide +kernel
theorem dX12_init_650 : decode cX12_init 650 = .ok (.iconst 0, 1) := by decide +kernel
theorem dX12_init_651 : decode cX12_init 651 = .ok (.iconst 0, 1) := by decide +kernel
theorem dX12_init_652 : decode cX12_init 652 = .ok (.invokestatic 149, 3) := by decide +kernel
theorem dX12_init_655 : decode cX12_init 655 = .ok (.lastore, 1) := by decide +kernel
theorem dX12_init_656 : decode cX12_init 656 = .ok (.aload_n 0, 1) := by decide +kernel
theorem dX12_init_657 : decode cX12_init 657 = .ok (.getfield 34, 3) := by decide +kernel
theorem dX12_init_660 : decode cX12_init 660 = .ok (.bipush 14, 2) := by decide +kernel
theorem dX12_init_662 : decode cX12_init 662 = .ok (.bipush 112, 2) := by decide +kernel
theorem dX12_init_664 : decode cX12_init 664 = .ok (.bipush 108, 2) := by decide +kernel
theorem dX12_init_666 : decode cX12_init 666 = .ok (.bipush 97, 2) := by decide +kernel
theorem dX12_init_668 : decode cX12_init 668 = .ok (.bipush 99, 2) := by decide +kernel
theorem dX12_init_670 : decode cX12_init 670 = .ok (.bipush 101, 2) := by decide +kernel
theorem dX12_init_672 : decode cX12_init 672 = .ok (.iconst 0, 1) := by decide +kernel
theorem dX12_init_673 : decode cX12_init 673 = .ok (.iconst 0, 1) := by decide +kernel
theorem dX12_init_674 : decode cX12_init 674 = .ok (.invokestatic 149, 3) := by decide +kernel
theorem dX12_init_677 : decode cX12_init 677 = .ok (.lastore, 1) := by decide +kernel
theorem dX12_init_678 : decode cX12_init 678 = .ok (.aload_n 0, 1) := by decide +kernel
theorem dX12_init_679 : decode cX12_init 679 = .ok (.getfield 34, 3) := by decide +kernel
theorem dX12_init_682 : decode cX12_init 682 = .ok (.bipush 15, 2) := by decide +kernel
theorem dX12_init_684 : decode cX12_init 684 = .ok (.bipush 97, 2) := by decide +kernel
theorem dX12_init_686 : decode cX12_init 686 = .ok (.bipush 98, 2) := by decide +kernel
theorem dX12_init_688 : decode cX12_init 688 = .ok (.bipush 111, 2) := by decide +kernel
theorem dX12_init_690 : decode cX12_init 690 = .ok (.bipush 118, 2) := by decide +kernel
theorem dX12_init_692 : decode cX12_init 692 = .ok (.bipush 101, 2) := by decide +kernel
theorem dX12_init_694 : decode cX12_init 694 = .ok (.iconst 0, 1) := by decide +kernel
theorem dX12_init_695 : decode cX12_init 695 = .ok (.iconst 0, 1) := by decide +kernel
theorem dX12_init_696 : decode cX12_init 696 = .ok (.invokestatic 149, 3) := by decide +kernel
theorem dX12_init_699 : decode cX12_init 699 = .ok (.lastore, 1) := by decide +kernel
theorem dX12_init_700 : decode cX12_init 700 = .ok (.return_, 1) := by decide +kernel
theorem dX12_feed_0 : decode cX12_feed 0 = .ok (.aload_n 0, 1) := by decide +kernel
theorem dX12_feed_1 : decode cX12_feed 1 = .ok (.getfield 153, 3) := by decide +kernel
theorem dX12_feed_4 : decode cX12_feed 4 = .ok (.bipush 20, 2) := by decide +kernel
theorem dX12_feed_6 : decode cX12_feed 6 = .ok (.iadd, 1) := by decide +kernel
theorem dX12_feed_7 : decode cX12_feed 7 = .ok (.sipush 2000, 3) := by decide +kernel
theorem dX12_feed_10 : decode cX12_feed 10 = .ok (.if_icmp .le 5, 3) := by decide +kernel
theorem dX12_feed_13 : decode cX12_feed 13 = .ok (.iconst (-1), 1) := by decide +kernel
theorem dX12_feed_14 : decode cX12_feed 14 = .ok (.ireturn, 1) := by decide +kernel
theorem dX12_feed_15 : decode cX12_feed 15 = .ok (.aload_n 0, 1) := by decide +kernel
theorem dX12_feed_16 : decode cX12_feed 16 = .ok (.iload_n 1, 1) := by decide +kernel
theorem dX12_feed_17 : decode cX12_feed 17 = .ok (.invokevirtual 156, 3) := by decide +kernel
theorem dX12_feed_20 : decode cX12_feed 20 = .ok (.aload_n 0, 1) := by decide +kernel
theorem dX12_feed_21 : decode cX12_feed 21 = .ok (.iload_n 2, 1) := by decide +kernel
theorem dX12_feed_22 : decode cX12_feed 22 = .ok (.invokevirtual 156, 3) := by decide +kernel
theorem dX12_feed_25 : decode cX12_feed 25 = .ok (.aload_n 0, 1) := by decide +kernel
theorem dX12_feed_26 : decode cX12_feed 26 = .ok (.iload_n 3, 1) := by decide +kernel
theorem dX12_feed_27 : decode cX12_feed 27 = .ok (.invokevirtual 156, 3) := by decide +kernel
theorem dX12_feed_30 : decode cX12_feed 30 = .ok (.aload_n 0, 1) := by decide +kernel
theorem dX12_feed_31 : decode cX12_feed 31 = .ok (.iload 4, 2) := by decide +kernel
theorem dX12_feed_33 : decode cX12_feed 33 = .ok (.invokevirtual 156, 3) := by decide +kernel
theorem dX12_feed_36 : decode cX12_feed 36 = .ok (.aload_n 0, 1) := by decide +kernel
theorem dX12_feed_37 : decode cX12_feed 37 = .ok (.iload 5, 2) := by decide +kernel
theorem dX12_feed_39 : decode cX12_feed 39 = .ok (.invokevirtual 156, 3) := by decide +kernel
theorem dX12_feed_42 : decode cX12_feed 42 = .ok (.aload_n 0, 1) := by decide +kernel
theorem dX12_feed_43 : decode cX12_feed 43 = .ok (.getfield 153, 3) := by decide +kernel
theorem dX12_feed_46 : decode cX12_feed 46 = .ok (.ireturn, 1) := by decide +kernel
theorem dX12_put_0 : decode cX12_put 0 = .ok (.bipush 24, 2) := by decide +kernel
theorem dX12_put_2 : decode cX12_put 2 = .ok (.istore_n 2, 1) := by decide +kernel
theorem dX12_put_3 : decode cX12_put 3 = .ok (.iload_n 2, 1) := by decide +kernel
theorem dX12_put_4 : decode cX12_put 4 = .ok (.ifCond .lt 32, 3) := by decide +kernel
theorem dX12_put_7 : decode cX12_put 7 = .ok (.aload_n 0, 1) := by decide +kernel
theorem dX12_put_8 : decode cX12_put 8 = .ok (.getfield 13, 3) := by decide +kernel
theorem dX12_put_11 : decode cX12_put 11 = .ok (.aload_n 0, 1) := by decide +kernel
theorem dX12_put_12 : decode cX12_put 12 = .ok (.getfield 153, 3) := by decide +kernel
theorem dX12_put_15 : decode cX12_put 15 = .ok (.iload_n 1, 1) := by decide +kernel
theorem dX12_put_16 : decode cX12_put 16 = .ok (.iload_n 2, 1) := by decide +kernel
theorem dX12_put_17 : decode cX12_put 17 = .ok (.ishr, 1) := by decide +kernel
theorem dX12_put_18 : decode cX12_put 18 = .ok (.i2b, 1) := by decide +kernel
theorem dX12_put_19 : decode cX12_put 19 = .ok (.bastore, 1) := by decide +kernel
theorem dX12_put_20 : decode cX12_put 20 = .ok (.aload_n 0, 1) := by decide +kernel
theorem dX12_put_21 : decode cX12_put 21 = .ok (.dup, 1) := by decide +kernel
theorem dX12_put_22 : decode cX12_put 22 = .ok (.getfield 153, 3) := by decide +kernel
theorem dX12_put_25 : decode cX12_put 25 = .ok (.iconst 1, 1) := by decide +kernel
theorem dX12_put_26 : decode cX12_put 26 = .ok (.iadd, 1) := by decide +kernel
theorem dX12_put_27 : decode cX12_put 27 = .ok (.putfield 153, 3) := by decide +kernel
theorem dX12_put_30 : decode cX12_put 30 = .ok (.iinc 2 (-8), 3) := by decide +kernel
theorem dX12_put_33 : decode cX12_put 33 = .ok (.goto (-30), 3) := by decide +kernel
theorem dX12_put_36 : decode cX12_put 36 = .ok (.return_, 1) := by decide +kernel
theorem dX12_back_0 : decode cX12_back 0 = .ok (.iload_n 1, 1) := by decide +kernel
theorem dX12_back_1 : decode cX12_back 1 = .ok (.ifCond .lt 11, 3) := by decide +kernel
theorem dX12_back_4 : decode cX12_back 4 = .ok (.iload_n 1, 1) := by decide +kernel
theorem dX12_back_5 : decode cX12_back 5 = .ok (.aload_n 0, 1) := by decide +kernel
theorem dX12_back_6 : decode cX12_back 6 = .ok (.getfield 153, 3) := by decide +kernel
theorem dX12_back_9 : decode cX12_back 9 = .ok (.if_icmp .le 5, 3) := by decide +kernel
theorem dX12_back_12 : decode cX12_back 12 = .ok (.iconst (-1), 1) := by decide +kernel
theorem dX12_back_13 : decode cX12_back 13 = .ok (.ireturn, 1) := by decide +kernel
theorem dX12_back_14 : decode cX12_back 14 = .ok (.aload_n 0, 1) := by decide +kernel
theorem dX12_back_15 : decode cX12_back 15 = .ok (.dup, 1) := by decide +kernel
theorem dX12_back_16 : decode cX12_back 16 = .ok (.getfield 153, 3) := by decide +kernel
theorem dX12_back_19 : decode cX12_back 19 = .ok (.iload_n 1, 1) := by decide +kernel
theorem dX12_back_20 : decode cX12_back 20 = .ok (.isub, 1) := by decide +kernel
theorem dX12_back_21 : decode cX12_back 21 = .ok (.putfield 153, 3) := by decide +kernel
theorem dX12_back_24 : decode cX12_back 24 = .ok (.aload_n 0, 1) := by decide +kernel
theorem dX12_back_25 : decode cX12_back 25 = .ok (.getfield 153, 3) := by decide +kernel
theorem dX12_back_28 : decode cX12_back 28 = .ok (.ireturn, 1) := by decide +kernel
theorem dX12_byteAt_0 : decode cX12_byteAt 0 = .ok (.iload_n 1, 1) := by decide +kernel
theorem dX12_byteAt_1 : decode cX12_byteAt 1 = .ok (.aload_n 0, 1) := by decide +kernel
theorem dX12_byteAt_2 : decode cX12_byteAt 2 = .ok (.getfield 160, 3) := by decide +kernel
theorem dX12_byteAt_5 : decode cX12_byteAt 5 = .ok (.if_icmp .ge 16, 3) := by decide +kernel
theorem dX12_byteAt_8 : decode cX12_byteAt 8 = .ok (.aload_n 0, 1) := by decide +kernel
theorem dX12_byteAt_9 : decode cX12_byteAt 9 = .ok (.getfield 17, 3) := by decide +kernel
theorem dX12_byteAt_12 : decode cX12_byteAt 12 = .ok (.iload_n 1, 1) := by decide +kernel
theorem dX12_byteAt_13 : decode cX12_byteAt 13 = .ok (.baload, 1) := by decide +kernel
theorem dX12_byteAt_14 : decode cX12_byteAt 14 = .ok (.sipush 255, 3) := by decide +kernel
theorem dX12_byteAt_17 : decode cX12_byteAt 17 = .ok (.iand, 1) := by decide +kernel
theorem dX12_byteAt_18 : decode cX12_byteAt 18 = .ok (.goto 4, 3) := by decide +kernel
theorem dX12_byteAt_21 : decode cX12_byteAt 21 = .ok (.iconst 0, 1) := by decide +kernel
theorem dX12_byteAt_22 : decode cX12_byteAt 22 = .ok (.ireturn, 1) := by decide +kernel
theorem dX12_isDigit_0 : decode cX12_isDigit 0 = .ok (.iload_n 0, 1) := by decide +kernel
theorem dX12_isDigit_1 : decode cX12_isDigit 1 = .ok (.bipush 48, 2) := by decide +kernel
theorem dX12_isDigit_3 : decode cX12_isDigit 3 = .ok (.if_icmp .lt 13, 3) := by decide +kernel
theorem dX12_isDigit_6 : decode cX12_isDigit 6 = .ok (.iload_n 0, 1) := by decide +kernel
theorem dX12_isDigit_7 : decode cX12_isDigit 7 = .ok (.bipush 57, 2) := by decide +kernel
theorem dX12_isDigit_9 : decode cX12_isDigit 9 = .ok (.if_icmp .gt 7, 3) := by decide +kernel
theorem dX12_isDigit_12 : decode cX12_isDigit 12 = .ok (.iconst 1, 1) := by decide +kernel
theorem dX12_isDigit_13 : decode cX12_isDigit 13 = .ok (.goto 4, 3) := by decide +kernel
theorem dX12_isDigit_16 : decode cX12_isDigit 16 = .ok (.iconst 0, 1) := by decide +kernel
theorem dX12_isDigit_17 : decode cX12_isDigit 17 = .ok (.ireturn, 1) := by decide +kernel
theorem dX12_isLetter_0 : decode cX12_isLetter 0 = .ok (.iload_n 0, 1) := by decide +kernel
theorem dX12_isLetter_1 : decode cX12_isLetter 1 = .ok (.bipush 97, 2) := by decide +kernel
theorem dX12_isLetter_3 : decode cX12_isLetter 3 = .ok (.if_icmp .lt 13, 3) := by decide +kernel
theorem dX12_isLetter_6 : decode cX12_isLetter 6 = .ok (.iload_n 0, 1) := by decide +kernel
theorem dX12_isLetter_7 : decode cX12_isLetter 7 = .ok (.bipush 122, 2) := by decide +kernel
theorem dX12_isLetter_9 : decode cX12_isLetter 9 = .ok (.if_icmp .gt 7, 3) := by decide +kernel
theorem dX12_isLetter_12 : decode cX12_isLetter 12 = .ok (.iconst 1, 1) := by decide +kernel
theorem dX12_isLetter_13 : decode cX12_isLetter 13 = .ok (.goto 4, 3) := by decide +kernel
theorem dX12_isLetter_16 : decode cX12_isLetter 16 = .ok (.iconst 0, 1) := by decide +kernel
theorem dX12_isLetter_17 : decode cX12_isLetter 17 = .ok (.ireturn, 1) := by decide +kernel
theorem dX12_appends_0 : decode cX12_appends 0 = .ok (.iload_n 2, 1) := by decide +kernel
theorem dX12_appends_1 : decode cX12_appends 1 = .ok (.ifCond .ne 7, 3) := by decide +kernel
theorem dX12_appends_4 : decode cX12_appends 4 = .ok (.lload_n 0, 1) := by decide +kernel
theorem dX12_appends_5 : decode cX12_appends 5 = .ok (.goto 16, 3) := by decide +kernel
theorem dX12_appends_8 : decode cX12_appends 8 = .ok (.ldc2_w 163, 3) := by decide +kernel
theorem dX12_appends_11 : decode cX12_appends 11 = .ok (.lload_n 0, 1) := by decide +kernel
theorem dX12_appends_12 : decode cX12_appends 12 = .ok (.lmul, 1) := by decide +kernel
theorem dX12_appends_13 : decode cX12_appends 13 = .ok (.iload_n 2, 1) := by decide +kernel
theorem dX12_appends_14 : decode cX12_appends 14 = .ok (.bipush 97, 2) := by decide +kernel
theorem dX12_appends_16 : decode cX12_appends 16 = .ok (.isub, 1) := by decide +kernel
theorem dX12_appends_17 : decode cX12_appends 17 = .ok (.iconst 1, 1) := by decide +kernel
theorem dX12_appends_18 : decode cX12_appends 18 = .ok (.iadd, 1) := by decide +kernel
theorem dX12_appends_19 : decode cX12_appends 19 = .ok (.i2l, 1) := by decide +kernel
theorem dX12_appends_20 : decode cX12_appends 20 = .ok (.ladd, 1) := by decide +kernel
theorem dX12_appends_21 : decode cX12_appends 21 = .ok (.lreturn, 1) := by decide +kernel
theorem dX12_word_0 : decode cX12_word 0 = .ok (.lconst 0, 1) := by decide +kernel
theorem dX12_word_1 : decode cX12_word 1 = .ok (.iload_n 0, 1) := by decide +kernel
theorem dX12_word_2 : decode cX12_word 2 = .ok (.invokestatic 165, 3) := by decide +kernel
theorem dX12_word_5 : decode cX12_word 5 = .ok (.iload_n 1, 1) := by decide +kernel
theorem dX12_word_6 : decode cX12_word 6 = .ok (.invokestatic 165, 3) := by decide +kernel
theorem dX12_word_9 : decode cX12_word 9 = .ok (.iload_n 2, 1) := by decide +kernel
theorem dX12_word_10 : decode cX12_word 10 = .ok (.invokestatic 165, 3) := by decide +kernel
theorem dX12_word_13 : decode cX12_word 13 = .ok (.iload_n 3, 1) := by decide +kernel
theorem dX12_word_14 : decode cX12_word 14 = .ok (.invokestatic 165, 3) := by decide +kernel
theorem dX12_word_17 : decode cX12_word 17 = .ok (.iload 4, 2) := by decide +kernel
theorem dX12_word_19 : decode cX12_word 19 = .ok (.invokestatic 165, 3) := by decide +kernel
theorem dX12_word_22 : decode cX12_word 22 = .ok (.iload 5, 2) := by decide +kernel
theorem dX12_word_24 : decode cX12_word 24 = .ok (.invokestatic 165, 3) := by decide +kernel
theorem dX12_word_27 : decode cX12_word 27 = .ok (.iload 6, 2) := by decide +kernel
theorem dX12_word_29 : decode cX12_word 29 = .ok (.invokestatic 165, 3) := by decide +kernel
theorem dX12_word_32 : decode cX12_word 32 = .ok (.lreturn, 1) := by decide +kernel
theorem dX12_token_0 : decode cX12_token 0 = .ok (.aload_n 0, 1) := by decide +kernel
theorem dX12_token_1 : decode cX12_token 1 = .ok (.getfield 20, 3) := by decide +kernel
theorem dX12_token_4 : decode cX12_token 4 = .ok (.aload_n 0, 1) := by decide +kernel
theorem dX12_token_5 : decode cX12_token 5 = .ok (.getfield 169, 3) := by decide +kernel
theorem dX12_token_8 : decode cX12_token 8 = .ok (.iload_n 1, 1) := by decide +kernel
theorem dX12_token_9 : decode cX12_token 9 = .ok (.iastore, 1) := by decide +kernel
theorem dX12_token_10 : decode cX12_token 10 = .ok (.aload_n 0, 1) := by decide +kernel
theorem dX12_token_11 : decode cX12_token 11 = .ok (.getfield 24, 3) := by decide +kernel
theorem dX12_token_14 : decode cX12_token 14 = .ok (.aload_n 0, 1) := by decide +kernel
theorem dX12_token_15 : decode cX12_token 15 = .ok (.getfield 169, 3) := by decide +kernel
theorem dX12_token_18 : decode cX12_token 18 = .ok (.iload_n 2, 1) := by decide +kernel
theorem dX12_token_19 : decode cX12_token 19 = .ok (.iastore, 1) := by decide +kernel
theorem dX12_token_20 : decode cX12_token 20 = .ok (.aload_n 0, 1) := by decide +kernel
theorem dX12_token_21 : decode cX12_token 21 = .ok (.getfield 27, 3) := by decide +kernel
theorem dX12_token_24 : decode cX12_token 24 = .ok (.aload_n 0, 1) := by decide +kernel
theorem dX12_token_25 : decode cX12_token 25 = .ok (.getfield 169, 3) := by decide +kernel
theorem dX12_token_28 : decode cX12_token 28 = .ok (.iload_n 3, 1) := by decide +kernel
theorem dX12_token_29 : decode cX12_token 29 = .ok (.iastore, 1) := by decide +kernel
theorem dX12_token_30 : decode cX12_token 30 = .ok (.aload_n 0, 1) := by decide +kernel
theorem dX12_token_31 : decode cX12_token 31 = .ok (.getfield 30, 3) := by decide +kernel
theorem dX12_token_34 : decode cX12_token 34 = .ok (.aload_n 0, 1) := by decide +kernel
theorem dX12_token_35 : decode cX12_token 35 = .ok (.getfield 169, 3) := by decide +kernel
theorem dX12_token_38 : decode cX12_token 38 = .ok (.lload 4, 2) := by decide +kernel
theorem dX12_token_40 : decode cX12_token 40 = .ok (.lastore, 1) := by decide +kernel
theorem dX12_token_41 : decode cX12_token 41 = .ok (.aload_n 0, 1) := by decide +kernel
theorem dX12_token_42 : decode cX12_token 42 = .ok (.dup, 1) := by decide +kernel
theorem dX12_token_43 : decode cX12_token 43 = .ok (.getfield 169, 3) := by decide +kernel
theorem dX12_token_46 : decode cX12_token 46 = .ok (.iconst 1, 1) := by decide +kernel
theorem dX12_token_47 : decode cX12_token 47 = .ok (.iadd, 1) := by decide +kernel
theorem dX12_token_48 : decode cX12_token 48 = .ok (.putfield 169, 3) := by decide +kernel
theorem dX12_token_51 : decode cX12_token 51 = .ok (.return_, 1) := by decide +kernel
theorem dX12_cut_0 : decode cX12_cut 0 = .ok (.aload_n 0, 1) := by decide +kernel
theorem dX12_cut_1 : decode cX12_cut 1 = .ok (.iconst 0, 1) := by decide +kernel
theorem dX12_cut_2 : decode cX12_cut 2 = .ok (.putfield 169, 3) := by decide +kernel
theorem dX12_cut_5 : decode cX12_cut 5 = .ok (.iconst 0, 1) := by decide +kernel
theorem dX12_cut_6 : decode cX12_cut 6 = .ok (.istore_n 1, 1) := by decide +kernel
theorem dX12_cut_7 : decode cX12_cut 7 = .ok (.aload_n 0, 1) := by decide +kernel
theorem dX12_cut_8 : decode cX12_cut 8 = .ok (.getfield 169, 3) := by decide +kernel
theorem dX12_cut_11 : decode cX12_cut 11 = .ok (.sipush 400, 3) := by decide +kernel
theorem dX12_cut_14 : decode cX12_cut 14 = .ok (.if_icmp .gt 280, 3) := by decide +kernel
theorem dX12_cut_17 : decode cX12_cut 17 = .ok (.aload_n 0, 1) := by decide +kernel
theorem dX12_cut_18 : decode cX12_cut 18 = .ok (.iload_n 1, 1) := by decide +kernel
theorem dX12_cut_19 : decode cX12_cut 19 = .ok (.invokevirtual 172, 3) := by decide +kernel
theorem dX12_cut_22 : decode cX12_cut 22 = .ok (.istore_n 2, 1) := by decide +kernel
theorem dX12_cut_23 : decode cX12_cut 23 = .ok (.iload_n 1, 1) := by decide +kernel
theorem dX12_cut_24 : decode cX12_cut 24 = .ok (.aload_n 0, 1) := by decide +kernel
theorem dX12_cut_25 : decode cX12_cut 25 = .ok (.getfield 160, 3) := by decide +kernel
theorem dX12_cut_28 : decode cX12_cut 28 = .ok (.if_icmp .lt 15, 3) := by decide +kernel
theorem dX12_cut_31 : decode cX12_cut 31 = .ok (.aload_n 0, 1) := by decide +kernel
theorem dX12_cut_32 : decode cX12_cut 32 = .ok (.iconst 0, 1) := by decide +kernel
theorem dX12_cut_33 : decode cX12_cut 33 = .ok (.aload_n 0, 1) := by decide +kernel
theorem dX12_cut_34 : decode cX12_cut 34 = .ok (.getfield 160, 3) := by decide +kernel
theorem dX12_cut_37 : decode cX12_cut 37 = .ok (.iconst 0, 1) := by decide +kernel
theorem dX12_cut_38 : decode cX12_cut 38 = .ok (.lconst 0, 1) := by decide +kernel
theorem dX12_cut_39 : decode cX12_cut 39 = .ok (.invokevirtual 176, 3) := by decide +kernel
theorem dX12_cut_42 : decode cX12_cut 42 = .ok (.return_, 1) := by decide +kernel
theorem dX12_cut_43 : decode cX12_cut 43 = .ok (.iload_n 2, 1) := by decide +kernel
theorem dX12_cut_44 : decode cX12_cut 44 = .ok (.bipush 9, 2) := by decide +kernel
theorem dX12_cut_46 : decode cX12_cut 46 = .ok (.if_icmp .eq 21, 3) := by decide +kernel
theorem dX12_cut_49 : decode cX12_cut 49 = .ok (.iload_n 2, 1) := by decide +kernel
theorem dX12_cut_50 : decode cX12_cut 50 = .ok (.bipush 10, 2) := by decide +kernel
theorem dX12_cut_52 : decode cX12_cut 52 = .ok (.if_icmp .eq 15, 3) := by decide +kernel
theorem dX12_cut_55 : decode cX12_cut 55 = .ok (.iload_n 2, 1) := by decide +kernel
theorem dX12_cut_56 : decode cX12_cut 56 = .ok (.bipush 13, 2) := by decide +kernel
theorem dX12_cut_58 : decode cX12_cut 58 = .ok (.if_icmp .eq 9, 3) := by decide +kernel
theorem dX12_cut_61 : decode cX12_cut 61 = .ok (.iload_n 2, 1) := by decide +kernel
theorem dX12_cut_62 : decode cX12_cut 62 = .ok (.bipush 32, 2) := by decide +kernel
theorem dX12_cut_64 : decode cX12_cut 64 = .ok (.if_icmp .ne 9, 3) := by decide +kernel
theorem dX12_cut_67 : decode cX12_cut 67 = .ok (.iinc 1 1, 3) := by decide +kernel
theorem dX12_cut_70 : decode cX12_cut 70 = .ok (.goto 221, 3) := by decide +kernel
theorem dX12_cut_73 : decode cX12_cut 73 = .ok (.iload_n 2, 1) := by decide +kernel
theorem dX12_cut_74 : decode cX12_cut 74 = .ok (.invokestatic 180, 3) := by decide +kernel
theorem dX12_cut_77 : decode cX12_cut 77 = .ok (.ifCond .eq 119, 3) := by decide +kernel
theorem dX12_cut_80 : decode cX12_cut 80 = .ok (.iconst 0, 1) := by decide +kernel
theorem dX12_cut_81 : decode cX12_cut 81 = .ok (.istore_n 3, 1) := by decide +kernel
theorem dX12_cut_82 : decode cX12_cut 82 = .ok (.lconst 0, 1) := by decide +kernel
theorem dX12_cut_83 : decode cX12_cut 83 = .ok (.lstore 4, 2) := by decide +kernel
theorem dX12_cut_85 : decode cX12_cut 85 = .ok (.aload_n 0, 1) := by decide +kernel
theorem dX12_cut_86 : decode cX12_cut 86 = .ok (.iload_n 1, 1) := by decide +kernel
theorem dX12_cut_87 : decode cX12_cut 87 = .ok (.iload_n 3, 1) := by decide +kernel
theorem dX12_cut_88 : decode cX12_cut 88 = .ok (.iadd, 1) := by decide +kernel
theorem dX12_cut_89 : decode cX12_cut 89 = .ok (.invokevirtual 172, 3) := by decide +kernel
theorem dX12_cut_92 : decode cX12_cut 92 = .ok (.invokestatic 180, 3) := by decide +kernel
theorem dX12_cut_95 : decode cX12_cut 95 = .ok (.ifCond .eq 29, 3) := by decide +kernel
theorem dX12_cut_98 : decode cX12_cut 98 = .ok (.iload_n 3, 1) := by decide +kernel
theorem dX12_cut_99 : decode cX12_cut 99 = .ok (.bipush 8, 2) := by decide +kernel
theorem dX12_cut_101 : decode cX12_cut 101 = .ok (.if_icmp .ge 17, 3) := by decide +kernel
theorem dX12_cut_104 : decode cX12_cut 104 = .ok (.lload 4, 2) := by decide +kernel
theorem dX12_cut_106 : decode cX12_cut 106 = .ok (.aload_n 0, 1) := by decide +kernel
theorem dX12_cut_107 : decode cX12_cut 107 = .ok (.iload_n 1, 1) := by decide +kernel
theorem dX12_cut_108 : decode cX12_cut 108 = .ok (.iload_n 3, 1) := by decide +kernel
theorem dX12_cut_109 : decode cX12_cut 109 = .ok (.iadd, 1) := by decide +kernel
theorem dX12_cut_110 : decode cX12_cut 110 = .ok (.invokevirtual 172, 3) := by decide +kernel
theorem dX12_cut_113 : decode cX12_cut 113 = .ok (.invokestatic 165, 3) := by decide +kernel
theorem dX12_cut_116 : decode cX12_cut 116 = .ok (.lstore 4, 2) := by decide +kernel
theorem dX12_cut_118 : decode cX12_cut 118 = .ok (.iinc 3 1, 3) := by decide +kernel
theorem dX12_cut_121 : decode cX12_cut 121 = .ok (.goto (-36), 3) := by decide +kernel
theorem dX12_cut_124 : decode cX12_cut 124 = .ok (.iload_n 3, 1) := by decide +kernel
theorem dX12_cut_125 : decode cX12_cut 125 = .ok (.bipush 8, 2) := by decide +kernel
theorem dX12_cut_127 : decode cX12_cut 127 = .ok (.if_icmp .le 7, 3) := by decide +kernel
theorem dX12_cut_130 : decode cX12_cut 130 = .ok (.iconst 3, 1) := by decide +kernel
theorem dX12_cut_131 : decode cX12_cut 131 = .ok (.goto 4, 3) := by decide +kernel
theorem dX12_cut_134 : decode cX12_cut 134 = .ok (.iconst 1, 1) := by decide +kernel
theorem dX12_cut_135 : decode cX12_cut 135 = .ok (.istore 6, 2) := by decide +kernel
theorem dX12_cut_137 : decode cX12_cut 137 = .ok (.iload_n 3, 1) := by decide +kernel
theorem dX12_cut_138 : decode cX12_cut 138 = .ok (.bipush 7, 2) := by decide +kernel
theorem dX12_cut_140 : decode cX12_cut 140 = .ok (.if_icmp .gt 39, 3) := by decide +kernel
theorem dX12_cut_143 : decode cX12_cut 143 = .ok (.iconst 0, 1) := by decide +kernel
theorem dX12_cut_144 : decode cX12_cut 144 = .ok (.istore 7, 2) := by decide +kernel
theorem dX12_cut_146 : decode cX12_cut 146 = .ok (.iload 7, 2) := by decide +kernel
theorem dX12_cut_148 : decode cX12_cut 148 = .ok (.bipush 16, 2) := by decide +kernel
theorem dX12_cut_150 : decode cX12_cut 150 = .ok (.if_icmp .ge 29, 3) := by decide +kernel
theorem dX12_cut_153 : decode cX12_cut 153 = .ok (.aload_n 0, 1) := by decide +kernel
theorem dX12_cut_154 : decode cX12_cut 154 = .ok (.getfield 34, 3) := by decide +kernel
theorem dX12_cut_157 : decode cX12_cut 157 = .ok (.iload 7, 2) := by decide +kernel
theorem dX12_cut_159 : decode cX12_cut 159 = .ok (.laload, 1) := by decide +kernel
theorem dX12_cut_160 : decode cX12_cut 160 = .ok (.lload 4, 2) := by decide +kernel
theorem dX12_cut_162 : decode cX12_cut 162 = .ok (.lcmp, 1) := by decide +kernel
theorem dX12_cut_163 : decode cX12_cut 163 = .ok (.ifCond .ne 10, 3) := by decide +kernel
theorem dX12_cut_166 : decode cX12_cut 166 = .ok (.bipush 20, 2) := by decide +kernel
theorem dX12_cut_168 : decode cX12_cut 168 = .ok (.iload 7, 2) := by decide +kernel
theorem dX12_cut_170 : decode cX12_cut 170 = .ok (.iadd, 1) := by decide +kernel
theorem dX12_cut_171 : decode cX12_cut 171 = .ok (.istore 6, 2) := by decide +kernel
theorem dX12_cut_173 : decode cX12_cut 173 = .ok (.iinc 7 1, 3) := by decide +kernel
theorem dX12_cut_176 : decode cX12_cut 176 = .ok (.goto (-30), 3) := by decide +kernel
theorem dX12_cut_179 : decode cX12_cut 179 = .ok (.aload_n 0, 1) := by decide +kernel
theorem dX12_cut_180 : decode cX12_cut 180 = .ok (.iload 6, 2) := by decide +kernel
theorem dX12_cut_182 : decode cX12_cut 182 = .ok (.iload_n 1, 1) := by decide +kernel
theorem dX12_cut_183 : decode cX12_cut 183 = .ok (.iconst 0, 1) := by decide +kernel
theorem dX12_cut_184 : decode cX12_cut 184 = .ok (.lload 4, 2) := by decide +kernel
theorem dX12_cut_186 : decode cX12_cut 186 = .ok (.invokevirtual 176, 3) := by decide +kernel
theorem dX12_cut_189 : decode cX12_cut 189 = .ok (.iload_n 1, 1) := by decide +kernel
theorem dX12_cut_190 : decode cX12_cut 190 = .ok (.iload_n 3, 1) := by decide +kernel
theorem dX12_cut_191 : decode cX12_cut 191 = .ok (.iadd, 1) := by decide +kernel
theorem dX12_cut_192 : decode cX12_cut 192 = .ok (.istore_n 1, 1) := by decide +kernel
theorem dX12_cut_193 : decode cX12_cut 193 = .ok (.goto 98, 3) := by decide +kernel
theorem dX12_cut_196 : decode cX12_cut 196 = .ok (.iload_n 2, 1) := by decide +kernel
theorem dX12_cut_197 : decode cX12_cut 197 = .ok (.invokestatic 184, 3) := by decide +kernel
theorem dX12_cut_200 : decode cX12_cut 200 = .ok (.ifCond .eq 75, 3) := by decide +kernel
theorem dX12_cut_203 : decode cX12_cut 203 = .ok (.iconst 0, 1) := by decide +kernel
theorem dX12_cut_204 : decode cX12_cut 204 = .ok (.istore_n 3, 1) := by decide +kernel
theorem dX12_cut_205 : decode cX12_cut 205 = .ok (.iconst 0, 1) := by decide +kernel
theorem dX12_cut_206 : decode cX12_cut 206 = .ok (.istore 4, 2) := by decide +kernel
theorem dX12_cut_208 : decode cX12_cut 208 = .ok (.aload_n 0, 1) := by decide +kernel
theorem dX12_cut_209 : decode cX12_cut 209 = .ok (.iload_n 1, 1) := by decide +kernel
theorem dX12_cut_210 : decode cX12_cut 210 = .ok (.iload_n 3, 1) := by decide +kernel
theorem dX12_cut_211 : decode cX12_cut 211 = .ok (.iadd, 1) := by decide +kernel
theorem dX12_cut_212 : decode cX12_cut 212 = .ok (.invokevirtual 172, 3) := by decide +kernel
theorem dX12_cut_215 : decode cX12_cut 215 = .ok (.invokestatic 184, 3) := by decide +kernel
theorem dX12_cut_218 : decode cX12_cut 218 = .ok (.ifCond .eq 32, 3) := by decide +kernel
theorem dX12_cut_221 : decode cX12_cut 221 = .ok (.iload_n 3, 1) := by decide +kernel
theorem dX12_cut_222 : decode cX12_cut 222 = .ok (.iconst 4, 1) := by decide +kernel
theorem dX12_cut_223 : decode cX12_cut 223 = .ok (.if_icmp .ge 21, 3) := by decide +kernel
theorem dX12_cut_226 : decode cX12_cut 226 = .ok (.bipush 10, 2) := by decide +kernel
theorem dX12_cut_228 : decode cX12_cut 228 = .ok (.iload 4, 2) := by decide +kernel
theorem dX12_cut_230 : decode cX12_cut 230 = .ok (.imul, 1) := by decide +kernel
theorem dX12_cut_231 : decode cX12_cut 231 = .ok (.aload_n 0, 1) := by decide +kernel
theorem dX12_cut_232 : decode cX12_cut 232 = .ok (.iload_n 1, 1) := by decide +kernel
theorem dX12_cut_233 : decode cX12_cut 233 = .ok (.iload_n 3, 1) := by decide +kernel
theorem dX12_cut_234 : decode cX12_cut 234 = .ok (.iadd, 1) := by decide +kernel
theorem dX12_cut_235 : decode cX12_cut 235 = .ok (.invokevirtual 172, 3) := by decide +kernel
theorem dX12_cut_238 : decode cX12_cut 238 = .ok (.iadd, 1) := by decide +kernel
theorem dX12_cut_239 : decode cX12_cut 239 = .ok (.bipush 48, 2) := by decide +kernel
theorem dX12_cut_241 : decode cX12_cut 241 = .ok (.isub, 1) := by decide +kernel
theorem dX12_cut_242 : decode cX12_cut 242 = .ok (.istore 4, 2) := by decide +kernel
theorem dX12_cut_244 : decode cX12_cut 244 = .ok (.iinc 3 1, 3) := by decide +kernel
theorem dX12_cut_247 : decode cX12_cut 247 = .ok (.goto (-39), 3) := by decide +kernel
theorem dX12_cut_250 : decode cX12_cut 250 = .ok (.aload_n 0, 1) := by decide +kernel
theorem dX12_cut_251 : decode cX12_cut 251 = .ok (.iload_n 3, 1) := by decide +kernel
theorem dX12_cut_252 : decode cX12_cut 252 = .ok (.iconst 4, 1) := by decide +kernel
theorem dX12_cut_253 : decode cX12_cut 253 = .ok (.if_icmp .le 7, 3) := by decide +kernel
theorem dX12_cut_256 : decode cX12_cut 256 = .ok (.iconst 3, 1) := by decide +kernel
theorem dX12_cut_257 : decode cX12_cut 257 = .ok (.goto 4, 3) := by decide +kernel
theorem dX12_cut_260 : decode cX12_cut 260 = .ok (.iconst 2, 1) := by decide +kernel
theorem dX12_cut_261 : decode cX12_cut 261 = .ok (.iload_n 1, 1) := by decide +kernel
theorem dX12_cut_262 : decode cX12_cut 262 = .ok (.iload 4, 2) := by decide +kernel
theorem dX12_cut_264 : decode cX12_cut 264 = .ok (.lconst 0, 1) := by decide +kernel
theorem dX12_cut_265 : decode cX12_cut 265 = .ok (.invokevirtual 176, 3) := by decide +kernel
theorem dX12_cut_268 : decode cX12_cut 268 = .ok (.iload_n 1, 1) := by decide +kernel
theorem dX12_cut_269 : decode cX12_cut 269 = .ok (.iload_n 3, 1) := by decide +kernel
theorem dX12_cut_270 : decode cX12_cut 270 = .ok (.iadd, 1) := by decide +kernel
theorem dX12_cut_271 : decode cX12_cut 271 = .ok (.istore_n 1, 1) := by decide +kernel
theorem dX12_cut_272 : decode cX12_cut 272 = .ok (.goto 19, 3) := by decide +kernel
theorem dX12_cut_275 : decode cX12_cut 275 = .ok (.iload_n 1, 1) := by decide +kernel
theorem dX12_cut_276 : decode cX12_cut 276 = .ok (.aload_n 0, 1) := by decide +kernel
theorem dX12_cut_277 : decode cX12_cut 277 = .ok (.iload_n 1, 1) := by decide +kernel
theorem dX12_cut_278 : decode cX12_cut 278 = .ok (.iload_n 2, 1) := by decide +kernel
theorem dX12_cut_279 : decode cX12_cut 279 = .ok (.aload_n 0, 1) := by decide +kernel
theorem dX12_cut_280 : decode cX12_cut 280 = .ok (.iload_n 1, 1) := by decide +kernel
theorem dX12_cut_281 : decode cX12_cut 281 = .ok (.iconst 1, 1) := by decide +kernel
theorem dX12_cut_282 : decode cX12_cut 282 = .ok (.iadd, 1) := by decide +kernel
theorem dX12_cut_283 : decode cX12_cut 283 = .ok (.invokevirtual 172, 3) := by decide +kernel
theorem dX12_cut_286 : decode cX12_cut 286 = .ok (.invokevirtual 187, 3) := by decide +kernel
theorem dX12_cut_289 : decode cX12_cut 289 = .ok (.iadd, 1) := by decide +kernel
theorem dX12_cut_290 : decode cX12_cut 290 = .ok (.istore_n 1, 1) := by decide +kernel
theorem dX12_cut_291 : decode cX12_cut 291 = .ok (.goto (-284), 3) := by decide +kernel
theorem dX12_cut_294 : decode cX12_cut 294 = .ok (.return_, 1) := by decide +kernel
theorem dX12_sign_0 : decode cX12_sign 0 = .ok (.iload_n 2, 1) := by decide +kernel
theorem dX12_sign_1 : decode cX12_sign 1 = .ok (.bipush 59, 2) := by decide +kernel
theorem dX12_sign_3 : decode cX12_sign 3 = .ok (.if_icmp .ne 7, 3) := by decide +kernel
theorem dX12_sign_6 : decode cX12_sign 6 = .ok (.iconst 4, 1) := by decide +kernel
theorem dX12_sign_7 : decode cX12_sign 7 = .ok (.goto 36, 3) := by decide +kernel
theorem dX12_sign_10 : decode cX12_sign 10 = .ok (.iload_n 2, 1) := by decide +kernel
theorem dX12_sign_11 : decode cX12_sign 11 = .ok (.bipush 61, 2) := by decide +kernel
theorem dX12_sign_13 : decode cX12_sign 13 = .ok (.if_icmp .ne 7, 3) := by decide +kernel
theorem dX12_sign_16 : decode cX12_sign 16 = .ok (.iconst 5, 1) := by decide +kernel
theorem dX12_sign_17 : decode cX12_sign 17 = .ok (.goto 26, 3) := by decide +kernel
theorem dX12_sign_20 : decode cX12_sign 20 = .ok (.iload_n 2, 1) := by decide +kernel
theorem dX12_sign_21 : decode cX12_sign 21 = .ok (.bipush 40, 2) := by decide +kernel
theorem dX12_sign_23 : decode cX12_sign 23 = .ok (.if_icmp .ne 8, 3) := by decide +kernel
theorem dX12_sign_26 : decode cX12_sign 26 = .ok (.bipush 6, 2) := by decide +kernel
theorem dX12_sign_28 : decode cX12_sign 28 = .ok (.goto 15, 3) := by decide +kernel
theorem dX12_sign_31 : decode cX12_sign 31 = .ok (.iload_n 2, 1) := by decide +kernel
theorem dX12_sign_32 : decode cX12_sign 32 = .ok (.bipush 41, 2) := by decide +kernel
theorem dX12_sign_34 : decode cX12_sign 34 = .ok (.if_icmp .ne 8, 3) := by decide +kernel
theorem dX12_sign_37 : decode cX12_sign 37 = .ok (.bipush 7, 2) := by decide +kernel
theorem dX12_sign_39 : decode cX12_sign 39 = .ok (.goto 4, 3) := by decide +kernel
theorem dX12_sign_42 : decode cX12_sign 42 = .ok (.iconst 3, 1) := by decide +kernel
theorem dX12_sign_43 : decode cX12_sign 43 = .ok (.istore 4, 2) := by decide +kernel
theorem dX12_sign_45 : decode cX12_sign 45 = .ok (.iload_n 2, 1) := by decide +kernel
theorem dX12_sign_46 : decode cX12_sign 46 = .ok (.bipush 43, 2) := by decide +kernel
theorem dX12_sign_48 : decode cX12_sign 48 = .ok (.if_icmp .ne 7, 3) := by decide +kernel
theorem dX12_sign_51 : decode cX12_sign 51 = .ok (.bipush 8, 2) := by decide +kernel
theorem dX12_sign_53 : decode cX12_sign 53 = .ok (.istore 4, 2) := by decide +kernel
theorem dX12_sign_55 : decode cX12_sign 55 = .ok (.iload_n 2, 1) := by decide +kernel
theorem dX12_sign_56 : decode cX12_sign 56 = .ok (.bipush 45, 2) := by decide +kernel
theorem dX12_sign_58 : decode cX12_sign 58 = .ok (.if_icmp .ne 7, 3) := by decide +kernel
theorem dX12_sign_61 : decode cX12_sign 61 = .ok (.bipush 9, 2) := by decide +kernel
theorem dX12_sign_63 : decode cX12_sign 63 = .ok (.istore 4, 2) := by decide +kernel
theorem dX12_sign_65 : decode cX12_sign 65 = .ok (.iload_n 2, 1) := by decide +kernel
theorem dX12_sign_66 : decode cX12_sign 66 = .ok (.bipush 42, 2) := by decide +kernel
theorem dX12_sign_68 : decode cX12_sign 68 = .ok (.if_icmp .ne 7, 3) := by decide +kernel
theorem dX12_sign_71 : decode cX12_sign 71 = .ok (.bipush 10, 2) := by decide +kernel
theorem dX12_sign_73 : decode cX12_sign 73 = .ok (.istore 4, 2) := by decide +kernel
theorem dX12_sign_75 : decode cX12_sign 75 = .ok (.iload_n 2, 1) := by decide +kernel
theorem dX12_sign_76 : decode cX12_sign 76 = .ok (.bipush 47, 2) := by decide +kernel
theorem dX12_sign_78 : decode cX12_sign 78 = .ok (.if_icmp .ne 7, 3) := by decide +kernel
theorem dX12_sign_81 : decode cX12_sign 81 = .ok (.bipush 15, 2) := by decide +kernel
theorem dX12_sign_83 : decode cX12_sign 83 = .ok (.istore 4, 2) := by decide +kernel
theorem dX12_sign_85 : decode cX12_sign 85 = .ok (.iload_n 2, 1) := by decide +kernel
theorem dX12_sign_86 : decode cX12_sign 86 = .ok (.bipush 60, 2) := by decide +kernel
theorem dX12_sign_88 : decode cX12_sign 88 = .ok (.if_icmp .ne 7, 3) := by decide +kernel
theorem dX12_sign_91 : decode cX12_sign 91 = .ok (.bipush 13, 2) := by decide +kernel
theorem dX12_sign_93 : decode cX12_sign 93 = .ok (.istore 4, 2) := by decide +kernel
theorem dX12_sign_95 : decode cX12_sign 95 = .ok (.aload_n 0, 1) := by decide +kernel
theorem dX12_sign_96 : decode cX12_sign 96 = .ok (.iload 4, 2) := by decide +kernel
theorem dX12_sign_98 : decode cX12_sign 98 = .ok (.iload_n 1, 1) := by decide +kernel
theorem dX12_sign_99 : decode cX12_sign 99 = .ok (.iconst 0, 1) := by decide +kernel
theorem dX12_sign_100 : decode cX12_sign 100 = .ok (.lconst 0, 1) := by decide +kernel
theorem dX12_sign_101 : decode cX12_sign 101 = .ok (.invokevirtual 176, 3) := by decide +kernel
theorem dX12_sign_104 : decode cX12_sign 104 = .ok (.iconst 1, 1) := by decide +kernel
theorem dX12_sign_105 : decode cX12_sign 105 = .ok (.ireturn, 1) := by decide +kernel
theorem dX12_is_0 : decode cX12_is 0 = .ok (.aload_n 0, 1) := by decide +kernel
theorem dX12_is_1 : decode cX12_is 1 = .ok (.getfield 191, 3) := by decide +kernel
theorem dX12_is_4 : decode cX12_is 4 = .ok (.ifCond .ne 20, 3) := by decide +kernel
theorem dX12_is_7 : decode cX12_is 7 = .ok (.aload_n 0, 1) := by decide +kernel
theorem dX12_is_8 : decode cX12_is 8 = .ok (.getfield 20, 3) := by decide +kernel
theorem dX12_is_11 : decode cX12_is 11 = .ok (.aload_n 0, 1) := by decide +kernel
theorem dX12_is_12 : decode cX12_is 12 = .ok (.getfield 194, 3) := by decide +kernel
theorem dX12_is_15 : decode cX12_is 15 = .ok (.iaload, 1) := by decide +kernel
theorem dX12_is_16 : decode cX12_is 16 = .ok (.iload_n 1, 1) := by decide +kernel
theorem dX12_is_17 : decode cX12_is 17 = .ok (.if_icmp .ne 7, 3) := by decide +kernel
theorem dX12_is_20 : decode cX12_is 20 = .ok (.iconst 1, 1) := by decide +kernel
theorem dX12_is_21 : decode cX12_is 21 = .ok (.goto 4, 3) := by decide +kernel
theorem dX12_is_24 : decode cX12_is 24 = .ok (.iconst 0, 1) := by decide +kernel
theorem dX12_is_25 : decode cX12_is 25 = .ok (.ireturn, 1) := by decide +kernel
theorem dX12_fail_0 : decode cX12_fail 0 = .ok (.aload_n 0, 1) := by decide +kernel
theorem dX12_fail_1 : decode cX12_fail 1 = .ok (.getfield 191, 3) := by decide +kernel
theorem dX12_fail_4 : decode cX12_fail 4 = .ok (.ifCond .le 4, 3) := by decide +kernel
theorem dX12_fail_7 : decode cX12_fail 7 = .ok (.return_, 1) := by decide +kernel
theorem dX12_fail_8 : decode cX12_fail 8 = .ok (.aload_n 0, 1) := by decide +kernel
theorem dX12_fail_9 : decode cX12_fail 9 = .ok (.iload_n 1, 1) := by decide +kernel
theorem dX12_fail_10 : decode cX12_fail 10 = .ok (.putfield 191, 3) := by decide +kernel
theorem dX12_fail_13 : decode cX12_fail 13 = .ok (.aload_n 0, 1) := by decide +kernel
theorem dX12_fail_14 : decode cX12_fail 14 = .ok (.aload_n 0, 1) := by decide +kernel
theorem dX12_fail_15 : decode cX12_fail 15 = .ok (.getfield 24, 3) := by decide +kernel
theorem dX12_fail_18 : decode cX12_fail 18 = .ok (.aload_n 0, 1) := by decide +kernel
theorem dX12_fail_19 : decode cX12_fail 19 = .ok (.getfield 194, 3) := by decide +kernel
theorem dX12_fail_22 : decode cX12_fail 22 = .ok (.iaload, 1) := by decide +kernel
theorem dX12_fail_23 : decode cX12_fail 23 = .ok (.putfield 197, 3) := by decide +kernel
theorem dX12_fail_26 : decode cX12_fail 26 = .ok (.return_, 1) := by decide +kernel
theorem dX12_wrong_0 : decode cX12_wrong 0 = .ok (.aload_n 0, 1) := by decide +kernel
theorem dX12_wrong_1 : decode cX12_wrong 1 = .ok (.getfield 24, 3) := by decide +kernel
theorem dX12_wrong_4 : decode cX12_wrong 4 = .ok (.iload_n 2, 1) := by decide +kernel
theorem dX12_wrong_5 : decode cX12_wrong 5 = .ok (.iaload, 1) := by decide +kernel
theorem dX12_wrong_6 : decode cX12_wrong 6 = .ok (.istore_n 3, 1) := by decide +kernel
theorem dX12_wrong_7 : decode cX12_wrong 7 = .ok (.aload_n 0, 1) := by decide +kernel
theorem dX12_wrong_8 : decode cX12_wrong 8 = .ok (.getfield 191, 3) := by decide +kernel
theorem dX12_wrong_11 : decode cX12_wrong 11 = .ok (.ifCond .gt 34, 3) := by decide +kernel
theorem dX12_wrong_14 : decode cX12_wrong 14 = .ok (.aload_n 0, 1) := by decide +kernel
theorem dX12_wrong_15 : decode cX12_wrong 15 = .ok (.getfield 200, 3) := by decide +kernel
theorem dX12_wrong_18 : decode cX12_wrong 18 = .ok (.ifCond .eq 28, 3) := by decide +kernel
theorem dX12_wrong_21 : decode cX12_wrong 21 = .ok (.iload_n 3, 1) := by decide +kernel
theorem dX12_wrong_22 : decode cX12_wrong 22 = .ok (.aload_n 0, 1) := by decide +kernel
theorem dX12_wrong_23 : decode cX12_wrong 23 = .ok (.getfield 203, 3) := by decide +kernel
theorem dX12_wrong_26 : decode cX12_wrong 26 = .ok (.if_icmp .gt 19, 3) := by decide +kernel
theorem dX12_wrong_29 : decode cX12_wrong 29 = .ok (.iload_n 3, 1) := by decide +kernel
theorem dX12_wrong_30 : decode cX12_wrong 30 = .ok (.aload_n 0, 1) := by decide +kernel
theorem dX12_wrong_31 : decode cX12_wrong 31 = .ok (.getfield 203, 3) := by decide +kernel
theorem dX12_wrong_34 : decode cX12_wrong 34 = .ok (.if_icmp .ne 12, 3) := by decide +kernel
theorem dX12_wrong_37 : decode cX12_wrong 37 = .ok (.iload_n 1, 1) := by decide +kernel
theorem dX12_wrong_38 : decode cX12_wrong 38 = .ok (.aload_n 0, 1) := by decide +kernel
theorem dX12_wrong_39 : decode cX12_wrong 39 = .ok (.getfield 200, 3) := by decide +kernel
theorem dX12_wrong_42 : decode cX12_wrong 42 = .ok (.if_icmp .lt 4, 3) := by decide +kernel
theorem dX12_wrong_45 : decode cX12_wrong 45 = .ok (.return_, 1) := by decide +kernel
theorem dX12_wrong_46 : decode cX12_wrong 46 = .ok (.aload_n 0, 1) := by decide +kernel
theorem dX12_wrong_47 : decode cX12_wrong 47 = .ok (.iload_n 1, 1) := by decide +kernel
theorem dX12_wrong_48 : decode cX12_wrong 48 = .ok (.putfield 200, 3) := by decide +kernel
theorem dX12_wrong_51 : decode cX12_wrong 51 = .ok (.aload_n 0, 1) := by decide +kernel
theorem dX12_wrong_52 : decode cX12_wrong 52 = .ok (.iload_n 3, 1) := by decide +kernel
theorem dX12_wrong_53 : decode cX12_wrong 53 = .ok (.putfield 203, 3) := by decide +kernel
theorem dX12_wrong_56 : decode cX12_wrong 56 = .ok (.return_, 1) := by decide +kernel
theorem dX12_goesOn_0 : decode cX12_goesOn 0 = .ok (.aload_n 0, 1) := by decide +kernel
theorem dX12_goesOn_1 : decode cX12_goesOn 1 = .ok (.getfield 194, 3) := by decide +kernel
theorem dX12_goesOn_4 : decode cX12_goesOn 4 = .ok (.sipush 400, 3) := by decide +kernel
theorem dX12_goesOn_7 : decode cX12_goesOn 7 = .ok (.if_icmp .ne 11, 3) := by decide +kernel
theorem dX12_goesOn_10 : decode cX12_goesOn 10 = .ok (.aload_n 0, 1) := by decide +kernel
theorem dX12_goesOn_11 : decode cX12_goesOn 11 = .ok (.iconst 2, 1) := by decide +kernel
theorem dX12_goesOn_12 : decode cX12_goesOn 12 = .ok (.invokevirtual 206, 3) := by decide +kernel
theorem dX12_goesOn_15 : decode cX12_goesOn 15 = .ok (.goto 13, 3) := by decide +kernel
theorem dX12_goesOn_18 : decode cX12_goesOn 18 = .ok (.aload_n 0, 1) := by decide +kernel
theorem dX12_goesOn_19 : decode cX12_goesOn 19 = .ok (.dup, 1) := by decide +kernel
theorem dX12_goesOn_20 : decode cX12_goesOn 20 = .ok (.getfield 194, 3) := by decide +kernel
theorem dX12_goesOn_23 : decode cX12_goesOn 23 = .ok (.iconst 1, 1) := by decide +kernel
theorem dX12_goesOn_24 : decode cX12_goesOn 24 = .ok (.iadd, 1) := by decide +kernel
theorem dX12_goesOn_25 : decode cX12_goesOn 25 = .ok (.putfield 194, 3) := by decide +kernel
theorem dX12_goesOn_28 : decode cX12_goesOn 28 = .ok (.return_, 1) := by decide +kernel
theorem dX12_must_0 : decode cX12_must 0 = .ok (.aload_n 0, 1) := by decide +kernel
theorem dX12_must_1 : decode cX12_must 1 = .ok (.iload_n 1, 1) := by decide +kernel
theorem dX12_must_2 : decode cX12_must 2 = .ok (.invokevirtual 209, 3) := by decide +kernel
theorem dX12_must_5 : decode cX12_must 5 = .ok (.ifCond .eq 10, 3) := by decide +kernel
theorem dX12_must_8 : decode cX12_must 8 = .ok (.aload_n 0, 1) := by decide +kernel
theorem dX12_must_9 : decode cX12_must 9 = .ok (.invokevirtual 212, 3) := by decide +kernel
theorem dX12_must_12 : decode cX12_must 12 = .ok (.goto 8, 3) := by decide +kernel
theorem dX12_must_15 : decode cX12_must 15 = .ok (.aload_n 0, 1) := by decide +kernel
theorem dX12_must_16 : decode cX12_must 16 = .ok (.iconst 1, 1) := by decide +kernel
theorem dX12_must_17 : decode cX12_must 17 = .ok (.invokevirtual 206, 3) := by decide +kernel
theorem dX12_must_20 : decode cX12_must 20 = .ok (.return_, 1) := by decide +kernel
theorem dX12_read_0 : decode cX12_read 0 = .ok (.aload_n 0, 1) := by decide +kernel
theorem dX12_read_1 : decode cX12_read 1 = .ok (.aload_n 0, 1) := by decide +kernel
theorem dX12_read_2 : decode cX12_read 2 = .ok (.getfield 153, 3) := by decide +kernel
theorem dX12_read_5 : decode cX12_read 5 = .ok (.putfield 160, 3) := by decide +kernel
theorem dX12_read_8 : decode cX12_read 8 = .ok (.iconst 0, 1) := by decide +kernel
theorem dX12_read_9 : decode cX12_read 9 = .ok (.istore_n 1, 1) := by decide +kernel
theorem dX12_read_10 : decode cX12_read 10 = .ok (.iload_n 1, 1) := by decide +kernel
theorem dX12_read_11 : decode cX12_read 11 = .ok (.aload_n 0, 1) := by decide +kernel
theorem dX12_read_12 : decode cX12_read 12 = .ok (.getfield 160, 3) := by decide +kernel
theorem dX12_read_15 : decode cX12_read 15 = .ok (.if_icmp .ge 21, 3) := by decide +kernel
theorem dX12_read_18 : decode cX12_read 18 = .ok (.aload_n 0, 1) := by decide +kernel
theorem dX12_read_19 : decode cX12_read 19 = .ok (.getfield 17, 3) := by decide +kernel
theorem dX12_read_22 : decode cX12_read 22 = .ok (.iload_n 1, 1) := by decide +kernel
theorem dX12_read_23 : decode cX12_read 23 = .ok (.aload_n 0, 1) := by decide +kernel
theorem dX12_read_24 : decode cX12_read 24 = .ok (.getfield 13, 3) := by decide +kernel
theorem dX12_read_27 : decode cX12_read 27 = .ok (.iload_n 1, 1) := by decide +kernel
theorem dX12_read_28 : decode cX12_read 28 = .ok (.baload, 1) := by decide +kernel
theorem dX12_read_29 : decode cX12_read 29 = .ok (.bastore, 1) := by decide +kernel
theorem dX12_read_30 : decode cX12_read 30 = .ok (.iinc 1 1, 3) := by decide +kernel
theorem dX12_read_33 : decode cX12_read 33 = .ok (.goto (-23), 3) := by decide +kernel
theorem dX12_read_36 : decode cX12_read 36 = .ok (.aload_n 0, 1) := by decide +kernel
theorem dX12_read_37 : decode cX12_read 37 = .ok (.iconst 0, 1) := by decide +kernel
theorem dX12_read_38 : decode cX12_read 38 = .ok (.putfield 153, 3) := by decide +kernel
theorem dX12_read_41 : decode cX12_read 41 = .ok (.aload_n 0, 1) := by decide +kernel
theorem dX12_read_42 : decode cX12_read 42 = .ok (.invokevirtual 215, 3) := by decide +kernel
theorem dX12_read_45 : decode cX12_read 45 = .ok (.aload_n 0, 1) := by decide +kernel
theorem dX12_read_46 : decode cX12_read 46 = .ok (.iconst 0, 1) := by decide +kernel
theorem dX12_read_47 : decode cX12_read 47 = .ok (.putfield 194, 3) := by decide +kernel
theorem dX12_read_50 : decode cX12_read 50 = .ok (.aload_n 0, 1) := by decide +kernel
theorem dX12_read_51 : decode cX12_read 51 = .ok (.iconst 0, 1) := by decide +kernel
theorem dX12_read_52 : decode cX12_read 52 = .ok (.putfield 218, 3) := by decide +kernel
theorem dX12_read_55 : decode cX12_read 55 = .ok (.aload_n 0, 1) := by decide +kernel
theorem dX12_read_56 : decode cX12_read 56 = .ok (.iconst 0, 1) := by decide +kernel
theorem dX12_read_57 : decode cX12_read 57 = .ok (.putfield 191, 3) := by decide +kernel
theorem dX12_read_60 : decode cX12_read 60 = .ok (.aload_n 0, 1) := by decide +kernel
theorem dX12_read_61 : decode cX12_read 61 = .ok (.iconst 0, 1) := by decide +kernel
theorem dX12_read_62 : decode cX12_read 62 = .ok (.putfield 200, 3) := by decide +kernel
theorem dX12_read_65 : decode cX12_read 65 = .ok (.aload_n 0, 1) := by decide +kernel
theorem dX12_read_66 : decode cX12_read 66 = .ok (.iconst 1, 1) := by decide +kernel
theorem dX12_read_67 : decode cX12_read 67 = .ok (.aload_n 0, 1) := by decide +kernel
theorem dX12_read_68 : decode cX12_read 68 = .ok (.getfield 221, 3) := by decide +kernel
theorem dX12_read_71 : decode cX12_read 71 = .ok (.isub, 1) := by decide +kernel
theorem dX12_read_72 : decode cX12_read 72 = .ok (.putfield 224, 3) := by decide +kernel
theorem dX12_read_75 : decode cX12_read 75 = .ok (.aload_n 0, 1) := by decide +kernel
theorem dX12_read_76 : decode cX12_read 76 = .ok (.iconst 0, 1) := by decide +kernel
theorem dX12_read_77 : decode cX12_read 77 = .ok (.putfield 227, 3) := by decide +kernel
theorem dX12_read_80 : decode cX12_read 80 = .ok (.aload_n 0, 1) := by decide +kernel
theorem dX12_read_81 : decode cX12_read 81 = .ok (.getfield 43, 3) := by decide +kernel
theorem dX12_read_84 : decode cX12_read 84 = .ok (.aload_n 0, 1) := by decide +kernel
theorem dX12_read_85 : decode cX12_read 85 = .ok (.getfield 224, 3) := by decide +kernel
theorem dX12_read_88 : decode cX12_read 88 = .ok (.iconst 0, 1) := by decide +kernel
theorem dX12_read_89 : decode cX12_read 89 = .ok (.iastore, 1) := by decide +kernel
theorem dX12_read_90 : decode cX12_read 90 = .ok (.aload_n 0, 1) := by decide +kernel
theorem dX12_read_91 : decode cX12_read 91 = .ok (.getfield 52, 3) := by decide +kernel
theorem dX12_read_94 : decode cX12_read 94 = .ok (.aload_n 0, 1) := by decide +kernel
theorem dX12_read_95 : decode cX12_read 95 = .ok (.getfield 224, 3) := by decide +kernel
theorem dX12_read_98 : decode cX12_read 98 = .ok (.bipush 100, 2) := by decide +kernel
theorem dX12_read_100 : decode cX12_read 100 = .ok (.iastore, 1) := by decide +kernel
theorem dX12_read_101 : decode cX12_read 101 = .ok (.aload_n 0, 1) := by decide +kernel
theorem dX12_read_102 : decode cX12_read 102 = .ok (.getfield 55, 3) := by decide +kernel
theorem dX12_read_105 : decode cX12_read 105 = .ok (.aload_n 0, 1) := by decide +kernel
theorem dX12_read_106 : decode cX12_read 106 = .ok (.getfield 224, 3) := by decide +kernel
theorem dX12_read_109 : decode cX12_read 109 = .ok (.iconst 0, 1) := by decide +kernel
theorem dX12_read_110 : decode cX12_read 110 = .ok (.iastore, 1) := by decide +kernel
theorem dX12_read_111 : decode cX12_read 111 = .ok (.aload_n 0, 1) := by decide +kernel
theorem dX12_read_112 : decode cX12_read 112 = .ok (.sipush 130, 3) := by decide +kernel
theorem dX12_read_115 : decode cX12_read 115 = .ok (.aload_n 0, 1) := by decide +kernel
theorem dX12_read_116 : decode cX12_read 116 = .ok (.getfield 224, 3) := by decide +kernel
theorem dX12_read_119 : decode cX12_read 119 = .ok (.imul, 1) := by decide +kernel
theorem dX12_read_120 : decode cX12_read 120 = .ok (.putfield 230, 3) := by decide +kernel
theorem dX12_read_123 : decode cX12_read 123 = .ok (.aload_n 0, 1) := by decide +kernel
theorem dX12_read_124 : decode cX12_read 124 = .ok (.sipush 420, 3) := by decide +kernel
theorem dX12_read_127 : decode cX12_read 127 = .ok (.aload_n 0, 1) := by decide +kernel
theorem dX12_read_128 : decode cX12_read 128 = .ok (.getfield 224, 3) := by decide +kernel
theorem dX12_read_131 : decode cX12_read 131 = .ok (.imul, 1) := by decide +kernel
theorem dX12_read_132 : decode cX12_read 132 = .ok (.putfield 233, 3) := by decide +kernel
theorem dX12_read_135 : decode cX12_read 135 = .ok (.iconst 0, 1) := by decide +kernel
theorem dX12_read_136 : decode cX12_read 136 = .ok (.istore_n 1, 1) := by decide +kernel
theorem dX12_read_137 : decode cX12_read 137 = .ok (.iload_n 1, 1) := by decide +kernel
theorem dX12_read_138 : decode cX12_read 138 = .ok (.bipush 20, 2) := by decide +kernel
theorem dX12_read_140 : decode cX12_read 140 = .ok (.if_icmp .ge 24, 3) := by decide +kernel
theorem dX12_read_143 : decode cX12_read 143 = .ok (.aload_n 0, 1) := by decide +kernel
theorem dX12_read_144 : decode cX12_read 144 = .ok (.getfield 67, 3) := by decide +kernel
theorem dX12_read_147 : decode cX12_read 147 = .ok (.bipush 20, 2) := by decide +kernel
theorem dX12_read_149 : decode cX12_read 149 = .ok (.aload_n 0, 1) := by decide +kernel
theorem dX12_read_150 : decode cX12_read 150 = .ok (.getfield 224, 3) := by decide +kernel
theorem dX12_read_153 : decode cX12_read 153 = .ok (.imul, 1) := by decide +kernel
theorem dX12_read_154 : decode cX12_read 154 = .ok (.iload_n 1, 1) := by decide +kernel
theorem dX12_read_155 : decode cX12_read 155 = .ok (.iadd, 1) := by decide +kernel
theorem dX12_read_156 : decode cX12_read 156 = .ok (.iconst 0, 1) := by decide +kernel
theorem dX12_read_157 : decode cX12_read 157 = .ok (.iastore, 1) := by decide +kernel
theorem dX12_read_158 : decode cX12_read 158 = .ok (.iinc 1 1, 3) := by decide +kernel
theorem dX12_read_161 : decode cX12_read 161 = .ok (.goto (-24), 3) := by decide +kernel
theorem dX12_read_164 : decode cX12_read 164 = .ok (.iconst 0, 1) := by decide +kernel
theorem dX12_read_165 : decode cX12_read 165 = .ok (.istore_n 1, 1) := by decide +kernel
theorem dX12_read_166 : decode cX12_read 166 = .ok (.iload_n 1, 1) := by decide +kernel
theorem dX12_read_167 : decode cX12_read 167 = .ok (.bipush 6, 2) := by decide +kernel
theorem dX12_read_169 : decode cX12_read 169 = .ok (.if_icmp .ge 39, 3) := by decide +kernel
theorem dX12_read_172 : decode cX12_read 172 = .ok (.aload_n 0, 1) := by decide +kernel
theorem dX12_read_173 : decode cX12_read 173 = .ok (.getfield 70, 3) := by decide +kernel
theorem dX12_read_176 : decode cX12_read 176 = .ok (.bipush 6, 2) := by decide +kernel
theorem dX12_read_178 : decode cX12_read 178 = .ok (.aload_n 0, 1) := by decide +kernel
theorem dX12_read_179 : decode cX12_read 179 = .ok (.getfield 224, 3) := by decide +kernel
theorem dX12_read_182 : decode cX12_read 182 = .ok (.imul, 1) := by decide +kernel
theorem dX12_read_183 : decode cX12_read 183 = .ok (.iload_n 1, 1) := by decide +kernel
theorem dX12_read_184 : decode cX12_read 184 = .ok (.iadd, 1) := by decide +kernel
theorem dX12_read_185 : decode cX12_read 185 = .ok (.iconst 0, 1) := by decide +kernel
theorem dX12_read_186 : decode cX12_read 186 = .ok (.iastore, 1) := by decide +kernel
theorem dX12_read_187 : decode cX12_read 187 = .ok (.aload_n 0, 1) := by decide +kernel
theorem dX12_read_188 : decode cX12_read 188 = .ok (.getfield 73, 3) := by decide +kernel
theorem dX12_read_191 : decode cX12_read 191 = .ok (.bipush 6, 2) := by decide +kernel
theorem dX12_read_193 : decode cX12_read 193 = .ok (.aload_n 0, 1) := by decide +kernel
theorem dX12_read_194 : decode cX12_read 194 = .ok (.getfield 224, 3) := by decide +kernel
theorem dX12_read_197 : decode cX12_read 197 = .ok (.imul, 1) := by decide +kernel
theorem dX12_read_198 : decode cX12_read 198 = .ok (.iload_n 1, 1) := by decide +kernel
theorem dX12_read_199 : decode cX12_read 199 = .ok (.iadd, 1) := by decide +kernel
theorem dX12_read_200 : decode cX12_read 200 = .ok (.iconst 0, 1) := by decide +kernel
theorem dX12_read_201 : decode cX12_read 201 = .ok (.iastore, 1) := by decide +kernel
theorem dX12_read_202 : decode cX12_read 202 = .ok (.iinc 1 1, 3) := by decide +kernel
theorem dX12_read_205 : decode cX12_read 205 = .ok (.goto (-39), 3) := by decide +kernel
theorem dX12_read_208 : decode cX12_read 208 = .ok (.aload_n 0, 1) := by decide +kernel
theorem dX12_read_209 : decode cX12_read 209 = .ok (.getfield 191, 3) := by decide +kernel
theorem dX12_read_212 : decode cX12_read 212 = .ok (.ifCond .ne 18, 3) := by decide +kernel
theorem dX12_read_215 : decode cX12_read 215 = .ok (.aload_n 0, 1) := by decide +kernel
theorem dX12_read_216 : decode cX12_read 216 = .ok (.iconst 0, 1) := by decide +kernel
theorem dX12_read_217 : decode cX12_read 217 = .ok (.invokevirtual 209, 3) := by decide +kernel
theorem dX12_read_220 : decode cX12_read 220 = .ok (.ifCond .ne 10, 3) := by decide +kernel
theorem dX12_read_223 : decode cX12_read 223 = .ok (.aload_n 0, 1) := by decide +kernel
theorem dX12_read_224 : decode cX12_read 224 = .ok (.invokevirtual 236, 3) := by decide +kernel
theorem dX12_read_227 : decode cX12_read 227 = .ok (.goto (-19), 3) := by decide +kernel
theorem dX12_read_230 : decode cX12_read 230 = .ok (.aload_n 0, 1) := by decide +kernel
theorem dX12_read_231 : decode cX12_read 231 = .ok (.aload_n 0, 1) := by decide +kernel
theorem dX12_read_232 : decode cX12_read 232 = .ok (.getfield 191, 3) := by decide +kernel
theorem dX12_read_235 : decode cX12_read 235 = .ok (.ifCond .le 10, 3) := by decide +kernel
theorem dX12_read_238 : decode cX12_read 238 = .ok (.aload_n 0, 1) := by decide +kernel
theorem dX12_read_239 : decode cX12_read 239 = .ok (.getfield 197, 3) := by decide +kernel
theorem dX12_read_242 : decode cX12_read 242 = .ok (.goto 18, 3) := by decide +kernel
theorem dX12_read_245 : decode cX12_read 245 = .ok (.aload_n 0, 1) := by decide +kernel
theorem dX12_read_246 : decode cX12_read 246 = .ok (.getfield 200, 3) := by decide +kernel
theorem dX12_read_249 : decode cX12_read 249 = .ok (.ifCond .le 10, 3) := by decide +kernel
theorem dX12_read_252 : decode cX12_read 252 = .ok (.aload_n 0, 1) := by decide +kernel
theorem dX12_read_253 : decode cX12_read 253 = .ok (.getfield 203, 3) := by decide +kernel
theorem dX12_read_256 : decode cX12_read 256 = .ok (.goto 4, 3) := by decide +kernel
theorem dX12_read_259 : decode cX12_read 259 = .ok (.iconst (-1), 1) := by decide +kernel
theorem dX12_read_260 : decode cX12_read 260 = .ok (.putfield 37, 3) := by decide +kernel
theorem dX12_read_263 : decode cX12_read 263 = .ok (.aload_n 0, 1) := by decide +kernel
theorem dX12_read_264 : decode cX12_read 264 = .ok (.getfield 191, 3) := by decide +kernel
theorem dX12_read_267 : decode cX12_read 267 = .ok (.ifCond .le 8, 3) := by decide +kernel
theorem dX12_read_270 : decode cX12_read 270 = .ok (.aload_n 0, 1) := by decide +kernel
theorem dX12_read_271 : decode cX12_read 271 = .ok (.getfield 191, 3) := by decide +kernel
theorem dX12_read_274 : decode cX12_read 274 = .ok (.ireturn, 1) := by decide +kernel
theorem dX12_read_275 : decode cX12_read 275 = .ok (.aload_n 0, 1) := by decide +kernel
theorem dX12_read_276 : decode cX12_read 276 = .ok (.getfield 200, 3) := by decide +kernel
theorem dX12_read_279 : decode cX12_read 279 = .ok (.ifCond .le 8, 3) := by decide +kernel
theorem dX12_read_282 : decode cX12_read 282 = .ok (.aload_n 0, 1) := by decide +kernel
theorem dX12_read_283 : decode cX12_read 283 = .ok (.getfield 200, 3) := by decide +kernel
theorem dX12_read_286 : decode cX12_read 286 = .ok (.ireturn, 1) := by decide +kernel
theorem dX12_read_287 : decode cX12_read 287 = .ok (.aload_n 0, 1) := by decide +kernel
theorem dX12_read_288 : decode cX12_read 288 = .ok (.aload_n 0, 1) := by decide +kernel
theorem dX12_read_289 : decode cX12_read 289 = .ok (.getfield 224, 3) := by decide +kernel
theorem dX12_read_292 : decode cX12_read 292 = .ok (.putfield 221, 3) := by decide +kernel
theorem dX12_read_295 : decode cX12_read 295 = .ok (.iconst 0, 1) := by decide +kernel
theorem dX12_read_296 : decode cX12_read 296 = .ok (.istore_n 1, 1) := by decide +kernel
theorem dX12_read_297 : decode cX12_read 297 = .ok (.iload_n 1, 1) := by decide +kernel
theorem dX12_read_298 : decode cX12_read 298 = .ok (.bipush 20, 2) := by decide +kernel
theorem dX12_read_300 : decode cX12_read 300 = .ok (.if_icmp .ge 29, 3) := by decide +kernel
theorem dX12_read_303 : decode cX12_read 303 = .ok (.aload_n 0, 1) := by decide +kernel
theorem dX12_read_304 : decode cX12_read 304 = .ok (.getfield 107, 3) := by decide +kernel
theorem dX12_read_307 : decode cX12_read 307 = .ok (.iload_n 1, 1) := by decide +kernel
theorem dX12_read_308 : decode cX12_read 308 = .ok (.aload_n 0, 1) := by decide +kernel
theorem dX12_read_309 : decode cX12_read 309 = .ok (.getfield 67, 3) := by decide +kernel
theorem dX12_read_312 : decode cX12_read 312 = .ok (.bipush 20, 2) := by decide +kernel
theorem dX12_read_314 : decode cX12_read 314 = .ok (.aload_n 0, 1) := by decide +kernel
theorem dX12_read_315 : decode cX12_read 315 = .ok (.getfield 221, 3) := by decide +kernel
theorem dX12_read_318 : decode cX12_read 318 = .ok (.imul, 1) := by decide +kernel
theorem dX12_read_319 : decode cX12_read 319 = .ok (.iload_n 1, 1) := by decide +kernel
theorem dX12_read_320 : decode cX12_read 320 = .ok (.iadd, 1) := by decide +kernel
theorem dX12_read_321 : decode cX12_read 321 = .ok (.iaload, 1) := by decide +kernel
theorem dX12_read_322 : decode cX12_read 322 = .ok (.iastore, 1) := by decide +kernel
theorem dX12_read_323 : decode cX12_read 323 = .ok (.iinc 1 1, 3) := by decide +kernel
theorem dX12_read_326 : decode cX12_read 326 = .ok (.goto (-29), 3) := by decide +kernel
theorem dX12_read_329 : decode cX12_read 329 = .ok (.aload_n 0, 1) := by decide +kernel
theorem dX12_read_330 : decode cX12_read 330 = .ok (.iconst 0, 1) := by decide +kernel
theorem dX12_read_331 : decode cX12_read 331 = .ok (.putfield 239, 3) := by decide +kernel
theorem dX12_read_334 : decode cX12_read 334 = .ok (.aload_n 0, 1) := by decide +kernel
theorem dX12_read_335 : decode cX12_read 335 = .ok (.iconst 0, 1) := by decide +kernel
theorem dX12_read_336 : decode cX12_read 336 = .ok (.putfield 242, 3) := by decide +kernel
theorem dX12_read_339 : decode cX12_read 339 = .ok (.iconst 0, 1) := by decide +kernel
theorem dX12_read_340 : decode cX12_read 340 = .ok (.istore_n 1, 1) := by decide +kernel
theorem dX12_read_341 : decode cX12_read 341 = .ok (.iload_n 1, 1) := by decide +kernel
theorem dX12_read_342 : decode cX12_read 342 = .ok (.iconst 3, 1) := by decide +kernel
theorem dX12_read_343 : decode cX12_read 343 = .ok (.if_icmp .ge 16, 3) := by decide +kernel
theorem dX12_read_346 : decode cX12_read 346 = .ok (.aload_n 0, 1) := by decide +kernel
theorem dX12_read_347 : decode cX12_read 347 = .ok (.getfield 143, 3) := by decide +kernel
theorem dX12_read_350 : decode cX12_read 350 = .ok (.iload_n 1, 1) := by decide +kernel
theorem dX12_read_351 : decode cX12_read 351 = .ok (.iconst 0, 1) := by decide +kernel
theorem dX12_read_352 : decode cX12_read 352 = .ok (.bastore, 1) := by decide +kernel
theorem dX12_read_353 : decode cX12_read 353 = .ok (.iinc 1 1, 3) := by decide +kernel
theorem dX12_read_356 : decode cX12_read 356 = .ok (.goto (-15), 3) := by decide +kernel
theorem dX12_read_359 : decode cX12_read 359 = .ok (.iconst 0, 1) := by decide +kernel
theorem dX12_read_360 : decode cX12_read 360 = .ok (.ireturn, 1) := by decide +kernel
theorem dX12_place_0 : decode cX12_place 0 = .ok (.aload_n 0, 1) := by decide +kernel
theorem dX12_place_1 : decode cX12_place 1 = .ok (.getfield 37, 3) := by decide +kernel
theorem dX12_place_4 : decode cX12_place 4 = .ok (.ireturn, 1) := by decide +kernel
theorem dX12_roomFor_0 : decode cX12_roomFor 0 = .ok (.iload_n 1, 1) := by decide +kernel
theorem dX12_roomFor_1 : decode cX12_roomFor 1 = .ok (.iload_n 2, 1) := by decide +kernel
theorem dX12_roomFor_2 : decode cX12_roomFor 2 = .ok (.if_icmp .ne 8, 3) := by decide +kernel
theorem dX12_roomFor_5 : decode cX12_roomFor 5 = .ok (.aload_n 0, 1) := by decide +kernel
theorem dX12_roomFor_6 : decode cX12_roomFor 6 = .ok (.iconst 2, 1) := by decide +kernel
theorem dX12_roomFor_7 : decode cX12_roomFor 7 = .ok (.invokevirtual 206, 3) := by decide +kernel
theorem dX12_roomFor_10 : decode cX12_roomFor 10 = .ok (.aload_n 0, 1) := by decide +kernel
theorem dX12_roomFor_11 : decode cX12_roomFor 11 = .ok (.getfield 191, 3) := by decide +kernel
theorem dX12_roomFor_14 : decode cX12_roomFor 14 = .ok (.ifCond .ne 7, 3) := by decide +kernel
theorem dX12_roomFor_17 : decode cX12_roomFor 17 = .ok (.aload_n 0, 1) := by decide +kernel
theorem dX12_roomFor_18 : decode cX12_roomFor 18 = .ok (.invokevirtual 212, 3) := by decide +kernel
theorem dX12_roomFor_21 : decode cX12_roomFor 21 = .ok (.return_, 1) := by decide +kernel
theorem dX12_tell_0 : decode cX12_tell 0 = .ok (.aload_n 0, 1) := by decide +kernel
theorem dX12_tell_1 : decode cX12_tell 1 = .ok (.getfield 20, 3) := by decide +kernel
theorem dX12_tell_4 : decode cX12_tell 4 = .ok (.aload_n 0, 1) := by decide +kernel
theorem dX12_tell_5 : decode cX12_tell 5 = .ok (.getfield 194, 3) := by decide +kernel
theorem dX12_tell_8 : decode cX12_tell 8 = .ok (.iaload, 1) := by decide +kernel
theorem dX12_tell_9 : decode cX12_tell 9 = .ok (.tableswitch 156 20 26 #[43, 72, 87, 116, 156, 156, 127], 43) := by decide +kernel
theorem dX12_tell_52 : decode cX12_tell 52 = .ok (.aload_n 0, 1) := by decide +kernel
theorem dX12_tell_53 : decode cX12_tell 53 = .ok (.aload_n 0, 1) := by decide +kernel
theorem dX12_tell_54 : decode cX12_tell 54 = .ok (.getfield 43, 3) := by decide +kernel
theorem dX12_tell_57 : decode cX12_tell 57 = .ok (.aload_n 0, 1) := by decide +kernel
theorem dX12_tell_58 : decode cX12_tell 58 = .ok (.getfield 224, 3) := by decide +kernel
theorem dX12_tell_61 : decode cX12_tell 61 = .ok (.iaload, 1) := by decide +kernel
theorem dX12_tell_62 : decode cX12_tell 62 = .ok (.bipush 6, 2) := by decide +kernel
theorem dX12_tell_64 : decode cX12_tell 64 = .ok (.invokevirtual 245, 3) := by decide +kernel
theorem dX12_tell_67 : decode cX12_tell 67 = .ok (.aload_n 0, 1) := by decide +kernel
theorem dX12_tell_68 : decode cX12_tell 68 = .ok (.getfield 191, 3) := by decide +kernel
theorem dX12_tell_71 : decode cX12_tell 71 = .ok (.ifCond .ne 99, 3) := by decide +kernel
theorem dX12_tell_74 : decode cX12_tell 74 = .ok (.aload_n 0, 1) := by decide +kernel
theorem dX12_tell_75 : decode cX12_tell 75 = .ok (.invokevirtual 249, 3) := by decide +kernel
theorem dX12_tell_78 : decode cX12_tell 78 = .ok (.goto 92, 3) := by decide +kernel
theorem dX12_tell_81 : decode cX12_tell 81 = .ok (.aload_n 0, 1) := by decide +kernel
theorem dX12_tell_82 : decode cX12_tell 82 = .ok (.invokevirtual 212, 3) := by decide +kernel
theorem dX12_tell_85 : decode cX12_tell 85 = .ok (.aload_n 0, 1) := by decide +kernel
theorem dX12_tell_86 : decode cX12_tell 86 = .ok (.aload_n 0, 1) := by decide +kernel
theorem dX12_tell_87 : decode cX12_tell 87 = .ok (.invokevirtual 252, 3) := by decide +kernel
theorem dX12_tell_90 : decode cX12_tell 90 = .ok (.invokevirtual 256, 3) := by decide +kernel
theorem dX12_tell_93 : decode cX12_tell 93 = .ok (.goto 77, 3) := by decide +kernel
theorem dX12_tell_96 : decode cX12_tell 96 = .ok (.aload_n 0, 1) := by decide +kernel
theorem dX12_tell_97 : decode cX12_tell 97 = .ok (.invokevirtual 212, 3) := by decide +kernel
theorem dX12_tell_100 : decode cX12_tell 100 = .ok (.aload_n 0, 1) := by decide +kernel
theorem dX12_tell_101 : decode cX12_tell 101 = .ok (.getfield 52, 3) := by decide +kernel
theorem dX12_tell_104 : decode cX12_tell 104 = .ok (.aload_n 0, 1) := by decide +kernel
theorem dX12_tell_105 : decode cX12_tell 105 = .ok (.getfield 224, 3) := by decide +kernel
theorem dX12_tell_108 : decode cX12_tell 108 = .ok (.aload_n 0, 1) := by decide +kernel
theorem dX12_tell_109 : decode cX12_tell 109 = .ok (.iconst 1, 1) := by decide +kernel
theorem dX12_tell_110 : decode cX12_tell 110 = .ok (.sipush 999, 3) := by decide +kernel
theorem dX12_tell_113 : decode cX12_tell 113 = .ok (.invokevirtual 259, 3) := by decide +kernel
theorem dX12_tell_116 : decode cX12_tell 116 = .ok (.iastore, 1) := by decide +kernel
theorem dX12_tell_117 : decode cX12_tell 117 = .ok (.aload_n 0, 1) := by decide +kernel
theorem dX12_tell_118 : decode cX12_tell 118 = .ok (.iconst 4, 1) := by decide +kernel
theorem dX12_tell_119 : decode cX12_tell 119 = .ok (.invokevirtual 263, 3) := by decide +kernel
theorem dX12_tell_122 : decode cX12_tell 122 = .ok (.goto 48, 3) := by decide +kernel
theorem dX12_tell_125 : decode cX12_tell 125 = .ok (.aload_n 0, 1) := by decide +kernel
theorem dX12_tell_126 : decode cX12_tell 126 = .ok (.invokevirtual 212, 3) := by decide +kernel
theorem dX12_tell_129 : decode cX12_tell 129 = .ok (.aload_n 0, 1) := by decide +kernel
theorem dX12_tell_130 : decode cX12_tell 130 = .ok (.invokevirtual 266, 3) := by decide +kernel
theorem dX12_tell_133 : decode cX12_tell 133 = .ok (.goto 37, 3) := by decide +kernel
theorem dX12_tell_136 : decode cX12_tell 136 = .ok (.aload_n 0, 1) := by decide +kernel
theorem dX12_tell_137 : decode cX12_tell 137 = .ok (.aload_n 0, 1) := by decide +kernel
theorem dX12_tell_138 : decode cX12_tell 138 = .ok (.getfield 55, 3) := by decide +kernel
theorem dX12_tell_141 : decode cX12_tell 141 = .ok (.aload_n 0, 1) := by decide +kernel
theorem dX12_tell_142 : decode cX12_tell 142 = .ok (.getfield 224, 3) := by decide +kernel
theorem dX12_tell_145 : decode cX12_tell 145 = .ok (.iaload, 1) := by decide +kernel
theorem dX12_tell_146 : decode cX12_tell 146 = .ok (.bipush 6, 2) := by decide +kernel
theorem dX12_tell_148 : decode cX12_tell 148 = .ok (.invokevirtual 245, 3) := by decide +kernel
theorem dX12_tell_151 : decode cX12_tell 151 = .ok (.aload_n 0, 1) := by decide +kernel
theorem dX12_tell_152 : decode cX12_tell 152 = .ok (.getfield 191, 3) := by decide +kernel
theorem dX12_tell_155 : decode cX12_tell 155 = .ok (.ifCond .ne 15, 3) := by decide +kernel
theorem dX12_tell_158 : decode cX12_tell 158 = .ok (.aload_n 0, 1) := by decide +kernel
theorem dX12_tell_159 : decode cX12_tell 159 = .ok (.invokevirtual 269, 3) := by decide +kernel
theorem dX12_tell_162 : decode cX12_tell 162 = .ok (.goto 8, 3) := by decide +kernel
theorem dX12_tell_165 : decode cX12_tell 165 = .ok (.aload_n 0, 1) := by decide +kernel
theorem dX12_tell_166 : decode cX12_tell 166 = .ok (.iconst 1, 1) := by decide +kernel
theorem dX12_tell_167 : decode cX12_tell 167 = .ok (.invokevirtual 206, 3) := by decide +kernel
theorem dX12_tell_170 : decode cX12_tell 170 = .ok (.return_, 1) := by decide +kernel
theorem dX12_known_0 : decode cX12_known 0 = .ok (.aload_n 0, 1) := by decide +kernel
theorem dX12_known_1 : decode cX12_known 1 = .ok (.getfield 194, 3) := by decide +kernel
theorem dX12_known_4 : decode cX12_known 4 = .ok (.istore_n 1, 1) := by decide +kernel
theorem dX12_known_5 : decode cX12_known 5 = .ok (.aload_n 0, 1) := by decide +kernel
theorem dX12_known_6 : decode cX12_known 6 = .ok (.iconst 1, 1) := by decide +kernel
theorem dX12_known_7 : decode cX12_known 7 = .ok (.invokevirtual 263, 3) := by decide +kernel
theorem dX12_known_10 : decode cX12_known 10 = .ok (.aload_n 0, 1) := by decide +kernel
theorem dX12_known_11 : decode cX12_known 11 = .ok (.getfield 191, 3) := by decide +kernel
theorem dX12_known_14 : decode cX12_known 14 = .ok (.ifCond .le 5, 3) := by decide +kernel
theorem dX12_known_17 : decode cX12_known 17 = .ok (.iconst (-1), 1) := by decide +kernel
theorem dX12_known_18 : decode cX12_known 18 = .ok (.ireturn, 1) := by decide +kernel
theorem dX12_known_19 : decode cX12_known 19 = .ok (.iconst 0, 1) := by decide +kernel
theorem dX12_known_20 : decode cX12_known 20 = .ok (.istore_n 2, 1) := by decide +kernel
theorem dX12_known_21 : decode cX12_known 21 = .ok (.iload_n 2, 1) := by decide +kernel
theorem dX12_known_22 : decode cX12_known 22 = .ok (.aload_n 0, 1) := by decide +kernel
theorem dX12_known_23 : decode cX12_known 23 = .ok (.getfield 227, 3) := by decide +kernel
theorem dX12_known_26 : decode cX12_known 26 = .ok (.if_icmp .ge 27, 3) := by decide +kernel
theorem dX12_known_29 : decode cX12_known 29 = .ok (.aload_n 0, 1) := by decide +kernel
theorem dX12_known_30 : decode cX12_known 30 = .ok (.getfield 40, 3) := by decide +kernel
theorem dX12_known_33 : decode cX12_known 33 = .ok (.iload_n 2, 1) := by decide +kernel
theorem dX12_known_34 : decode cX12_known 34 = .ok (.laload, 1) := by decide +kernel
theorem dX12_known_35 : decode cX12_known 35 = .ok (.aload_n 0, 1) := by decide +kernel
theorem dX12_known_36 : decode cX12_known 36 = .ok (.getfield 30, 3) := by decide +kernel
theorem dX12_known_39 : decode cX12_known 39 = .ok (.iload_n 1, 1) := by decide +kernel
theorem dX12_known_40 : decode cX12_known 40 = .ok (.laload, 1) := by decide +kernel
theorem dX12_known_41 : decode cX12_known 41 = .ok (.lcmp, 1) := by decide +kernel
theorem dX12_known_42 : decode cX12_known 42 = .ok (.ifCond .ne 5, 3) := by decide +kernel
theorem dX12_known_45 : decode cX12_known 45 = .ok (.iload_n 2, 1) := by decide +kernel
theorem dX12_known_46 : decode cX12_known 46 = .ok (.ireturn, 1) := by decide +kernel
theorem dX12_known_47 : decode cX12_known 47 = .ok (.iinc 2 1, 3) := by decide +kernel
theorem dX12_known_50 : decode cX12_known 50 = .ok (.goto (-29), 3) := by decide +kernel
theorem dX12_known_53 : decode cX12_known 53 = .ok (.aload_n 0, 1) := by decide +kernel
theorem dX12_known_54 : decode cX12_known 54 = .ok (.iconst 4, 1) := by decide +kernel
theorem dX12_known_55 : decode cX12_known 55 = .ok (.iload_n 1, 1) := by decide +kernel
theorem dX12_known_56 : decode cX12_known 56 = .ok (.invokevirtual 272, 3) := by decide +kernel
theorem dX12_known_59 : decode cX12_known 59 = .ok (.iconst (-1), 1) := by decide +kernel
theorem dX12_known_60 : decode cX12_known 60 = .ok (.ireturn, 1) := by decide +kernel
theorem dX12_bounded_0 : decode cX12_bounded 0 = .ok (.aload_n 0, 1) := by decide +kernel
theorem dX12_bounded_1 : decode cX12_bounded 1 = .ok (.getfield 191, 3) := by decide +kernel
theorem dX12_bounded_4 : decode cX12_bounded 4 = .ok (.ifCond .gt 11, 3) := by decide +kernel
theorem dX12_bounded_7 : decode cX12_bounded 7 = .ok (.aload_n 0, 1) := by decide +kernel
theorem dX12_bounded_8 : decode cX12_bounded 8 = .ok (.iconst 2, 1) := by decide +kernel
theorem dX12_bounded_9 : decode cX12_bounded 9 = .ok (.invokevirtual 209, 3) := by decide +kernel
theorem dX12_bounded_12 : decode cX12_bounded 12 = .ok (.ifCond .ne 10, 3) := by decide +kernel
theorem dX12_bounded_15 : decode cX12_bounded 15 = .ok (.aload_n 0, 1) := by decide +kernel
theorem dX12_bounded_16 : decode cX12_bounded 16 = .ok (.iconst 1, 1) := by decide +kernel
theorem dX12_bounded_17 : decode cX12_bounded 17 = .ok (.invokevirtual 206, 3) := by decide +kernel
theorem dX12_bounded_20 : decode cX12_bounded 20 = .ok (.iload_n 1, 1) := by decide +kernel
theorem dX12_bounded_21 : decode cX12_bounded 21 = .ok (.ireturn, 1) := by decide +kernel
theorem dX12_bounded_22 : decode cX12_bounded 22 = .ok (.aload_n 0, 1) := by decide +kernel
theorem dX12_bounded_23 : decode cX12_bounded 23 = .ok (.getfield 27, 3) := by decide +kernel
theorem dX12_bounded_26 : decode cX12_bounded 26 = .ok (.aload_n 0, 1) := by decide +kernel
theorem dX12_bounded_27 : decode cX12_bounded 27 = .ok (.getfield 194, 3) := by decide +kernel
theorem dX12_bounded_30 : decode cX12_bounded 30 = .ok (.iaload, 1) := by decide +kernel
theorem dX12_bounded_31 : decode cX12_bounded 31 = .ok (.istore_n 3, 1) := by decide +kernel
theorem dX12_bounded_32 : decode cX12_bounded 32 = .ok (.iload_n 3, 1) := by decide +kernel
theorem dX12_bounded_33 : decode cX12_bounded 33 = .ok (.iload_n 1, 1) := by decide +kernel
theorem dX12_bounded_34 : decode cX12_bounded 34 = .ok (.if_icmp .lt 8, 3) := by decide +kernel
theorem dX12_bounded_37 : decode cX12_bounded 37 = .ok (.iload_n 3, 1) := by decide +kernel
theorem dX12_bounded_38 : decode cX12_bounded 38 = .ok (.iload_n 2, 1) := by decide +kernel
theorem dX12_bounded_39 : decode cX12_bounded 39 = .ok (.if_icmp .le 12, 3) := by decide +kernel
theorem dX12_bounded_42 : decode cX12_bounded 42 = .ok (.aload_n 0, 1) := by decide +kernel
theorem dX12_bounded_43 : decode cX12_bounded 43 = .ok (.iconst 5, 1) := by decide +kernel
theorem dX12_bounded_44 : decode cX12_bounded 44 = .ok (.aload_n 0, 1) := by decide +kernel
theorem dX12_bounded_45 : decode cX12_bounded 45 = .ok (.getfield 194, 3) := by decide +kernel
theorem dX12_bounded_48 : decode cX12_bounded 48 = .ok (.invokevirtual 272, 3) := by decide +kernel
theorem dX12_bounded_51 : decode cX12_bounded 51 = .ok (.aload_n 0, 1) := by decide +kernel
theorem dX12_bounded_52 : decode cX12_bounded 52 = .ok (.invokevirtual 212, 3) := by decide +kernel
theorem dX12_bounded_55 : decode cX12_bounded 55 = .ok (.iload_n 3, 1) := by decide +kernel
theorem dX12_bounded_56 : decode cX12_bounded 56 = .ok (.ireturn, 1) := by decide +kernel
theorem dX12_tellBook_0 : decode cX12_tellBook 0 = .ok (.bipush 6, 2) := by decide +kernel
theorem dX12_tellBook_2 : decode cX12_tellBook 2 = .ok (.aload_n 0, 1) := by decide +kernel
theorem dX12_tellBook_3 : decode cX12_tellBook 3 = .ok (.getfield 224, 3) := by decide +kernel
theorem dX12_tellBook_6 : decode cX12_tellBook 6 = .ok (.imul, 1) := by decide +kernel
theorem dX12_tellBook_7 : decode cX12_tellBook 7 = .ok (.aload_n 0, 1) := by decide +kernel
theorem dX12_tellBook_8 : decode cX12_tellBook 8 = .ok (.getfield 43, 3) := by decide +kernel
theorem dX12_tellBook_11 : decode cX12_tellBook 11 = .ok (.aload_n 0, 1) := by decide +kernel
theorem dX12_tellBook_12 : decode cX12_tellBook 12 = .ok (.getfield 224, 3) := by decide +kernel
theorem dX12_tellBook_15 : decode cX12_tellBook 15 = .ok (.iaload, 1) := by decide +kernel
theorem dX12_tellBook_16 : decode cX12_tellBook 16 = .ok (.iadd, 1) := by decide +kernel
theorem dX12_tellBook_17 : decode cX12_tellBook 17 = .ok (.istore_n 1, 1) := by decide +kernel
theorem dX12_tellBook_18 : decode cX12_tellBook 18 = .ok (.aload_n 0, 1) := by decide +kernel
theorem dX12_tellBook_19 : decode cX12_tellBook 19 = .ok (.getfield 194, 3) := by decide +kernel
theorem dX12_tellBook_22 : decode cX12_tellBook 22 = .ok (.istore_n 2, 1) := by decide +kernel
theorem dX12_tellBook_23 : decode cX12_tellBook 23 = .ok (.aload_n 0, 1) := by decide +kernel
theorem dX12_tellBook_24 : decode cX12_tellBook 24 = .ok (.iconst 1, 1) := by decide +kernel
theorem dX12_tellBook_25 : decode cX12_tellBook 25 = .ok (.invokevirtual 263, 3) := by decide +kernel
theorem dX12_tellBook_28 : decode cX12_tellBook 28 = .ok (.iconst 0, 1) := by decide +kernel
theorem dX12_tellBook_29 : decode cX12_tellBook 29 = .ok (.istore_n 3, 1) := by decide +kernel
theorem dX12_tellBook_30 : decode cX12_tellBook 30 = .ok (.iload_n 3, 1) := by decide +kernel
theorem dX12_tellBook_31 : decode cX12_tellBook 31 = .ok (.aload_n 0, 1) := by decide +kernel
theorem dX12_tellBook_32 : decode cX12_tellBook 32 = .ok (.getfield 227, 3) := by decide +kernel
theorem dX12_tellBook_35 : decode cX12_tellBook 35 = .ok (.if_icmp .ge 38, 3) := by decide +kernel
theorem dX12_tellBook_38 : decode cX12_tellBook 38 = .ok (.aload_n 0, 1) := by decide +kernel
theorem dX12_tellBook_39 : decode cX12_tellBook 39 = .ok (.getfield 191, 3) := by decide +kernel
theorem dX12_tellBook_42 : decode cX12_tellBook 42 = .ok (.ifCond .ne 31, 3) := by decide +kernel
theorem dX12_tellBook_45 : decode cX12_tellBook 45 = .ok (.aload_n 0, 1) := by decide +kernel
theorem dX12_tellBook_46 : decode cX12_tellBook 46 = .ok (.getfield 40, 3) := by decide +kernel
theorem dX12_tellBook_49 : decode cX12_tellBook 49 = .ok (.iload_n 3, 1) := by decide +kernel
theorem dX12_tellBook_50 : decode cX12_tellBook 50 = .ok (.laload, 1) := by decide +kernel
theorem dX12_tellBook_51 : decode cX12_tellBook 51 = .ok (.aload_n 0, 1) := by decide +kernel
theorem dX12_tellBook_52 : decode cX12_tellBook 52 = .ok (.getfield 30, 3) := by decide +kernel
theorem dX12_tellBook_55 : decode cX12_tellBook 55 = .ok (.iload_n 2, 1) := by decide +kernel
theorem dX12_tellBook_56 : decode cX12_tellBook 56 = .ok (.laload, 1) := by decide +kernel
theorem dX12_tellBook_57 : decode cX12_tellBook 57 = .ok (.lcmp, 1) := by decide +kernel
theorem dX12_tellBook_58 : decode cX12_tellBook 58 = .ok (.ifCond .ne 9, 3) := by decide +kernel
theorem dX12_tellBook_61 : decode cX12_tellBook 61 = .ok (.aload_n 0, 1) := by decide +kernel
theorem dX12_tellBook_62 : decode cX12_tellBook 62 = .ok (.iconst 3, 1) := by decide +kernel
theorem dX12_tellBook_63 : decode cX12_tellBook 63 = .ok (.iload_n 2, 1) := by decide +kernel
theorem dX12_tellBook_64 : decode cX12_tellBook 64 = .ok (.invokevirtual 272, 3) := by decide +kernel
theorem dX12_tellBook_67 : decode cX12_tellBook 67 = .ok (.iinc 3 1, 3) := by decide +kernel
theorem dX12_tellBook_70 : decode cX12_tellBook 70 = .ok (.goto (-40), 3) := by decide +kernel
theorem dX12_tellBook_73 : decode cX12_tellBook 73 = .ok (.aload_n 0, 1) := by decide +kernel
theorem dX12_tellBook_74 : decode cX12_tellBook 74 = .ok (.getfield 46, 3) := by decide +kernel
theorem dX12_tellBook_77 : decode cX12_tellBook 77 = .ok (.iload_n 1, 1) := by decide +kernel
theorem dX12_tellBook_78 : decode cX12_tellBook 78 = .ok (.aload_n 0, 1) := by decide +kernel
theorem dX12_tellBook_79 : decode cX12_tellBook 79 = .ok (.iconst 1, 1) := by decide +kernel
theorem dX12_tellBook_80 : decode cX12_tellBook 80 = .ok (.bipush 99, 2) := by decide +kernel
theorem dX12_tellBook_82 : decode cX12_tellBook 82 = .ok (.invokevirtual 259, 3) := by decide +kernel
theorem dX12_tellBook_85 : decode cX12_tellBook 85 = .ok (.iastore, 1) := by decide +kernel
theorem dX12_tellBook_86 : decode cX12_tellBook 86 = .ok (.aload_n 0, 1) := by decide +kernel
theorem dX12_tellBook_87 : decode cX12_tellBook 87 = .ok (.getfield 49, 3) := by decide +kernel
theorem dX12_tellBook_90 : decode cX12_tellBook 90 = .ok (.iload_n 1, 1) := by decide +kernel
theorem dX12_tellBook_91 : decode cX12_tellBook 91 = .ok (.aload_n 0, 1) := by decide +kernel
theorem dX12_tellBook_92 : decode cX12_tellBook 92 = .ok (.iconst 1, 1) := by decide +kernel
theorem dX12_tellBook_93 : decode cX12_tellBook 93 = .ok (.bipush 20, 2) := by decide +kernel
theorem dX12_tellBook_95 : decode cX12_tellBook 95 = .ok (.invokevirtual 259, 3) := by decide +kernel
theorem dX12_tellBook_98 : decode cX12_tellBook 98 = .ok (.iastore, 1) := by decide +kernel
theorem dX12_tellBook_99 : decode cX12_tellBook 99 = .ok (.aload_n 0, 1) := by decide +kernel
theorem dX12_tellBook_100 : decode cX12_tellBook 100 = .ok (.iconst 4, 1) := by decide +kernel
theorem dX12_tellBook_101 : decode cX12_tellBook 101 = .ok (.invokevirtual 263, 3) := by decide +kernel
theorem dX12_tellBook_104 : decode cX12_tellBook 104 = .ok (.aload_n 0, 1) := by decide +kernel
theorem dX12_tellBook_105 : decode cX12_tellBook 105 = .ok (.getfield 191, 3) := by decide +kernel
theorem dX12_tellBook_108 : decode cX12_tellBook 108 = .ok (.ifCond .le 4, 3) := by decide +kernel
theorem dX12_tellBook_111 : decode cX12_tellBook 111 = .ok (.return_, 1) := by decide +kernel
theorem dX12_tellBook_112 : decode cX12_tellBook 112 = .ok (.aload_n 0, 1) := by decide +kernel
theorem dX12_tellBook_113 : decode cX12_tellBook 113 = .ok (.getfield 40, 3) := by decide +kernel
theorem dX12_tellBook_116 : decode cX12_tellBook 116 = .ok (.aload_n 0, 1) := by decide +kernel
theorem dX12_tellBook_117 : decode cX12_tellBook 117 = .ok (.getfield 227, 3) := by decide +kernel
theorem dX12_tellBook_120 : decode cX12_tellBook 120 = .ok (.aload_n 0, 1) := by decide +kernel
theorem dX12_tellBook_121 : decode cX12_tellBook 121 = .ok (.getfield 30, 3) := by decide +kernel
theorem dX12_tellBook_124 : decode cX12_tellBook 124 = .ok (.iload_n 2, 1) := by decide +kernel
theorem dX12_tellBook_125 : decode cX12_tellBook 125 = .ok (.laload, 1) := by decide +kernel
theorem dX12_tellBook_126 : decode cX12_tellBook 126 = .ok (.lastore, 1) := by decide +kernel
theorem dX12_tellBook_127 : decode cX12_tellBook 127 = .ok (.aload_n 0, 1) := by decide +kernel
theorem dX12_tellBook_128 : decode cX12_tellBook 128 = .ok (.dup, 1) := by decide +kernel
theorem dX12_tellBook_129 : decode cX12_tellBook 129 = .ok (.getfield 227, 3) := by decide +kernel
theorem dX12_tellBook_132 : decode cX12_tellBook 132 = .ok (.iconst 1, 1) := by decide +kernel
theorem dX12_tellBook_133 : decode cX12_tellBook 133 = .ok (.iadd, 1) := by decide +kernel
theorem dX12_tellBook_134 : decode cX12_tellBook 134 = .ok (.putfield 227, 3) := by decide +kernel
theorem dX12_tellBook_137 : decode cX12_tellBook 137 = .ok (.aload_n 0, 1) := by decide +kernel
theorem dX12_tellBook_138 : decode cX12_tellBook 138 = .ok (.getfield 43, 3) := by decide +kernel
theorem dX12_tellBook_141 : decode cX12_tellBook 141 = .ok (.aload_n 0, 1) := by decide +kernel
theorem dX12_tellBook_142 : decode cX12_tellBook 142 = .ok (.getfield 224, 3) := by decide +kernel
theorem dX12_tellBook_145 : decode cX12_tellBook 145 = .ok (.dup2, 1) := by decide +kernel
theorem dX12_tellBook_146 : decode cX12_tellBook 146 = .ok (.iaload, 1) := by decide +kernel
theorem dX12_tellBook_147 : decode cX12_tellBook 147 = .ok (.iconst 1, 1) := by decide +kernel
theorem dX12_tellBook_148 : decode cX12_tellBook 148 = .ok (.iadd, 1) := by decide +kernel
theorem dX12_tellBook_149 : decode cX12_tellBook 149 = .ok (.iastore, 1) := by decide +kernel
theorem dX12_tellBook_150 : decode cX12_tellBook 150 = .ok (.return_, 1) := by decide +kernel
