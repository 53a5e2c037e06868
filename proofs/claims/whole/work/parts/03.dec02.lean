theorem dX10_init_0 : decode cX10_init 0 = .ok (.aload_n 0, 1) := by decide +kernel
theorem dX10_init_1 : decode cX10_init 1 = .ok (.invokespecial 3, 3) := by decide +kernel
theorem dX10_init_4 : decode cX10_init 4 = .ok (.aload_n 0, 1) := by decide +kernel
theorem dX10_init_5 : decode cX10_init 5 = .ok (.iconst 0, 1) := by decide +kernel
theorem dX10_init_6 : decode cX10_init 6 = .ok (.putfield 9, 3) := by decide +kernel
theorem dX10_init_9 : decode cX10_init 9 = .ok (.aload_n 0, 1) := by decide +kernel
theorem dX10_init_10 : decode cX10_init 10 = .ok (.bipush 6, 2) := by decide +kernel
theorem dX10_init_12 : decode cX10_init 12 = .ok (.newarray .long, 2) := by decide +kernel
theorem dX10_init_14 : decode cX10_init 14 = .ok (.putfield 15, 3) := by decide +kernel
theorem dX10_init_17 : decode cX10_init 17 = .ok (.aload_n 0, 1) := by decide +kernel
theorem dX10_init_18 : decode cX10_init 18 = .ok (.bipush 6, 2) := by decide +kernel
theorem dX10_init_20 : decode cX10_init 20 = .ok (.newarray .int, 2) := by decide +kernel
theorem dX10_init_22 : decode cX10_init 22 = .ok (.putfield 19, 3) := by decide +kernel
theorem dX10_init_25 : decode cX10_init 25 = .ok (.aload_n 0, 1) := by decide +kernel
theorem dX10_init_26 : decode cX10_init 26 = .ok (.bipush 6, 2) := by decide +kernel
theorem dX10_init_28 : decode cX10_init 28 = .ok (.newarray .int, 2) := by decide +kernel
theorem dX10_init_30 : decode cX10_init 30 = .ok (.putfield 23, 3) := by decide +kernel
theorem dX10_init_33 : decode cX10_init 33 = .ok (.aload_n 0, 1) := by decide +kernel
theorem dX10_init_34 : decode cX10_init 34 = .ok (.bipush 6, 2) := by decide +kernel
theorem dX10_init_36 : decode cX10_init 36 = .ok (.newarray .int, 2) := by decide +kernel
theorem dX10_init_38 : decode cX10_init 38 = .ok (.putfield 26, 3) := by decide +kernel
theorem dX10_init_41 : decode cX10_init 41 = .ok (.aload_n 0, 1) := by decide +kernel
theorem dX10_init_42 : decode cX10_init 42 = .ok (.iconst 0, 1) := by decide +kernel
theorem dX10_init_43 : decode cX10_init 43 = .ok (.putfield 29, 3) := by decide +kernel
theorem dX10_init_46 : decode cX10_init 46 = .ok (.aload_n 0, 1) := by decide +kernel
theorem dX10_init_47 : decode cX10_init 47 = .ok (.sipush 400, 3) := by decide +kernel
theorem dX10_init_50 : decode cX10_init 50 = .ok (.newarray .int, 2) := by decide +kernel
theorem dX10_init_52 : decode cX10_init 52 = .ok (.putfield 32, 3) := by decide +kernel
theorem dX10_init_55 : decode cX10_init 55 = .ok (.aload_n 0, 1) := by decide +kernel
theorem dX10_init_56 : decode cX10_init 56 = .ok (.sipush 400, 3) := by decide +kernel
theorem dX10_init_59 : decode cX10_init 59 = .ok (.newarray .int, 2) := by decide +kernel
theorem dX10_init_61 : decode cX10_init 61 = .ok (.putfield 35, 3) := by decide +kernel
theorem dX10_init_64 : decode cX10_init 64 = .ok (.aload_n 0, 1) := by decide +kernel
theorem dX10_init_65 : decode cX10_init 65 = .ok (.bipush 40, 2) := by decide +kernel
theorem dX10_init_67 : decode cX10_init 67 = .ok (.newarray .int, 2) := by decide +kernel
theorem dX10_init_69 : decode cX10_init 69 = .ok (.putfield 38, 3) := by decide +kernel
theorem dX10_init_72 : decode cX10_init 72 = .ok (.aload_n 0, 1) := by decide +kernel
theorem dX10_init_73 : decode cX10_init 73 = .ok (.bipush 100, 2) := by decide +kernel
theorem dX10_init_75 : decode cX10_init 75 = .ok (.putfield 41, 3) := by decide +kernel
theorem dX10_init_78 : decode cX10_init 78 = .ok (.aload_n 0, 1) := by decide +kernel
theorem dX10_init_79 : decode cX10_init 79 = .ok (.iconst 0, 1) := by decide +kernel
theorem dX10_init_80 : decode cX10_init 80 = .ok (.putfield 44, 3) := by decide +kernel
theorem dX10_init_83 : decode cX10_init 83 = .ok (.aload_n 0, 1) := by decide +kernel
theorem dX10_init_84 : decode cX10_init 84 = .ok (.bipush 6, 2) := by decide +kernel
theorem dX10_init_86 : decode cX10_init 86 = .ok (.newarray .int, 2) := by decide +kernel
theorem dX10_init_88 : decode cX10_init 88 = .ok (.putfield 47, 3) := by decide +kernel
theorem dX10_init_91 : decode cX10_init 91 = .ok (.aload_n 0, 1) := by decide +kernel
theorem dX10_init_92 : decode cX10_init 92 = .ok (.bipush 6, 2) := by decide +kernel
theorem dX10_init_94 : decode cX10_init 94 = .ok (.newarray .int, 2) := by decide +kernel
theorem dX10_init_96 : decode cX10_init 96 = .ok (.putfield 50, 3) := by decide +kernel
theorem dX10_init_99 : decode cX10_init 99 = .ok (.aload_n 0, 1) := by decide +kernel
theorem dX10_init_100 : decode cX10_init 100 = .ok (.bipush 6, 2) := by decide +kernel
theorem dX10_init_102 : decode cX10_init 102 = .ok (.newarray .int, 2) := by decide +kernel
theorem dX10_init_104 : decode cX10_init 104 = .ok (.putfield 53, 3) := by decide +kernel
theorem dX10_init_107 : decode cX10_init 107 = .ok (.aload_n 0, 1) := by decide +kernel
theorem dX10_init_108 : decode cX10_init 108 = .ok (.new 56, 3) := by decide +kernel
theorem dX10_init_111 : decode cX10_init 111 = .ok (.dup, 1) := by decide +kernel
theorem dX10_init_112 : decode cX10_init 112 = .ok (.invokespecial 58, 3) := by decide +kernel
theorem dX10_init_115 : decode cX10_init 115 = .ok (.putfield 59, 3) := by decide +kernel
theorem dX10_init_118 : decode cX10_init 118 = .ok (.return_, 1) := by decide +kernel
theorem dX10_empty_0 : decode cX10_empty 0 = .ok (.aload_n 0, 1) := by decide +kernel
theorem dX10_empty_1 : decode cX10_empty 1 = .ok (.iconst 0, 1) := by decide +kernel
theorem dX10_empty_2 : decode cX10_empty 2 = .ok (.putfield 9, 3) := by decide +kernel
theorem dX10_empty_5 : decode cX10_empty 5 = .ok (.aload_n 0, 1) := by decide +kernel
theorem dX10_empty_6 : decode cX10_empty 6 = .ok (.iconst 0, 1) := by decide +kernel
theorem dX10_empty_7 : decode cX10_empty 7 = .ok (.putfield 29, 3) := by decide +kernel
theorem dX10_empty_10 : decode cX10_empty 10 = .ok (.aload_n 0, 1) := by decide +kernel
theorem dX10_empty_11 : decode cX10_empty 11 = .ok (.bipush 100, 2) := by decide +kernel
theorem dX10_empty_13 : decode cX10_empty 13 = .ok (.putfield 41, 3) := by decide +kernel
theorem dX10_empty_16 : decode cX10_empty 16 = .ok (.aload_n 0, 1) := by decide +kernel
theorem dX10_empty_17 : decode cX10_empty 17 = .ok (.iconst 0, 1) := by decide +kernel
theorem dX10_empty_18 : decode cX10_empty 18 = .ok (.putfield 44, 3) := by decide +kernel
theorem dX10_empty_21 : decode cX10_empty 21 = .ok (.aload_n 0, 1) := by decide +kernel
theorem dX10_empty_22 : decode cX10_empty 22 = .ok (.getfield 59, 3) := by decide +kernel
theorem dX10_empty_25 : decode cX10_empty 25 = .ok (.iconst 0, 1) := by decide +kernel
theorem dX10_empty_26 : decode cX10_empty 26 = .ok (.putfield 63, 3) := by decide +kernel
theorem dX10_empty_29 : decode cX10_empty 29 = .ok (.return_, 1) := by decide +kernel
theorem dX10_bookNamed_0 : decode cX10_bookNamed 0 = .ok (.iconst 0, 1) := by decide +kernel
theorem dX10_bookNamed_1 : decode cX10_bookNamed 1 = .ok (.istore_n 3, 1) := by decide +kernel
theorem dX10_bookNamed_2 : decode cX10_bookNamed 2 = .ok (.iload_n 3, 1) := by decide +kernel
theorem dX10_bookNamed_3 : decode cX10_bookNamed 3 = .ok (.aload_n 0, 1) := by decide +kernel
theorem dX10_bookNamed_4 : decode cX10_bookNamed 4 = .ok (.getfield 9, 3) := by decide +kernel
theorem dX10_bookNamed_7 : decode cX10_bookNamed 7 = .ok (.if_icmp .ge 22, 3) := by decide +kernel
theorem dX10_bookNamed_10 : decode cX10_bookNamed 10 = .ok (.aload_n 0, 1) := by decide +kernel
theorem dX10_bookNamed_11 : decode cX10_bookNamed 11 = .ok (.getfield 15, 3) := by decide +kernel
theorem dX10_bookNamed_14 : decode cX10_bookNamed 14 = .ok (.iload_n 3, 1) := by decide +kernel
theorem dX10_bookNamed_15 : decode cX10_bookNamed 15 = .ok (.laload, 1) := by decide +kernel
theorem dX10_bookNamed_16 : decode cX10_bookNamed 16 = .ok (.lload_n 1, 1) := by decide +kernel
theorem dX10_bookNamed_17 : decode cX10_bookNamed 17 = .ok (.lcmp, 1) := by decide +kernel
theorem dX10_bookNamed_18 : decode cX10_bookNamed 18 = .ok (.ifCond .ne 5, 3) := by decide +kernel
theorem dX10_bookNamed_21 : decode cX10_bookNamed 21 = .ok (.iload_n 3, 1) := by decide +kernel
theorem dX10_bookNamed_22 : decode cX10_bookNamed 22 = .ok (.ireturn, 1) := by decide +kernel
theorem dX10_bookNamed_23 : decode cX10_bookNamed 23 = .ok (.iinc 3 1, 3) := by decide +kernel
theorem dX10_bookNamed_26 : decode cX10_bookNamed 26 = .ok (.goto (-24), 3) := by decide +kernel
theorem dX10_bookNamed_29 : decode cX10_bookNamed 29 = .ok (.iconst (-1), 1) := by decide +kernel
theorem dX10_bookNamed_30 : decode cX10_bookNamed 30 = .ok (.ireturn, 1) := by decide +kernel
theorem dX10_addBook_0 : decode cX10_addBook 0 = .ok (.aload_n 0, 1) := by decide +kernel
theorem dX10_addBook_1 : decode cX10_addBook 1 = .ok (.getfield 9, 3) := by decide +kernel
theorem dX10_addBook_4 : decode cX10_addBook 4 = .ok (.bipush 6, 2) := by decide +kernel
theorem dX10_addBook_6 : decode cX10_addBook 6 = .ok (.if_icmp .ge 74, 3) := by decide +kernel
theorem dX10_addBook_9 : decode cX10_addBook 9 = .ok (.aload_n 0, 1) := by decide +kernel
theorem dX10_addBook_10 : decode cX10_addBook 10 = .ok (.getfield 15, 3) := by decide +kernel
theorem dX10_addBook_13 : decode cX10_addBook 13 = .ok (.aload_n 0, 1) := by decide +kernel
theorem dX10_addBook_14 : decode cX10_addBook 14 = .ok (.getfield 9, 3) := by decide +kernel
theorem dX10_addBook_17 : decode cX10_addBook 17 = .ok (.lload_n 1, 1) := by decide +kernel
theorem dX10_addBook_18 : decode cX10_addBook 18 = .ok (.lastore, 1) := by decide +kernel
theorem dX10_addBook_19 : decode cX10_addBook 19 = .ok (.aload_n 0, 1) := by decide +kernel
theorem dX10_addBook_20 : decode cX10_addBook 20 = .ok (.getfield 19, 3) := by decide +kernel
theorem dX10_addBook_23 : decode cX10_addBook 23 = .ok (.aload_n 0, 1) := by decide +kernel
theorem dX10_addBook_24 : decode cX10_addBook 24 = .ok (.getfield 9, 3) := by decide +kernel
theorem dX10_addBook_27 : decode cX10_addBook 27 = .ok (.iload_n 3, 1) := by decide +kernel
theorem dX10_addBook_28 : decode cX10_addBook 28 = .ok (.iastore, 1) := by decide +kernel
theorem dX10_addBook_29 : decode cX10_addBook 29 = .ok (.aload_n 0, 1) := by decide +kernel
theorem dX10_addBook_30 : decode cX10_addBook 30 = .ok (.getfield 23, 3) := by decide +kernel
theorem dX10_addBook_33 : decode cX10_addBook 33 = .ok (.aload_n 0, 1) := by decide +kernel
theorem dX10_addBook_34 : decode cX10_addBook 34 = .ok (.getfield 9, 3) := by decide +kernel
theorem dX10_addBook_37 : decode cX10_addBook 37 = .ok (.iload 4, 2) := by decide +kernel
theorem dX10_addBook_39 : decode cX10_addBook 39 = .ok (.iastore, 1) := by decide +kernel
theorem dX10_addBook_40 : decode cX10_addBook 40 = .ok (.aload_n 0, 1) := by decide +kernel
theorem dX10_addBook_41 : decode cX10_addBook 41 = .ok (.getfield 26, 3) := by decide +kernel
theorem dX10_addBook_44 : decode cX10_addBook 44 = .ok (.aload_n 0, 1) := by decide +kernel
theorem dX10_addBook_45 : decode cX10_addBook 45 = .ok (.getfield 9, 3) := by decide +kernel
theorem dX10_addBook_48 : decode cX10_addBook 48 = .ok (.iconst (-1), 1) := by decide +kernel
theorem dX10_addBook_49 : decode cX10_addBook 49 = .ok (.iastore, 1) := by decide +kernel
theorem dX10_addBook_50 : decode cX10_addBook 50 = .ok (.aload_n 0, 1) := by decide +kernel
theorem dX10_addBook_51 : decode cX10_addBook 51 = .ok (.getfield 50, 3) := by decide +kernel
theorem dX10_addBook_54 : decode cX10_addBook 54 = .ok (.aload_n 0, 1) := by decide +kernel
theorem dX10_addBook_55 : decode cX10_addBook 55 = .ok (.getfield 9, 3) := by decide +kernel
theorem dX10_addBook_58 : decode cX10_addBook 58 = .ok (.iconst 0, 1) := by decide +kernel
theorem dX10_addBook_59 : decode cX10_addBook 59 = .ok (.iastore, 1) := by decide +kernel
theorem dX10_addBook_60 : decode cX10_addBook 60 = .ok (.aload_n 0, 1) := by decide +kernel
theorem dX10_addBook_61 : decode cX10_addBook 61 = .ok (.getfield 53, 3) := by decide +kernel
theorem dX10_addBook_64 : decode cX10_addBook 64 = .ok (.aload_n 0, 1) := by decide +kernel
theorem dX10_addBook_65 : decode cX10_addBook 65 = .ok (.getfield 9, 3) := by decide +kernel
theorem dX10_addBook_68 : decode cX10_addBook 68 = .ok (.iconst 0, 1) := by decide +kernel
theorem dX10_addBook_69 : decode cX10_addBook 69 = .ok (.iastore, 1) := by decide +kernel
theorem dX10_addBook_70 : decode cX10_addBook 70 = .ok (.aload_n 0, 1) := by decide +kernel
theorem dX10_addBook_71 : decode cX10_addBook 71 = .ok (.dup, 1) := by decide +kernel
theorem dX10_addBook_72 : decode cX10_addBook 72 = .ok (.getfield 9, 3) := by decide +kernel
theorem dX10_addBook_75 : decode cX10_addBook 75 = .ok (.iconst 1, 1) := by decide +kernel
theorem dX10_addBook_76 : decode cX10_addBook 76 = .ok (.iadd, 1) := by decide +kernel
theorem dX10_addBook_77 : decode cX10_addBook 77 = .ok (.putfield 9, 3) := by decide +kernel
theorem dX10_addBook_80 : decode cX10_addBook 80 = .ok (.return_, 1) := by decide +kernel
theorem dX10_addFly_0 : decode cX10_addFly 0 = .ok (.aload_n 0, 1) := by decide +kernel
theorem dX10_addFly_1 : decode cX10_addFly 1 = .ok (.getfield 44, 3) := by decide +kernel
theorem dX10_addFly_4 : decode cX10_addFly 4 = .ok (.bipush 6, 2) := by decide +kernel
theorem dX10_addFly_6 : decode cX10_addFly 6 = .ok (.if_icmp .ge 57, 3) := by decide +kernel
theorem dX10_addFly_9 : decode cX10_addFly 9 = .ok (.iload_n 2, 1) := by decide +kernel
theorem dX10_addFly_10 : decode cX10_addFly 10 = .ok (.ifCond .lt 53, 3) := by decide +kernel
theorem dX10_addFly_13 : decode cX10_addFly 13 = .ok (.iload_n 2, 1) := by decide +kernel
theorem dX10_addFly_14 : decode cX10_addFly 14 = .ok (.aload_n 0, 1) := by decide +kernel
theorem dX10_addFly_15 : decode cX10_addFly 15 = .ok (.getfield 9, 3) := by decide +kernel
theorem dX10_addFly_18 : decode cX10_addFly 18 = .ok (.if_icmp .ge 45, 3) := by decide +kernel
theorem dX10_addFly_21 : decode cX10_addFly 21 = .ok (.aload_n 0, 1) := by decide +kernel
theorem dX10_addFly_22 : decode cX10_addFly 22 = .ok (.getfield 47, 3) := by decide +kernel
theorem dX10_addFly_25 : decode cX10_addFly 25 = .ok (.aload_n 0, 1) := by decide +kernel
theorem dX10_addFly_26 : decode cX10_addFly 26 = .ok (.getfield 44, 3) := by decide +kernel
theorem dX10_addFly_29 : decode cX10_addFly 29 = .ok (.iload_n 2, 1) := by decide +kernel
theorem dX10_addFly_30 : decode cX10_addFly 30 = .ok (.iastore, 1) := by decide +kernel
theorem dX10_addFly_31 : decode cX10_addFly 31 = .ok (.aload_n 0, 1) := by decide +kernel
theorem dX10_addFly_32 : decode cX10_addFly 32 = .ok (.getfield 50, 3) := by decide +kernel
theorem dX10_addFly_35 : decode cX10_addFly 35 = .ok (.iload_n 2, 1) := by decide +kernel
theorem dX10_addFly_36 : decode cX10_addFly 36 = .ok (.dup2, 1) := by decide +kernel
theorem dX10_addFly_37 : decode cX10_addFly 37 = .ok (.iaload, 1) := by decide +kernel
theorem dX10_addFly_38 : decode cX10_addFly 38 = .ok (.iload_n 1, 1) := by decide +kernel
theorem dX10_addFly_39 : decode cX10_addFly 39 = .ok (.iadd, 1) := by decide +kernel
theorem dX10_addFly_40 : decode cX10_addFly 40 = .ok (.iastore, 1) := by decide +kernel
theorem dX10_addFly_41 : decode cX10_addFly 41 = .ok (.aload_n 0, 1) := by decide +kernel
theorem dX10_addFly_42 : decode cX10_addFly 42 = .ok (.getfield 53, 3) := by decide +kernel
theorem dX10_addFly_45 : decode cX10_addFly 45 = .ok (.iload_n 2, 1) := by decide +kernel
theorem dX10_addFly_46 : decode cX10_addFly 46 = .ok (.dup2, 1) := by decide +kernel
theorem dX10_addFly_47 : decode cX10_addFly 47 = .ok (.iaload, 1) := by decide +kernel
theorem dX10_addFly_48 : decode cX10_addFly 48 = .ok (.iload_n 1, 1) := by decide +kernel
theorem dX10_addFly_49 : decode cX10_addFly 49 = .ok (.iload_n 3, 1) := by decide +kernel
theorem dX10_addFly_50 : decode cX10_addFly 50 = .ok (.imul, 1) := by decide +kernel
theorem dX10_addFly_51 : decode cX10_addFly 51 = .ok (.iadd, 1) := by decide +kernel
theorem dX10_addFly_52 : decode cX10_addFly 52 = .ok (.iastore, 1) := by decide +kernel
theorem dX10_addFly_53 : decode cX10_addFly 53 = .ok (.aload_n 0, 1) := by decide +kernel
theorem dX10_addFly_54 : decode cX10_addFly 54 = .ok (.dup, 1) := by decide +kernel
theorem dX10_addFly_55 : decode cX10_addFly 55 = .ok (.getfield 44, 3) := by decide +kernel
theorem dX10_addFly_58 : decode cX10_addFly 58 = .ok (.iconst 1, 1) := by decide +kernel
theorem dX10_addFly_59 : decode cX10_addFly 59 = .ok (.iadd, 1) := by decide +kernel
theorem dX10_addFly_60 : decode cX10_addFly 60 = .ok (.putfield 44, 3) := by decide +kernel
theorem dX10_addFly_63 : decode cX10_addFly 63 = .ok (.return_, 1) := by decide +kernel
theorem dX10_emit_0 : decode cX10_emit 0 = .ok (.aload_n 0, 1) := by decide +kernel
theorem dX10_emit_1 : decode cX10_emit 1 = .ok (.getfield 29, 3) := by decide +kernel
theorem dX10_emit_4 : decode cX10_emit 4 = .ok (.sipush 400, 3) := by decide +kernel
theorem dX10_emit_7 : decode cX10_emit 7 = .ok (.if_icmp .lt 5, 3) := by decide +kernel
theorem dX10_emit_10 : decode cX10_emit 10 = .ok (.iconst (-1), 1) := by decide +kernel
theorem dX10_emit_11 : decode cX10_emit 11 = .ok (.ireturn, 1) := by decide +kernel
theorem dX10_emit_12 : decode cX10_emit 12 = .ok (.aload_n 0, 1) := by decide +kernel
theorem dX10_emit_13 : decode cX10_emit 13 = .ok (.getfield 32, 3) := by decide +kernel
theorem dX10_emit_16 : decode cX10_emit 16 = .ok (.aload_n 0, 1) := by decide +kernel
theorem dX10_emit_17 : decode cX10_emit 17 = .ok (.getfield 29, 3) := by decide +kernel
theorem dX10_emit_20 : decode cX10_emit 20 = .ok (.iload_n 1, 1) := by decide +kernel
theorem dX10_emit_21 : decode cX10_emit 21 = .ok (.iastore, 1) := by decide +kernel
theorem dX10_emit_22 : decode cX10_emit 22 = .ok (.aload_n 0, 1) := by decide +kernel
theorem dX10_emit_23 : decode cX10_emit 23 = .ok (.getfield 35, 3) := by decide +kernel
theorem dX10_emit_26 : decode cX10_emit 26 = .ok (.aload_n 0, 1) := by decide +kernel
theorem dX10_emit_27 : decode cX10_emit 27 = .ok (.getfield 29, 3) := by decide +kernel
theorem dX10_emit_30 : decode cX10_emit 30 = .ok (.iload_n 2, 1) := by decide +kernel
theorem dX10_emit_31 : decode cX10_emit 31 = .ok (.iastore, 1) := by decide +kernel
theorem dX10_emit_32 : decode cX10_emit 32 = .ok (.aload_n 0, 1) := by decide +kernel
theorem dX10_emit_33 : decode cX10_emit 33 = .ok (.dup, 1) := by decide +kernel
theorem dX10_emit_34 : decode cX10_emit 34 = .ok (.getfield 29, 3) := by decide +kernel
theorem dX10_emit_37 : decode cX10_emit 37 = .ok (.iconst 1, 1) := by decide +kernel
theorem dX10_emit_38 : decode cX10_emit 38 = .ok (.iadd, 1) := by decide +kernel
theorem dX10_emit_39 : decode cX10_emit 39 = .ok (.putfield 29, 3) := by decide +kernel
theorem dX10_emit_42 : decode cX10_emit 42 = .ok (.aload_n 0, 1) := by decide +kernel
theorem dX10_emit_43 : decode cX10_emit 43 = .ok (.getfield 29, 3) := by decide +kernel
theorem dX10_emit_46 : decode cX10_emit 46 = .ok (.iconst 1, 1) := by decide +kernel
theorem dX10_emit_47 : decode cX10_emit 47 = .ok (.isub, 1) := by decide +kernel
theorem dX10_emit_48 : decode cX10_emit 48 = .ok (.ireturn, 1) := by decide +kernel
theorem dX10_aim_0 : decode cX10_aim 0 = .ok (.iload_n 1, 1) := by decide +kernel
theorem dX10_aim_1 : decode cX10_aim 1 = .ok (.ifCond .lt 21, 3) := by decide +kernel
theorem dX10_aim_4 : decode cX10_aim 4 = .ok (.iload_n 1, 1) := by decide +kernel
theorem dX10_aim_5 : decode cX10_aim 5 = .ok (.aload_n 0, 1) := by decide +kernel
theorem dX10_aim_6 : decode cX10_aim 6 = .ok (.getfield 29, 3) := by decide +kernel
theorem dX10_aim_9 : decode cX10_aim 9 = .ok (.if_icmp .ge 13, 3) := by decide +kernel
theorem dX10_aim_12 : decode cX10_aim 12 = .ok (.aload_n 0, 1) := by decide +kernel
theorem dX10_aim_13 : decode cX10_aim 13 = .ok (.getfield 35, 3) := by decide +kernel
theorem dX10_aim_16 : decode cX10_aim 16 = .ok (.iload_n 1, 1) := by decide +kernel
theorem dX10_aim_17 : decode cX10_aim 17 = .ok (.aload_n 0, 1) := by decide +kernel
theorem dX10_aim_18 : decode cX10_aim 18 = .ok (.getfield 29, 3) := by decide +kernel
theorem dX10_aim_21 : decode cX10_aim 21 = .ok (.iastore, 1) := by decide +kernel
theorem dX10_aim_22 : decode cX10_aim 22 = .ok (.return_, 1) := by decide +kernel
theorem dX10_weighs_0 : decode cX10_weighs 0 = .ok (.aload_n 1, 1) := by decide +kernel
theorem dX10_weighs_1 : decode cX10_weighs 1 = .ok (.getfield 66, 3) := by decide +kernel
theorem dX10_weighs_4 : decode cX10_weighs 4 = .ok (.iload_n 2, 1) := by decide +kernel
theorem dX10_weighs_5 : decode cX10_weighs 5 = .ok (.iaload, 1) := by decide +kernel
theorem dX10_weighs_6 : decode cX10_weighs 6 = .ok (.istore_n 3, 1) := by decide +kernel
theorem dX10_weighs_7 : decode cX10_weighs 7 = .ok (.aload_n 0, 1) := by decide +kernel
theorem dX10_weighs_8 : decode cX10_weighs 8 = .ok (.getfield 26, 3) := by decide +kernel
theorem dX10_weighs_11 : decode cX10_weighs 11 = .ok (.iload_n 3, 1) := by decide +kernel
theorem dX10_weighs_12 : decode cX10_weighs 12 = .ok (.iaload, 1) := by decide +kernel
theorem dX10_weighs_13 : decode cX10_weighs 13 = .ok (.iconst (-1), 1) := by decide +kernel
theorem dX10_weighs_14 : decode cX10_weighs 14 = .ok (.if_icmp .ne 10, 3) := by decide +kernel
theorem dX10_weighs_17 : decode cX10_weighs 17 = .ok (.aload_n 0, 1) := by decide +kernel
theorem dX10_weighs_18 : decode cX10_weighs 18 = .ok (.getfield 23, 3) := by decide +kernel
theorem dX10_weighs_21 : decode cX10_weighs 21 = .ok (.iload_n 3, 1) := by decide +kernel
theorem dX10_weighs_22 : decode cX10_weighs 22 = .ok (.iaload, 1) := by decide +kernel
theorem dX10_weighs_23 : decode cX10_weighs 23 = .ok (.ireturn, 1) := by decide +kernel
theorem dX10_weighs_24 : decode cX10_weighs 24 = .ok (.iconst 1, 1) := by decide +kernel
theorem dX10_weighs_25 : decode cX10_weighs 25 = .ok (.bipush 99, 2) := by decide +kernel
theorem dX10_weighs_27 : decode cX10_weighs 27 = .ok (.aload_n 0, 1) := by decide +kernel
theorem dX10_weighs_28 : decode cX10_weighs 28 = .ok (.aload_n 0, 1) := by decide +kernel
theorem dX10_weighs_29 : decode cX10_weighs 29 = .ok (.getfield 26, 3) := by decide +kernel
theorem dX10_weighs_32 : decode cX10_weighs 32 = .ok (.iload_n 3, 1) := by decide +kernel
theorem dX10_weighs_33 : decode cX10_weighs 33 = .ok (.iaload, 1) := by decide +kernel
theorem dX10_weighs_34 : decode cX10_weighs 34 = .ok (.aload_n 1, 1) := by decide +kernel
theorem dX10_weighs_35 : decode cX10_weighs 35 = .ok (.iload_n 2, 1) := by decide +kernel
theorem dX10_weighs_36 : decode cX10_weighs 36 = .ok (.invokevirtual 68, 3) := by decide +kernel
theorem dX10_weighs_39 : decode cX10_weighs 39 = .ok (.invokestatic 72, 3) := by decide +kernel
theorem dX10_weighs_42 : decode cX10_weighs 42 = .ok (.invokestatic 78, 3) := by decide +kernel
theorem dX10_weighs_45 : decode cX10_weighs 45 = .ok (.ireturn, 1) := by decide +kernel
theorem dX10_runLaw_0 : decode cX10_runLaw 0 = .ok (.iconst 0, 1) := by decide +kernel
theorem dX10_runLaw_1 : decode cX10_runLaw 1 = .ok (.istore 4, 2) := by decide +kernel
theorem dX10_runLaw_3 : decode cX10_runLaw 3 = .ok (.iload_n 1, 1) := by decide +kernel
theorem dX10_runLaw_4 : decode cX10_runLaw 4 = .ok (.istore 5, 2) := by decide +kernel
theorem dX10_runLaw_6 : decode cX10_runLaw 6 = .ok (.iload 5, 2) := by decide +kernel
theorem dX10_runLaw_8 : decode cX10_runLaw 8 = .ok (.aload_n 0, 1) := by decide +kernel
theorem dX10_runLaw_9 : decode cX10_runLaw 9 = .ok (.getfield 29, 3) := by decide +kernel
theorem dX10_runLaw_12 : decode cX10_runLaw 12 = .ok (.if_icmp .ge 212, 3) := by decide +kernel
theorem dX10_runLaw_15 : decode cX10_runLaw 15 = .ok (.iload 4, 2) := by decide +kernel
theorem dX10_runLaw_17 : decode cX10_runLaw 17 = .ok (.bipush 40, 2) := by decide +kernel
theorem dX10_runLaw_19 : decode cX10_runLaw 19 = .ok (.if_icmp .ge 205, 3) := by decide +kernel
theorem dX10_runLaw_22 : decode cX10_runLaw 22 = .ok (.aload_n 0, 1) := by decide +kernel
theorem dX10_runLaw_23 : decode cX10_runLaw 23 = .ok (.getfield 32, 3) := by decide +kernel
theorem dX10_runLaw_26 : decode cX10_runLaw 26 = .ok (.iload 5, 2) := by decide +kernel
theorem dX10_runLaw_28 : decode cX10_runLaw 28 = .ok (.iaload, 1) := by decide +kernel
theorem dX10_runLaw_29 : decode cX10_runLaw 29 = .ok (.istore 6, 2) := by decide +kernel
theorem dX10_runLaw_31 : decode cX10_runLaw 31 = .ok (.iload 6, 2) := by decide +kernel
theorem dX10_runLaw_33 : decode cX10_runLaw 33 = .ok (.iconst 1, 1) := by decide +kernel
theorem dX10_runLaw_34 : decode cX10_runLaw 34 = .ok (.if_icmp .eq 9, 3) := by decide +kernel
theorem dX10_runLaw_37 : decode cX10_runLaw 37 = .ok (.iload 6, 2) := by decide +kernel
theorem dX10_runLaw_39 : decode cX10_runLaw 39 = .ok (.iconst 2, 1) := by decide +kernel
theorem dX10_runLaw_40 : decode cX10_runLaw 40 = .ok (.if_icmp .ne 45, 3) := by decide +kernel
theorem dX10_runLaw_43 : decode cX10_runLaw 43 = .ok (.aload_n 0, 1) := by decide +kernel
theorem dX10_runLaw_44 : decode cX10_runLaw 44 = .ok (.getfield 38, 3) := by decide +kernel
theorem dX10_runLaw_47 : decode cX10_runLaw 47 = .ok (.iload 4, 2) := by decide +kernel
theorem dX10_runLaw_49 : decode cX10_runLaw 49 = .ok (.iload 6, 2) := by decide +kernel
theorem dX10_runLaw_51 : decode cX10_runLaw 51 = .ok (.iconst 1, 1) := by decide +kernel
theorem dX10_runLaw_52 : decode cX10_runLaw 52 = .ok (.if_icmp .ne 13, 3) := by decide +kernel
theorem dX10_runLaw_55 : decode cX10_runLaw 55 = .ok (.aload_n 0, 1) := by decide +kernel
theorem dX10_runLaw_56 : decode cX10_runLaw 56 = .ok (.getfield 35, 3) := by decide +kernel
theorem dX10_runLaw_59 : decode cX10_runLaw 59 = .ok (.iload 5, 2) := by decide +kernel
theorem dX10_runLaw_61 : decode cX10_runLaw 61 = .ok (.iaload, 1) := by decide +kernel
theorem dX10_runLaw_62 : decode cX10_runLaw 62 = .ok (.goto 16, 3) := by decide +kernel
theorem dX10_runLaw_65 : decode cX10_runLaw 65 = .ok (.aload_n 0, 1) := by decide +kernel
theorem dX10_runLaw_66 : decode cX10_runLaw 66 = .ok (.aload_n 0, 1) := by decide +kernel
theorem dX10_runLaw_67 : decode cX10_runLaw 67 = .ok (.getfield 35, 3) := by decide +kernel
theorem dX10_runLaw_70 : decode cX10_runLaw 70 = .ok (.iload 5, 2) := by decide +kernel
theorem dX10_runLaw_72 : decode cX10_runLaw 72 = .ok (.iaload, 1) := by decide +kernel
theorem dX10_runLaw_73 : decode cX10_runLaw 73 = .ok (.aload_n 2, 1) := by decide +kernel
theorem dX10_runLaw_74 : decode cX10_runLaw 74 = .ok (.iload_n 3, 1) := by decide +kernel
theorem dX10_runLaw_75 : decode cX10_runLaw 75 = .ok (.invokevirtual 81, 3) := by decide +kernel
theorem dX10_runLaw_78 : decode cX10_runLaw 78 = .ok (.iastore, 1) := by decide +kernel
theorem dX10_runLaw_79 : decode cX10_runLaw 79 = .ok (.iinc 4 1, 3) := by decide +kernel
theorem dX10_runLaw_82 : decode cX10_runLaw 82 = .ok (.goto 136, 3) := by decide +kernel
theorem dX10_runLaw_85 : decode cX10_runLaw 85 = .ok (.iload 6, 2) := by decide +kernel
theorem dX10_runLaw_87 : decode cX10_runLaw 87 = .ok (.iconst 4, 1) := by decide +kernel
theorem dX10_runLaw_88 : decode cX10_runLaw 88 = .ok (.if_icmp .ne 23, 3) := by decide +kernel
theorem dX10_runLaw_91 : decode cX10_runLaw 91 = .ok (.iload 4, 2) := by decide +kernel
theorem dX10_runLaw_93 : decode cX10_runLaw 93 = .ok (.iconst 1, 1) := by decide +kernel
theorem dX10_runLaw_94 : decode cX10_runLaw 94 = .ok (.if_icmp .ge 7, 3) := by decide +kernel
theorem dX10_runLaw_97 : decode cX10_runLaw 97 = .ok (.iconst 0, 1) := by decide +kernel
theorem dX10_runLaw_98 : decode cX10_runLaw 98 = .ok (.goto 12, 3) := by decide +kernel
theorem dX10_runLaw_101 : decode cX10_runLaw 101 = .ok (.aload_n 0, 1) := by decide +kernel
theorem dX10_runLaw_102 : decode cX10_runLaw 102 = .ok (.getfield 38, 3) := by decide +kernel
theorem dX10_runLaw_105 : decode cX10_runLaw 105 = .ok (.iload 4, 2) := by decide +kernel
theorem dX10_runLaw_107 : decode cX10_runLaw 107 = .ok (.iconst 1, 1) := by decide +kernel
theorem dX10_runLaw_108 : decode cX10_runLaw 108 = .ok (.isub, 1) := by decide +kernel
theorem dX10_runLaw_109 : decode cX10_runLaw 109 = .ok (.iaload, 1) := by decide +kernel
theorem dX10_runLaw_110 : decode cX10_runLaw 110 = .ok (.ireturn, 1) := by decide +kernel
theorem dX10_runLaw_111 : decode cX10_runLaw 111 = .ok (.iload 4, 2) := by decide +kernel
theorem dX10_runLaw_113 : decode cX10_runLaw 113 = .ok (.iconst 2, 1) := by decide +kernel
theorem dX10_runLaw_114 : decode cX10_runLaw 114 = .ok (.if_icmp .ge 5, 3) := by decide +kernel
theorem dX10_runLaw_117 : decode cX10_runLaw 117 = .ok (.iconst 0, 1) := by decide +kernel
theorem dX10_runLaw_118 : decode cX10_runLaw 118 = .ok (.ireturn, 1) := by decide +kernel
theorem dX10_runLaw_119 : decode cX10_runLaw 119 = .ok (.iload 6, 2) := by decide +kernel
theorem dX10_runLaw_121 : decode cX10_runLaw 121 = .ok (.iconst 3, 1) := by decide +kernel
theorem dX10_runLaw_122 : decode cX10_runLaw 122 = .ok (.if_icmp .ne 44, 3) := by decide +kernel
theorem dX10_runLaw_125 : decode cX10_runLaw 125 = .ok (.iinc 4 (-2), 3) := by decide +kernel
theorem dX10_runLaw_128 : decode cX10_runLaw 128 = .ok (.aload_n 0, 1) := by decide +kernel
theorem dX10_runLaw_129 : decode cX10_runLaw 129 = .ok (.getfield 38, 3) := by decide +kernel
theorem dX10_runLaw_132 : decode cX10_runLaw 132 = .ok (.iload 4, 2) := by decide +kernel
theorem dX10_runLaw_134 : decode cX10_runLaw 134 = .ok (.iaload, 1) := by decide +kernel
theorem dX10_runLaw_135 : decode cX10_runLaw 135 = .ok (.aload_n 0, 1) := by decide +kernel
theorem dX10_runLaw_136 : decode cX10_runLaw 136 = .ok (.getfield 38, 3) := by decide +kernel
theorem dX10_runLaw_139 : decode cX10_runLaw 139 = .ok (.iload 4, 2) := by decide +kernel
theorem dX10_runLaw_141 : decode cX10_runLaw 141 = .ok (.iconst 1, 1) := by decide +kernel
theorem dX10_runLaw_142 : decode cX10_runLaw 142 = .ok (.iadd, 1) := by decide +kernel
theorem dX10_runLaw_143 : decode cX10_runLaw 143 = .ok (.iaload, 1) := by decide +kernel
theorem dX10_runLaw_144 : decode cX10_runLaw 144 = .ok (.if_icmp .lt 74, 3) := by decide +kernel
theorem dX10_runLaw_147 : decode cX10_runLaw 147 = .ok (.iload 5, 2) := by decide +kernel
theorem dX10_runLaw_149 : decode cX10_runLaw 149 = .ok (.aload_n 0, 1) := by decide +kernel
theorem dX10_runLaw_150 : decode cX10_runLaw 150 = .ok (.getfield 35, 3) := by decide +kernel
theorem dX10_runLaw_153 : decode cX10_runLaw 153 = .ok (.iload 5, 2) := by decide +kernel
theorem dX10_runLaw_155 : decode cX10_runLaw 155 = .ok (.iaload, 1) := by decide +kernel
theorem dX10_runLaw_156 : decode cX10_runLaw 156 = .ok (.iconst 1, 1) := by decide +kernel
theorem dX10_runLaw_157 : decode cX10_runLaw 157 = .ok (.isub, 1) := by decide +kernel
theorem dX10_runLaw_158 : decode cX10_runLaw 158 = .ok (.invokestatic 78, 3) := by decide +kernel
theorem dX10_runLaw_161 : decode cX10_runLaw 161 = .ok (.istore 5, 2) := by decide +kernel
theorem dX10_runLaw_163 : decode cX10_runLaw 163 = .ok (.goto 55, 3) := by decide +kernel
theorem dX10_runLaw_166 : decode cX10_runLaw 166 = .ok (.iinc 4 (-1), 3) := by decide +kernel
theorem dX10_runLaw_169 : decode cX10_runLaw 169 = .ok (.iload 6, 2) := by decide +kernel
theorem dX10_runLaw_171 : decode cX10_runLaw 171 = .ok (.bipush 47, 2) := by decide +kernel
theorem dX10_runLaw_173 : decode cX10_runLaw 173 = .ok (.if_icmp .ne 15, 3) := by decide +kernel
theorem dX10_runLaw_176 : decode cX10_runLaw 176 = .ok (.aload_n 0, 1) := by decide +kernel
theorem dX10_runLaw_177 : decode cX10_runLaw 177 = .ok (.getfield 38, 3) := by decide +kernel
theorem dX10_runLaw_180 : decode cX10_runLaw 180 = .ok (.iload 4, 2) := by decide +kernel
theorem dX10_runLaw_182 : decode cX10_runLaw 182 = .ok (.iaload, 1) := by decide +kernel
theorem dX10_runLaw_183 : decode cX10_runLaw 183 = .ok (.ifCond .ne 5, 3) := by decide +kernel
theorem dX10_runLaw_186 : decode cX10_runLaw 186 = .ok (.iconst 0, 1) := by decide +kernel
theorem dX10_runLaw_187 : decode cX10_runLaw 187 = .ok (.ireturn, 1) := by decide +kernel
theorem dX10_runLaw_188 : decode cX10_runLaw 188 = .ok (.aload_n 0, 1) := by decide +kernel
theorem dX10_runLaw_189 : decode cX10_runLaw 189 = .ok (.getfield 38, 3) := by decide +kernel
theorem dX10_runLaw_192 : decode cX10_runLaw 192 = .ok (.iload 4, 2) := by decide +kernel
theorem dX10_runLaw_194 : decode cX10_runLaw 194 = .ok (.iconst 1, 1) := by decide +kernel
theorem dX10_runLaw_195 : decode cX10_runLaw 195 = .ok (.isub, 1) := by decide +kernel
theorem dX10_runLaw_196 : decode cX10_runLaw 196 = .ok (.iload 6, 2) := by decide +kernel
theorem dX10_runLaw_198 : decode cX10_runLaw 198 = .ok (.aload_n 0, 1) := by decide +kernel
theorem dX10_runLaw_199 : decode cX10_runLaw 199 = .ok (.getfield 38, 3) := by decide +kernel
theorem dX10_runLaw_202 : decode cX10_runLaw 202 = .ok (.iload 4, 2) := by decide +kernel
theorem dX10_runLaw_204 : decode cX10_runLaw 204 = .ok (.iconst 1, 1) := by decide +kernel
theorem dX10_runLaw_205 : decode cX10_runLaw 205 = .ok (.isub, 1) := by decide +kernel
theorem dX10_runLaw_206 : decode cX10_runLaw 206 = .ok (.iaload, 1) := by decide +kernel
theorem dX10_runLaw_207 : decode cX10_runLaw 207 = .ok (.aload_n 0, 1) := by decide +kernel
theorem dX10_runLaw_208 : decode cX10_runLaw 208 = .ok (.getfield 38, 3) := by decide +kernel
theorem dX10_runLaw_211 : decode cX10_runLaw 211 = .ok (.iload 4, 2) := by decide +kernel
theorem dX10_runLaw_213 : decode cX10_runLaw 213 = .ok (.iaload, 1) := by decide +kernel
theorem dX10_runLaw_214 : decode cX10_runLaw 214 = .ok (.invokestatic 84, 3) := by decide +kernel
theorem dX10_runLaw_217 : decode cX10_runLaw 217 = .ok (.iastore, 1) := by decide +kernel
theorem dX10_runLaw_218 : decode cX10_runLaw 218 = .ok (.iinc 5 1, 3) := by decide +kernel
theorem dX10_runLaw_221 : decode cX10_runLaw 221 = .ok (.goto (-215), 3) := by decide +kernel
theorem dX10_runLaw_224 : decode cX10_runLaw 224 = .ok (.iconst 0, 1) := by decide +kernel
theorem dX10_runLaw_225 : decode cX10_runLaw 225 = .ok (.ireturn, 1) := by decide +kernel
theorem dX10_variable_0 : decode cX10_variable 0 = .ok (.aload_n 2, 1) := by decide +kernel
theorem dX10_variable_1 : decode cX10_variable 1 = .ok (.getfield 66, 3) := by decide +kernel
theorem dX10_variable_4 : decode cX10_variable 4 = .ok (.iload_n 3, 1) := by decide +kernel
theorem dX10_variable_5 : decode cX10_variable 5 = .ok (.iaload, 1) := by decide +kernel
theorem dX10_variable_6 : decode cX10_variable 6 = .ok (.istore 4, 2) := by decide +kernel
theorem dX10_variable_8 : decode cX10_variable 8 = .ok (.iload_n 1, 1) := by decide +kernel
theorem dX10_variable_9 : decode cX10_variable 9 = .ok (.tableswitch 56 11 14 #[31, 39, 47, 49], 31) := by decide +kernel
theorem dX10_variable_40 : decode cX10_variable 40 = .ok (.aload_n 0, 1) := by decide +kernel
theorem dX10_variable_41 : decode cX10_variable 41 = .ok (.getfield 19, 3) := by decide +kernel
theorem dX10_variable_44 : decode cX10_variable 44 = .ok (.iload 4, 2) := by decide +kernel
theorem dX10_variable_46 : decode cX10_variable 46 = .ok (.iaload, 1) := by decide +kernel
theorem dX10_variable_47 : decode cX10_variable 47 = .ok (.ireturn, 1) := by decide +kernel
theorem dX10_variable_48 : decode cX10_variable 48 = .ok (.aload_n 0, 1) := by decide +kernel
theorem dX10_variable_49 : decode cX10_variable 49 = .ok (.getfield 23, 3) := by decide +kernel
theorem dX10_variable_52 : decode cX10_variable 52 = .ok (.iload 4, 2) := by decide +kernel
theorem dX10_variable_54 : decode cX10_variable 54 = .ok (.iaload, 1) := by decide +kernel
theorem dX10_variable_55 : decode cX10_variable 55 = .ok (.ireturn, 1) := by decide +kernel
theorem dX10_variable_56 : decode cX10_variable 56 = .ok (.iload_n 3, 1) := by decide +kernel
theorem dX10_variable_57 : decode cX10_variable 57 = .ok (.ireturn, 1) := by decide +kernel
theorem dX10_variable_58 : decode cX10_variable 58 = .ok (.aload_n 2, 1) := by decide +kernel
theorem dX10_variable_59 : decode cX10_variable 59 = .ok (.getfield 88, 3) := by decide +kernel
theorem dX10_variable_62 : decode cX10_variable 62 = .ok (.iload_n 3, 1) := by decide +kernel
theorem dX10_variable_63 : decode cX10_variable 63 = .ok (.iaload, 1) := by decide +kernel
theorem dX10_variable_64 : decode cX10_variable 64 = .ok (.ireturn, 1) := by decide +kernel
theorem dX10_variable_65 : decode cX10_variable 65 = .ok (.aload_n 2, 1) := by decide +kernel
theorem dX10_variable_66 : decode cX10_variable 66 = .ok (.getfield 63, 3) := by decide +kernel
theorem dX10_variable_69 : decode cX10_variable 69 = .ok (.iconst 1, 1) := by decide +kernel
theorem dX10_variable_70 : decode cX10_variable 70 = .ok (.isub, 1) := by decide +kernel
theorem dX10_variable_71 : decode cX10_variable 71 = .ok (.iload_n 3, 1) := by decide +kernel
theorem dX10_variable_72 : decode cX10_variable 72 = .ok (.isub, 1) := by decide +kernel
theorem dX10_variable_73 : decode cX10_variable 73 = .ok (.ireturn, 1) := by decide +kernel
theorem dX10_reckon_0 : decode cX10_reckon 0 = .ok (.iload_n 0, 1) := by decide +kernel
theorem dX10_reckon_1 : decode cX10_reckon 1 = .ok (.tableswitch 43 42 45 #[39, 31, 43, 35], 31) := by decide +kernel
theorem dX10_reckon_32 : decode cX10_reckon 32 = .ok (.iload_n 1, 1) := by decide +kernel
theorem dX10_reckon_33 : decode cX10_reckon 33 = .ok (.iload_n 2, 1) := by decide +kernel
theorem dX10_reckon_34 : decode cX10_reckon 34 = .ok (.iadd, 1) := by decide +kernel
theorem dX10_reckon_35 : decode cX10_reckon 35 = .ok (.ireturn, 1) := by decide +kernel
theorem dX10_reckon_36 : decode cX10_reckon 36 = .ok (.iload_n 1, 1) := by decide +kernel
theorem dX10_reckon_37 : decode cX10_reckon 37 = .ok (.iload_n 2, 1) := by decide +kernel
theorem dX10_reckon_38 : decode cX10_reckon 38 = .ok (.isub, 1) := by decide +kernel
theorem dX10_reckon_39 : decode cX10_reckon 39 = .ok (.ireturn, 1) := by decide +kernel
theorem dX10_reckon_40 : decode cX10_reckon 40 = .ok (.iload_n 1, 1) := by decide +kernel
theorem dX10_reckon_41 : decode cX10_reckon 41 = .ok (.iload_n 2, 1) := by decide +kernel
theorem dX10_reckon_42 : decode cX10_reckon 42 = .ok (.imul, 1) := by decide +kernel
theorem dX10_reckon_43 : decode cX10_reckon 43 = .ok (.ireturn, 1) := by decide +kernel
theorem dX10_reckon_44 : decode cX10_reckon 44 = .ok (.iload_n 2, 1) := by decide +kernel
theorem dX10_reckon_45 : decode cX10_reckon 45 = .ok (.ifCond .ne 7, 3) := by decide +kernel
theorem dX10_reckon_48 : decode cX10_reckon 48 = .ok (.iconst 0, 1) := by decide +kernel
theorem dX10_reckon_49 : decode cX10_reckon 49 = .ok (.goto 6, 3) := by decide +kernel
theorem dX10_reckon_52 : decode cX10_reckon 52 = .ok (.iload_n 1, 1) := by decide +kernel
theorem dX10_reckon_53 : decode cX10_reckon 53 = .ok (.iload_n 2, 1) := by decide +kernel
theorem dX10_reckon_54 : decode cX10_reckon 54 = .ok (.idiv, 1) := by decide +kernel
theorem dX10_reckon_55 : decode cX10_reckon 55 = .ok (.ireturn, 1) := by decide +kernel
theorem dX11_init_0 : decode cX11_init 0 = .ok (.aload_n 0, 1) := by decide +kernel
theorem dX11_init_1 : decode cX11_init 1 = .ok (.invokespecial 3, 3) := by decide +kernel
theorem dX11_init_4 : decode cX11_init 4 = .ok (.aload_n 0, 1) := by decide +kernel
theorem dX11_init_5 : decode cX11_init 5 = .ok (.sipush 2000, 3) := by decide +kernel
theorem dX11_init_8 : decode cX11_init 8 = .ok (.newarray .char, 2) := by decide +kernel
theorem dX11_init_10 : decode cX11_init 10 = .ok (.putfield 9, 3) := by decide +kernel
theorem dX11_init_13 : decode cX11_init 13 = .ok (.aload_n 0, 1) := by decide +kernel
theorem dX11_init_14 : decode cX11_init 14 = .ok (.iconst 0, 1) := by decide +kernel
theorem dX11_init_15 : decode cX11_init 15 = .ok (.putfield 13, 3) := by decide +kernel
theorem dX11_init_18 : decode cX11_init 18 = .ok (.aload_n 0, 1) := by decide +kernel
theorem dX11_init_19 : decode cX11_init 19 = .ok (.new 17, 3) := by decide +kernel
theorem dX11_init_22 : decode cX11_init 22 = .ok (.dup, 1) := by decide +kernel
theorem dX11_init_23 : decode cX11_init 23 = .ok (.invokespecial 19, 3) := by decide +kernel
theorem dX11_init_26 : decode cX11_init 26 = .ok (.putfield 20, 3) := by decide +kernel
theorem dX11_init_29 : decode cX11_init 29 = .ok (.aload_n 0, 1) := by decide +kernel
theorem dX11_init_30 : decode cX11_init 30 = .ok (.new 24, 3) := by decide +kernel
theorem dX11_init_33 : decode cX11_init 33 = .ok (.dup, 1) := by decide +kernel
theorem dX11_init_34 : decode cX11_init 34 = .ok (.invokespecial 26, 3) := by decide +kernel
theorem dX11_init_37 : decode cX11_init 37 = .ok (.putfield 27, 3) := by decide +kernel
theorem dX11_init_40 : decode cX11_init 40 = .ok (.aload_n 0, 1) := by decide +kernel
theorem dX11_init_41 : decode cX11_init 41 = .ok (.new 24, 3) := by decide +kernel
theorem dX11_init_44 : decode cX11_init 44 = .ok (.dup, 1) := by decide +kernel
theorem dX11_init_45 : decode cX11_init 45 = .ok (.invokespecial 26, 3) := by decide +kernel
theorem dX11_init_48 : decode cX11_init 48 = .ok (.putfield 31, 3) := by decide +kernel
theorem dX11_init_51 : decode cX11_init 51 = .ok (.aload_n 0, 1) := by decide +kernel
theorem dX11_init_52 : decode cX11_init 52 = .ok (.new 34, 3) := by decide +kernel
theorem dX11_init_55 : decode cX11_init 55 = .ok (.dup, 1) := by decide +kernel
theorem dX11_init_56 : decode cX11_init 56 = .ok (.aload_n 0, 1) := by decide +kernel
theorem dX11_init_57 : decode cX11_init 57 = .ok (.getfield 20, 3) := by decide +kernel
theorem dX11_init_60 : decode cX11_init 60 = .ok (.aload_n 0, 1) := by decide +kernel
theorem dX11_init_61 : decode cX11_init 61 = .ok (.getfield 31, 3) := by decide +kernel
theorem dX11_init_64 : decode cX11_init 64 = .ok (.invokespecial 36, 3) := by decide +kernel
theorem dX11_init_67 : decode cX11_init 67 = .ok (.putfield 39, 3) := by decide +kernel
theorem dX11_init_70 : decode cX11_init 70 = .ok (.aload_n 0, 1) := by decide +kernel
theorem dX11_init_71 : decode cX11_init 71 = .ok (.new 43, 3) := by decide +kernel
theorem dX11_init_74 : decode cX11_init 74 = .ok (.dup, 1) := by decide +kernel
theorem dX11_init_75 : decode cX11_init 75 = .ok (.invokespecial 45, 3) := by decide +kernel
theorem dX11_init_78 : decode cX11_init 78 = .ok (.putfield 46, 3) := by decide +kernel
theorem dX11_init_81 : decode cX11_init 81 = .ok (.aload_n 0, 1) := by decide +kernel
theorem dX11_init_82 : decode cX11_init 82 = .ok (.new 43, 3) := by decide +kernel
theorem dX11_init_85 : decode cX11_init 85 = .ok (.dup, 1) := by decide +kernel
theorem dX11_init_86 : decode cX11_init 86 = .ok (.invokespecial 45, 3) := by decide +kernel
theorem dX11_init_89 : decode cX11_init 89 = .ok (.putfield 50, 3) := by decide +kernel
theorem dX11_init_92 : decode cX11_init 92 = .ok (.aload_n 0, 1) := by decide +kernel
theorem dX11_init_93 : decode cX11_init 93 = .ok (.new 53, 3) := by decide +kernel
theorem dX11_init_96 : decode cX11_init 96 = .ok (.dup, 1) := by decide +kernel
theorem dX11_init_97 : decode cX11_init 97 = .ok (.aload_n 0, 1) := by decide +kernel
theorem dX11_init_98 : decode cX11_init 98 = .ok (.getfield 27, 3) := by decide +kernel
theorem dX11_init_101 : decode cX11_init 101 = .ok (.aload_n 0, 1) := by decide +kernel
theorem dX11_init_102 : decode cX11_init 102 = .ok (.getfield 46, 3) := by decide +kernel
theorem dX11_init_105 : decode cX11_init 105 = .ok (.invokespecial 55, 3) := by decide +kernel
theorem dX11_init_108 : decode cX11_init 108 = .ok (.putfield 58, 3) := by decide +kernel
theorem dX11_init_111 : decode cX11_init 111 = .ok (.aload_n 0, 1) := by decide +kernel
theorem dX11_init_112 : decode cX11_init 112 = .ok (.new 62, 3) := by decide +kernel
theorem dX11_init_115 : decode cX11_init 115 = .ok (.dup, 1) := by decide +kernel
theorem dX11_init_116 : decode cX11_init 116 = .ok (.invokespecial 64, 3) := by decide +kernel
theorem dX11_init_119 : decode cX11_init 119 = .ok (.putfield 65, 3) := by decide +kernel
theorem dX11_init_122 : decode cX11_init 122 = .ok (.aload_n 0, 1) := by decide +kernel
theorem dX11_init_123 : decode cX11_init 123 = .ok (.new 69, 3) := by decide +kernel
theorem dX11_init_126 : decode cX11_init 126 = .ok (.dup, 1) := by decide +kernel
theorem dX11_init_127 : decode cX11_init 127 = .ok (.invokespecial 71, 3) := by decide +kernel
theorem dX11_init_130 : decode cX11_init 130 = .ok (.putfield 72, 3) := by decide +kernel
theorem dX11_init_133 : decode cX11_init 133 = .ok (.aload_n 0, 1) := by decide +kernel
theorem dX11_init_134 : decode cX11_init 134 = .ok (.new 76, 3) := by decide +kernel
theorem dX11_init_137 : decode cX11_init 137 = .ok (.dup, 1) := by decide +kernel
theorem dX11_init_138 : decode cX11_init 138 = .ok (.invokespecial 78, 3) := by decide +kernel
theorem dX11_init_141 : decode cX11_init 141 = .ok (.putfield 79, 3) := by decide +kernel
theorem dX11_init_144 : decode cX11_init 144 = .ok (.aload_n 0, 1) := by decide +kernel
theorem dX11_init_145 : decode cX11_init 145 = .ok (.new 83, 3) := by decide +kernel
theorem dX11_init_148 : decode cX11_init 148 = .ok (.dup, 1) := by decide +kernel
theorem dX11_init_149 : decode cX11_init 149 = .ok (.invokespecial 85, 3) := by decide +kernel
theorem dX11_init_152 : decode cX11_init 152 = .ok (.putfield 86, 3) := by decide +kernel
theorem dX11_init_155 : decode cX11_init 155 = .ok (.aload_n 0, 1) := by decide +kernel
theorem dX11_init_156 : decode cX11_init 156 = .ok (.new 90, 3) := by decide +kernel
theorem dX11_init_159 : decode cX11_init 159 = .ok (.dup, 1) := by decide +kernel
theorem dX11_init_160 : decode cX11_init 160 = .ok (.invokespecial 92, 3) := by decide +kernel
theorem dX11_init_163 : decode cX11_init 163 = .ok (.putfield 93, 3) := by decide +kernel
theorem dX11_init_166 : decode cX11_init 166 = .ok (.aload_n 0, 1) := by decide +kernel
theorem dX11_init_167 : decode cX11_init 167 = .ok (.bipush 64, 2) := by decide +kernel
theorem dX11_init_169 : decode cX11_init 169 = .ok (.newarray .int, 2) := by decide +kernel
theorem dX11_init_171 : decode cX11_init 171 = .ok (.putfield 97, 3) := by decide +kernel
theorem dX11_init_174 : decode cX11_init 174 = .ok (.return_, 1) := by decide +kernel
theorem dX11_feed_0 : decode cX11_feed 0 = .ok (.aload_n 0, 1) := by decide +kernel
theorem dX11_feed_1 : decode cX11_feed 1 = .ok (.getfield 13, 3) := by decide +kernel
theorem dX11_feed_4 : decode cX11_feed 4 = .ok (.bipush 20, 2) := by decide +kernel
theorem dX11_feed_6 : decode cX11_feed 6 = .ok (.iadd, 1) := by decide +kernel
theorem dX11_feed_7 : decode cX11_feed 7 = .ok (.sipush 2000, 3) := by decide +kernel
theorem dX11_feed_10 : decode cX11_feed 10 = .ok (.if_icmp .le 5, 3) := by decide +kernel
theorem dX11_feed_13 : decode cX11_feed 13 = .ok (.iconst (-1), 1) := by decide +kernel
theorem dX11_feed_14 : decode cX11_feed 14 = .ok (.ireturn, 1) := by decide +kernel
theorem dX11_feed_15 : decode cX11_feed 15 = .ok (.aload_n 0, 1) := by decide +kernel
theorem dX11_feed_16 : decode cX11_feed 16 = .ok (.iload_n 1, 1) := by decide +kernel
theorem dX11_feed_17 : decode cX11_feed 17 = .ok (.invokevirtual 101, 3) := by decide +kernel
theorem dX11_feed_20 : decode cX11_feed 20 = .ok (.aload_n 0, 1) := by decide +kernel
theorem dX11_feed_21 : decode cX11_feed 21 = .ok (.iload_n 2, 1) := by decide +kernel
theorem dX11_feed_22 : decode cX11_feed 22 = .ok (.invokevirtual 101, 3) := by decide +kernel
theorem dX11_feed_25 : decode cX11_feed 25 = .ok (.aload_n 0, 1) := by decide +kernel
theorem dX11_feed_26 : decode cX11_feed 26 = .ok (.iload_n 3, 1) := by decide +kernel
theorem dX11_feed_27 : decode cX11_feed 27 = .ok (.invokevirtual 101, 3) := by decide +kernel
theorem dX11_feed_30 : decode cX11_feed 30 = .ok (.aload_n 0, 1) := by decide +kernel
theorem dX11_feed_31 : decode cX11_feed 31 = .ok (.iload 4, 2) := by decide +kernel
theorem dX11_feed_33 : decode cX11_feed 33 = .ok (.invokevirtual 101, 3) := by decide +kernel
theorem dX11_feed_36 : decode cX11_feed 36 = .ok (.aload_n 0, 1) := by decide +kernel
theorem dX11_feed_37 : decode cX11_feed 37 = .ok (.iload 5, 2) := by decide +kernel
theorem dX11_feed_39 : decode cX11_feed 39 = .ok (.invokevirtual 101, 3) := by decide +kernel
theorem dX11_feed_42 : decode cX11_feed 42 = .ok (.aload_n 0, 1) := by decide +kernel
theorem dX11_feed_43 : decode cX11_feed 43 = .ok (.getfield 13, 3) := by decide +kernel
theorem dX11_feed_46 : decode cX11_feed 46 = .ok (.ireturn, 1) := by decide +kernel
theorem dX11_back_0 : decode cX11_back 0 = .ok (.iload_n 1, 1) := by decide +kernel
theorem dX11_back_1 : decode cX11_back 1 = .ok (.ifCond .lt 11, 3) := by decide +kernel
theorem dX11_back_4 : decode cX11_back 4 = .ok (.iload_n 1, 1) := by decide +kernel
theorem dX11_back_5 : decode cX11_back 5 = .ok (.aload_n 0, 1) := by decide +kernel
theorem dX11_back_6 : decode cX11_back 6 = .ok (.getfield 13, 3) := by decide +kernel
theorem dX11_back_9 : decode cX11_back 9 = .ok (.if_icmp .le 5, 3) := by decide +kernel
theorem dX11_back_12 : decode cX11_back 12 = .ok (.iconst (-1), 1) := by decide +kernel
theorem dX11_back_13 : decode cX11_back 13 = .ok (.ireturn, 1) := by decide +kernel
theorem dX11_back_14 : decode cX11_back 14 = .ok (.aload_n 0, 1) := by decide +kernel
theorem dX11_back_15 : decode cX11_back 15 = .ok (.dup, 1) := by decide +kernel
theorem dX11_back_16 : decode cX11_back 16 = .ok (.getfield 13, 3) := by decide +kernel
theorem dX11_back_19 : decode cX11_back 19 = .ok (.iload_n 1, 1) := by decide +kernel
theorem dX11_back_20 : decode cX11_back 20 = .ok (.isub, 1) := by decide +kernel
theorem dX11_back_21 : decode cX11_back 21 = .ok (.putfield 13, 3) := by decide +kernel
theorem dX11_back_24 : decode cX11_back 24 = .ok (.aload_n 0, 1) := by decide +kernel
theorem dX11_back_25 : decode cX11_back 25 = .ok (.getfield 13, 3) := by decide +kernel
theorem dX11_back_28 : decode cX11_back 28 = .ok (.ireturn, 1) := by decide +kernel
theorem dX11_read_0 : decode cX11_read 0 = .ok (.aload_n 0, 1) := by decide +kernel
theorem dX11_read_1 : decode cX11_read 1 = .ok (.getfield 20, 3) := by decide +kernel
theorem dX11_read_4 : decode cX11_read 4 = .ok (.aload_n 0, 1) := by decide +kernel
theorem dX11_read_5 : decode cX11_read 5 = .ok (.getfield 9, 3) := by decide +kernel
theorem dX11_read_8 : decode cX11_read 8 = .ok (.aload_n 0, 1) := by decide +kernel
theorem dX11_read_9 : decode cX11_read 9 = .ok (.getfield 13, 3) := by decide +kernel
theorem dX11_read_12 : decode cX11_read 12 = .ok (.invokevirtual 105, 3) := by decide +kernel
theorem dX11_read_15 : decode cX11_read 15 = .ok (.aload_n 0, 1) := by decide +kernel
theorem dX11_read_16 : decode cX11_read 16 = .ok (.iconst 0, 1) := by decide +kernel
theorem dX11_read_17 : decode cX11_read 17 = .ok (.putfield 13, 3) := by decide +kernel
theorem dX11_read_20 : decode cX11_read 20 = .ok (.aload_n 0, 1) := by decide +kernel
theorem dX11_read_21 : decode cX11_read 21 = .ok (.getfield 39, 3) := by decide +kernel
theorem dX11_read_24 : decode cX11_read 24 = .ok (.aload_n 0, 1) := by decide +kernel
theorem dX11_read_25 : decode cX11_read 25 = .ok (.getfield 31, 3) := by decide +kernel
theorem dX11_read_28 : decode cX11_read 28 = .ok (.invokevirtual 109, 3) := by decide +kernel
theorem dX11_read_31 : decode cX11_read 31 = .ok (.aload_n 0, 1) := by decide +kernel
theorem dX11_read_32 : decode cX11_read 32 = .ok (.getfield 39, 3) := by decide +kernel
theorem dX11_read_35 : decode cX11_read 35 = .ok (.getfield 113, 3) := by decide +kernel
theorem dX11_read_38 : decode cX11_read 38 = .ok (.ifCond .ne 58, 3) := by decide +kernel
theorem dX11_read_41 : decode cX11_read 41 = .ok (.aload_n 0, 1) := by decide +kernel
theorem dX11_read_42 : decode cX11_read 42 = .ok (.getfield 27, 3) := by decide +kernel
theorem dX11_read_45 : decode cX11_read 45 = .ok (.astore_n 1, 1) := by decide +kernel
theorem dX11_read_46 : decode cX11_read 46 = .ok (.aload_n 0, 1) := by decide +kernel
theorem dX11_read_47 : decode cX11_read 47 = .ok (.aload_n 0, 1) := by decide +kernel
theorem dX11_read_48 : decode cX11_read 48 = .ok (.getfield 31, 3) := by decide +kernel
theorem dX11_read_51 : decode cX11_read 51 = .ok (.putfield 27, 3) := by decide +kernel
theorem dX11_read_54 : decode cX11_read 54 = .ok (.aload_n 0, 1) := by decide +kernel
theorem dX11_read_55 : decode cX11_read 55 = .ok (.aload_n 1, 1) := by decide +kernel
theorem dX11_read_56 : decode cX11_read 56 = .ok (.putfield 31, 3) := by decide +kernel
theorem dX11_read_59 : decode cX11_read 59 = .ok (.aload_n 0, 1) := by decide +kernel
theorem dX11_read_60 : decode cX11_read 60 = .ok (.getfield 46, 3) := by decide +kernel
theorem dX11_read_63 : decode cX11_read 63 = .ok (.aload_n 0, 1) := by decide +kernel
theorem dX11_read_64 : decode cX11_read 64 = .ok (.getfield 27, 3) := by decide +kernel
theorem dX11_read_67 : decode cX11_read 67 = .ok (.getfield 116, 3) := by decide +kernel
theorem dX11_read_70 : decode cX11_read 70 = .ok (.invokevirtual 117, 3) := by decide +kernel
theorem dX11_read_73 : decode cX11_read 73 = .ok (.aload_n 0, 1) := by decide +kernel
theorem dX11_read_74 : decode cX11_read 74 = .ok (.getfield 65, 3) := by decide +kernel
theorem dX11_read_77 : decode cX11_read 77 = .ok (.iconst 0, 1) := by decide +kernel
theorem dX11_read_78 : decode cX11_read 78 = .ok (.putfield 121, 3) := by decide +kernel
theorem dX11_read_81 : decode cX11_read 81 = .ok (.aload_n 0, 1) := by decide +kernel
theorem dX11_read_82 : decode cX11_read 82 = .ok (.getfield 79, 3) := by decide +kernel
theorem dX11_read_85 : decode cX11_read 85 = .ok (.iconst 0, 1) := by decide +kernel
theorem dX11_read_86 : decode cX11_read 86 = .ok (.putfield 124, 3) := by decide +kernel
theorem dX11_read_89 : decode cX11_read 89 = .ok (.aload_n 0, 1) := by decide +kernel
theorem dX11_read_90 : decode cX11_read 90 = .ok (.getfield 72, 3) := by decide +kernel
theorem dX11_read_93 : decode cX11_read 93 = .ok (.invokevirtual 125, 3) := by decide +kernel
theorem dX11_read_96 : decode cX11_read 96 = .ok (.aload_n 0, 1) := by decide +kernel
theorem dX11_read_97 : decode cX11_read 97 = .ok (.getfield 39, 3) := by decide +kernel
theorem dX11_read_100 : decode cX11_read 100 = .ok (.getfield 113, 3) := by decide +kernel
theorem dX11_read_103 : decode cX11_read 103 = .ok (.ireturn, 1) := by decide +kernel
theorem dX11_place_0 : decode cX11_place 0 = .ok (.aload_n 0, 1) := by decide +kernel
theorem dX11_place_1 : decode cX11_place 1 = .ok (.getfield 39, 3) := by decide +kernel
theorem dX11_place_4 : decode cX11_place 4 = .ok (.getfield 128, 3) := by decide +kernel
theorem dX11_place_7 : decode cX11_place 7 = .ok (.ireturn, 1) := by decide +kernel
theorem dX11_book_0 : decode cX11_book 0 = .ok (.aload_n 0, 1) := by decide +kernel
theorem dX11_book_1 : decode cX11_book 1 = .ok (.iload_n 1, 1) := by decide +kernel
theorem dX11_book_2 : decode cX11_book 2 = .ok (.invokevirtual 131, 3) := by decide +kernel
theorem dX11_book_5 : decode cX11_book 5 = .ok (.ifCond .ne 7, 3) := by decide +kernel
theorem dX11_book_8 : decode cX11_book 8 = .ok (.sipush (-10000), 3) := by decide +kernel
theorem dX11_book_11 : decode cX11_book 11 = .ok (.ireturn, 1) := by decide +kernel
theorem dX11_book_12 : decode cX11_book 12 = .ok (.aload_n 0, 1) := by decide +kernel
theorem dX11_book_13 : decode cX11_book 13 = .ok (.getfield 46, 3) := by decide +kernel
theorem dX11_book_16 : decode cX11_book 16 = .ok (.iload_n 1, 1) := by decide +kernel
theorem dX11_book_17 : decode cX11_book 17 = .ok (.invokevirtual 135, 3) := by decide +kernel
theorem dX11_book_20 : decode cX11_book 20 = .ok (.istore_n 3, 1) := by decide +kernel
theorem dX11_book_21 : decode cX11_book 21 = .ok (.iload_n 3, 1) := by decide +kernel
theorem dX11_book_22 : decode cX11_book 22 = .ok (.iconst (-1), 1) := by decide +kernel
theorem dX11_book_23 : decode cX11_book 23 = .ok (.if_icmp .eq 7, 3) := by decide +kernel
theorem dX11_book_26 : decode cX11_book 26 = .ok (.iconst 1, 1) := by decide +kernel
theorem dX11_book_27 : decode cX11_book 27 = .ok (.goto 4, 3) := by decide +kernel
theorem dX11_book_30 : decode cX11_book 30 = .ok (.iconst 0, 1) := by decide +kernel
theorem dX11_book_31 : decode cX11_book 31 = .ok (.istore 4, 2) := by decide +kernel
theorem dX11_book_33 : decode cX11_book 33 = .ok (.iload_n 2, 1) := by decide +kernel
theorem dX11_book_34 : decode cX11_book 34 = .ok (.tableswitch 144 0 5 #[38, 48, 58, 88, 100, 121], 38) := by decide +kernel
theorem dX11_book_72 : decode cX11_book 72 = .ok (.aload_n 0, 1) := by decide +kernel
theorem dX11_book_73 : decode cX11_book 73 = .ok (.getfield 27, 3) := by decide +kernel
theorem dX11_book_76 : decode cX11_book 76 = .ok (.getfield 139, 3) := by decide +kernel
theorem dX11_book_79 : decode cX11_book 79 = .ok (.iload_n 1, 1) := by decide +kernel
theorem dX11_book_80 : decode cX11_book 80 = .ok (.iaload, 1) := by decide +kernel
theorem dX11_book_81 : decode cX11_book 81 = .ok (.ireturn, 1) := by decide +kernel
theorem dX11_book_82 : decode cX11_book 82 = .ok (.aload_n 0, 1) := by decide +kernel
theorem dX11_book_83 : decode cX11_book 83 = .ok (.getfield 27, 3) := by decide +kernel
theorem dX11_book_86 : decode cX11_book 86 = .ok (.getfield 142, 3) := by decide +kernel
theorem dX11_book_89 : decode cX11_book 89 = .ok (.iload_n 1, 1) := by decide +kernel
theorem dX11_book_90 : decode cX11_book 90 = .ok (.iaload, 1) := by decide +kernel
theorem dX11_book_91 : decode cX11_book 91 = .ok (.ireturn, 1) := by decide +kernel
theorem dX11_book_92 : decode cX11_book 92 = .ok (.iload 4, 2) := by decide +kernel
theorem dX11_book_94 : decode cX11_book 94 = .ok (.ifCond .eq 18, 3) := by decide +kernel
theorem dX11_book_97 : decode cX11_book 97 = .ok (.aload_n 0, 1) := by decide +kernel
theorem dX11_book_98 : decode cX11_book 98 = .ok (.getfield 27, 3) := by decide +kernel
theorem dX11_book_101 : decode cX11_book 101 = .ok (.aload_n 0, 1) := by decide +kernel
theorem dX11_book_102 : decode cX11_book 102 = .ok (.getfield 46, 3) := by decide +kernel
theorem dX11_book_105 : decode cX11_book 105 = .ok (.iload_n 3, 1) := by decide +kernel
theorem dX11_book_106 : decode cX11_book 106 = .ok (.invokevirtual 145, 3) := by decide +kernel
theorem dX11_book_109 : decode cX11_book 109 = .ok (.goto 12, 3) := by decide +kernel
theorem dX11_book_112 : decode cX11_book 112 = .ok (.aload_n 0, 1) := by decide +kernel
theorem dX11_book_113 : decode cX11_book 113 = .ok (.getfield 27, 3) := by decide +kernel
theorem dX11_book_116 : decode cX11_book 116 = .ok (.getfield 142, 3) := by decide +kernel
theorem dX11_book_119 : decode cX11_book 119 = .ok (.iload_n 1, 1) := by decide +kernel
theorem dX11_book_120 : decode cX11_book 120 = .ok (.iaload, 1) := by decide +kernel
theorem dX11_book_121 : decode cX11_book 121 = .ok (.ireturn, 1) := by decide +kernel
theorem dX11_book_122 : decode cX11_book 122 = .ok (.iload 4, 2) := by decide +kernel
theorem dX11_book_124 : decode cX11_book 124 = .ok (.ifCond .eq 7, 3) := by decide +kernel
theorem dX11_book_127 : decode cX11_book 127 = .ok (.iload_n 3, 1) := by decide +kernel
theorem dX11_book_128 : decode cX11_book 128 = .ok (.goto 5, 3) := by decide +kernel
theorem dX11_book_131 : decode cX11_book 131 = .ok (.bipush (-2), 2) := by decide +kernel
theorem dX11_book_133 : decode cX11_book 133 = .ok (.ireturn, 1) := by decide +kernel
theorem dX11_book_134 : decode cX11_book 134 = .ok (.iload 4, 2) := by decide +kernel
theorem dX11_book_136 : decode cX11_book 136 = .ok (.ifCond .eq 15, 3) := by decide +kernel
theorem dX11_book_139 : decode cX11_book 139 = .ok (.aload_n 0, 1) := by decide +kernel
theorem dX11_book_140 : decode cX11_book 140 = .ok (.getfield 46, 3) := by decide +kernel
theorem dX11_book_143 : decode cX11_book 143 = .ok (.getfield 149, 3) := by decide +kernel
theorem dX11_book_146 : decode cX11_book 146 = .ok (.iload_n 3, 1) := by decide +kernel
theorem dX11_book_147 : decode cX11_book 147 = .ok (.iaload, 1) := by decide +kernel
theorem dX11_book_148 : decode cX11_book 148 = .ok (.goto 6, 3) := by decide +kernel
theorem dX11_book_151 : decode cX11_book 151 = .ok (.sipush (-1000), 3) := by decide +kernel
theorem dX11_book_154 : decode cX11_book 154 = .ok (.ireturn, 1) := by decide +kernel
theorem dX11_book_155 : decode cX11_book 155 = .ok (.iload 4, 2) := by decide +kernel
theorem dX11_book_157 : decode cX11_book 157 = .ok (.ifCond .eq 19, 3) := by decide +kernel
theorem dX11_book_160 : decode cX11_book 160 = .ok (.aload_n 0, 1) := by decide +kernel
theorem dX11_book_161 : decode cX11_book 161 = .ok (.getfield 46, 3) := by decide +kernel
theorem dX11_book_164 : decode cX11_book 164 = .ok (.getfield 152, 3) := by decide +kernel
theorem dX11_book_167 : decode cX11_book 167 = .ok (.iload_n 3, 1) := by decide +kernel
theorem dX11_book_168 : decode cX11_book 168 = .ok (.baload, 1) := by decide +kernel
theorem dX11_book_169 : decode cX11_book 169 = .ok (.ifCond .eq 7, 3) := by decide +kernel
theorem dX11_book_172 : decode cX11_book 172 = .ok (.iconst 1, 1) := by decide +kernel
theorem dX11_book_173 : decode cX11_book 173 = .ok (.goto 4, 3) := by decide +kernel
theorem dX11_book_176 : decode cX11_book 176 = .ok (.iconst 0, 1) := by decide +kernel
theorem dX11_book_177 : decode cX11_book 177 = .ok (.ireturn, 1) := by decide +kernel
theorem dX11_book_178 : decode cX11_book 178 = .ok (.sipush (-10000), 3) := by decide +kernel
theorem dX11_book_181 : decode cX11_book 181 = .ok (.ireturn, 1) := by decide +kernel
theorem dX11_level_0 : decode cX11_level 0 = .ok (.aload_n 0, 1) := by decide +kernel
theorem dX11_level_1 : decode cX11_level 1 = .ok (.iload_n 1, 1) := by decide +kernel
theorem dX11_level_2 : decode cX11_level 2 = .ok (.invokevirtual 156, 3) := by decide +kernel
theorem dX11_level_5 : decode cX11_level 5 = .ok (.ifCond .eq 15, 3) := by decide +kernel
theorem dX11_level_8 : decode cX11_level 8 = .ok (.aload_n 0, 1) := by decide +kernel
theorem dX11_level_9 : decode cX11_level 9 = .ok (.getfield 46, 3) := by decide +kernel
theorem dX11_level_12 : decode cX11_level 12 = .ok (.getfield 159, 3) := by decide +kernel
theorem dX11_level_15 : decode cX11_level 15 = .ok (.iload_n 1, 1) := by decide +kernel
theorem dX11_level_16 : decode cX11_level 16 = .ok (.iaload, 1) := by decide +kernel
theorem dX11_level_17 : decode cX11_level 17 = .ok (.goto 4, 3) := by decide +kernel
theorem dX11_level_20 : decode cX11_level 20 = .ok (.iconst (-1), 1) := by decide +kernel
theorem dX11_level_21 : decode cX11_level 21 = .ok (.ireturn, 1) := by decide +kernel
theorem dX11_load_0 : decode cX11_load 0 = .ok (.aload_n 0, 1) := by decide +kernel
theorem dX11_load_1 : decode cX11_load 1 = .ok (.iload_n 1, 1) := by decide +kernel
theorem dX11_load_2 : decode cX11_load 2 = .ok (.invokevirtual 156, 3) := by decide +kernel
theorem dX11_load_5 : decode cX11_load 5 = .ok (.ifCond .ne 5, 3) := by decide +kernel
theorem dX11_load_8 : decode cX11_load 8 = .ok (.iconst (-1), 1) := by decide +kernel
theorem dX11_load_9 : decode cX11_load 9 = .ok (.ireturn, 1) := by decide +kernel
theorem dX11_load_10 : decode cX11_load 10 = .ok (.aload_n 0, 1) := by decide +kernel
theorem dX11_load_11 : decode cX11_load 11 = .ok (.getfield 58, 3) := by decide +kernel
theorem dX11_load_14 : decode cX11_load 14 = .ok (.aload_n 0, 1) := by decide +kernel
theorem dX11_load_15 : decode cX11_load 15 = .ok (.getfield 27, 3) := by decide +kernel
theorem dX11_load_18 : decode cX11_load 18 = .ok (.aload_n 0, 1) := by decide +kernel
theorem dX11_load_19 : decode cX11_load 19 = .ok (.getfield 46, 3) := by decide +kernel
theorem dX11_load_22 : decode cX11_load 22 = .ok (.invokevirtual 162, 3) := by decide +kernel
theorem dX11_load_25 : decode cX11_load 25 = .ok (.aload_n 0, 1) := by decide +kernel
theorem dX11_load_26 : decode cX11_load 26 = .ok (.getfield 58, 3) := by decide +kernel
theorem dX11_load_29 : decode cX11_load 29 = .ok (.getfield 165, 3) := by decide +kernel
theorem dX11_load_32 : decode cX11_load 32 = .ok (.iload_n 1, 1) := by decide +kernel
theorem dX11_load_33 : decode cX11_load 33 = .ok (.iaload, 1) := by decide +kernel
theorem dX11_load_34 : decode cX11_load 34 = .ok (.ireturn, 1) := by decide +kernel
theorem dX11_point_0 : decode cX11_point 0 = .ok (.aload_n 0, 1) := by decide +kernel
theorem dX11_point_1 : decode cX11_point 1 = .ok (.iload_n 1, 1) := by decide +kernel
theorem dX11_point_2 : decode cX11_point 2 = .ok (.invokevirtual 156, 3) := by decide +kernel
theorem dX11_point_5 : decode cX11_point 5 = .ok (.ifCond .ne 7, 3) := by decide +kernel
theorem dX11_point_8 : decode cX11_point 8 = .ok (.ldc2_w 168, 3) := by decide +kernel
theorem dX11_point_11 : decode cX11_point 11 = .ok (.lreturn, 1) := by decide +kernel
theorem dX11_point_12 : decode cX11_point 12 = .ok (.aload_n 0, 1) := by decide +kernel
theorem dX11_point_13 : decode cX11_point 13 = .ok (.getfield 58, 3) := by decide +kernel
theorem dX11_point_16 : decode cX11_point 16 = .ok (.aload_n 0, 1) := by decide +kernel
theorem dX11_point_17 : decode cX11_point 17 = .ok (.getfield 27, 3) := by decide +kernel
theorem dX11_point_20 : decode cX11_point 20 = .ok (.aload_n 0, 1) := by decide +kernel
theorem dX11_point_21 : decode cX11_point 21 = .ok (.getfield 46, 3) := by decide +kernel
theorem dX11_point_24 : decode cX11_point 24 = .ok (.invokevirtual 162, 3) := by decide +kernel
theorem dX11_point_27 : decode cX11_point 27 = .ok (.aload_n 0, 1) := by decide +kernel
theorem dX11_point_28 : decode cX11_point 28 = .ok (.getfield 93, 3) := by decide +kernel
theorem dX11_point_31 : decode cX11_point 31 = .ok (.aload_n 0, 1) := by decide +kernel
theorem dX11_point_32 : decode cX11_point 32 = .ok (.getfield 58, 3) := by decide +kernel
theorem dX11_point_35 : decode cX11_point 35 = .ok (.getfield 170, 3) := by decide +kernel
theorem dX11_point_38 : decode cX11_point 38 = .ok (.iload_n 1, 1) := by decide +kernel
theorem dX11_point_39 : decode cX11_point 39 = .ok (.iaload, 1) := by decide +kernel
theorem dX11_point_40 : decode cX11_point 40 = .ok (.i2l, 1) := by decide +kernel
theorem dX11_point_41 : decode cX11_point 41 = .ok (.ldc2_w 173, 3) := by decide +kernel
theorem dX11_point_44 : decode cX11_point 44 = .ok (.aload_n 0, 1) := by decide +kernel
theorem dX11_point_45 : decode cX11_point 45 = .ok (.getfield 58, 3) := by decide +kernel
theorem dX11_point_48 : decode cX11_point 48 = .ok (.getfield 165, 3) := by decide +kernel
theorem dX11_point_51 : decode cX11_point 51 = .ok (.iload_n 1, 1) := by decide +kernel
theorem dX11_point_52 : decode cX11_point 52 = .ok (.iaload, 1) := by decide +kernel
theorem dX11_point_53 : decode cX11_point 53 = .ok (.i2l, 1) := by decide +kernel
theorem dX11_point_54 : decode cX11_point 54 = .ok (.lmul, 1) := by decide +kernel
theorem dX11_point_55 : decode cX11_point 55 = .ok (.invokevirtual 175, 3) := by decide +kernel
theorem dX11_point_58 : decode cX11_point 58 = .ok (.aload_n 0, 1) := by decide +kernel
theorem dX11_point_59 : decode cX11_point 59 = .ok (.getfield 93, 3) := by decide +kernel
theorem dX11_point_62 : decode cX11_point 62 = .ok (.iload_n 2, 1) := by decide +kernel
theorem dX11_point_63 : decode cX11_point 63 = .ok (.invokevirtual 179, 3) := by decide +kernel
theorem dX11_point_66 : decode cX11_point 66 = .ok (.lreturn, 1) := by decide +kernel
theorem dX11_stands_0 : decode cX11_stands 0 = .ok (.aload_n 0, 1) := by decide +kernel
theorem dX11_stands_1 : decode cX11_stands 1 = .ok (.getfield 58, 3) := by decide +kernel
theorem dX11_stands_4 : decode cX11_stands 4 = .ok (.aload_n 0, 1) := by decide +kernel
theorem dX11_stands_5 : decode cX11_stands 5 = .ok (.getfield 27, 3) := by decide +kernel
theorem dX11_stands_8 : decode cX11_stands 8 = .ok (.aload_n 0, 1) := by decide +kernel
theorem dX11_stands_9 : decode cX11_stands 9 = .ok (.getfield 46, 3) := by decide +kernel
theorem dX11_stands_12 : decode cX11_stands 12 = .ok (.invokevirtual 183, 3) := by decide +kernel
theorem dX11_stands_15 : decode cX11_stands 15 = .ok (.ireturn, 1) := by decide +kernel
theorem dX11_tips_0 : decode cX11_tips 0 = .ok (.iload_n 1, 1) := by decide +kernel
theorem dX11_tips_1 : decode cX11_tips 1 = .ok (.ifCond .eq 10, 3) := by decide +kernel
theorem dX11_tips_4 : decode cX11_tips 4 = .ok (.iload_n 1, 1) := by decide +kernel
theorem dX11_tips_5 : decode cX11_tips 5 = .ok (.iconst 1, 1) := by decide +kernel
theorem dX11_tips_6 : decode cX11_tips 6 = .ok (.if_icmp .eq 5, 3) := by decide +kernel
theorem dX11_tips_9 : decode cX11_tips 9 = .ok (.iconst (-1), 1) := by decide +kernel
theorem dX11_tips_10 : decode cX11_tips 10 = .ok (.ireturn, 1) := by decide +kernel
theorem dX11_tips_11 : decode cX11_tips 11 = .ok (.aload_n 0, 1) := by decide +kernel
theorem dX11_tips_12 : decode cX11_tips 12 = .ok (.getfield 58, 3) := by decide +kernel
theorem dX11_tips_15 : decode cX11_tips 15 = .ok (.aload_n 0, 1) := by decide +kernel
theorem dX11_tips_16 : decode cX11_tips 16 = .ok (.getfield 27, 3) := by decide +kernel
theorem dX11_tips_19 : decode cX11_tips 19 = .ok (.aload_n 0, 1) := by decide +kernel
theorem dX11_tips_20 : decode cX11_tips 20 = .ok (.getfield 46, 3) := by decide +kernel
theorem dX11_tips_23 : decode cX11_tips 23 = .ok (.invokevirtual 162, 3) := by decide +kernel
theorem dX11_tips_26 : decode cX11_tips 26 = .ok (.aload_n 0, 1) := by decide +kernel
theorem dX11_tips_27 : decode cX11_tips 27 = .ok (.getfield 58, 3) := by decide +kernel
theorem dX11_tips_30 : decode cX11_tips 30 = .ok (.invokevirtual 187, 3) := by decide +kernel
theorem dX11_tips_33 : decode cX11_tips 33 = .ok (.istore_n 2, 1) := by decide +kernel
theorem dX11_tips_34 : decode cX11_tips 34 = .ok (.iload_n 2, 1) := by decide +kernel
theorem dX11_tips_35 : decode cX11_tips 35 = .ok (.iconst (-1), 1) := by decide +kernel
theorem dX11_tips_36 : decode cX11_tips 36 = .ok (.if_icmp .ne 6, 3) := by decide +kernel
theorem dX11_tips_39 : decode cX11_tips 39 = .ok (.bipush (-2), 2) := by decide +kernel
theorem dX11_tips_41 : decode cX11_tips 41 = .ok (.ireturn, 1) := by decide +kernel
theorem dX11_tips_42 : decode cX11_tips 42 = .ok (.iload_n 1, 1) := by decide +kernel
theorem dX11_tips_43 : decode cX11_tips 43 = .ok (.ifCond .ne 5, 3) := by decide +kernel
theorem dX11_tips_46 : decode cX11_tips 46 = .ok (.iload_n 2, 1) := by decide +kernel
theorem dX11_tips_47 : decode cX11_tips 47 = .ok (.ireturn, 1) := by decide +kernel
theorem dX11_tips_48 : decode cX11_tips 48 = .ok (.aload_n 0, 1) := by decide +kernel
theorem dX11_tips_49 : decode cX11_tips 49 = .ok (.getfield 58, 3) := by decide +kernel
theorem dX11_tips_52 : decode cX11_tips 52 = .ok (.iload_n 2, 1) := by decide +kernel
theorem dX11_tips_53 : decode cX11_tips 53 = .ok (.invokevirtual 191, 3) := by decide +kernel
theorem dX11_tips_56 : decode cX11_tips 56 = .ok (.ifCond .eq 7, 3) := by decide +kernel
theorem dX11_tips_59 : decode cX11_tips 59 = .ok (.iconst 1, 1) := by decide +kernel
theorem dX11_tips_60 : decode cX11_tips 60 = .ok (.goto 4, 3) := by decide +kernel
theorem dX11_tips_63 : decode cX11_tips 63 = .ok (.iconst 0, 1) := by decide +kernel
theorem dX11_tips_64 : decode cX11_tips 64 = .ok (.ireturn, 1) := by decide +kernel
theorem dX11_over_0 : decode cX11_over 0 = .ok (.aload_n 0, 1) := by decide +kernel
theorem dX11_over_1 : decode cX11_over 1 = .ok (.aload_n 0, 1) := by decide +kernel
theorem dX11_over_2 : decode cX11_over 2 = .ok (.getfield 46, 3) := by decide +kernel
theorem dX11_over_5 : decode cX11_over 5 = .ok (.invokevirtual 194, 3) := by decide +kernel
theorem dX11_over_8 : decode cX11_over 8 = .ok (.ireturn, 1) := by decide +kernel
theorem dX11_lay_0 : decode cX11_lay 0 = .ok (.aload_n 0, 1) := by decide +kernel
theorem dX11_lay_1 : decode cX11_lay 1 = .ok (.iload_n 1, 1) := by decide +kernel
theorem dX11_lay_2 : decode cX11_lay 2 = .ok (.invokevirtual 131, 3) := by decide +kernel
theorem dX11_lay_5 : decode cX11_lay 5 = .ok (.ifCond .eq 23, 3) := by decide +kernel
theorem dX11_lay_8 : decode cX11_lay 8 = .ok (.aload_n 0, 1) := by decide +kernel
theorem dX11_lay_9 : decode cX11_lay 9 = .ok (.getfield 46, 3) := by decide +kernel
theorem dX11_lay_12 : decode cX11_lay 12 = .ok (.iload_n 1, 1) := by decide +kernel
theorem dX11_lay_13 : decode cX11_lay 13 = .ok (.invokevirtual 135, 3) := by decide +kernel
theorem dX11_lay_16 : decode cX11_lay 16 = .ok (.iconst (-1), 1) := by decide +kernel
theorem dX11_lay_17 : decode cX11_lay 17 = .ok (.if_icmp .ne 11, 3) := by decide +kernel
theorem dX11_lay_20 : decode cX11_lay 20 = .ok (.iload_n 2, 1) := by decide +kernel
theorem dX11_lay_21 : decode cX11_lay 21 = .ok (.i2l, 1) := by decide +kernel
theorem dX11_lay_22 : decode cX11_lay 22 = .ok (.invokestatic 198, 3) := by decide +kernel
theorem dX11_lay_25 : decode cX11_lay 25 = .ok (.ifCond .ne 5, 3) := by decide +kernel
theorem dX11_lay_28 : decode cX11_lay 28 = .ok (.iconst (-1), 1) := by decide +kernel
theorem dX11_lay_29 : decode cX11_lay 29 = .ok (.ireturn, 1) := by decide +kernel
theorem dX11_lay_30 : decode cX11_lay 30 = .ok (.aload_n 0, 1) := by decide +kernel
theorem dX11_lay_31 : decode cX11_lay 31 = .ok (.getfield 46, 3) := by decide +kernel
theorem dX11_lay_34 : decode cX11_lay 34 = .ok (.iload_n 1, 1) := by decide +kernel
theorem dX11_lay_35 : decode cX11_lay 35 = .ok (.iload_n 2, 1) := by decide +kernel
theorem dX11_lay_36 : decode cX11_lay 36 = .ok (.iload_n 3, 1) := by decide +kernel
theorem dX11_lay_37 : decode cX11_lay 37 = .ok (.invokevirtual 202, 3) := by decide +kernel
theorem dX11_lay_40 : decode cX11_lay 40 = .ok (.aload_n 0, 1) := by decide +kernel
theorem dX11_lay_41 : decode cX11_lay 41 = .ok (.getfield 65, 3) := by decide +kernel
theorem dX11_lay_44 : decode cX11_lay 44 = .ok (.iconst 1, 1) := by decide +kernel
theorem dX11_lay_45 : decode cX11_lay 45 = .ok (.iload_n 1, 1) := by decide +kernel
theorem dX11_lay_46 : decode cX11_lay 46 = .ok (.iload_n 2, 1) := by decide +kernel
theorem dX11_lay_47 : decode cX11_lay 47 = .ok (.iload_n 3, 1) := by decide +kernel
theorem dX11_lay_48 : decode cX11_lay 48 = .ok (.invokevirtual 206, 3) := by decide +kernel
theorem dX11_lay_51 : decode cX11_lay 51 = .ok (.aload_n 0, 1) := by decide +kernel
theorem dX11_lay_52 : decode cX11_lay 52 = .ok (.getfield 46, 3) := by decide +kernel
theorem dX11_lay_55 : decode cX11_lay 55 = .ok (.getfield 210, 3) := by decide +kernel
theorem dX11_lay_58 : decode cX11_lay 58 = .ok (.iconst 1, 1) := by decide +kernel
theorem dX11_lay_59 : decode cX11_lay 59 = .ok (.isub, 1) := by decide +kernel
theorem dX11_lay_60 : decode cX11_lay 60 = .ok (.ireturn, 1) := by decide +kernel
theorem dX11_lift_0 : decode cX11_lift 0 = .ok (.aload_n 0, 1) := by decide +kernel
theorem dX11_lift_1 : decode cX11_lift 1 = .ok (.getfield 46, 3) := by decide +kernel
theorem dX11_lift_4 : decode cX11_lift 4 = .ok (.getfield 210, 3) := by decide +kernel
theorem dX11_lift_7 : decode cX11_lift 7 = .ok (.iconst 1, 1) := by decide +kernel
theorem dX11_lift_8 : decode cX11_lift 8 = .ok (.isub, 1) := by decide +kernel
theorem dX11_lift_9 : decode cX11_lift 9 = .ok (.istore_n 1, 1) := by decide +kernel
theorem dX11_lift_10 : decode cX11_lift 10 = .ok (.aload_n 0, 1) := by decide +kernel
theorem dX11_lift_11 : decode cX11_lift 11 = .ok (.iload_n 1, 1) := by decide +kernel
theorem dX11_lift_12 : decode cX11_lift 12 = .ok (.invokevirtual 156, 3) := by decide +kernel
theorem dX11_lift_15 : decode cX11_lift 15 = .ok (.ifCond .ne 5, 3) := by decide +kernel
theorem dX11_lift_18 : decode cX11_lift 18 = .ok (.iconst (-1), 1) := by decide +kernel
theorem dX11_lift_19 : decode cX11_lift 19 = .ok (.ireturn, 1) := by decide +kernel
theorem dX11_lift_20 : decode cX11_lift 20 = .ok (.aload_n 0, 1) := by decide +kernel
theorem dX11_lift_21 : decode cX11_lift 21 = .ok (.getfield 46, 3) := by decide +kernel
theorem dX11_lift_24 : decode cX11_lift 24 = .ok (.getfield 159, 3) := by decide +kernel
theorem dX11_lift_27 : decode cX11_lift 27 = .ok (.iload_n 1, 1) := by decide +kernel
theorem dX11_lift_28 : decode cX11_lift 28 = .ok (.iaload, 1) := by decide +kernel
theorem dX11_lift_29 : decode cX11_lift 29 = .ok (.istore_n 2, 1) := by decide +kernel
theorem dX11_lift_30 : decode cX11_lift 30 = .ok (.aload_n 0, 1) := by decide +kernel
theorem dX11_lift_31 : decode cX11_lift 31 = .ok (.getfield 65, 3) := by decide +kernel
theorem dX11_lift_34 : decode cX11_lift 34 = .ok (.iconst 2, 1) := by decide +kernel
theorem dX11_lift_35 : decode cX11_lift 35 = .ok (.iload_n 2, 1) := by decide +kernel
theorem dX11_lift_36 : decode cX11_lift 36 = .ok (.aload_n 0, 1) := by decide +kernel
theorem dX11_lift_37 : decode cX11_lift 37 = .ok (.getfield 46, 3) := by decide +kernel
theorem dX11_lift_40 : decode cX11_lift 40 = .ok (.getfield 149, 3) := by decide +kernel
theorem dX11_lift_43 : decode cX11_lift 43 = .ok (.iload_n 1, 1) := by decide +kernel
theorem dX11_lift_44 : decode cX11_lift 44 = .ok (.iaload, 1) := by decide +kernel
theorem dX11_lift_45 : decode cX11_lift 45 = .ok (.aload_n 0, 1) := by decide +kernel
theorem dX11_lift_46 : decode cX11_lift 46 = .ok (.getfield 46, 3) := by decide +kernel
theorem dX11_lift_49 : decode cX11_lift 49 = .ok (.getfield 152, 3) := by decide +kernel
theorem dX11_lift_52 : decode cX11_lift 52 = .ok (.iload_n 1, 1) := by decide +kernel
theorem dX11_lift_53 : decode cX11_lift 53 = .ok (.baload, 1) := by decide +kernel
theorem dX11_lift_54 : decode cX11_lift 54 = .ok (.invokevirtual 206, 3) := by decide +kernel
theorem dX11_lift_57 : decode cX11_lift 57 = .ok (.aload_n 0, 1) := by decide +kernel
theorem dX11_lift_58 : decode cX11_lift 58 = .ok (.getfield 46, 3) := by decide +kernel
theorem dX11_lift_61 : decode cX11_lift 61 = .ok (.invokevirtual 211, 3) := by decide +kernel
theorem dX11_lift_64 : decode cX11_lift 64 = .ok (.iload_n 2, 1) := by decide +kernel
theorem dX11_lift_65 : decode cX11_lift 65 = .ok (.ireturn, 1) := by decide +kernel
theorem dX11_move_0 : decode cX11_move 0 = .ok (.aload_n 0, 1) := by decide +kernel
theorem dX11_move_1 : decode cX11_move 1 = .ok (.iload_n 1, 1) := by decide +kernel
theorem dX11_move_2 : decode cX11_move 2 = .ok (.invokevirtual 156, 3) := by decide +kernel
theorem dX11_move_5 : decode cX11_move 5 = .ok (.ifCond .ne 5, 3) := by decide +kernel
theorem dX11_move_8 : decode cX11_move 8 = .ok (.iconst 0, 1) := by decide +kernel
theorem dX11_move_9 : decode cX11_move 9 = .ok (.ireturn, 1) := by decide +kernel
theorem dX11_move_10 : decode cX11_move 10 = .ok (.iload_n 1, 1) := by decide +kernel
theorem dX11_move_11 : decode cX11_move 11 = .ok (.istore_n 3, 1) := by decide +kernel
theorem dX11_move_12 : decode cX11_move 12 = .ok (.iload_n 3, 1) := by decide +kernel
theorem dX11_move_13 : decode cX11_move 13 = .ok (.aload_n 0, 1) := by decide +kernel
theorem dX11_move_14 : decode cX11_move 14 = .ok (.getfield 46, 3) := by decide +kernel
theorem dX11_move_17 : decode cX11_move 17 = .ok (.getfield 210, 3) := by decide +kernel
theorem dX11_move_20 : decode cX11_move 20 = .ok (.if_icmp .ge 30, 3) := by decide +kernel
theorem dX11_move_23 : decode cX11_move 23 = .ok (.aload_n 0, 1) := by decide +kernel
theorem dX11_move_24 : decode cX11_move 24 = .ok (.getfield 46, 3) := by decide +kernel
theorem dX11_move_27 : decode cX11_move 27 = .ok (.getfield 149, 3) := by decide +kernel
theorem dX11_move_30 : decode cX11_move 30 = .ok (.iload_n 3, 1) := by decide +kernel
theorem dX11_move_31 : decode cX11_move 31 = .ok (.iaload, 1) := by decide +kernel
theorem dX11_move_32 : decode cX11_move 32 = .ok (.i2l, 1) := by decide +kernel
theorem dX11_move_33 : decode cX11_move 33 = .ok (.iload_n 2, 1) := by decide +kernel
theorem dX11_move_34 : decode cX11_move 34 = .ok (.i2l, 1) := by decide +kernel
theorem dX11_move_35 : decode cX11_move 35 = .ok (.ladd, 1) := by decide +kernel
theorem dX11_move_36 : decode cX11_move 36 = .ok (.invokestatic 198, 3) := by decide +kernel
theorem dX11_move_39 : decode cX11_move 39 = .ok (.ifCond .ne 5, 3) := by decide +kernel
theorem dX11_move_42 : decode cX11_move 42 = .ok (.iconst 0, 1) := by decide +kernel
theorem dX11_move_43 : decode cX11_move 43 = .ok (.ireturn, 1) := by decide +kernel
theorem dX11_move_44 : decode cX11_move 44 = .ok (.iinc 3 1, 3) := by decide +kernel
theorem dX11_move_47 : decode cX11_move 47 = .ok (.goto (-35), 3) := by decide +kernel
theorem dX11_move_50 : decode cX11_move 50 = .ok (.aload_n 0, 1) := by decide +kernel
theorem dX11_move_51 : decode cX11_move 51 = .ok (.getfield 46, 3) := by decide +kernel
theorem dX11_move_54 : decode cX11_move 54 = .ok (.iload_n 1, 1) := by decide +kernel
theorem dX11_move_55 : decode cX11_move 55 = .ok (.iload_n 2, 1) := by decide +kernel
theorem dX11_move_56 : decode cX11_move 56 = .ok (.invokevirtual 214, 3) := by decide +kernel
theorem dX11_move_59 : decode cX11_move 59 = .ok (.aload_n 0, 1) := by decide +kernel
theorem dX11_move_60 : decode cX11_move 60 = .ok (.getfield 65, 3) := by decide +kernel
theorem dX11_move_63 : decode cX11_move 63 = .ok (.iconst 3, 1) := by decide +kernel
theorem dX11_move_64 : decode cX11_move 64 = .ok (.iload_n 1, 1) := by decide +kernel
theorem dX11_move_65 : decode cX11_move 65 = .ok (.iload_n 2, 1) := by decide +kernel
theorem dX11_move_66 : decode cX11_move 66 = .ok (.iconst 0, 1) := by decide +kernel
theorem dX11_move_67 : decode cX11_move 67 = .ok (.invokevirtual 206, 3) := by decide +kernel
theorem dX11_move_70 : decode cX11_move 70 = .ok (.iconst 1, 1) := by decide +kernel
theorem dX11_move_71 : decode cX11_move 71 = .ok (.ireturn, 1) := by decide +kernel
theorem dX11_undo_0 : decode cX11_undo 0 = .ok (.aload_n 0, 1) := by decide +kernel
theorem dX11_undo_1 : decode cX11_undo 1 = .ok (.getfield 65, 3) := by decide +kernel
theorem dX11_undo_4 : decode cX11_undo 4 = .ok (.aload_n 0, 1) := by decide +kernel
theorem dX11_undo_5 : decode cX11_undo 5 = .ok (.getfield 46, 3) := by decide +kernel
theorem dX11_undo_8 : decode cX11_undo 8 = .ok (.invokevirtual 218, 3) := by decide +kernel
theorem dX11_undo_11 : decode cX11_undo 11 = .ok (.ireturn, 1) := by decide +kernel
theorem dX11_bears_0 : decode cX11_bears 0 = .ok (.aload_n 0, 1) := by decide +kernel
theorem dX11_bears_1 : decode cX11_bears 1 = .ok (.iload_n 1, 1) := by decide +kernel
theorem dX11_bears_2 : decode cX11_bears 2 = .ok (.iload_n 2, 1) := by decide +kernel
theorem dX11_bears_3 : decode cX11_bears 3 = .ok (.invokevirtual 222, 3) := by decide +kernel
theorem dX11_bears_6 : decode cX11_bears 6 = .ok (.ifCond .ne 5, 3) := by decide +kernel
theorem dX11_bears_9 : decode cX11_bears 9 = .ok (.iconst (-1), 1) := by decide +kernel
theorem dX11_bears_10 : decode cX11_bears 10 = .ok (.ireturn, 1) := by decide +kernel
theorem dX11_bears_11 : decode cX11_bears 11 = .ok (.aload_n 0, 1) := by decide +kernel
theorem dX11_bears_12 : decode cX11_bears 12 = .ok (.getfield 58, 3) := by decide +kernel
theorem dX11_bears_15 : decode cX11_bears 15 = .ok (.aload_n 0, 1) := by decide +kernel
theorem dX11_bears_16 : decode cX11_bears 16 = .ok (.getfield 46, 3) := by decide +kernel
theorem dX11_bears_19 : decode cX11_bears 19 = .ok (.iload_n 1, 1) := by decide +kernel
theorem dX11_bears_20 : decode cX11_bears 20 = .ok (.invokevirtual 135, 3) := by decide +kernel
theorem dX11_bears_23 : decode cX11_bears 23 = .ok (.iload_n 2, 1) := by decide +kernel
theorem dX11_bears_24 : decode cX11_bears 24 = .ok (.invokevirtual 226, 3) := by decide +kernel
theorem dX11_bears_27 : decode cX11_bears 27 = .ok (.ifCond .eq 13, 3) := by decide +kernel
theorem dX11_bears_30 : decode cX11_bears 30 = .ok (.aload_n 0, 1) := by decide +kernel
theorem dX11_bears_31 : decode cX11_bears 31 = .ok (.getfield 58, 3) := by decide +kernel
theorem dX11_bears_34 : decode cX11_bears 34 = .ok (.getfield 229, 3) := by decide +kernel
theorem dX11_bears_37 : decode cX11_bears 37 = .ok (.goto 5, 3) := by decide +kernel
theorem dX11_bears_40 : decode cX11_bears 40 = .ok (.bipush (-2), 2) := by decide +kernel
theorem dX11_bears_42 : decode cX11_bears 42 = .ok (.ireturn, 1) := by decide +kernel
theorem dX11_holds_0 : decode cX11_holds 0 = .ok (.aload_n 0, 1) := by decide +kernel
theorem dX11_holds_1 : decode cX11_holds 1 = .ok (.iload_n 1, 1) := by decide +kernel
theorem dX11_holds_2 : decode cX11_holds 2 = .ok (.iload_n 2, 1) := by decide +kernel
theorem dX11_holds_3 : decode cX11_holds 3 = .ok (.invokevirtual 222, 3) := by decide +kernel
theorem dX11_holds_6 : decode cX11_holds 6 = .ok (.ifCond .ne 5, 3) := by decide +kernel
theorem dX11_holds_9 : decode cX11_holds 9 = .ok (.iconst (-1), 1) := by decide +kernel
theorem dX11_holds_10 : decode cX11_holds 10 = .ok (.ireturn, 1) := by decide +kernel
theorem dX11_holds_11 : decode cX11_holds 11 = .ok (.aload_n 0, 1) := by decide +kernel
theorem dX11_holds_12 : decode cX11_holds 12 = .ok (.getfield 58, 3) := by decide +kernel
theorem dX11_holds_15 : decode cX11_holds 15 = .ok (.aload_n 0, 1) := by decide +kernel
theorem dX11_holds_16 : decode cX11_holds 16 = .ok (.getfield 46, 3) := by decide +kernel
theorem dX11_holds_19 : decode cX11_holds 19 = .ok (.iload_n 1, 1) := by decide +kernel
theorem dX11_holds_20 : decode cX11_holds 20 = .ok (.invokevirtual 135, 3) := by decide +kernel
theorem dX11_holds_23 : decode cX11_holds 23 = .ok (.iload_n 2, 1) := by decide +kernel
theorem dX11_holds_24 : decode cX11_holds 24 = .ok (.invokevirtual 226, 3) := by decide +kernel
theorem dX11_holds_27 : decode cX11_holds 27 = .ok (.ifCond .eq 13, 3) := by decide +kernel
theorem dX11_holds_30 : decode cX11_holds 30 = .ok (.aload_n 0, 1) := by decide +kernel
theorem dX11_holds_31 : decode cX11_holds 31 = .ok (.getfield 58, 3) := by decide +kernel
theorem dX11_holds_34 : decode cX11_holds 34 = .ok (.getfield 232, 3) := by decide +kernel
theorem dX11_holds_37 : decode cX11_holds 37 = .ok (.goto 5, 3) := by decide +kernel
theorem dX11_holds_40 : decode cX11_holds 40 = .ok (.bipush (-2), 2) := by decide +kernel
theorem dX11_holds_42 : decode cX11_holds 42 = .ok (.ireturn, 1) := by decide +kernel
theorem dX11_pushed_0 : decode cX11_pushed 0 = .ok (.iload_n 1, 1) := by decide +kernel
theorem dX11_pushed_1 : decode cX11_pushed 1 = .ok (.ifCond .eq 10, 3) := by decide +kernel
theorem dX11_pushed_4 : decode cX11_pushed 4 = .ok (.iload_n 1, 1) := by decide +kernel
theorem dX11_pushed_5 : decode cX11_pushed 5 = .ok (.iconst 1, 1) := by decide +kernel
theorem dX11_pushed_6 : decode cX11_pushed 6 = .ok (.if_icmp .eq 5, 3) := by decide +kernel
theorem dX11_pushed_9 : decode cX11_pushed 9 = .ok (.iconst (-1), 1) := by decide +kernel
theorem dX11_pushed_10 : decode cX11_pushed 10 = .ok (.ireturn, 1) := by decide +kernel
theorem dX11_pushed_11 : decode cX11_pushed 11 = .ok (.aload_n 0, 1) := by decide +kernel
theorem dX11_pushed_12 : decode cX11_pushed 12 = .ok (.getfield 50, 3) := by decide +kernel
theorem dX11_pushed_15 : decode cX11_pushed 15 = .ok (.aload_n 0, 1) := by decide +kernel
theorem dX11_pushed_16 : decode cX11_pushed 16 = .ok (.getfield 46, 3) := by decide +kernel
theorem dX11_pushed_19 : decode cX11_pushed 19 = .ok (.invokevirtual 117, 3) := by decide +kernel
theorem dX11_pushed_22 : decode cX11_pushed 22 = .ok (.aload_n 0, 1) := by decide +kernel
theorem dX11_pushed_23 : decode cX11_pushed 23 = .ok (.getfield 50, 3) := by decide +kernel
theorem dX11_pushed_26 : decode cX11_pushed 26 = .ok (.getfield 210, 3) := by decide +kernel
theorem dX11_pushed_29 : decode cX11_pushed 29 = .ok (.iconst 1, 1) := by decide +kernel
theorem dX11_pushed_30 : decode cX11_pushed 30 = .ok (.isub, 1) := by decide +kernel
theorem dX11_pushed_31 : decode cX11_pushed 31 = .ok (.istore_n 2, 1) := by decide +kernel
theorem dX11_pushed_32 : decode cX11_pushed 32 = .ok (.iload_n 2, 1) := by decide +kernel
theorem dX11_pushed_33 : decode cX11_pushed 33 = .ok (.ifCond .lt 14, 3) := by decide +kernel
theorem dX11_pushed_36 : decode cX11_pushed 36 = .ok (.aload_n 0, 1) := by decide +kernel
theorem dX11_pushed_37 : decode cX11_pushed 37 = .ok (.iload_n 2, 1) := by decide +kernel
theorem dX11_pushed_38 : decode cX11_pushed 38 = .ok (.invokevirtual 235, 3) := by decide +kernel
theorem dX11_pushed_41 : decode cX11_pushed 41 = .ok (.iinc 2 (-1), 3) := by decide +kernel
theorem dX11_pushed_44 : decode cX11_pushed 44 = .ok (.goto (-12), 3) := by decide +kernel
theorem dX11_pushed_47 : decode cX11_pushed 47 = .ok (.iload_n 1, 1) := by decide +kernel
theorem dX11_pushed_48 : decode cX11_pushed 48 = .ok (.ifCond .ne 12, 3) := by decide +kernel
theorem dX11_pushed_51 : decode cX11_pushed 51 = .ok (.aload_n 0, 1) := by decide +kernel
theorem dX11_pushed_52 : decode cX11_pushed 52 = .ok (.aload_n 0, 1) := by decide +kernel
theorem dX11_pushed_53 : decode cX11_pushed 53 = .ok (.getfield 50, 3) := by decide +kernel
theorem dX11_pushed_56 : decode cX11_pushed 56 = .ok (.invokevirtual 194, 3) := by decide +kernel
theorem dX11_pushed_59 : decode cX11_pushed 59 = .ok (.ireturn, 1) := by decide +kernel
theorem dX11_pushed_60 : decode cX11_pushed 60 = .ok (.aload_n 0, 1) := by decide +kernel
theorem dX11_pushed_61 : decode cX11_pushed 61 = .ok (.getfield 58, 3) := by decide +kernel
theorem dX11_pushed_64 : decode cX11_pushed 64 = .ok (.aload_n 0, 1) := by decide +kernel
theorem dX11_pushed_65 : decode cX11_pushed 65 = .ok (.getfield 27, 3) := by decide +kernel
theorem dX11_pushed_68 : decode cX11_pushed 68 = .ok (.aload_n 0, 1) := by decide +kernel
theorem dX11_pushed_69 : decode cX11_pushed 69 = .ok (.getfield 50, 3) := by decide +kernel
theorem dX11_pushed_72 : decode cX11_pushed 72 = .ok (.invokevirtual 183, 3) := by decide +kernel
theorem dX11_pushed_75 : decode cX11_pushed 75 = .ok (.ifCond .eq 7, 3) := by decide +kernel
theorem dX11_pushed_78 : decode cX11_pushed 78 = .ok (.iconst 1, 1) := by decide +kernel
theorem dX11_pushed_79 : decode cX11_pushed 79 = .ok (.goto 4, 3) := by decide +kernel
theorem dX11_pushed_82 : decode cX11_pushed 82 = .ok (.iconst 0, 1) := by decide +kernel
theorem dX11_pushed_83 : decode cX11_pushed 83 = .ok (.ireturn, 1) := by decide +kernel
theorem dX11_takings_0 : decode cX11_takings 0 = .ok (.iconst 1, 1) := by decide +kernel
theorem dX11_takings_1 : decode cX11_takings 1 = .ok (.aload_n 0, 1) := by decide +kernel
theorem dX11_takings_2 : decode cX11_takings 2 = .ok (.getfield 46, 3) := by decide +kernel
theorem dX11_takings_5 : decode cX11_takings 5 = .ok (.getfield 210, 3) := by decide +kernel
theorem dX11_takings_8 : decode cX11_takings 8 = .ok (.ishl, 1) := by decide +kernel
theorem dX11_takings_9 : decode cX11_takings 9 = .ok (.iconst 1, 1) := by decide +kernel
theorem dX11_takings_10 : decode cX11_takings 10 = .ok (.isub, 1) := by decide +kernel
theorem dX11_takings_11 : decode cX11_takings 11 = .ok (.istore_n 1, 1) := by decide +kernel
theorem dX11_takings_12 : decode cX11_takings 12 = .ok (.aload_n 0, 1) := by decide +kernel
theorem dX11_takings_13 : decode cX11_takings 13 = .ok (.getfield 97, 3) := by decide +kernel
theorem dX11_takings_16 : decode cX11_takings 16 = .ok (.iconst 0, 1) := by decide +kernel
theorem dX11_takings_17 : decode cX11_takings 17 = .ok (.iconst 1, 1) := by decide +kernel
theorem dX11_takings_18 : decode cX11_takings 18 = .ok (.iastore, 1) := by decide +kernel
theorem dX11_takings_19 : decode cX11_takings 19 = .ok (.iconst 1, 1) := by decide +kernel
theorem dX11_takings_20 : decode cX11_takings 20 = .ok (.istore_n 2, 1) := by decide +kernel
theorem dX11_takings_21 : decode cX11_takings 21 = .ok (.iload_n 2, 1) := by decide +kernel
theorem dX11_takings_22 : decode cX11_takings 22 = .ok (.iload_n 1, 1) := by decide +kernel
theorem dX11_takings_23 : decode cX11_takings 23 = .ok (.if_icmp .gt 60, 3) := by decide +kernel
theorem dX11_takings_26 : decode cX11_takings 26 = .ok (.iload_n 2, 1) := by decide +kernel
theorem dX11_takings_27 : decode cX11_takings 27 = .ok (.bipush 64, 2) := by decide +kernel
theorem dX11_takings_29 : decode cX11_takings 29 = .ok (.if_icmp .ge 54, 3) := by decide +kernel
theorem dX11_takings_32 : decode cX11_takings 32 = .ok (.aload_n 0, 1) := by decide +kernel
theorem dX11_takings_33 : decode cX11_takings 33 = .ok (.getfield 50, 3) := by decide +kernel
theorem dX11_takings_36 : decode cX11_takings 36 = .ok (.aload_n 0, 1) := by decide +kernel
theorem dX11_takings_37 : decode cX11_takings 37 = .ok (.getfield 46, 3) := by decide +kernel
theorem dX11_takings_40 : decode cX11_takings 40 = .ok (.iload_n 2, 1) := by decide +kernel
theorem dX11_takings_41 : decode cX11_takings 41 = .ok (.invokevirtual 238, 3) := by decide +kernel
theorem dX11_takings_44 : decode cX11_takings 44 = .ok (.aload_n 0, 1) := by decide +kernel
theorem dX11_takings_45 : decode cX11_takings 45 = .ok (.getfield 97, 3) := by decide +kernel
theorem dX11_takings_48 : decode cX11_takings 48 = .ok (.iload_n 2, 1) := by decide +kernel
theorem dX11_takings_49 : decode cX11_takings 49 = .ok (.aload_n 0, 1) := by decide +kernel
theorem dX11_takings_50 : decode cX11_takings 50 = .ok (.getfield 58, 3) := by decide +kernel
theorem dX11_takings_53 : decode cX11_takings 53 = .ok (.aload_n 0, 1) := by decide +kernel
theorem dX11_takings_54 : decode cX11_takings 54 = .ok (.getfield 27, 3) := by decide +kernel
theorem dX11_takings_57 : decode cX11_takings 57 = .ok (.aload_n 0, 1) := by decide +kernel
theorem dX11_takings_58 : decode cX11_takings 58 = .ok (.getfield 50, 3) := by decide +kernel
theorem dX11_takings_61 : decode cX11_takings 61 = .ok (.invokevirtual 183, 3) := by decide +kernel
theorem dX11_takings_64 : decode cX11_takings 64 = .ok (.ifCond .eq 11, 3) := by decide +kernel
theorem dX11_takings_67 : decode cX11_takings 67 = .ok (.aload_n 0, 1) := by decide +kernel
theorem dX11_takings_68 : decode cX11_takings 68 = .ok (.iload_n 2, 1) := by decide +kernel
theorem dX11_takings_69 : decode cX11_takings 69 = .ok (.invokevirtual 242, 3) := by decide +kernel
theorem dX11_takings_72 : decode cX11_takings 72 = .ok (.goto 4, 3) := by decide +kernel
theorem dX11_takings_75 : decode cX11_takings 75 = .ok (.iconst 0, 1) := by decide +kernel
theorem dX11_takings_76 : decode cX11_takings 76 = .ok (.iastore, 1) := by decide +kernel
theorem dX11_takings_77 : decode cX11_takings 77 = .ok (.iinc 2 1, 3) := by decide +kernel
theorem dX11_takings_80 : decode cX11_takings 80 = .ok (.goto (-59), 3) := by decide +kernel
theorem dX11_takings_83 : decode cX11_takings 83 = .ok (.aload_n 0, 1) := by decide +kernel
theorem dX11_takings_84 : decode cX11_takings 84 = .ok (.getfield 97, 3) := by decide +kernel
theorem dX11_takings_87 : decode cX11_takings 87 = .ok (.iload_n 1, 1) := by decide +kernel
theorem dX11_takings_88 : decode cX11_takings 88 = .ok (.iaload, 1) := by decide +kernel
theorem dX11_takings_89 : decode cX11_takings 89 = .ok (.ireturn, 1) := by decide +kernel
theorem dX11_slides_0 : decode cX11_slides 0 = .ok (.aload_n 0, 1) := by decide +kernel
theorem dX11_slides_1 : decode cX11_slides 1 = .ok (.iload_n 1, 1) := by decide +kernel
theorem dX11_slides_2 : decode cX11_slides 2 = .ok (.invokevirtual 156, 3) := by decide +kernel
theorem dX11_slides_5 : decode cX11_slides 5 = .ok (.ifCond .ne 7, 3) := by decide +kernel
theorem dX11_slides_8 : decode cX11_slides 8 = .ok (.sipush (-1000), 3) := by decide +kernel
theorem dX11_slides_11 : decode cX11_slides 11 = .ok (.ireturn, 1) := by decide +kernel
theorem dX11_slides_12 : decode cX11_slides 12 = .ok (.aload_n 0, 1) := by decide +kernel
theorem dX11_slides_13 : decode cX11_slides 13 = .ok (.getfield 50, 3) := by decide +kernel
theorem dX11_slides_16 : decode cX11_slides 16 = .ok (.aload_n 0, 1) := by decide +kernel
theorem dX11_slides_17 : decode cX11_slides 17 = .ok (.getfield 46, 3) := by decide +kernel
theorem dX11_slides_20 : decode cX11_slides 20 = .ok (.invokevirtual 117, 3) := by decide +kernel
theorem dX11_slides_23 : decode cX11_slides 23 = .ok (.aload_n 0, 1) := by decide +kernel
theorem dX11_slides_24 : decode cX11_slides 24 = .ok (.getfield 58, 3) := by decide +kernel
theorem dX11_slides_27 : decode cX11_slides 27 = .ok (.aload_n 0, 1) := by decide +kernel
theorem dX11_slides_28 : decode cX11_slides 28 = .ok (.getfield 27, 3) := by decide +kernel
theorem dX11_slides_31 : decode cX11_slides 31 = .ok (.aload_n 0, 1) := by decide +kernel
theorem dX11_slides_32 : decode cX11_slides 32 = .ok (.getfield 50, 3) := by decide +kernel
theorem dX11_slides_35 : decode cX11_slides 35 = .ok (.invokevirtual 183, 3) := by decide +kernel
theorem dX11_slides_38 : decode cX11_slides 38 = .ok (.ifCond .ne 7, 3) := by decide +kernel
theorem dX11_slides_41 : decode cX11_slides 41 = .ok (.sipush (-2000), 3) := by decide +kernel
theorem dX11_slides_44 : decode cX11_slides 44 = .ok (.ireturn, 1) := by decide +kernel
theorem dX11_slides_45 : decode cX11_slides 45 = .ok (.iload_n 2, 1) := by decide +kernel
theorem dX11_slides_46 : decode cX11_slides 46 = .ok (.ifCond .eq 7, 3) := by decide +kernel
theorem dX11_slides_49 : decode cX11_slides 49 = .ok (.iconst 1, 1) := by decide +kernel
theorem dX11_slides_50 : decode cX11_slides 50 = .ok (.goto 4, 3) := by decide +kernel
theorem dX11_slides_53 : decode cX11_slides 53 = .ok (.iconst (-1), 1) := by decide +kernel
theorem dX11_slides_54 : decode cX11_slides 54 = .ok (.istore_n 3, 1) := by decide +kernel
theorem dX11_slides_55 : decode cX11_slides 55 = .ok (.iconst 1, 1) := by decide +kernel
theorem dX11_slides_56 : decode cX11_slides 56 = .ok (.istore 4, 2) := by decide +kernel
theorem dX11_slides_58 : decode cX11_slides 58 = .ok (.iload 4, 2) := by decide +kernel
theorem dX11_slides_60 : decode cX11_slides 60 = .ok (.sipush 200, 3) := by decide +kernel
theorem dX11_slides_63 : decode cX11_slides 63 = .ok (.if_icmp .gt 43, 3) := by decide +kernel
theorem dX11_slides_66 : decode cX11_slides 66 = .ok (.aload_n 0, 1) := by decide +kernel
theorem dX11_slides_67 : decode cX11_slides 67 = .ok (.getfield 50, 3) := by decide +kernel
theorem dX11_slides_70 : decode cX11_slides 70 = .ok (.iload_n 1, 1) := by decide +kernel
theorem dX11_slides_71 : decode cX11_slides 71 = .ok (.iload_n 3, 1) := by decide +kernel
theorem dX11_slides_72 : decode cX11_slides 72 = .ok (.invokevirtual 214, 3) := by decide +kernel
theorem dX11_slides_75 : decode cX11_slides 75 = .ok (.aload_n 0, 1) := by decide +kernel
theorem dX11_slides_76 : decode cX11_slides 76 = .ok (.getfield 58, 3) := by decide +kernel
theorem dX11_slides_79 : decode cX11_slides 79 = .ok (.aload_n 0, 1) := by decide +kernel
theorem dX11_slides_80 : decode cX11_slides 80 = .ok (.getfield 27, 3) := by decide +kernel
theorem dX11_slides_83 : decode cX11_slides 83 = .ok (.aload_n 0, 1) := by decide +kernel
theorem dX11_slides_84 : decode cX11_slides 84 = .ok (.getfield 50, 3) := by decide +kernel
theorem dX11_slides_87 : decode cX11_slides 87 = .ok (.invokevirtual 183, 3) := by decide +kernel
theorem dX11_slides_90 : decode cX11_slides 90 = .ok (.ifCond .ne 10, 3) := by decide +kernel
theorem dX11_slides_93 : decode cX11_slides 93 = .ok (.iload_n 3, 1) := by decide +kernel
theorem dX11_slides_94 : decode cX11_slides 94 = .ok (.iload 4, 2) := by decide +kernel
theorem dX11_slides_96 : decode cX11_slides 96 = .ok (.iconst 1, 1) := by decide +kernel
theorem dX11_slides_97 : decode cX11_slides 97 = .ok (.isub, 1) := by decide +kernel
theorem dX11_slides_98 : decode cX11_slides 98 = .ok (.imul, 1) := by decide +kernel
theorem dX11_slides_99 : decode cX11_slides 99 = .ok (.ireturn, 1) := by decide +kernel
theorem dX11_slides_100 : decode cX11_slides 100 = .ok (.iinc 4 1, 3) := by decide +kernel
theorem dX11_slides_103 : decode cX11_slides 103 = .ok (.goto (-45), 3) := by decide +kernel
theorem dX11_slides_106 : decode cX11_slides 106 = .ok (.iload_n 3, 1) := by decide +kernel
theorem dX11_slides_107 : decode cX11_slides 107 = .ok (.sipush 200, 3) := by decide +kernel
theorem dX11_slides_110 : decode cX11_slides 110 = .ok (.imul, 1) := by decide +kernel
theorem dX11_slides_111 : decode cX11_slides 111 = .ok (.ireturn, 1) := by decide +kernel
theorem dX11_out_0 : decode cX11_out 0 = .ok (.aload_n 0, 1) := by decide +kernel
theorem dX11_out_1 : decode cX11_out 1 = .ok (.iload_n 1, 1) := by decide +kernel
theorem dX11_out_2 : decode cX11_out 2 = .ok (.invokevirtual 156, 3) := by decide +kernel
theorem dX11_out_5 : decode cX11_out 5 = .ok (.ifCond .ne 5, 3) := by decide +kernel
theorem dX11_out_8 : decode cX11_out 8 = .ok (.iconst (-1), 1) := by decide +kernel
theorem dX11_out_9 : decode cX11_out 9 = .ok (.ireturn, 1) := by decide +kernel
theorem dX11_out_10 : decode cX11_out 10 = .ok (.iconst 1, 1) := by decide +kernel
theorem dX11_out_11 : decode cX11_out 11 = .ok (.aload_n 0, 1) := by decide +kernel
theorem dX11_out_12 : decode cX11_out 12 = .ok (.getfield 46, 3) := by decide +kernel
theorem dX11_out_15 : decode cX11_out 15 = .ok (.getfield 210, 3) := by decide +kernel
theorem dX11_out_18 : decode cX11_out 18 = .ok (.ishl, 1) := by decide +kernel
theorem dX11_out_19 : decode cX11_out 19 = .ok (.iconst 1, 1) := by decide +kernel
theorem dX11_out_20 : decode cX11_out 20 = .ok (.isub, 1) := by decide +kernel
theorem dX11_out_21 : decode cX11_out 21 = .ok (.istore_n 2, 1) := by decide +kernel
theorem dX11_out_22 : decode cX11_out 22 = .ok (.aload_n 0, 1) := by decide +kernel
theorem dX11_out_23 : decode cX11_out 23 = .ok (.getfield 50, 3) := by decide +kernel
theorem dX11_out_26 : decode cX11_out 26 = .ok (.aload_n 0, 1) := by decide +kernel
theorem dX11_out_27 : decode cX11_out 27 = .ok (.getfield 46, 3) := by decide +kernel
theorem dX11_out_30 : decode cX11_out 30 = .ok (.iload_n 2, 1) := by decide +kernel
theorem dX11_out_31 : decode cX11_out 31 = .ok (.iconst 1, 1) := by decide +kernel
theorem dX11_out_32 : decode cX11_out 32 = .ok (.iload_n 1, 1) := by decide +kernel
theorem dX11_out_33 : decode cX11_out 33 = .ok (.ishl, 1) := by decide +kernel
theorem dX11_out_34 : decode cX11_out 34 = .ok (.iconst (-1), 1) := by decide +kernel
theorem dX11_out_35 : decode cX11_out 35 = .ok (.ixor, 1) := by decide +kernel
theorem dX11_out_36 : decode cX11_out 36 = .ok (.iand, 1) := by decide +kernel
theorem dX11_out_37 : decode cX11_out 37 = .ok (.invokevirtual 238, 3) := by decide +kernel
theorem dX11_out_40 : decode cX11_out 40 = .ok (.aload_n 0, 1) := by decide +kernel
theorem dX11_out_41 : decode cX11_out 41 = .ok (.getfield 58, 3) := by decide +kernel
theorem dX11_out_44 : decode cX11_out 44 = .ok (.aload_n 0, 1) := by decide +kernel
theorem dX11_out_45 : decode cX11_out 45 = .ok (.getfield 27, 3) := by decide +kernel
theorem dX11_out_48 : decode cX11_out 48 = .ok (.aload_n 0, 1) := by decide +kernel
theorem dX11_out_49 : decode cX11_out 49 = .ok (.getfield 50, 3) := by decide +kernel
theorem dX11_out_52 : decode cX11_out 52 = .ok (.invokevirtual 183, 3) := by decide +kernel
theorem dX11_out_55 : decode cX11_out 55 = .ok (.ifCond .eq 7, 3) := by decide +kernel
theorem dX11_out_58 : decode cX11_out 58 = .ok (.iconst 1, 1) := by decide +kernel
theorem dX11_out_59 : decode cX11_out 59 = .ok (.goto 4, 3) := by decide +kernel
theorem dX11_out_62 : decode cX11_out 62 = .ok (.iconst 0, 1) := by decide +kernel
theorem dX11_out_63 : decode cX11_out 63 = .ok (.ireturn, 1) := by decide +kernel
theorem dX11_reach_0 : decode cX11_reach 0 = .ok (.aload_n 0, 1) := by decide +kernel
theorem dX11_reach_1 : decode cX11_reach 1 = .ok (.getfield 86, 3) := by decide +kernel
theorem dX11_reach_4 : decode cX11_reach 4 = .ok (.aload_n 0, 1) := by decide +kernel
theorem dX11_reach_5 : decode cX11_reach 5 = .ok (.getfield 27, 3) := by decide +kernel
theorem dX11_reach_8 : decode cX11_reach 8 = .ok (.iload_n 1, 1) := by decide +kernel
theorem dX11_reach_9 : decode cX11_reach 9 = .ok (.aload_n 0, 1) := by decide +kernel
theorem dX11_reach_10 : decode cX11_reach 10 = .ok (.getfield 93, 3) := by decide +kernel
theorem dX11_reach_13 : decode cX11_reach 13 = .ok (.invokevirtual 245, 3) := by decide +kernel
theorem dX11_reach_16 : decode cX11_reach 16 = .ok (.ifCond .eq 14, 3) := by decide +kernel
theorem dX11_reach_19 : decode cX11_reach 19 = .ok (.aload_n 0, 1) := by decide +kernel
theorem dX11_reach_20 : decode cX11_reach 20 = .ok (.getfield 93, 3) := by decide +kernel
theorem dX11_reach_23 : decode cX11_reach 23 = .ok (.iload_n 2, 1) := by decide +kernel
theorem dX11_reach_24 : decode cX11_reach 24 = .ok (.invokevirtual 179, 3) := by decide +kernel
theorem dX11_reach_27 : decode cX11_reach 27 = .ok (.goto 6, 3) := by decide +kernel
theorem dX11_reach_30 : decode cX11_reach 30 = .ok (.ldc2_w 249, 3) := by decide +kernel
theorem dX11_reach_33 : decode cX11_reach 33 = .ok (.lreturn, 1) := by decide +kernel
theorem dX11_bestOrder_0 : decode cX11_bestOrder 0 = .ok (.iload_n 1, 1) := by decide +kernel
theorem dX11_bestOrder_1 : decode cX11_bestOrder 1 = .ok (.ifCond .le 16, 3) := by decide +kernel
theorem dX11_bestOrder_4 : decode cX11_bestOrder 4 = .ok (.iload_n 1, 1) := by decide +kernel
theorem dX11_bestOrder_5 : decode cX11_bestOrder 5 = .ok (.iconst 1, 1) := by decide +kernel
theorem dX11_bestOrder_6 : decode cX11_bestOrder 6 = .ok (.aload_n 0, 1) := by decide +kernel
theorem dX11_bestOrder_7 : decode cX11_bestOrder 7 = .ok (.getfield 27, 3) := by decide +kernel
theorem dX11_bestOrder_10 : decode cX11_bestOrder 10 = .ok (.getfield 251, 3) := by decide +kernel
theorem dX11_bestOrder_13 : decode cX11_bestOrder 13 = .ok (.ishl, 1) := by decide +kernel
theorem dX11_bestOrder_14 : decode cX11_bestOrder 14 = .ok (.if_icmp .lt 5, 3) := by decide +kernel
theorem dX11_bestOrder_17 : decode cX11_bestOrder 17 = .ok (.iconst (-1), 1) := by decide +kernel
theorem dX11_bestOrder_18 : decode cX11_bestOrder 18 = .ok (.ireturn, 1) := by decide +kernel
theorem dX11_bestOrder_19 : decode cX11_bestOrder 19 = .ok (.aload_n 0, 1) := by decide +kernel
theorem dX11_bestOrder_20 : decode cX11_bestOrder 20 = .ok (.getfield 86, 3) := by decide +kernel
theorem dX11_bestOrder_23 : decode cX11_bestOrder 23 = .ok (.aload_n 0, 1) := by decide +kernel
theorem dX11_bestOrder_24 : decode cX11_bestOrder 24 = .ok (.getfield 27, 3) := by decide +kernel
theorem dX11_bestOrder_27 : decode cX11_bestOrder 27 = .ok (.iload_n 1, 1) := by decide +kernel
theorem dX11_bestOrder_28 : decode cX11_bestOrder 28 = .ok (.invokevirtual 253, 3) := by decide +kernel
theorem dX11_bestOrder_31 : decode cX11_bestOrder 31 = .ok (.ireturn, 1) := by decide +kernel
theorem dX11_alike_0 : decode cX11_alike 0 = .ok (.iload_n 1, 1) := by decide +kernel
theorem dX11_alike_1 : decode cX11_alike 1 = .ok (.iconst 1, 1) := by decide +kernel
theorem dX11_alike_2 : decode cX11_alike 2 = .ok (.if_icmp .lt 9, 3) := by decide +kernel
theorem dX11_alike_5 : decode cX11_alike 5 = .ok (.iload_n 1, 1) := by decide +kernel
theorem dX11_alike_6 : decode cX11_alike 6 = .ok (.bipush 40, 2) := by decide +kernel
theorem dX11_alike_8 : decode cX11_alike 8 = .ok (.if_icmp .le 7, 3) := by decide +kernel
theorem dX11_alike_11 : decode cX11_alike 11 = .ok (.ldc2_w 249, 3) := by decide +kernel
theorem dX11_alike_14 : decode cX11_alike 14 = .ok (.lreturn, 1) := by decide +kernel
theorem dX11_alike_15 : decode cX11_alike 15 = .ok (.aload_n 0, 1) := by decide +kernel
theorem dX11_alike_16 : decode cX11_alike 16 = .ok (.getfield 93, 3) := by decide +kernel
theorem dX11_alike_19 : decode cX11_alike 19 = .ok (.lconst 0, 1) := by decide +kernel
theorem dX11_alike_20 : decode cX11_alike 20 = .ok (.lconst 1, 1) := by decide +kernel
theorem dX11_alike_21 : decode cX11_alike 21 = .ok (.invokevirtual 175, 3) := by decide +kernel
theorem dX11_alike_24 : decode cX11_alike 24 = .ok (.iconst 1, 1) := by decide +kernel
theorem dX11_alike_25 : decode cX11_alike 25 = .ok (.istore_n 3, 1) := by decide +kernel
theorem dX11_alike_26 : decode cX11_alike 26 = .ok (.iload_n 3, 1) := by decide +kernel
theorem dX11_alike_27 : decode cX11_alike 27 = .ok (.iload_n 1, 1) := by decide +kernel
theorem dX11_alike_28 : decode cX11_alike 28 = .ok (.if_icmp .gt 23, 3) := by decide +kernel
theorem dX11_alike_31 : decode cX11_alike 31 = .ok (.aload_n 0, 1) := by decide +kernel
theorem dX11_alike_32 : decode cX11_alike 32 = .ok (.getfield 93, 3) := by decide +kernel
theorem dX11_alike_35 : decode cX11_alike 35 = .ok (.lconst 1, 1) := by decide +kernel
theorem dX11_alike_36 : decode cX11_alike 36 = .ok (.ldc2_w 173, 3) := by decide +kernel
theorem dX11_alike_39 : decode cX11_alike 39 = .ok (.iload_n 3, 1) := by decide +kernel
theorem dX11_alike_40 : decode cX11_alike 40 = .ok (.i2l, 1) := by decide +kernel
theorem dX11_alike_41 : decode cX11_alike 41 = .ok (.lmul, 1) := by decide +kernel
theorem dX11_alike_42 : decode cX11_alike 42 = .ok (.invokevirtual 257, 3) := by decide +kernel
theorem dX11_alike_45 : decode cX11_alike 45 = .ok (.iinc 3 1, 3) := by decide +kernel
theorem dX11_alike_48 : decode cX11_alike 48 = .ok (.goto (-22), 3) := by decide +kernel
theorem dX11_alike_51 : decode cX11_alike 51 = .ok (.aload_n 0, 1) := by decide +kernel
theorem dX11_alike_52 : decode cX11_alike 52 = .ok (.getfield 93, 3) := by decide +kernel
theorem dX11_alike_55 : decode cX11_alike 55 = .ok (.iload_n 2, 1) := by decide +kernel
theorem dX11_alike_56 : decode cX11_alike 56 = .ok (.invokevirtual 179, 3) := by decide +kernel
theorem dX11_alike_59 : decode cX11_alike 59 = .ok (.lreturn, 1) := by decide +kernel
theorem dX11_needed_0 : decode cX11_needed 0 = .ok (.iload_n 1, 1) := by decide +kernel
theorem dX11_needed_1 : decode cX11_needed 1 = .ok (.ifCond .lt 20, 3) := by decide +kernel
theorem dX11_needed_4 : decode cX11_needed 4 = .ok (.iload_n 1, 1) := by decide +kernel
theorem dX11_needed_5 : decode cX11_needed 5 = .ok (.bipush 99, 2) := by decide +kernel
theorem dX11_needed_7 : decode cX11_needed 7 = .ok (.if_icmp .gt 14, 3) := by decide +kernel
theorem dX11_needed_10 : decode cX11_needed 10 = .ok (.iload_n 2, 1) := by decide +kernel
theorem dX11_needed_11 : decode cX11_needed 11 = .ok (.iconst 1, 1) := by decide +kernel
theorem dX11_needed_12 : decode cX11_needed 12 = .ok (.if_icmp .lt 9, 3) := by decide +kernel
theorem dX11_needed_15 : decode cX11_needed 15 = .ok (.iload_n 2, 1) := by decide +kernel
theorem dX11_needed_16 : decode cX11_needed 16 = .ok (.bipush 99, 2) := by decide +kernel
theorem dX11_needed_18 : decode cX11_needed 18 = .ok (.if_icmp .le 5, 3) := by decide +kernel
theorem dX11_needed_21 : decode cX11_needed 21 = .ok (.iconst (-1), 1) := by decide +kernel
theorem dX11_needed_22 : decode cX11_needed 22 = .ok (.ireturn, 1) := by decide +kernel
theorem dX11_needed_23 : decode cX11_needed 23 = .ok (.aload_n 0, 1) := by decide +kernel
theorem dX11_needed_24 : decode cX11_needed 24 = .ok (.getfield 93, 3) := by decide +kernel
theorem dX11_needed_27 : decode cX11_needed 27 = .ok (.lconst 0, 1) := by decide +kernel
theorem dX11_needed_28 : decode cX11_needed 28 = .ok (.lconst 1, 1) := by decide +kernel
theorem dX11_needed_29 : decode cX11_needed 29 = .ok (.invokevirtual 175, 3) := by decide +kernel
theorem dX11_needed_32 : decode cX11_needed 32 = .ok (.iconst 1, 1) := by decide +kernel
theorem dX11_needed_33 : decode cX11_needed 33 = .ok (.istore_n 3, 1) := by decide +kernel
theorem dX11_needed_34 : decode cX11_needed 34 = .ok (.iload_n 3, 1) := by decide +kernel
theorem dX11_needed_35 : decode cX11_needed 35 = .ok (.bipush 40, 2) := by decide +kernel
theorem dX11_needed_37 : decode cX11_needed 37 = .ok (.if_icmp .gt 49, 3) := by decide +kernel
theorem dX11_needed_40 : decode cX11_needed 40 = .ok (.aload_n 0, 1) := by decide +kernel
theorem dX11_needed_41 : decode cX11_needed 41 = .ok (.getfield 93, 3) := by decide +kernel
theorem dX11_needed_44 : decode cX11_needed 44 = .ok (.lconst 1, 1) := by decide +kernel
theorem dX11_needed_45 : decode cX11_needed 45 = .ok (.ldc2_w 173, 3) := by decide +kernel
theorem dX11_needed_48 : decode cX11_needed 48 = .ok (.iload_n 3, 1) := by decide +kernel
theorem dX11_needed_49 : decode cX11_needed 49 = .ok (.i2l, 1) := by decide +kernel
theorem dX11_needed_50 : decode cX11_needed 50 = .ok (.lmul, 1) := by decide +kernel
theorem dX11_needed_51 : decode cX11_needed 51 = .ok (.invokevirtual 257, 3) := by decide +kernel
theorem dX11_needed_54 : decode cX11_needed 54 = .ok (.aload_n 0, 1) := by decide +kernel
theorem dX11_needed_55 : decode cX11_needed 55 = .ok (.getfield 93, 3) := by decide +kernel
theorem dX11_needed_58 : decode cX11_needed 58 = .ok (.getfield 260, 3) := by decide +kernel
theorem dX11_needed_61 : decode cX11_needed 61 = .ok (.iload_n 2, 1) := by decide +kernel
theorem dX11_needed_62 : decode cX11_needed 62 = .ok (.i2l, 1) := by decide +kernel
theorem dX11_needed_63 : decode cX11_needed 63 = .ok (.lmul, 1) := by decide +kernel
theorem dX11_needed_64 : decode cX11_needed 64 = .ok (.iload_n 1, 1) := by decide +kernel
theorem dX11_needed_65 : decode cX11_needed 65 = .ok (.i2l, 1) := by decide +kernel
theorem dX11_needed_66 : decode cX11_needed 66 = .ok (.aload_n 0, 1) := by decide +kernel
theorem dX11_needed_67 : decode cX11_needed 67 = .ok (.getfield 93, 3) := by decide +kernel
theorem dX11_needed_70 : decode cX11_needed 70 = .ok (.getfield 264, 3) := by decide +kernel
theorem dX11_needed_73 : decode cX11_needed 73 = .ok (.lmul, 1) := by decide +kernel
theorem dX11_needed_74 : decode cX11_needed 74 = .ok (.lcmp, 1) := by decide +kernel
theorem dX11_needed_75 : decode cX11_needed 75 = .ok (.ifCond .lt 5, 3) := by decide +kernel
theorem dX11_needed_78 : decode cX11_needed 78 = .ok (.iload_n 3, 1) := by decide +kernel
theorem dX11_needed_79 : decode cX11_needed 79 = .ok (.ireturn, 1) := by decide +kernel
theorem dX11_needed_80 : decode cX11_needed 80 = .ok (.iinc 3 1, 3) := by decide +kernel
theorem dX11_needed_83 : decode cX11_needed 83 = .ok (.goto (-49), 3) := by decide +kernel
theorem dX11_needed_86 : decode cX11_needed 86 = .ok (.bipush (-2), 2) := by decide +kernel
theorem dX11_needed_88 : decode cX11_needed 88 = .ok (.ireturn, 1) := by decide +kernel
theorem dX11_see_0 : decode cX11_see 0 = .ok (.aload_n 0, 1) := by decide +kernel
theorem dX11_see_1 : decode cX11_see 1 = .ok (.getfield 79, 3) := by decide +kernel
theorem dX11_see_4 : decode cX11_see 4 = .ok (.aload_n 0, 1) := by decide +kernel
theorem dX11_see_5 : decode cX11_see 5 = .ok (.getfield 27, 3) := by decide +kernel
theorem dX11_see_8 : decode cX11_see 8 = .ok (.aload_n 0, 1) := by decide +kernel
theorem dX11_see_9 : decode cX11_see 9 = .ok (.getfield 46, 3) := by decide +kernel
theorem dX11_see_12 : decode cX11_see 12 = .ok (.iload_n 1, 1) := by decide +kernel
theorem dX11_see_13 : decode cX11_see 13 = .ok (.invokevirtual 267, 3) := by decide +kernel
theorem dX11_see_16 : decode cX11_see 16 = .ok (.ireturn, 1) := by decide +kernel
theorem dX11_forget_0 : decode cX11_forget 0 = .ok (.aload_n 0, 1) := by decide +kernel
theorem dX11_forget_1 : decode cX11_forget 1 = .ok (.getfield 79, 3) := by decide +kernel
theorem dX11_forget_4 : decode cX11_forget 4 = .ok (.getfield 124, 3) := by decide +kernel
theorem dX11_forget_7 : decode cX11_forget 7 = .ok (.istore_n 1, 1) := by decide +kernel
theorem dX11_forget_8 : decode cX11_forget 8 = .ok (.aload_n 0, 1) := by decide +kernel
theorem dX11_forget_9 : decode cX11_forget 9 = .ok (.getfield 79, 3) := by decide +kernel
theorem dX11_forget_12 : decode cX11_forget 12 = .ok (.iconst 0, 1) := by decide +kernel
theorem dX11_forget_13 : decode cX11_forget 13 = .ok (.putfield 124, 3) := by decide +kernel
theorem dX11_forget_16 : decode cX11_forget 16 = .ok (.iload_n 1, 1) := by decide +kernel
theorem dX11_forget_17 : decode cX11_forget 17 = .ok (.ireturn, 1) := by decide +kernel
theorem dX11_fits_0 : decode cX11_fits 0 = .ok (.aload_n 0, 1) := by decide +kernel
theorem dX11_fits_1 : decode cX11_fits 1 = .ok (.iload_n 1, 1) := by decide +kernel
theorem dX11_fits_2 : decode cX11_fits 2 = .ok (.iload_n 2, 1) := by decide +kernel
theorem dX11_fits_3 : decode cX11_fits 3 = .ok (.invokevirtual 270, 3) := by decide +kernel
theorem dX11_fits_6 : decode cX11_fits 6 = .ok (.ifCond .ne 5, 3) := by decide +kernel
theorem dX11_fits_9 : decode cX11_fits 9 = .ok (.iconst (-1), 1) := by decide +kernel
theorem dX11_fits_10 : decode cX11_fits 10 = .ok (.ireturn, 1) := by decide +kernel
theorem dX11_fits_11 : decode cX11_fits 11 = .ok (.aload_n 0, 1) := by decide +kernel
theorem dX11_fits_12 : decode cX11_fits 12 = .ok (.getfield 79, 3) := by decide +kernel
theorem dX11_fits_15 : decode cX11_fits 15 = .ok (.aload_n 0, 1) := by decide +kernel
theorem dX11_fits_16 : decode cX11_fits 16 = .ok (.getfield 27, 3) := by decide +kernel
theorem dX11_fits_19 : decode cX11_fits 19 = .ok (.getfield 251, 3) := by decide +kernel
theorem dX11_fits_22 : decode cX11_fits 22 = .ok (.iload_n 1, 1) := by decide +kernel
theorem dX11_fits_23 : decode cX11_fits 23 = .ok (.iload_n 2, 1) := by decide +kernel
theorem dX11_fits_24 : decode cX11_fits 24 = .ok (.invokevirtual 273, 3) := by decide +kernel
theorem dX11_fits_27 : decode cX11_fits 27 = .ok (.aload_n 0, 1) := by decide +kernel
theorem dX11_fits_28 : decode cX11_fits 28 = .ok (.getfield 79, 3) := by decide +kernel
theorem dX11_fits_31 : decode cX11_fits 31 = .ok (.getfield 277, 3) := by decide +kernel
theorem dX11_fits_34 : decode cX11_fits 34 = .ok (.ireturn, 1) := by decide +kernel
theorem dX11_span_0 : decode cX11_span 0 = .ok (.aload_n 0, 1) := by decide +kernel
theorem dX11_span_1 : decode cX11_span 1 = .ok (.iload_n 1, 1) := by decide +kernel
theorem dX11_span_2 : decode cX11_span 2 = .ok (.iload_n 2, 1) := by decide +kernel
theorem dX11_span_3 : decode cX11_span 3 = .ok (.invokevirtual 270, 3) := by decide +kernel
theorem dX11_span_6 : decode cX11_span 6 = .ok (.ifCond .eq 11, 3) := by decide +kernel
theorem dX11_span_9 : decode cX11_span 9 = .ok (.aload_n 0, 1) := by decide +kernel
theorem dX11_span_10 : decode cX11_span 10 = .ok (.iload_n 3, 1) := by decide +kernel
theorem dX11_span_11 : decode cX11_span 11 = .ok (.invokevirtual 131, 3) := by decide +kernel
theorem dX11_span_14 : decode cX11_span 14 = .ok (.ifCond .ne 5, 3) := by decide +kernel
theorem dX11_span_17 : decode cX11_span 17 = .ok (.iconst (-1), 1) := by decide +kernel
theorem dX11_span_18 : decode cX11_span 18 = .ok (.ireturn, 1) := by decide +kernel
theorem dX11_span_19 : decode cX11_span 19 = .ok (.aload_n 0, 1) := by decide +kernel
theorem dX11_span_20 : decode cX11_span 20 = .ok (.getfield 79, 3) := by decide +kernel
theorem dX11_span_23 : decode cX11_span 23 = .ok (.aload_n 0, 1) := by decide +kernel
theorem dX11_span_24 : decode cX11_span 24 = .ok (.getfield 27, 3) := by decide +kernel
theorem dX11_span_27 : decode cX11_span 27 = .ok (.getfield 251, 3) := by decide +kernel
theorem dX11_span_30 : decode cX11_span 30 = .ok (.iload_n 1, 1) := by decide +kernel
theorem dX11_span_31 : decode cX11_span 31 = .ok (.iload_n 2, 1) := by decide +kernel
theorem dX11_span_32 : decode cX11_span 32 = .ok (.invokevirtual 273, 3) := by decide +kernel
theorem dX11_span_35 : decode cX11_span 35 = .ok (.aload_n 0, 1) := by decide +kernel
theorem dX11_span_36 : decode cX11_span 36 = .ok (.getfield 79, 3) := by decide +kernel
theorem dX11_span_39 : decode cX11_span 39 = .ok (.getfield 277, 3) := by decide +kernel
theorem dX11_span_42 : decode cX11_span 42 = .ok (.ifCond .ne 6, 3) := by decide +kernel
theorem dX11_span_45 : decode cX11_span 45 = .ok (.bipush (-2), 2) := by decide +kernel
theorem dX11_span_47 : decode cX11_span 47 = .ok (.ireturn, 1) := by decide +kernel
theorem dX11_span_48 : decode cX11_span 48 = .ok (.bipush 10, 2) := by decide +kernel
theorem dX11_span_50 : decode cX11_span 50 = .ok (.aload_n 0, 1) := by decide +kernel
theorem dX11_span_51 : decode cX11_span 51 = .ok (.getfield 79, 3) := by decide +kernel
theorem dX11_span_54 : decode cX11_span 54 = .ok (.getfield 280, 3) := by decide +kernel
theorem dX11_span_57 : decode cX11_span 57 = .ok (.iload_n 3, 1) := by decide +kernel
theorem dX11_span_58 : decode cX11_span 58 = .ok (.iaload, 1) := by decide +kernel
theorem dX11_span_59 : decode cX11_span 59 = .ok (.imul, 1) := by decide +kernel
theorem dX11_span_60 : decode cX11_span 60 = .ok (.aload_n 0, 1) := by decide +kernel
theorem dX11_span_61 : decode cX11_span 61 = .ok (.getfield 79, 3) := by decide +kernel
theorem dX11_span_64 : decode cX11_span 64 = .ok (.getfield 283, 3) := by decide +kernel
theorem dX11_span_67 : decode cX11_span 67 = .ok (.iload_n 3, 1) := by decide +kernel
theorem dX11_span_68 : decode cX11_span 68 = .ok (.iaload, 1) := by decide +kernel
theorem dX11_span_69 : decode cX11_span 69 = .ok (.iadd, 1) := by decide +kernel
theorem dX11_span_70 : decode cX11_span 70 = .ok (.ireturn, 1) := by decide +kernel
theorem dX11_hold_0 : decode cX11_hold 0 = .ok (.aload_n 0, 1) := by decide +kernel
theorem dX11_hold_1 : decode cX11_hold 1 = .ok (.getfield 72, 3) := by decide +kernel
theorem dX11_hold_4 : decode cX11_hold 4 = .ok (.iload_n 1, 1) := by decide +kernel
theorem dX11_hold_5 : decode cX11_hold 5 = .ok (.aload_n 0, 1) := by decide +kernel
theorem dX11_hold_6 : decode cX11_hold 6 = .ok (.getfield 46, 3) := by decide +kernel
theorem dX11_hold_9 : decode cX11_hold 9 = .ok (.invokevirtual 286, 3) := by decide +kernel
theorem dX11_hold_12 : decode cX11_hold 12 = .ok (.ireturn, 1) := by decide +kernel
theorem dX11_restore_0 : decode cX11_restore 0 = .ok (.aload_n 0, 1) := by decide +kernel
theorem dX11_restore_1 : decode cX11_restore 1 = .ok (.getfield 72, 3) := by decide +kernel
theorem dX11_restore_4 : decode cX11_restore 4 = .ok (.iload_n 1, 1) := by decide +kernel
theorem dX11_restore_5 : decode cX11_restore 5 = .ok (.aload_n 0, 1) := by decide +kernel
theorem dX11_restore_6 : decode cX11_restore 6 = .ok (.getfield 46, 3) := by decide +kernel
theorem dX11_restore_9 : decode cX11_restore 9 = .ok (.invokevirtual 290, 3) := by decide +kernel
theorem dX11_restore_12 : decode cX11_restore 12 = .ok (.ifCond .ne 5, 3) := by decide +kernel
theorem dX11_restore_15 : decode cX11_restore 15 = .ok (.iconst 0, 1) := by decide +kernel
theorem dX11_restore_16 : decode cX11_restore 16 = .ok (.ireturn, 1) := by decide +kernel
theorem dX11_restore_17 : decode cX11_restore 17 = .ok (.aload_n 0, 1) := by decide +kernel
theorem dX11_restore_18 : decode cX11_restore 18 = .ok (.getfield 65, 3) := by decide +kernel
theorem dX11_restore_21 : decode cX11_restore 21 = .ok (.iconst 0, 1) := by decide +kernel
theorem dX11_restore_22 : decode cX11_restore 22 = .ok (.putfield 121, 3) := by decide +kernel
theorem dX11_restore_25 : decode cX11_restore 25 = .ok (.iconst 1, 1) := by decide +kernel
theorem dX11_restore_26 : decode cX11_restore 26 = .ok (.ireturn, 1) := by decide +kernel
theorem dX11_count_0 : decode cX11_count 0 = .ok (.iload_n 1, 1) := by decide +kernel
theorem dX11_count_1 : decode cX11_count 1 = .ok (.tableswitch 117 0 8 #[51, 59, 67, 75, 83, 88, 93, 101, 109], 51) := by decide +kernel
theorem dX11_count_52 : decode cX11_count 52 = .ok (.aload_n 0, 1) := by decide +kernel
theorem dX11_count_53 : decode cX11_count 53 = .ok (.getfield 27, 3) := by decide +kernel
theorem dX11_count_56 : decode cX11_count 56 = .ok (.getfield 251, 3) := by decide +kernel
theorem dX11_count_59 : decode cX11_count 59 = .ok (.ireturn, 1) := by decide +kernel
theorem dX11_count_60 : decode cX11_count 60 = .ok (.aload_n 0, 1) := by decide +kernel
theorem dX11_count_61 : decode cX11_count 61 = .ok (.getfield 46, 3) := by decide +kernel
theorem dX11_count_64 : decode cX11_count 64 = .ok (.getfield 210, 3) := by decide +kernel
theorem dX11_count_67 : decode cX11_count 67 = .ok (.ireturn, 1) := by decide +kernel
theorem dX11_count_68 : decode cX11_count 68 = .ok (.aload_n 0, 1) := by decide +kernel
theorem dX11_count_69 : decode cX11_count 69 = .ok (.getfield 27, 3) := by decide +kernel
theorem dX11_count_72 : decode cX11_count 72 = .ok (.getfield 293, 3) := by decide +kernel
theorem dX11_count_75 : decode cX11_count 75 = .ok (.ireturn, 1) := by decide +kernel
theorem dX11_count_76 : decode cX11_count 76 = .ok (.aload_n 0, 1) := by decide +kernel
theorem dX11_count_77 : decode cX11_count 77 = .ok (.getfield 27, 3) := by decide +kernel
theorem dX11_count_80 : decode cX11_count 80 = .ok (.getfield 296, 3) := by decide +kernel
theorem dX11_count_83 : decode cX11_count 83 = .ok (.ireturn, 1) := by decide +kernel
theorem dX11_count_84 : decode cX11_count 84 = .ok (.aload_n 0, 1) := by decide +kernel
theorem dX11_count_85 : decode cX11_count 85 = .ok (.invokevirtual 299, 3) := by decide +kernel
theorem dX11_count_88 : decode cX11_count 88 = .ok (.ireturn, 1) := by decide +kernel
theorem dX11_count_89 : decode cX11_count 89 = .ok (.aload_n 0, 1) := by decide +kernel
theorem dX11_count_90 : decode cX11_count 90 = .ok (.getfield 13, 3) := by decide +kernel
theorem dX11_count_93 : decode cX11_count 93 = .ok (.ireturn, 1) := by decide +kernel
theorem dX11_count_94 : decode cX11_count 94 = .ok (.aload_n 0, 1) := by decide +kernel
theorem dX11_count_95 : decode cX11_count 95 = .ok (.getfield 65, 3) := by decide +kernel
theorem dX11_count_98 : decode cX11_count 98 = .ok (.getfield 121, 3) := by decide +kernel
theorem dX11_count_101 : decode cX11_count 101 = .ok (.ireturn, 1) := by decide +kernel
theorem dX11_count_102 : decode cX11_count 102 = .ok (.aload_n 0, 1) := by decide +kernel
theorem dX11_count_103 : decode cX11_count 103 = .ok (.getfield 79, 3) := by decide +kernel
theorem dX11_count_106 : decode cX11_count 106 = .ok (.getfield 124, 3) := by decide +kernel
theorem dX11_count_109 : decode cX11_count 109 = .ok (.ireturn, 1) := by decide +kernel
theorem dX11_count_110 : decode cX11_count 110 = .ok (.aload_n 0, 1) := by decide +kernel
theorem dX11_count_111 : decode cX11_count 111 = .ok (.getfield 72, 3) := by decide +kernel
theorem dX11_count_114 : decode cX11_count 114 = .ok (.invokevirtual 302, 3) := by decide +kernel
theorem dX11_count_117 : decode cX11_count 117 = .ok (.ireturn, 1) := by decide +kernel
theorem dX11_count_118 : decode cX11_count 118 = .ok (.iconst (-1), 1) := by decide +kernel
theorem dX11_count_119 : decode cX11_count 119 = .ok (.ireturn, 1) := by decide +kernel
theorem dX11_putBytes_0 : decode cX11_putBytes 0 = .ok (.bipush 24, 2) := by decide +kernel
theorem dX11_putBytes_2 : decode cX11_putBytes 2 = .ok (.istore_n 2, 1) := by decide +kernel
theorem dX11_putBytes_3 : decode cX11_putBytes 3 = .ok (.iload_n 2, 1) := by decide +kernel
theorem dX11_putBytes_4 : decode cX11_putBytes 4 = .ok (.ifCond .lt 46, 3) := by decide +kernel
theorem dX11_putBytes_7 : decode cX11_putBytes 7 = .ok (.aload_n 0, 1) := by decide +kernel
theorem dX11_putBytes_8 : decode cX11_putBytes 8 = .ok (.getfield 13, 3) := by decide +kernel
theorem dX11_putBytes_11 : decode cX11_putBytes 11 = .ok (.sipush 2000, 3) := by decide +kernel
theorem dX11_putBytes_14 : decode cX11_putBytes 14 = .ok (.if_icmp .ge 36, 3) := by decide +kernel
theorem dX11_putBytes_17 : decode cX11_putBytes 17 = .ok (.aload_n 0, 1) := by decide +kernel
theorem dX11_putBytes_18 : decode cX11_putBytes 18 = .ok (.getfield 9, 3) := by decide +kernel
theorem dX11_putBytes_21 : decode cX11_putBytes 21 = .ok (.aload_n 0, 1) := by decide +kernel
theorem dX11_putBytes_22 : decode cX11_putBytes 22 = .ok (.getfield 13, 3) := by decide +kernel
theorem dX11_putBytes_25 : decode cX11_putBytes 25 = .ok (.iload_n 1, 1) := by decide +kernel
theorem dX11_putBytes_26 : decode cX11_putBytes 26 = .ok (.iload_n 2, 1) := by decide +kernel
theorem dX11_putBytes_27 : decode cX11_putBytes 27 = .ok (.iushr, 1) := by decide +kernel
theorem dX11_putBytes_28 : decode cX11_putBytes 28 = .ok (.sipush 255, 3) := by decide +kernel
theorem dX11_putBytes_31 : decode cX11_putBytes 31 = .ok (.iand, 1) := by decide +kernel
theorem dX11_putBytes_32 : decode cX11_putBytes 32 = .ok (.i2c, 1) := by decide +kernel
theorem dX11_putBytes_33 : decode cX11_putBytes 33 = .ok (.castore, 1) := by decide +kernel
theorem dX11_putBytes_34 : decode cX11_putBytes 34 = .ok (.aload_n 0, 1) := by decide +kernel
theorem dX11_putBytes_35 : decode cX11_putBytes 35 = .ok (.dup, 1) := by decide +kernel
theorem dX11_putBytes_36 : decode cX11_putBytes 36 = .ok (.getfield 13, 3) := by decide +kernel
theorem dX11_putBytes_39 : decode cX11_putBytes 39 = .ok (.iconst 1, 1) := by decide +kernel
theorem dX11_putBytes_40 : decode cX11_putBytes 40 = .ok (.iadd, 1) := by decide +kernel
theorem dX11_putBytes_41 : decode cX11_putBytes 41 = .ok (.putfield 13, 3) := by decide +kernel
theorem dX11_putBytes_44 : decode cX11_putBytes 44 = .ok (.iinc 2 (-8), 3) := by decide +kernel
theorem dX11_putBytes_47 : decode cX11_putBytes 47 = .ok (.goto (-44), 3) := by decide +kernel
theorem dX11_putBytes_50 : decode cX11_putBytes 50 = .ok (.return_, 1) := by decide +kernel
theorem dX11_isBook_0 : decode cX11_isBook 0 = .ok (.iload_n 1, 1) := by decide +kernel
theorem dX11_isBook_1 : decode cX11_isBook 1 = .ok (.ifCond .lt 18, 3) := by decide +kernel
theorem dX11_isBook_4 : decode cX11_isBook 4 = .ok (.iload_n 1, 1) := by decide +kernel
theorem dX11_isBook_5 : decode cX11_isBook 5 = .ok (.aload_n 0, 1) := by decide +kernel
theorem dX11_isBook_6 : decode cX11_isBook 6 = .ok (.getfield 27, 3) := by decide +kernel
theorem dX11_isBook_9 : decode cX11_isBook 9 = .ok (.getfield 251, 3) := by decide +kernel
theorem dX11_isBook_12 : decode cX11_isBook 12 = .ok (.if_icmp .ge 7, 3) := by decide +kernel
theorem dX11_isBook_15 : decode cX11_isBook 15 = .ok (.iconst 1, 1) := by decide +kernel
theorem dX11_isBook_16 : decode cX11_isBook 16 = .ok (.goto 4, 3) := by decide +kernel
theorem dX11_isBook_19 : decode cX11_isBook 19 = .ok (.iconst 0, 1) := by decide +kernel
theorem dX11_isBook_20 : decode cX11_isBook 20 = .ok (.ireturn, 1) := by decide +kernel
theorem dX11_isLevel_0 : decode cX11_isLevel 0 = .ok (.iload_n 1, 1) := by decide +kernel
theorem dX11_isLevel_1 : decode cX11_isLevel 1 = .ok (.ifCond .lt 18, 3) := by decide +kernel
theorem dX11_isLevel_4 : decode cX11_isLevel 4 = .ok (.iload_n 1, 1) := by decide +kernel
theorem dX11_isLevel_5 : decode cX11_isLevel 5 = .ok (.aload_n 0, 1) := by decide +kernel
theorem dX11_isLevel_6 : decode cX11_isLevel 6 = .ok (.getfield 46, 3) := by decide +kernel
theorem dX11_isLevel_9 : decode cX11_isLevel 9 = .ok (.getfield 210, 3) := by decide +kernel
theorem dX11_isLevel_12 : decode cX11_isLevel 12 = .ok (.if_icmp .ge 7, 3) := by decide +kernel
theorem dX11_isLevel_15 : decode cX11_isLevel 15 = .ok (.iconst 1, 1) := by decide +kernel
theorem dX11_isLevel_16 : decode cX11_isLevel 16 = .ok (.goto 4, 3) := by decide +kernel
theorem dX11_isLevel_19 : decode cX11_isLevel 19 = .ok (.iconst 0, 1) := by decide +kernel
theorem dX11_isLevel_20 : decode cX11_isLevel 20 = .ok (.ireturn, 1) := by decide +kernel
theorem dX11_isPlace_0 : decode cX11_isPlace 0 = .ok (.lload_n 0, 1) := by decide +kernel
theorem dX11_isPlace_1 : decode cX11_isPlace 1 = .ok (.ldc2_w 305, 3) := by decide +kernel
theorem dX11_isPlace_4 : decode cX11_isPlace 4 = .ok (.lcmp, 1) := by decide +kernel
theorem dX11_isPlace_5 : decode cX11_isPlace 5 = .ok (.ifCond .lt 15, 3) := by decide +kernel
theorem dX11_isPlace_8 : decode cX11_isPlace 8 = .ok (.lload_n 0, 1) := by decide +kernel
theorem dX11_isPlace_9 : decode cX11_isPlace 9 = .ok (.ldc2_w 307, 3) := by decide +kernel
theorem dX11_isPlace_12 : decode cX11_isPlace 12 = .ok (.lcmp, 1) := by decide +kernel
theorem dX11_isPlace_13 : decode cX11_isPlace 13 = .ok (.ifCond .gt 7, 3) := by decide +kernel
theorem dX11_isPlace_16 : decode cX11_isPlace 16 = .ok (.iconst 1, 1) := by decide +kernel
theorem dX11_isPlace_17 : decode cX11_isPlace 17 = .ok (.goto 4, 3) := by decide +kernel
theorem dX11_isPlace_20 : decode cX11_isPlace 20 = .ok (.iconst 0, 1) := by decide +kernel
theorem dX11_isPlace_21 : decode cX11_isPlace 21 = .ok (.ireturn, 1) := by decide +kernel
