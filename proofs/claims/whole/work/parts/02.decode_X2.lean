-- decode rows (printed by program)
theorem dX2_init_0 : decode cX2_init 0 = .ok (.aload_n 0, 1) := by decide +kernel
theorem dX2_init_1 : decode cX2_init 1 = .ok (.invokespecial 3, 3) := by decide +kernel
theorem dX2_init_4 : decode cX2_init 4 = .ok (.aload_n 0, 1) := by decide +kernel
theorem dX2_init_5 : decode cX2_init 5 = .ok (.bipush 41, 2) := by decide +kernel
theorem dX2_init_7 : decode cX2_init 7 = .ok (.newarray .int, 2) := by decide +kernel
theorem dX2_init_9 : decode cX2_init 9 = .ok (.putfield 9, 3) := by decide +kernel
theorem dX2_init_12 : decode cX2_init 12 = .ok (.aload_n 0, 1) := by decide +kernel
theorem dX2_init_13 : decode cX2_init 13 = .ok (.bipush 8, 2) := by decide +kernel
theorem dX2_init_15 : decode cX2_init 15 = .ok (.newarray .long, 2) := by decide +kernel
theorem dX2_init_17 : decode cX2_init 17 = .ok (.putfield 15, 3) := by decide +kernel
theorem dX2_init_20 : decode cX2_init 20 = .ok (.aload_n 0, 1) := by decide +kernel
theorem dX2_init_21 : decode cX2_init 21 = .ok (.aload_n 1, 1) := by decide +kernel
theorem dX2_init_22 : decode cX2_init 22 = .ok (.putfield 19, 3) := by decide +kernel
theorem dX2_init_25 : decode cX2_init 25 = .ok (.aload_n 0, 1) := by decide +kernel
theorem dX2_init_26 : decode cX2_init 26 = .ok (.aload_n 2, 1) := by decide +kernel
theorem dX2_init_27 : decode cX2_init 27 = .ok (.putfield 23, 3) := by decide +kernel
theorem dX2_init_30 : decode cX2_init 30 = .ok (.return_, 1) := by decide +kernel
theorem dX2_find_0 : decode cX2_find 0 = .ok (.aload_n 0, 1) := by decide +kernel
theorem dX2_find_1 : decode cX2_find 1 = .ok (.iload_n 1, 1) := by decide +kernel
theorem dX2_find_2 : decode cX2_find 2 = .ok (.invokevirtual 27, 3) := by decide +kernel
theorem dX2_find_5 : decode cX2_find 5 = .ok (.aload_n 0, 1) := by decide +kernel
theorem dX2_find_6 : decode cX2_find 6 = .ok (.aload_n 0, 1) := by decide +kernel
theorem dX2_find_7 : decode cX2_find 7 = .ok (.getfield 23, 3) := by decide +kernel
theorem dX2_find_10 : decode cX2_find 10 = .ok (.iload_n 1, 1) := by decide +kernel
theorem dX2_find_11 : decode cX2_find 11 = .ok (.invokevirtual 31, 3) := by decide +kernel
theorem dX2_find_14 : decode cX2_find 14 = .ok (.putfield 37, 3) := by decide +kernel
theorem dX2_find_17 : decode cX2_find 17 = .ok (.aload_n 0, 1) := by decide +kernel
theorem dX2_find_18 : decode cX2_find 18 = .ok (.getfield 19, 3) := by decide +kernel
theorem dX2_find_21 : decode cX2_find 21 = .ok (.iload_n 1, 1) := by decide +kernel
theorem dX2_find_22 : decode cX2_find 22 = .ok (.iconst 3, 1) := by decide +kernel
theorem dX2_find_23 : decode cX2_find 23 = .ok (.invokevirtual 41, 3) := by decide +kernel
theorem dX2_find_26 : decode cX2_find 26 = .ok (.istore_n 2, 1) := by decide +kernel
theorem dX2_find_27 : decode cX2_find 27 = .ok (.aload_n 0, 1) := by decide +kernel
theorem dX2_find_28 : decode cX2_find 28 = .ok (.getfield 19, 3) := by decide +kernel
theorem dX2_find_31 : decode cX2_find 31 = .ok (.iload_n 1, 1) := by decide +kernel
theorem dX2_find_32 : decode cX2_find 32 = .ok (.iconst 4, 1) := by decide +kernel
theorem dX2_find_33 : decode cX2_find 33 = .ok (.invokevirtual 41, 3) := by decide +kernel
theorem dX2_find_36 : decode cX2_find 36 = .ok (.istore_n 3, 1) := by decide +kernel
theorem dX2_find_37 : decode cX2_find 37 = .ok (.iconst 0, 1) := by decide +kernel
theorem dX2_find_38 : decode cX2_find 38 = .ok (.istore 4, 2) := by decide +kernel
theorem dX2_find_40 : decode cX2_find 40 = .ok (.iload 4, 2) := by decide +kernel
theorem dX2_find_42 : decode cX2_find 42 = .ok (.bipush 40, 2) := by decide +kernel
theorem dX2_find_44 : decode cX2_find 44 = .ok (.if_icmp .ge 62, 3) := by decide +kernel
theorem dX2_find_47 : decode cX2_find 47 = .ok (.iconst 0, 1) := by decide +kernel
theorem dX2_find_48 : decode cX2_find 48 = .ok (.istore 5, 2) := by decide +kernel
theorem dX2_find_50 : decode cX2_find 50 = .ok (.iload 5, 2) := by decide +kernel
theorem dX2_find_52 : decode cX2_find 52 = .ok (.iconst 3, 1) := by decide +kernel
theorem dX2_find_53 : decode cX2_find 53 = .ok (.if_icmp .ge 47, 3) := by decide +kernel
theorem dX2_find_56 : decode cX2_find 56 = .ok (.iload_n 2, 1) := by decide +kernel
theorem dX2_find_57 : decode cX2_find 57 = .ok (.iload 5, 2) := by decide +kernel
theorem dX2_find_59 : decode cX2_find 59 = .ok (.invokestatic 47, 3) := by decide +kernel
theorem dX2_find_62 : decode cX2_find 62 = .ok (.istore 6, 2) := by decide +kernel
theorem dX2_find_64 : decode cX2_find 64 = .ok (.aload_n 0, 1) := by decide +kernel
theorem dX2_find_65 : decode cX2_find 65 = .ok (.iload_n 1, 1) := by decide +kernel
theorem dX2_find_66 : decode cX2_find 66 = .ok (.iload 6, 2) := by decide +kernel
theorem dX2_find_68 : decode cX2_find 68 = .ok (.iload_n 3, 1) := by decide +kernel
theorem dX2_find_69 : decode cX2_find 69 = .ok (.iload 4, 2) := by decide +kernel
theorem dX2_find_71 : decode cX2_find 71 = .ok (.isub, 1) := by decide +kernel
theorem dX2_find_72 : decode cX2_find 72 = .ok (.invokevirtual 50, 3) := by decide +kernel
theorem dX2_find_75 : decode cX2_find 75 = .ok (.ifCond .ne 17, 3) := by decide +kernel
theorem dX2_find_78 : decode cX2_find 78 = .ok (.aload_n 0, 1) := by decide +kernel
theorem dX2_find_79 : decode cX2_find 79 = .ok (.iload_n 1, 1) := by decide +kernel
theorem dX2_find_80 : decode cX2_find 80 = .ok (.iload 6, 2) := by decide +kernel
theorem dX2_find_82 : decode cX2_find 82 = .ok (.iload_n 3, 1) := by decide +kernel
theorem dX2_find_83 : decode cX2_find 83 = .ok (.iload 4, 2) := by decide +kernel
theorem dX2_find_85 : decode cX2_find 85 = .ok (.iadd, 1) := by decide +kernel
theorem dX2_find_86 : decode cX2_find 86 = .ok (.invokevirtual 50, 3) := by decide +kernel
theorem dX2_find_89 : decode cX2_find 89 = .ok (.ifCond .eq 5, 3) := by decide +kernel
theorem dX2_find_92 : decode cX2_find 92 = .ok (.iconst 1, 1) := by decide +kernel
theorem dX2_find_93 : decode cX2_find 93 = .ok (.ireturn, 1) := by decide +kernel
theorem dX2_find_94 : decode cX2_find 94 = .ok (.iinc 5 1, 3) := by decide +kernel
theorem dX2_find_97 : decode cX2_find 97 = .ok (.goto (-47), 3) := by decide +kernel
theorem dX2_find_100 : decode cX2_find 100 = .ok (.iinc 4 1, 3) := by decide +kernel
theorem dX2_find_103 : decode cX2_find 103 = .ok (.goto (-63), 3) := by decide +kernel
theorem dX2_find_106 : decode cX2_find 106 = .ok (.iconst 0, 1) := by decide +kernel
theorem dX2_find_107 : decode cX2_find 107 = .ok (.ireturn, 1) := by decide +kernel
theorem dX2_findCloseRows_0 : decode cX2_findCloseRows 0 = .ok (.iconst 0, 1) := by decide +kernel
theorem dX2_findCloseRows_1 : decode cX2_findCloseRows 1 = .ok (.istore_n 2, 1) := by decide +kernel
theorem dX2_findCloseRows_2 : decode cX2_findCloseRows 2 = .ok (.iload_n 2, 1) := by decide +kernel
theorem dX2_findCloseRows_3 : decode cX2_findCloseRows 3 = .ok (.aload_n 0, 1) := by decide +kernel
theorem dX2_findCloseRows_4 : decode cX2_findCloseRows 4 = .ok (.getfield 19, 3) := by decide +kernel
theorem dX2_findCloseRows_7 : decode cX2_findCloseRows 7 = .ok (.getfield 54, 3) := by decide +kernel
theorem dX2_findCloseRows_10 : decode cX2_findCloseRows 10 = .ok (.if_icmp .ge 60, 3) := by decide +kernel
theorem dX2_findCloseRows_13 : decode cX2_findCloseRows 13 = .ok (.lconst 0, 1) := by decide +kernel
theorem dX2_findCloseRows_14 : decode cX2_findCloseRows 14 = .ok (.lstore_n 3, 1) := by decide +kernel
theorem dX2_findCloseRows_15 : decode cX2_findCloseRows 15 = .ok (.iconst 0, 1) := by decide +kernel
theorem dX2_findCloseRows_16 : decode cX2_findCloseRows 16 = .ok (.istore 5, 2) := by decide +kernel
theorem dX2_findCloseRows_18 : decode cX2_findCloseRows 18 = .ok (.iload 5, 2) := by decide +kernel
theorem dX2_findCloseRows_20 : decode cX2_findCloseRows 20 = .ok (.aload_n 0, 1) := by decide +kernel
theorem dX2_findCloseRows_21 : decode cX2_findCloseRows 21 = .ok (.getfield 19, 3) := by decide +kernel
theorem dX2_findCloseRows_24 : decode cX2_findCloseRows 24 = .ok (.getfield 57, 3) := by decide +kernel
theorem dX2_findCloseRows_27 : decode cX2_findCloseRows 27 = .ok (.if_icmp .gt 30, 3) := by decide +kernel
theorem dX2_findCloseRows_30 : decode cX2_findCloseRows 30 = .ok (.aload_n 0, 1) := by decide +kernel
theorem dX2_findCloseRows_31 : decode cX2_findCloseRows 31 = .ok (.getfield 23, 3) := by decide +kernel
theorem dX2_findCloseRows_34 : decode cX2_findCloseRows 34 = .ok (.iload_n 1, 1) := by decide +kernel
theorem dX2_findCloseRows_35 : decode cX2_findCloseRows 35 = .ok (.iload_n 2, 1) := by decide +kernel
theorem dX2_findCloseRows_36 : decode cX2_findCloseRows 36 = .ok (.iload 5, 2) := by decide +kernel
theorem dX2_findCloseRows_38 : decode cX2_findCloseRows 38 = .ok (.invokevirtual 60, 3) := by decide +kernel
theorem dX2_findCloseRows_41 : decode cX2_findCloseRows 41 = .ok (.ifCond .eq 10, 3) := by decide +kernel
theorem dX2_findCloseRows_44 : decode cX2_findCloseRows 44 = .ok (.lload_n 3, 1) := by decide +kernel
theorem dX2_findCloseRows_45 : decode cX2_findCloseRows 45 = .ok (.lconst 1, 1) := by decide +kernel
theorem dX2_findCloseRows_46 : decode cX2_findCloseRows 46 = .ok (.iload 5, 2) := by decide +kernel
theorem dX2_findCloseRows_48 : decode cX2_findCloseRows 48 = .ok (.lshl, 1) := by decide +kernel
theorem dX2_findCloseRows_49 : decode cX2_findCloseRows 49 = .ok (.lor, 1) := by decide +kernel
theorem dX2_findCloseRows_50 : decode cX2_findCloseRows 50 = .ok (.lstore_n 3, 1) := by decide +kernel
theorem dX2_findCloseRows_51 : decode cX2_findCloseRows 51 = .ok (.iinc 5 1, 3) := by decide +kernel
theorem dX2_findCloseRows_54 : decode cX2_findCloseRows 54 = .ok (.goto (-36), 3) := by decide +kernel
theorem dX2_findCloseRows_57 : decode cX2_findCloseRows 57 = .ok (.aload_n 0, 1) := by decide +kernel
theorem dX2_findCloseRows_58 : decode cX2_findCloseRows 58 = .ok (.getfield 15, 3) := by decide +kernel
theorem dX2_findCloseRows_61 : decode cX2_findCloseRows 61 = .ok (.iload_n 2, 1) := by decide +kernel
theorem dX2_findCloseRows_62 : decode cX2_findCloseRows 62 = .ok (.lload_n 3, 1) := by decide +kernel
theorem dX2_findCloseRows_63 : decode cX2_findCloseRows 63 = .ok (.lastore, 1) := by decide +kernel
theorem dX2_findCloseRows_64 : decode cX2_findCloseRows 64 = .ok (.iinc 2 1, 3) := by decide +kernel
theorem dX2_findCloseRows_67 : decode cX2_findCloseRows 67 = .ok (.goto (-65), 3) := by decide +kernel
theorem dX2_findCloseRows_70 : decode cX2_findCloseRows 70 = .ok (.return_, 1) := by decide +kernel
theorem dX2_shapeAtTurn_0 : decode cX2_shapeAtTurn 0 = .ok (.iload_n 1, 1) := by decide +kernel
theorem dX2_shapeAtTurn_1 : decode cX2_shapeAtTurn 1 = .ok (.ifCond .ne 5, 3) := by decide +kernel
theorem dX2_shapeAtTurn_4 : decode cX2_shapeAtTurn 4 = .ok (.iload_n 0, 1) := by decide +kernel
theorem dX2_shapeAtTurn_5 : decode cX2_shapeAtTurn 5 = .ok (.ireturn, 1) := by decide +kernel
theorem dX2_shapeAtTurn_6 : decode cX2_shapeAtTurn 6 = .ok (.iload_n 1, 1) := by decide +kernel
theorem dX2_shapeAtTurn_7 : decode cX2_shapeAtTurn 7 = .ok (.iload_n 0, 1) := by decide +kernel
theorem dX2_shapeAtTurn_8 : decode cX2_shapeAtTurn 8 = .ok (.if_icmp .gt 9, 3) := by decide +kernel
theorem dX2_shapeAtTurn_11 : decode cX2_shapeAtTurn 11 = .ok (.iload_n 1, 1) := by decide +kernel
theorem dX2_shapeAtTurn_12 : decode cX2_shapeAtTurn 12 = .ok (.iconst 1, 1) := by decide +kernel
theorem dX2_shapeAtTurn_13 : decode cX2_shapeAtTurn 13 = .ok (.isub, 1) := by decide +kernel
theorem dX2_shapeAtTurn_14 : decode cX2_shapeAtTurn 14 = .ok (.goto 4, 3) := by decide +kernel
theorem dX2_shapeAtTurn_17 : decode cX2_shapeAtTurn 17 = .ok (.iload_n 1, 1) := by decide +kernel
theorem dX2_shapeAtTurn_18 : decode cX2_shapeAtTurn 18 = .ok (.ireturn, 1) := by decide +kernel
theorem dX2_mends_0 : decode cX2_mends 0 = .ok (.iload_n 3, 1) := by decide +kernel
theorem dX2_mends_1 : decode cX2_mends 1 = .ok (.iconst 1, 1) := by decide +kernel
theorem dX2_mends_2 : decode cX2_mends 2 = .ok (.if_icmp .lt 9, 3) := by decide +kernel
theorem dX2_mends_5 : decode cX2_mends 5 = .ok (.iload_n 3, 1) := by decide +kernel
theorem dX2_mends_6 : decode cX2_mends 6 = .ok (.bipush 40, 2) := by decide +kernel
theorem dX2_mends_8 : decode cX2_mends 8 = .ok (.if_icmp .le 5, 3) := by decide +kernel
theorem dX2_mends_11 : decode cX2_mends 11 = .ok (.iconst 0, 1) := by decide +kernel
theorem dX2_mends_12 : decode cX2_mends 12 = .ok (.ireturn, 1) := by decide +kernel
theorem dX2_mends_13 : decode cX2_mends 13 = .ok (.aload_n 0, 1) := by decide +kernel
theorem dX2_mends_14 : decode cX2_mends 14 = .ok (.getfield 23, 3) := by decide +kernel
theorem dX2_mends_17 : decode cX2_mends 17 = .ok (.aload_n 0, 1) := by decide +kernel
theorem dX2_mends_18 : decode cX2_mends 18 = .ok (.getfield 9, 3) := by decide +kernel
theorem dX2_mends_21 : decode cX2_mends 21 = .ok (.iload_n 1, 1) := by decide +kernel
theorem dX2_mends_22 : decode cX2_mends 22 = .ok (.iload_n 2, 1) := by decide +kernel
theorem dX2_mends_23 : decode cX2_mends 23 = .ok (.iload_n 3, 1) := by decide +kernel
theorem dX2_mends_24 : decode cX2_mends 24 = .ok (.invokevirtual 63, 3) := by decide +kernel
theorem dX2_mends_27 : decode cX2_mends 27 = .ok (.iconst 0, 1) := by decide +kernel
theorem dX2_mends_28 : decode cX2_mends 28 = .ok (.istore 4, 2) := by decide +kernel
theorem dX2_mends_30 : decode cX2_mends 30 = .ok (.iload 4, 2) := by decide +kernel
theorem dX2_mends_32 : decode cX2_mends 32 = .ok (.aload_n 0, 1) := by decide +kernel
theorem dX2_mends_33 : decode cX2_mends 33 = .ok (.getfield 19, 3) := by decide +kernel
theorem dX2_mends_36 : decode cX2_mends 36 = .ok (.getfield 54, 3) := by decide +kernel
theorem dX2_mends_39 : decode cX2_mends 39 = .ok (.if_icmp .ge 36, 3) := by decide +kernel
theorem dX2_mends_42 : decode cX2_mends 42 = .ok (.iload 4, 2) := by decide +kernel
theorem dX2_mends_44 : decode cX2_mends 44 = .ok (.iload_n 1, 1) := by decide +kernel
theorem dX2_mends_45 : decode cX2_mends 45 = .ok (.if_icmp .eq 24, 3) := by decide +kernel
theorem dX2_mends_48 : decode cX2_mends 48 = .ok (.aload_n 0, 1) := by decide +kernel
theorem dX2_mends_49 : decode cX2_mends 49 = .ok (.iload 4, 2) := by decide +kernel
theorem dX2_mends_51 : decode cX2_mends 51 = .ok (.invokevirtual 67, 3) := by decide +kernel
theorem dX2_mends_54 : decode cX2_mends 54 = .ok (.ifCond .ne 13, 3) := by decide +kernel
theorem dX2_mends_57 : decode cX2_mends 57 = .ok (.aload_n 0, 1) := by decide +kernel
theorem dX2_mends_58 : decode cX2_mends 58 = .ok (.iload_n 1, 1) := by decide +kernel
theorem dX2_mends_59 : decode cX2_mends 59 = .ok (.iload 4, 2) := by decide +kernel
theorem dX2_mends_61 : decode cX2_mends 61 = .ok (.invokevirtual 71, 3) := by decide +kernel
theorem dX2_mends_64 : decode cX2_mends 64 = .ok (.ifCond .eq 5, 3) := by decide +kernel
theorem dX2_mends_67 : decode cX2_mends 67 = .ok (.iconst 0, 1) := by decide +kernel
theorem dX2_mends_68 : decode cX2_mends 68 = .ok (.ireturn, 1) := by decide +kernel
theorem dX2_mends_69 : decode cX2_mends 69 = .ok (.iinc 4 1, 3) := by decide +kernel
theorem dX2_mends_72 : decode cX2_mends 72 = .ok (.goto (-42), 3) := by decide +kernel
theorem dX2_mends_75 : decode cX2_mends 75 = .ok (.aload_n 0, 1) := by decide +kernel
theorem dX2_mends_76 : decode cX2_mends 76 = .ok (.iload_n 2, 1) := by decide +kernel
theorem dX2_mends_77 : decode cX2_mends 77 = .ok (.putfield 75, 3) := by decide +kernel
theorem dX2_mends_80 : decode cX2_mends 80 = .ok (.aload_n 0, 1) := by decide +kernel
theorem dX2_mends_81 : decode cX2_mends 81 = .ok (.iload_n 3, 1) := by decide +kernel
theorem dX2_mends_82 : decode cX2_mends 82 = .ok (.putfield 78, 3) := by decide +kernel
theorem dX2_mends_85 : decode cX2_mends 85 = .ok (.iconst 1, 1) := by decide +kernel
theorem dX2_mends_86 : decode cX2_mends 86 = .ok (.ireturn, 1) := by decide +kernel
theorem dX2_isNear_0 : decode cX2_isNear 0 = .ok (.aload_n 0, 1) := by decide +kernel
theorem dX2_isNear_1 : decode cX2_isNear 1 = .ok (.getfield 15, 3) := by decide +kernel
theorem dX2_isNear_4 : decode cX2_isNear 4 = .ok (.iload_n 1, 1) := by decide +kernel
theorem dX2_isNear_5 : decode cX2_isNear 5 = .ok (.laload, 1) := by decide +kernel
theorem dX2_isNear_6 : decode cX2_isNear 6 = .ok (.lstore_n 2, 1) := by decide +kernel
theorem dX2_isNear_7 : decode cX2_isNear 7 = .ok (.iconst 0, 1) := by decide +kernel
theorem dX2_isNear_8 : decode cX2_isNear 8 = .ok (.istore 4, 2) := by decide +kernel
theorem dX2_isNear_10 : decode cX2_isNear 10 = .ok (.iload 4, 2) := by decide +kernel
theorem dX2_isNear_12 : decode cX2_isNear 12 = .ok (.aload_n 0, 1) := by decide +kernel
theorem dX2_isNear_13 : decode cX2_isNear 13 = .ok (.getfield 19, 3) := by decide +kernel
theorem dX2_isNear_16 : decode cX2_isNear 16 = .ok (.getfield 57, 3) := by decide +kernel
theorem dX2_isNear_19 : decode cX2_isNear 19 = .ok (.if_icmp .gt 61, 3) := by decide +kernel
theorem dX2_isNear_22 : decode cX2_isNear 22 = .ok (.lload_n 2, 1) := by decide +kernel
theorem dX2_isNear_23 : decode cX2_isNear 23 = .ok (.lconst 0, 1) := by decide +kernel
theorem dX2_isNear_24 : decode cX2_isNear 24 = .ok (.lcmp, 1) := by decide +kernel
theorem dX2_isNear_25 : decode cX2_isNear 25 = .ok (.ifCond .eq 55, 3) := by decide +kernel
theorem dX2_isNear_28 : decode cX2_isNear 28 = .ok (.lload_n 2, 1) := by decide +kernel
theorem dX2_isNear_29 : decode cX2_isNear 29 = .ok (.lconst 1, 1) := by decide +kernel
theorem dX2_isNear_30 : decode cX2_isNear 30 = .ok (.land, 1) := by decide +kernel
theorem dX2_isNear_31 : decode cX2_isNear 31 = .ok (.lconst 0, 1) := by decide +kernel
theorem dX2_isNear_32 : decode cX2_isNear 32 = .ok (.lcmp, 1) := by decide +kernel
theorem dX2_isNear_33 : decode cX2_isNear 33 = .ok (.ifCond .eq 37, 3) := by decide +kernel
theorem dX2_isNear_36 : decode cX2_isNear 36 = .ok (.aload_n 0, 1) := by decide +kernel
theorem dX2_isNear_37 : decode cX2_isNear 37 = .ok (.getfield 9, 3) := by decide +kernel
theorem dX2_isNear_40 : decode cX2_isNear 40 = .ok (.iload 4, 2) := by decide +kernel
theorem dX2_isNear_42 : decode cX2_isNear 42 = .ok (.iaload, 1) := by decide +kernel
theorem dX2_isNear_43 : decode cX2_isNear 43 = .ok (.aload_n 0, 1) := by decide +kernel
theorem dX2_isNear_44 : decode cX2_isNear 44 = .ok (.getfield 23, 3) := by decide +kernel
theorem dX2_isNear_47 : decode cX2_isNear 47 = .ok (.iload_n 1, 1) := by decide +kernel
theorem dX2_isNear_48 : decode cX2_isNear 48 = .ok (.iload 4, 2) := by decide +kernel
theorem dX2_isNear_50 : decode cX2_isNear 50 = .ok (.invokevirtual 81, 3) := by decide +kernel
theorem dX2_isNear_53 : decode cX2_isNear 53 = .ok (.isub, 1) := by decide +kernel
theorem dX2_isNear_54 : decode cX2_isNear 54 = .ok (.invokestatic 84, 3) := by decide +kernel
theorem dX2_isNear_57 : decode cX2_isNear 57 = .ok (.aload_n 0, 1) := by decide +kernel
theorem dX2_isNear_58 : decode cX2_isNear 58 = .ok (.getfield 19, 3) := by decide +kernel
theorem dX2_isNear_61 : decode cX2_isNear 61 = .ok (.iconst 1, 1) := by decide +kernel
theorem dX2_isNear_62 : decode cX2_isNear 62 = .ok (.invokevirtual 89, 3) := by decide +kernel
theorem dX2_isNear_65 : decode cX2_isNear 65 = .ok (.if_icmp .ge 5, 3) := by decide +kernel
theorem dX2_isNear_68 : decode cX2_isNear 68 = .ok (.iconst 1, 1) := by decide +kernel
theorem dX2_isNear_69 : decode cX2_isNear 69 = .ok (.ireturn, 1) := by decide +kernel
theorem dX2_isNear_70 : decode cX2_isNear 70 = .ok (.lload_n 2, 1) := by decide +kernel
theorem dX2_isNear_71 : decode cX2_isNear 71 = .ok (.iconst 1, 1) := by decide +kernel
theorem dX2_isNear_72 : decode cX2_isNear 72 = .ok (.lushr, 1) := by decide +kernel
theorem dX2_isNear_73 : decode cX2_isNear 73 = .ok (.lstore_n 2, 1) := by decide +kernel
theorem dX2_isNear_74 : decode cX2_isNear 74 = .ok (.iinc 4 1, 3) := by decide +kernel
theorem dX2_isNear_77 : decode cX2_isNear 77 = .ok (.goto (-67), 3) := by decide +kernel
theorem dX2_isNear_80 : decode cX2_isNear 80 = .ok (.iconst 0, 1) := by decide +kernel
theorem dX2_isNear_81 : decode cX2_isNear 81 = .ok (.ireturn, 1) := by decide +kernel
theorem dX2_isMutual_0 : decode cX2_isMutual 0 = .ok (.aload_n 0, 1) := by decide +kernel
theorem dX2_isMutual_1 : decode cX2_isMutual 1 = .ok (.getfield 37, 3) := by decide +kernel
theorem dX2_isMutual_4 : decode cX2_isMutual 4 = .ok (.iconst 1, 1) := by decide +kernel
theorem dX2_isMutual_5 : decode cX2_isMutual 5 = .ok (.iload_n 2, 1) := by decide +kernel
theorem dX2_isMutual_6 : decode cX2_isMutual 6 = .ok (.ishl, 1) := by decide +kernel
theorem dX2_isMutual_7 : decode cX2_isMutual 7 = .ok (.iand, 1) := by decide +kernel
theorem dX2_isMutual_8 : decode cX2_isMutual 8 = .ok (.ifCond .eq 23, 3) := by decide +kernel
theorem dX2_isMutual_11 : decode cX2_isMutual 11 = .ok (.aload_n 0, 1) := by decide +kernel
theorem dX2_isMutual_12 : decode cX2_isMutual 12 = .ok (.getfield 23, 3) := by decide +kernel
theorem dX2_isMutual_15 : decode cX2_isMutual 15 = .ok (.iload_n 1, 1) := by decide +kernel
theorem dX2_isMutual_16 : decode cX2_isMutual 16 = .ok (.aload_n 0, 1) := by decide +kernel
theorem dX2_isMutual_17 : decode cX2_isMutual 17 = .ok (.getfield 9, 3) := by decide +kernel
theorem dX2_isMutual_20 : decode cX2_isMutual 20 = .ok (.iload_n 2, 1) := by decide +kernel
theorem dX2_isMutual_21 : decode cX2_isMutual 21 = .ok (.invokevirtual 92, 3) := by decide +kernel
theorem dX2_isMutual_24 : decode cX2_isMutual 24 = .ok (.ifCond .eq 7, 3) := by decide +kernel
theorem dX2_isMutual_27 : decode cX2_isMutual 27 = .ok (.iconst 1, 1) := by decide +kernel
theorem dX2_isMutual_28 : decode cX2_isMutual 28 = .ok (.goto 4, 3) := by decide +kernel
theorem dX2_isMutual_31 : decode cX2_isMutual 31 = .ok (.iconst 0, 1) := by decide +kernel
theorem dX2_isMutual_32 : decode cX2_isMutual 32 = .ok (.ireturn, 1) := by decide +kernel
