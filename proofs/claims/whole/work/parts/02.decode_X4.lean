-- decode rows (printed by program)
theorem dX4_init_0 : decode cX4_init 0 = .ok (.aload_n 0, 1) := by decide +kernel
theorem dX4_init_1 : decode cX4_init 1 = .ok (.invokespecial 3, 3) := by decide +kernel
theorem dX4_init_4 : decode cX4_init 4 = .ok (.aload_n 0, 1) := by decide +kernel
theorem dX4_init_5 : decode cX4_init 5 = .ok (.bipush 8, 2) := by decide +kernel
theorem dX4_init_7 : decode cX4_init 7 = .ok (.newarray .int, 2) := by decide +kernel
theorem dX4_init_9 : decode cX4_init 9 = .ok (.putfield 9, 3) := by decide +kernel
theorem dX4_init_12 : decode cX4_init 12 = .ok (.aload_n 0, 1) := by decide +kernel
theorem dX4_init_13 : decode cX4_init 13 = .ok (.sipush 256, 3) := by decide +kernel
theorem dX4_init_16 : decode cX4_init 16 = .ok (.newarray .int, 2) := by decide +kernel
theorem dX4_init_18 : decode cX4_init 18 = .ok (.putfield 15, 3) := by decide +kernel
theorem dX4_init_21 : decode cX4_init 21 = .ok (.aload_n 0, 1) := by decide +kernel
theorem dX4_init_22 : decode cX4_init 22 = .ok (.aload_n 1, 1) := by decide +kernel
theorem dX4_init_23 : decode cX4_init 23 = .ok (.putfield 18, 3) := by decide +kernel
theorem dX4_init_26 : decode cX4_init 26 = .ok (.aload_n 0, 1) := by decide +kernel
theorem dX4_init_27 : decode cX4_init 27 = .ok (.aload_n 2, 1) := by decide +kernel
theorem dX4_init_28 : decode cX4_init 28 = .ok (.putfield 22, 3) := by decide +kernel
theorem dX4_init_31 : decode cX4_init 31 = .ok (.return_, 1) := by decide +kernel
theorem dX4_arrange_0 : decode cX4_arrange 0 = .ok (.aload_n 0, 1) := by decide +kernel
theorem dX4_arrange_1 : decode cX4_arrange 1 = .ok (.getfield 22, 3) := by decide +kernel
theorem dX4_arrange_4 : decode cX4_arrange 4 = .ok (.invokevirtual 26, 3) := by decide +kernel
theorem dX4_arrange_7 : decode cX4_arrange 7 = .ok (.astore_n 1, 1) := by decide +kernel
theorem dX4_arrange_8 : decode cX4_arrange 8 = .ok (.iconst 1, 1) := by decide +kernel
theorem dX4_arrange_9 : decode cX4_arrange 9 = .ok (.aload_n 0, 1) := by decide +kernel
theorem dX4_arrange_10 : decode cX4_arrange 10 = .ok (.getfield 18, 3) := by decide +kernel
theorem dX4_arrange_13 : decode cX4_arrange 13 = .ok (.getfield 32, 3) := by decide +kernel
theorem dX4_arrange_16 : decode cX4_arrange 16 = .ok (.ishl, 1) := by decide +kernel
theorem dX4_arrange_17 : decode cX4_arrange 17 = .ok (.iconst 1, 1) := by decide +kernel
theorem dX4_arrange_18 : decode cX4_arrange 18 = .ok (.isub, 1) := by decide +kernel
theorem dX4_arrange_19 : decode cX4_arrange 19 = .ok (.istore_n 2, 1) := by decide +kernel
theorem dX4_arrange_20 : decode cX4_arrange 20 = .ok (.iconst 0, 1) := by decide +kernel
theorem dX4_arrange_21 : decode cX4_arrange 21 = .ok (.istore_n 3, 1) := by decide +kernel
theorem dX4_arrange_22 : decode cX4_arrange 22 = .ok (.iload_n 3, 1) := by decide +kernel
theorem dX4_arrange_23 : decode cX4_arrange 23 = .ok (.aload_n 0, 1) := by decide +kernel
theorem dX4_arrange_24 : decode cX4_arrange 24 = .ok (.getfield 18, 3) := by decide +kernel
theorem dX4_arrange_27 : decode cX4_arrange 27 = .ok (.getfield 32, 3) := by decide +kernel
theorem dX4_arrange_30 : decode cX4_arrange 30 = .ok (.if_icmp .ge 41, 3) := by decide +kernel
theorem dX4_arrange_33 : decode cX4_arrange 33 = .ok (.aload_n 0, 1) := by decide +kernel
theorem dX4_arrange_34 : decode cX4_arrange 34 = .ok (.iload_n 2, 1) := by decide +kernel
theorem dX4_arrange_35 : decode cX4_arrange 35 = .ok (.aload_n 1, 1) := by decide +kernel
theorem dX4_arrange_36 : decode cX4_arrange 36 = .ok (.invokevirtual 38, 3) := by decide +kernel
theorem dX4_arrange_39 : decode cX4_arrange 39 = .ok (.istore 4, 2) := by decide +kernel
theorem dX4_arrange_41 : decode cX4_arrange 41 = .ok (.iload 4, 2) := by decide +kernel
theorem dX4_arrange_43 : decode cX4_arrange 43 = .ok (.ifCond .ge 5, 3) := by decide +kernel
theorem dX4_arrange_46 : decode cX4_arrange 46 = .ok (.iload_n 2, 1) := by decide +kernel
theorem dX4_arrange_47 : decode cX4_arrange 47 = .ok (.ireturn, 1) := by decide +kernel
theorem dX4_arrange_48 : decode cX4_arrange 48 = .ok (.aload_n 0, 1) := by decide +kernel
theorem dX4_arrange_49 : decode cX4_arrange 49 = .ok (.getfield 9, 3) := by decide +kernel
theorem dX4_arrange_52 : decode cX4_arrange 52 = .ok (.iload_n 3, 1) := by decide +kernel
theorem dX4_arrange_53 : decode cX4_arrange 53 = .ok (.iload 4, 2) := by decide +kernel
theorem dX4_arrange_55 : decode cX4_arrange 55 = .ok (.iastore, 1) := by decide +kernel
theorem dX4_arrange_56 : decode cX4_arrange 56 = .ok (.iload_n 2, 1) := by decide +kernel
theorem dX4_arrange_57 : decode cX4_arrange 57 = .ok (.iconst 1, 1) := by decide +kernel
theorem dX4_arrange_58 : decode cX4_arrange 58 = .ok (.iload 4, 2) := by decide +kernel
theorem dX4_arrange_60 : decode cX4_arrange 60 = .ok (.ishl, 1) := by decide +kernel
theorem dX4_arrange_61 : decode cX4_arrange 61 = .ok (.iconst (-1), 1) := by decide +kernel
theorem dX4_arrange_62 : decode cX4_arrange 62 = .ok (.ixor, 1) := by decide +kernel
theorem dX4_arrange_63 : decode cX4_arrange 63 = .ok (.iand, 1) := by decide +kernel
theorem dX4_arrange_64 : decode cX4_arrange 64 = .ok (.istore_n 2, 1) := by decide +kernel
theorem dX4_arrange_65 : decode cX4_arrange 65 = .ok (.iinc 3 1, 3) := by decide +kernel
theorem dX4_arrange_68 : decode cX4_arrange 68 = .ok (.goto (-46), 3) := by decide +kernel
theorem dX4_arrange_71 : decode cX4_arrange 71 = .ok (.iload_n 2, 1) := by decide +kernel
theorem dX4_arrange_72 : decode cX4_arrange 72 = .ok (.ireturn, 1) := by decide +kernel
theorem dX4_lowestFree_0 : decode cX4_lowestFree 0 = .ok (.iconst 0, 1) := by decide +kernel
theorem dX4_lowestFree_1 : decode cX4_lowestFree 1 = .ok (.istore_n 3, 1) := by decide +kernel
theorem dX4_lowestFree_2 : decode cX4_lowestFree 2 = .ok (.iload_n 3, 1) := by decide +kernel
theorem dX4_lowestFree_3 : decode cX4_lowestFree 3 = .ok (.aload_n 0, 1) := by decide +kernel
theorem dX4_lowestFree_4 : decode cX4_lowestFree 4 = .ok (.getfield 18, 3) := by decide +kernel
theorem dX4_lowestFree_7 : decode cX4_lowestFree 7 = .ok (.getfield 32, 3) := by decide +kernel
theorem dX4_lowestFree_10 : decode cX4_lowestFree 10 = .ok (.if_icmp .ge 27, 3) := by decide +kernel
theorem dX4_lowestFree_13 : decode cX4_lowestFree 13 = .ok (.iload_n 1, 1) := by decide +kernel
theorem dX4_lowestFree_14 : decode cX4_lowestFree 14 = .ok (.iconst 1, 1) := by decide +kernel
theorem dX4_lowestFree_15 : decode cX4_lowestFree 15 = .ok (.iload_n 3, 1) := by decide +kernel
theorem dX4_lowestFree_16 : decode cX4_lowestFree 16 = .ok (.ishl, 1) := by decide +kernel
theorem dX4_lowestFree_17 : decode cX4_lowestFree 17 = .ok (.iand, 1) := by decide +kernel
theorem dX4_lowestFree_18 : decode cX4_lowestFree 18 = .ok (.ifCond .eq 13, 3) := by decide +kernel
theorem dX4_lowestFree_21 : decode cX4_lowestFree 21 = .ok (.aload_n 2, 1) := by decide +kernel
theorem dX4_lowestFree_22 : decode cX4_lowestFree 22 = .ok (.iload_n 3, 1) := by decide +kernel
theorem dX4_lowestFree_23 : decode cX4_lowestFree 23 = .ok (.iaload, 1) := by decide +kernel
theorem dX4_lowestFree_24 : decode cX4_lowestFree 24 = .ok (.iload_n 1, 1) := by decide +kernel
theorem dX4_lowestFree_25 : decode cX4_lowestFree 25 = .ok (.iand, 1) := by decide +kernel
theorem dX4_lowestFree_26 : decode cX4_lowestFree 26 = .ok (.ifCond .ne 5, 3) := by decide +kernel
theorem dX4_lowestFree_29 : decode cX4_lowestFree 29 = .ok (.iload_n 3, 1) := by decide +kernel
theorem dX4_lowestFree_30 : decode cX4_lowestFree 30 = .ok (.ireturn, 1) := by decide +kernel
theorem dX4_lowestFree_31 : decode cX4_lowestFree 31 = .ok (.iinc 3 1, 3) := by decide +kernel
theorem dX4_lowestFree_34 : decode cX4_lowestFree 34 = .ok (.goto (-32), 3) := by decide +kernel
theorem dX4_lowestFree_37 : decode cX4_lowestFree 37 = .ok (.iconst (-1), 1) := by decide +kernel
theorem dX4_lowestFree_38 : decode cX4_lowestFree 38 = .ok (.ireturn, 1) := by decide +kernel
theorem dX4_wireAt_0 : decode cX4_wireAt 0 = .ok (.aload_n 0, 1) := by decide +kernel
theorem dX4_wireAt_1 : decode cX4_wireAt 1 = .ok (.getfield 9, 3) := by decide +kernel
theorem dX4_wireAt_4 : decode cX4_wireAt 4 = .ok (.iload_n 1, 1) := by decide +kernel
theorem dX4_wireAt_5 : decode cX4_wireAt 5 = .ok (.iaload, 1) := by decide +kernel
theorem dX4_wireAt_6 : decode cX4_wireAt 6 = .ok (.ireturn, 1) := by decide +kernel
theorem dX4_howMany_0 : decode cX4_howMany 0 = .ok (.aload_n 0, 1) := by decide +kernel
theorem dX4_howMany_1 : decode cX4_howMany 1 = .ok (.getfield 22, 3) := by decide +kernel
theorem dX4_howMany_4 : decode cX4_howMany 4 = .ok (.invokevirtual 26, 3) := by decide +kernel
theorem dX4_howMany_7 : decode cX4_howMany 7 = .ok (.astore_n 1, 1) := by decide +kernel
theorem dX4_howMany_8 : decode cX4_howMany 8 = .ok (.iconst 1, 1) := by decide +kernel
theorem dX4_howMany_9 : decode cX4_howMany 9 = .ok (.aload_n 0, 1) := by decide +kernel
theorem dX4_howMany_10 : decode cX4_howMany 10 = .ok (.getfield 18, 3) := by decide +kernel
theorem dX4_howMany_13 : decode cX4_howMany 13 = .ok (.getfield 32, 3) := by decide +kernel
theorem dX4_howMany_16 : decode cX4_howMany 16 = .ok (.ishl, 1) := by decide +kernel
theorem dX4_howMany_17 : decode cX4_howMany 17 = .ok (.iconst 1, 1) := by decide +kernel
theorem dX4_howMany_18 : decode cX4_howMany 18 = .ok (.isub, 1) := by decide +kernel
theorem dX4_howMany_19 : decode cX4_howMany 19 = .ok (.istore_n 2, 1) := by decide +kernel
theorem dX4_howMany_20 : decode cX4_howMany 20 = .ok (.aload_n 0, 1) := by decide +kernel
theorem dX4_howMany_21 : decode cX4_howMany 21 = .ok (.getfield 15, 3) := by decide +kernel
theorem dX4_howMany_24 : decode cX4_howMany 24 = .ok (.iconst 0, 1) := by decide +kernel
theorem dX4_howMany_25 : decode cX4_howMany 25 = .ok (.iconst 1, 1) := by decide +kernel
theorem dX4_howMany_26 : decode cX4_howMany 26 = .ok (.iastore, 1) := by decide +kernel
theorem dX4_howMany_27 : decode cX4_howMany 27 = .ok (.iconst 1, 1) := by decide +kernel
theorem dX4_howMany_28 : decode cX4_howMany 28 = .ok (.istore_n 3, 1) := by decide +kernel
theorem dX4_howMany_29 : decode cX4_howMany 29 = .ok (.iload_n 3, 1) := by decide +kernel
theorem dX4_howMany_30 : decode cX4_howMany 30 = .ok (.iload_n 2, 1) := by decide +kernel
theorem dX4_howMany_31 : decode cX4_howMany 31 = .ok (.if_icmp .gt 21, 3) := by decide +kernel
theorem dX4_howMany_34 : decode cX4_howMany 34 = .ok (.aload_n 0, 1) := by decide +kernel
theorem dX4_howMany_35 : decode cX4_howMany 35 = .ok (.getfield 15, 3) := by decide +kernel
theorem dX4_howMany_38 : decode cX4_howMany 38 = .ok (.iload_n 3, 1) := by decide +kernel
theorem dX4_howMany_39 : decode cX4_howMany 39 = .ok (.aload_n 0, 1) := by decide +kernel
theorem dX4_howMany_40 : decode cX4_howMany 40 = .ok (.iload_n 3, 1) := by decide +kernel
theorem dX4_howMany_41 : decode cX4_howMany 41 = .ok (.aload_n 1, 1) := by decide +kernel
theorem dX4_howMany_42 : decode cX4_howMany 42 = .ok (.invokevirtual 42, 3) := by decide +kernel
theorem dX4_howMany_45 : decode cX4_howMany 45 = .ok (.iastore, 1) := by decide +kernel
theorem dX4_howMany_46 : decode cX4_howMany 46 = .ok (.iinc 3 1, 3) := by decide +kernel
theorem dX4_howMany_49 : decode cX4_howMany 49 = .ok (.goto (-20), 3) := by decide +kernel
theorem dX4_howMany_52 : decode cX4_howMany 52 = .ok (.aload_n 0, 1) := by decide +kernel
theorem dX4_howMany_53 : decode cX4_howMany 53 = .ok (.getfield 15, 3) := by decide +kernel
theorem dX4_howMany_56 : decode cX4_howMany 56 = .ok (.iload_n 2, 1) := by decide +kernel
theorem dX4_howMany_57 : decode cX4_howMany 57 = .ok (.iaload, 1) := by decide +kernel
theorem dX4_howMany_58 : decode cX4_howMany 58 = .ok (.ireturn, 1) := by decide +kernel
theorem dX4_waysOf_0 : decode cX4_waysOf 0 = .ok (.iconst 0, 1) := by decide +kernel
theorem dX4_waysOf_1 : decode cX4_waysOf 1 = .ok (.istore_n 3, 1) := by decide +kernel
theorem dX4_waysOf_2 : decode cX4_waysOf 2 = .ok (.iconst 0, 1) := by decide +kernel
theorem dX4_waysOf_3 : decode cX4_waysOf 3 = .ok (.istore 4, 2) := by decide +kernel
theorem dX4_waysOf_5 : decode cX4_waysOf 5 = .ok (.iload 4, 2) := by decide +kernel
theorem dX4_waysOf_7 : decode cX4_waysOf 7 = .ok (.aload_n 0, 1) := by decide +kernel
theorem dX4_waysOf_8 : decode cX4_waysOf 8 = .ok (.getfield 18, 3) := by decide +kernel
theorem dX4_waysOf_11 : decode cX4_waysOf 11 = .ok (.getfield 32, 3) := by decide +kernel
theorem dX4_waysOf_14 : decode cX4_waysOf 14 = .ok (.if_icmp .ge 45, 3) := by decide +kernel
theorem dX4_waysOf_17 : decode cX4_waysOf 17 = .ok (.iload_n 1, 1) := by decide +kernel
theorem dX4_waysOf_18 : decode cX4_waysOf 18 = .ok (.iconst 1, 1) := by decide +kernel
theorem dX4_waysOf_19 : decode cX4_waysOf 19 = .ok (.iload 4, 2) := by decide +kernel
theorem dX4_waysOf_21 : decode cX4_waysOf 21 = .ok (.ishl, 1) := by decide +kernel
theorem dX4_waysOf_22 : decode cX4_waysOf 22 = .ok (.iand, 1) := by decide +kernel
theorem dX4_waysOf_23 : decode cX4_waysOf 23 = .ok (.ifCond .eq 30, 3) := by decide +kernel
theorem dX4_waysOf_26 : decode cX4_waysOf 26 = .ok (.aload_n 2, 1) := by decide +kernel
theorem dX4_waysOf_27 : decode cX4_waysOf 27 = .ok (.iload 4, 2) := by decide +kernel
theorem dX4_waysOf_29 : decode cX4_waysOf 29 = .ok (.iaload, 1) := by decide +kernel
theorem dX4_waysOf_30 : decode cX4_waysOf 30 = .ok (.iload_n 1, 1) := by decide +kernel
theorem dX4_waysOf_31 : decode cX4_waysOf 31 = .ok (.iconst (-1), 1) := by decide +kernel
theorem dX4_waysOf_32 : decode cX4_waysOf 32 = .ok (.ixor, 1) := by decide +kernel
theorem dX4_waysOf_33 : decode cX4_waysOf 33 = .ok (.iand, 1) := by decide +kernel
theorem dX4_waysOf_34 : decode cX4_waysOf 34 = .ok (.ifCond .ne 19, 3) := by decide +kernel
theorem dX4_waysOf_37 : decode cX4_waysOf 37 = .ok (.iload_n 3, 1) := by decide +kernel
theorem dX4_waysOf_38 : decode cX4_waysOf 38 = .ok (.aload_n 0, 1) := by decide +kernel
theorem dX4_waysOf_39 : decode cX4_waysOf 39 = .ok (.getfield 15, 3) := by decide +kernel
theorem dX4_waysOf_42 : decode cX4_waysOf 42 = .ok (.iload_n 1, 1) := by decide +kernel
theorem dX4_waysOf_43 : decode cX4_waysOf 43 = .ok (.iconst 1, 1) := by decide +kernel
theorem dX4_waysOf_44 : decode cX4_waysOf 44 = .ok (.iload 4, 2) := by decide +kernel
theorem dX4_waysOf_46 : decode cX4_waysOf 46 = .ok (.ishl, 1) := by decide +kernel
theorem dX4_waysOf_47 : decode cX4_waysOf 47 = .ok (.iconst (-1), 1) := by decide +kernel
theorem dX4_waysOf_48 : decode cX4_waysOf 48 = .ok (.ixor, 1) := by decide +kernel
theorem dX4_waysOf_49 : decode cX4_waysOf 49 = .ok (.iand, 1) := by decide +kernel
theorem dX4_waysOf_50 : decode cX4_waysOf 50 = .ok (.iaload, 1) := by decide +kernel
theorem dX4_waysOf_51 : decode cX4_waysOf 51 = .ok (.iadd, 1) := by decide +kernel
theorem dX4_waysOf_52 : decode cX4_waysOf 52 = .ok (.istore_n 3, 1) := by decide +kernel
theorem dX4_waysOf_53 : decode cX4_waysOf 53 = .ok (.iinc 4 1, 3) := by decide +kernel
theorem dX4_waysOf_56 : decode cX4_waysOf 56 = .ok (.goto (-51), 3) := by decide +kernel
theorem dX4_waysOf_59 : decode cX4_waysOf 59 = .ok (.iload_n 3, 1) := by decide +kernel
theorem dX4_waysOf_60 : decode cX4_waysOf 60 = .ok (.ireturn, 1) := by decide +kernel
