-- decode rows (printed by program)
theorem dX5_init_0 : decode cX5_init 0 = .ok (.aload_n 0, 1) := by decide +kernel
theorem dX5_init_1 : decode cX5_init 1 = .ok (.invokespecial 3, 3) := by decide +kernel
theorem dX5_init_4 : decode cX5_init 4 = .ok (.aload_n 0, 1) := by decide +kernel
theorem dX5_init_5 : decode cX5_init 5 = .ok (.iconst 2, 1) := by decide +kernel
theorem dX5_init_6 : decode cX5_init 6 = .ok (.newarray .boolean, 2) := by decide +kernel
theorem dX5_init_8 : decode cX5_init 8 = .ok (.putfield 9, 3) := by decide +kernel
theorem dX5_init_11 : decode cX5_init 11 = .ok (.aload_n 0, 1) := by decide +kernel
theorem dX5_init_12 : decode cX5_init 12 = .ok (.iconst 2, 1) := by decide +kernel
theorem dX5_init_13 : decode cX5_init 13 = .ok (.newarray .int, 2) := by decide +kernel
theorem dX5_init_15 : decode cX5_init 15 = .ok (.putfield 15, 3) := by decide +kernel
theorem dX5_init_18 : decode cX5_init 18 = .ok (.aload_n 0, 1) := by decide +kernel
theorem dX5_init_19 : decode cX5_init 19 = .ok (.iconst 2, 1) := by decide +kernel
theorem dX5_init_20 : decode cX5_init 20 = .ok (.newarray .int, 2) := by decide +kernel
theorem dX5_init_22 : decode cX5_init 22 = .ok (.putfield 19, 3) := by decide +kernel
theorem dX5_init_25 : decode cX5_init 25 = .ok (.aload_n 0, 1) := by decide +kernel
theorem dX5_init_26 : decode cX5_init 26 = .ok (.iconst 2, 1) := by decide +kernel
theorem dX5_init_27 : decode cX5_init 27 = .ok (.newarray .int, 2) := by decide +kernel
theorem dX5_init_29 : decode cX5_init 29 = .ok (.putfield 22, 3) := by decide +kernel
theorem dX5_init_32 : decode cX5_init 32 = .ok (.aload_n 0, 1) := by decide +kernel
theorem dX5_init_33 : decode cX5_init 33 = .ok (.iconst 2, 1) := by decide +kernel
theorem dX5_init_34 : decode cX5_init 34 = .ok (.newarray .int, 2) := by decide +kernel
theorem dX5_init_36 : decode cX5_init 36 = .ok (.putfield 25, 3) := by decide +kernel
theorem dX5_init_39 : decode cX5_init 39 = .ok (.aload_n 0, 1) := by decide +kernel
theorem dX5_init_40 : decode cX5_init 40 = .ok (.aload_n 1, 1) := by decide +kernel
theorem dX5_init_41 : decode cX5_init 41 = .ok (.putfield 28, 3) := by decide +kernel
theorem dX5_init_44 : decode cX5_init 44 = .ok (.return_, 1) := by decide +kernel
theorem dX5_clear_0 : decode cX5_clear 0 = .ok (.iconst 0, 1) := by decide +kernel
theorem dX5_clear_1 : decode cX5_clear 1 = .ok (.istore_n 1, 1) := by decide +kernel
theorem dX5_clear_2 : decode cX5_clear 2 = .ok (.iload_n 1, 1) := by decide +kernel
theorem dX5_clear_3 : decode cX5_clear 3 = .ok (.iconst 2, 1) := by decide +kernel
theorem dX5_clear_4 : decode cX5_clear 4 = .ok (.if_icmp .ge 16, 3) := by decide +kernel
theorem dX5_clear_7 : decode cX5_clear 7 = .ok (.aload_n 0, 1) := by decide +kernel
theorem dX5_clear_8 : decode cX5_clear 8 = .ok (.getfield 9, 3) := by decide +kernel
theorem dX5_clear_11 : decode cX5_clear 11 = .ok (.iload_n 1, 1) := by decide +kernel
theorem dX5_clear_12 : decode cX5_clear 12 = .ok (.iconst 0, 1) := by decide +kernel
theorem dX5_clear_13 : decode cX5_clear 13 = .ok (.bastore, 1) := by decide +kernel
theorem dX5_clear_14 : decode cX5_clear 14 = .ok (.iinc 1 1, 3) := by decide +kernel
theorem dX5_clear_17 : decode cX5_clear 17 = .ok (.goto (-15), 3) := by decide +kernel
theorem dX5_clear_20 : decode cX5_clear 20 = .ok (.return_, 1) := by decide +kernel
theorem dX5_tell_0 : decode cX5_tell 0 = .ok (.aload_n 0, 1) := by decide +kernel
theorem dX5_tell_1 : decode cX5_tell 1 = .ok (.getfield 9, 3) := by decide +kernel
theorem dX5_tell_4 : decode cX5_tell 4 = .ok (.iload_n 1, 1) := by decide +kernel
theorem dX5_tell_5 : decode cX5_tell 5 = .ok (.iconst 1, 1) := by decide +kernel
theorem dX5_tell_6 : decode cX5_tell 6 = .ok (.bastore, 1) := by decide +kernel
theorem dX5_tell_7 : decode cX5_tell 7 = .ok (.aload_n 0, 1) := by decide +kernel
theorem dX5_tell_8 : decode cX5_tell 8 = .ok (.getfield 15, 3) := by decide +kernel
theorem dX5_tell_11 : decode cX5_tell 11 = .ok (.iload_n 1, 1) := by decide +kernel
theorem dX5_tell_12 : decode cX5_tell 12 = .ok (.iload_n 2, 1) := by decide +kernel
theorem dX5_tell_13 : decode cX5_tell 13 = .ok (.iastore, 1) := by decide +kernel
theorem dX5_tell_14 : decode cX5_tell 14 = .ok (.aload_n 0, 1) := by decide +kernel
theorem dX5_tell_15 : decode cX5_tell 15 = .ok (.getfield 19, 3) := by decide +kernel
theorem dX5_tell_18 : decode cX5_tell 18 = .ok (.iload_n 1, 1) := by decide +kernel
theorem dX5_tell_19 : decode cX5_tell 19 = .ok (.iload_n 3, 1) := by decide +kernel
theorem dX5_tell_20 : decode cX5_tell 20 = .ok (.iastore, 1) := by decide +kernel
theorem dX5_tell_21 : decode cX5_tell 21 = .ok (.aload_n 0, 1) := by decide +kernel
theorem dX5_tell_22 : decode cX5_tell 22 = .ok (.getfield 22, 3) := by decide +kernel
theorem dX5_tell_25 : decode cX5_tell 25 = .ok (.iload_n 1, 1) := by decide +kernel
theorem dX5_tell_26 : decode cX5_tell 26 = .ok (.iload 4, 2) := by decide +kernel
theorem dX5_tell_28 : decode cX5_tell 28 = .ok (.iastore, 1) := by decide +kernel
theorem dX5_tell_29 : decode cX5_tell 29 = .ok (.aload_n 0, 1) := by decide +kernel
theorem dX5_tell_30 : decode cX5_tell 30 = .ok (.getfield 25, 3) := by decide +kernel
theorem dX5_tell_33 : decode cX5_tell 33 = .ok (.iload_n 1, 1) := by decide +kernel
theorem dX5_tell_34 : decode cX5_tell 34 = .ok (.iload 5, 2) := by decide +kernel
theorem dX5_tell_36 : decode cX5_tell 36 = .ok (.iastore, 1) := by decide +kernel
theorem dX5_tell_37 : decode cX5_tell 37 = .ok (.return_, 1) := by decide +kernel
theorem dX5_howMany_0 : decode cX5_howMany 0 = .ok (.iconst 0, 1) := by decide +kernel
theorem dX5_howMany_1 : decode cX5_howMany 1 = .ok (.istore_n 1, 1) := by decide +kernel
theorem dX5_howMany_2 : decode cX5_howMany 2 = .ok (.iconst 0, 1) := by decide +kernel
theorem dX5_howMany_3 : decode cX5_howMany 3 = .ok (.istore_n 2, 1) := by decide +kernel
theorem dX5_howMany_4 : decode cX5_howMany 4 = .ok (.iload_n 2, 1) := by decide +kernel
theorem dX5_howMany_5 : decode cX5_howMany 5 = .ok (.iconst 2, 1) := by decide +kernel
theorem dX5_howMany_6 : decode cX5_howMany 6 = .ok (.if_icmp .ge 21, 3) := by decide +kernel
theorem dX5_howMany_9 : decode cX5_howMany 9 = .ok (.aload_n 0, 1) := by decide +kernel
theorem dX5_howMany_10 : decode cX5_howMany 10 = .ok (.getfield 9, 3) := by decide +kernel
theorem dX5_howMany_13 : decode cX5_howMany 13 = .ok (.iload_n 2, 1) := by decide +kernel
theorem dX5_howMany_14 : decode cX5_howMany 14 = .ok (.baload, 1) := by decide +kernel
theorem dX5_howMany_15 : decode cX5_howMany 15 = .ok (.ifCond .eq 6, 3) := by decide +kernel
theorem dX5_howMany_18 : decode cX5_howMany 18 = .ok (.iinc 1 1, 3) := by decide +kernel
theorem dX5_howMany_21 : decode cX5_howMany 21 = .ok (.iinc 2 1, 3) := by decide +kernel
theorem dX5_howMany_24 : decode cX5_howMany 24 = .ok (.goto (-20), 3) := by decide +kernel
theorem dX5_howMany_27 : decode cX5_howMany 27 = .ok (.iload_n 1, 1) := by decide +kernel
theorem dX5_howMany_28 : decode cX5_howMany 28 = .ok (.ireturn, 1) := by decide +kernel
theorem dX5_seen_0 : decode cX5_seen 0 = .ok (.iconst 0, 1) := by decide +kernel
theorem dX5_seen_1 : decode cX5_seen 1 = .ok (.istore 5, 2) := by decide +kernel
theorem dX5_seen_3 : decode cX5_seen 3 = .ok (.iconst 0, 1) := by decide +kernel
theorem dX5_seen_4 : decode cX5_seen 4 = .ok (.istore 6, 2) := by decide +kernel
theorem dX5_seen_6 : decode cX5_seen 6 = .ok (.iconst 0, 1) := by decide +kernel
theorem dX5_seen_7 : decode cX5_seen 7 = .ok (.istore 7, 2) := by decide +kernel
theorem dX5_seen_9 : decode cX5_seen 9 = .ok (.iload 7, 2) := by decide +kernel
theorem dX5_seen_11 : decode cX5_seen 11 = .ok (.aload_n 0, 1) := by decide +kernel
theorem dX5_seen_12 : decode cX5_seen 12 = .ok (.getfield 28, 3) := by decide +kernel
theorem dX5_seen_15 : decode cX5_seen 15 = .ok (.getfield 32, 3) := by decide +kernel
theorem dX5_seen_18 : decode cX5_seen 18 = .ok (.if_icmp .ge 94, 3) := by decide +kernel
theorem dX5_seen_21 : decode cX5_seen 21 = .ok (.aload_n 0, 1) := by decide +kernel
theorem dX5_seen_22 : decode cX5_seen 22 = .ok (.getfield 28, 3) := by decide +kernel
theorem dX5_seen_25 : decode cX5_seen 25 = .ok (.iload 7, 2) := by decide +kernel
theorem dX5_seen_27 : decode cX5_seen 27 = .ok (.iconst 0, 1) := by decide +kernel
theorem dX5_seen_28 : decode cX5_seen 28 = .ok (.invokevirtual 38, 3) := by decide +kernel
theorem dX5_seen_31 : decode cX5_seen 31 = .ok (.iload 4, 2) := by decide +kernel
theorem dX5_seen_33 : decode cX5_seen 33 = .ok (.iadd, 1) := by decide +kernel
theorem dX5_seen_34 : decode cX5_seen 34 = .ok (.istore 8, 2) := by decide +kernel
theorem dX5_seen_36 : decode cX5_seen 36 = .ok (.aload_n 0, 1) := by decide +kernel
theorem dX5_seen_37 : decode cX5_seen 37 = .ok (.getfield 28, 3) := by decide +kernel
theorem dX5_seen_40 : decode cX5_seen 40 = .ok (.iload 7, 2) := by decide +kernel
theorem dX5_seen_42 : decode cX5_seen 42 = .ok (.iconst 1, 1) := by decide +kernel
theorem dX5_seen_43 : decode cX5_seen 43 = .ok (.invokevirtual 38, 3) := by decide +kernel
theorem dX5_seen_46 : decode cX5_seen 46 = .ok (.istore 9, 2) := by decide +kernel
theorem dX5_seen_48 : decode cX5_seen 48 = .ok (.iload 8, 2) := by decide +kernel
theorem dX5_seen_50 : decode cX5_seen 50 = .ok (.iload_n 2, 1) := by decide +kernel
theorem dX5_seen_51 : decode cX5_seen 51 = .ok (.if_icmp .lt 26, 3) := by decide +kernel
theorem dX5_seen_54 : decode cX5_seen 54 = .ok (.iload 8, 2) := by decide +kernel
theorem dX5_seen_56 : decode cX5_seen 56 = .ok (.iload_n 3, 1) := by decide +kernel
theorem dX5_seen_57 : decode cX5_seen 57 = .ok (.if_icmp .gt 20, 3) := by decide +kernel
theorem dX5_seen_60 : decode cX5_seen 60 = .ok (.iload 9, 2) := by decide +kernel
theorem dX5_seen_62 : decode cX5_seen 62 = .ok (.iload_n 1, 1) := by decide +kernel
theorem dX5_seen_63 : decode cX5_seen 63 = .ok (.if_icmp .ne 14, 3) := by decide +kernel
theorem dX5_seen_66 : decode cX5_seen 66 = .ok (.iload 5, 2) := by decide +kernel
theorem dX5_seen_68 : decode cX5_seen 68 = .ok (.iconst 1, 1) := by decide +kernel
theorem dX5_seen_69 : decode cX5_seen 69 = .ok (.iload 8, 2) := by decide +kernel
theorem dX5_seen_71 : decode cX5_seen 71 = .ok (.iload_n 2, 1) := by decide +kernel
theorem dX5_seen_72 : decode cX5_seen 72 = .ok (.isub, 1) := by decide +kernel
theorem dX5_seen_73 : decode cX5_seen 73 = .ok (.ishl, 1) := by decide +kernel
theorem dX5_seen_74 : decode cX5_seen 74 = .ok (.ior, 1) := by decide +kernel
theorem dX5_seen_75 : decode cX5_seen 75 = .ok (.istore 5, 2) := by decide +kernel
theorem dX5_seen_77 : decode cX5_seen 77 = .ok (.iload 8, 2) := by decide +kernel
theorem dX5_seen_79 : decode cX5_seen 79 = .ok (.iload_n 2, 1) := by decide +kernel
theorem dX5_seen_80 : decode cX5_seen 80 = .ok (.if_icmp .lt 26, 3) := by decide +kernel
theorem dX5_seen_83 : decode cX5_seen 83 = .ok (.iload 8, 2) := by decide +kernel
theorem dX5_seen_85 : decode cX5_seen 85 = .ok (.iload_n 3, 1) := by decide +kernel
theorem dX5_seen_86 : decode cX5_seen 86 = .ok (.if_icmp .gt 20, 3) := by decide +kernel
theorem dX5_seen_89 : decode cX5_seen 89 = .ok (.iload 9, 2) := by decide +kernel
theorem dX5_seen_91 : decode cX5_seen 91 = .ok (.iload_n 1, 1) := by decide +kernel
theorem dX5_seen_92 : decode cX5_seen 92 = .ok (.if_icmp .le 14, 3) := by decide +kernel
theorem dX5_seen_95 : decode cX5_seen 95 = .ok (.iload 6, 2) := by decide +kernel
theorem dX5_seen_97 : decode cX5_seen 97 = .ok (.iconst 1, 1) := by decide +kernel
theorem dX5_seen_98 : decode cX5_seen 98 = .ok (.iload 8, 2) := by decide +kernel
theorem dX5_seen_100 : decode cX5_seen 100 = .ok (.iload_n 2, 1) := by decide +kernel
theorem dX5_seen_101 : decode cX5_seen 101 = .ok (.isub, 1) := by decide +kernel
theorem dX5_seen_102 : decode cX5_seen 102 = .ok (.ishl, 1) := by decide +kernel
theorem dX5_seen_103 : decode cX5_seen 103 = .ok (.ior, 1) := by decide +kernel
theorem dX5_seen_104 : decode cX5_seen 104 = .ok (.istore 6, 2) := by decide +kernel
theorem dX5_seen_106 : decode cX5_seen 106 = .ok (.iinc 7 1, 3) := by decide +kernel
theorem dX5_seen_109 : decode cX5_seen 109 = .ok (.goto (-100), 3) := by decide +kernel
theorem dX5_seen_112 : decode cX5_seen 112 = .ok (.iload 5, 2) := by decide +kernel
theorem dX5_seen_114 : decode cX5_seen 114 = .ok (.iload 6, 2) := by decide +kernel
theorem dX5_seen_116 : decode cX5_seen 116 = .ok (.iconst (-1), 1) := by decide +kernel
theorem dX5_seen_117 : decode cX5_seen 117 = .ok (.ixor, 1) := by decide +kernel
theorem dX5_seen_118 : decode cX5_seen 118 = .ok (.iand, 1) := by decide +kernel
theorem dX5_seen_119 : decode cX5_seen 119 = .ok (.ireturn, 1) := by decide +kernel
theorem dX5_shiftsThatExplain_0 : decode cX5_shiftsThatExplain 0 = .ok (.iconst 0, 1) := by decide +kernel
theorem dX5_shiftsThatExplain_1 : decode cX5_shiftsThatExplain 1 = .ok (.istore_n 1, 1) := by decide +kernel
theorem dX5_shiftsThatExplain_2 : decode cX5_shiftsThatExplain 2 = .ok (.bipush (-9), 2) := by decide +kernel
theorem dX5_shiftsThatExplain_4 : decode cX5_shiftsThatExplain 4 = .ok (.istore_n 2, 1) := by decide +kernel
theorem dX5_shiftsThatExplain_5 : decode cX5_shiftsThatExplain 5 = .ok (.iload_n 2, 1) := by decide +kernel
theorem dX5_shiftsThatExplain_6 : decode cX5_shiftsThatExplain 6 = .ok (.bipush 9, 2) := by decide +kernel
theorem dX5_shiftsThatExplain_8 : decode cX5_shiftsThatExplain 8 = .ok (.if_icmp .gt 20, 3) := by decide +kernel
theorem dX5_shiftsThatExplain_11 : decode cX5_shiftsThatExplain 11 = .ok (.aload_n 0, 1) := by decide +kernel
theorem dX5_shiftsThatExplain_12 : decode cX5_shiftsThatExplain 12 = .ok (.iload_n 2, 1) := by decide +kernel
theorem dX5_shiftsThatExplain_13 : decode cX5_shiftsThatExplain 13 = .ok (.invokevirtual 42, 3) := by decide +kernel
theorem dX5_shiftsThatExplain_16 : decode cX5_shiftsThatExplain 16 = .ok (.ifCond .eq 6, 3) := by decide +kernel
theorem dX5_shiftsThatExplain_19 : decode cX5_shiftsThatExplain 19 = .ok (.iinc 1 1, 3) := by decide +kernel
theorem dX5_shiftsThatExplain_22 : decode cX5_shiftsThatExplain 22 = .ok (.iinc 2 1, 3) := by decide +kernel
theorem dX5_shiftsThatExplain_25 : decode cX5_shiftsThatExplain 25 = .ok (.goto (-20), 3) := by decide +kernel
theorem dX5_shiftsThatExplain_28 : decode cX5_shiftsThatExplain 28 = .ok (.iload_n 1, 1) := by decide +kernel
theorem dX5_shiftsThatExplain_29 : decode cX5_shiftsThatExplain 29 = .ok (.ireturn, 1) := by decide +kernel
theorem dX5_nearestShift_0 : decode cX5_nearestShift 0 = .ok (.iconst 0, 1) := by decide +kernel
theorem dX5_nearestShift_1 : decode cX5_nearestShift 1 = .ok (.istore_n 1, 1) := by decide +kernel
theorem dX5_nearestShift_2 : decode cX5_nearestShift 2 = .ok (.iload_n 1, 1) := by decide +kernel
theorem dX5_nearestShift_3 : decode cX5_nearestShift 3 = .ok (.bipush 9, 2) := by decide +kernel
theorem dX5_nearestShift_5 : decode cX5_nearestShift 5 = .ok (.if_icmp .gt 36, 3) := by decide +kernel
theorem dX5_nearestShift_8 : decode cX5_nearestShift 8 = .ok (.aload_n 0, 1) := by decide +kernel
theorem dX5_nearestShift_9 : decode cX5_nearestShift 9 = .ok (.iload_n 1, 1) := by decide +kernel
theorem dX5_nearestShift_10 : decode cX5_nearestShift 10 = .ok (.ineg, 1) := by decide +kernel
theorem dX5_nearestShift_11 : decode cX5_nearestShift 11 = .ok (.invokevirtual 42, 3) := by decide +kernel
theorem dX5_nearestShift_14 : decode cX5_nearestShift 14 = .ok (.ifCond .eq 8, 3) := by decide +kernel
theorem dX5_nearestShift_17 : decode cX5_nearestShift 17 = .ok (.ldc 46, 2) := by decide +kernel
theorem dX5_nearestShift_19 : decode cX5_nearestShift 19 = .ok (.iload_n 1, 1) := by decide +kernel
theorem dX5_nearestShift_20 : decode cX5_nearestShift 20 = .ok (.isub, 1) := by decide +kernel
theorem dX5_nearestShift_21 : decode cX5_nearestShift 21 = .ok (.ireturn, 1) := by decide +kernel
theorem dX5_nearestShift_22 : decode cX5_nearestShift 22 = .ok (.aload_n 0, 1) := by decide +kernel
theorem dX5_nearestShift_23 : decode cX5_nearestShift 23 = .ok (.iload_n 1, 1) := by decide +kernel
theorem dX5_nearestShift_24 : decode cX5_nearestShift 24 = .ok (.invokevirtual 42, 3) := by decide +kernel
theorem dX5_nearestShift_27 : decode cX5_nearestShift 27 = .ok (.ifCond .eq 8, 3) := by decide +kernel
theorem dX5_nearestShift_30 : decode cX5_nearestShift 30 = .ok (.ldc 46, 2) := by decide +kernel
theorem dX5_nearestShift_32 : decode cX5_nearestShift 32 = .ok (.iload_n 1, 1) := by decide +kernel
theorem dX5_nearestShift_33 : decode cX5_nearestShift 33 = .ok (.iadd, 1) := by decide +kernel
theorem dX5_nearestShift_34 : decode cX5_nearestShift 34 = .ok (.ireturn, 1) := by decide +kernel
theorem dX5_nearestShift_35 : decode cX5_nearestShift 35 = .ok (.iinc 1 1, 3) := by decide +kernel
theorem dX5_nearestShift_38 : decode cX5_nearestShift 38 = .ok (.goto (-36), 3) := by decide +kernel
theorem dX5_nearestShift_41 : decode cX5_nearestShift 41 = .ok (.bipush (-4), 2) := by decide +kernel
theorem dX5_nearestShift_43 : decode cX5_nearestShift 43 = .ok (.ireturn, 1) := by decide +kernel
theorem dX5_isExplainedBy_0 : decode cX5_isExplainedBy 0 = .ok (.iconst 0, 1) := by decide +kernel
theorem dX5_isExplainedBy_1 : decode cX5_isExplainedBy 1 = .ok (.istore_n 2, 1) := by decide +kernel
theorem dX5_isExplainedBy_2 : decode cX5_isExplainedBy 2 = .ok (.iload_n 2, 1) := by decide +kernel
theorem dX5_isExplainedBy_3 : decode cX5_isExplainedBy 3 = .ok (.iconst 2, 1) := by decide +kernel
theorem dX5_isExplainedBy_4 : decode cX5_isExplainedBy 4 = .ok (.if_icmp .ge 52, 3) := by decide +kernel
theorem dX5_isExplainedBy_7 : decode cX5_isExplainedBy 7 = .ok (.aload_n 0, 1) := by decide +kernel
theorem dX5_isExplainedBy_8 : decode cX5_isExplainedBy 8 = .ok (.getfield 9, 3) := by decide +kernel
theorem dX5_isExplainedBy_11 : decode cX5_isExplainedBy 11 = .ok (.iload_n 2, 1) := by decide +kernel
theorem dX5_isExplainedBy_12 : decode cX5_isExplainedBy 12 = .ok (.baload, 1) := by decide +kernel
theorem dX5_isExplainedBy_13 : decode cX5_isExplainedBy 13 = .ok (.ifCond .eq 37, 3) := by decide +kernel
theorem dX5_isExplainedBy_16 : decode cX5_isExplainedBy 16 = .ok (.aload_n 0, 1) := by decide +kernel
theorem dX5_isExplainedBy_17 : decode cX5_isExplainedBy 17 = .ok (.aload_n 0, 1) := by decide +kernel
theorem dX5_isExplainedBy_18 : decode cX5_isExplainedBy 18 = .ok (.getfield 15, 3) := by decide +kernel
theorem dX5_isExplainedBy_21 : decode cX5_isExplainedBy 21 = .ok (.iload_n 2, 1) := by decide +kernel
theorem dX5_isExplainedBy_22 : decode cX5_isExplainedBy 22 = .ok (.iaload, 1) := by decide +kernel
theorem dX5_isExplainedBy_23 : decode cX5_isExplainedBy 23 = .ok (.aload_n 0, 1) := by decide +kernel
theorem dX5_isExplainedBy_24 : decode cX5_isExplainedBy 24 = .ok (.getfield 19, 3) := by decide +kernel
theorem dX5_isExplainedBy_27 : decode cX5_isExplainedBy 27 = .ok (.iload_n 2, 1) := by decide +kernel
theorem dX5_isExplainedBy_28 : decode cX5_isExplainedBy 28 = .ok (.iaload, 1) := by decide +kernel
theorem dX5_isExplainedBy_29 : decode cX5_isExplainedBy 29 = .ok (.aload_n 0, 1) := by decide +kernel
theorem dX5_isExplainedBy_30 : decode cX5_isExplainedBy 30 = .ok (.getfield 22, 3) := by decide +kernel
theorem dX5_isExplainedBy_33 : decode cX5_isExplainedBy 33 = .ok (.iload_n 2, 1) := by decide +kernel
theorem dX5_isExplainedBy_34 : decode cX5_isExplainedBy 34 = .ok (.iaload, 1) := by decide +kernel
theorem dX5_isExplainedBy_35 : decode cX5_isExplainedBy 35 = .ok (.iload_n 1, 1) := by decide +kernel
theorem dX5_isExplainedBy_36 : decode cX5_isExplainedBy 36 = .ok (.invokevirtual 47, 3) := by decide +kernel
theorem dX5_isExplainedBy_39 : decode cX5_isExplainedBy 39 = .ok (.aload_n 0, 1) := by decide +kernel
theorem dX5_isExplainedBy_40 : decode cX5_isExplainedBy 40 = .ok (.getfield 25, 3) := by decide +kernel
theorem dX5_isExplainedBy_43 : decode cX5_isExplainedBy 43 = .ok (.iload_n 2, 1) := by decide +kernel
theorem dX5_isExplainedBy_44 : decode cX5_isExplainedBy 44 = .ok (.iaload, 1) := by decide +kernel
theorem dX5_isExplainedBy_45 : decode cX5_isExplainedBy 45 = .ok (.if_icmp .eq 5, 3) := by decide +kernel
theorem dX5_isExplainedBy_48 : decode cX5_isExplainedBy 48 = .ok (.iconst 0, 1) := by decide +kernel
theorem dX5_isExplainedBy_49 : decode cX5_isExplainedBy 49 = .ok (.ireturn, 1) := by decide +kernel
theorem dX5_isExplainedBy_50 : decode cX5_isExplainedBy 50 = .ok (.iinc 2 1, 3) := by decide +kernel
theorem dX5_isExplainedBy_53 : decode cX5_isExplainedBy 53 = .ok (.goto (-51), 3) := by decide +kernel
theorem dX5_isExplainedBy_56 : decode cX5_isExplainedBy 56 = .ok (.iconst 1, 1) := by decide +kernel
theorem dX5_isExplainedBy_57 : decode cX5_isExplainedBy 57 = .ok (.ireturn, 1) := by decide +kernel
