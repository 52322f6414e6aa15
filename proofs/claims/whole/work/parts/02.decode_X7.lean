-- decode rows (printed by program)
theorem dX7_init_0 : decode cX7_init 0 = .ok (.aload_n 0, 1) := by decide +kernel
theorem dX7_init_1 : decode cX7_init 1 = .ok (.invokespecial 3, 3) := by decide +kernel
theorem dX7_init_4 : decode cX7_init 4 = .ok (.aload_n 0, 1) := by decide +kernel
theorem dX7_init_5 : decode cX7_init 5 = .ok (.bipush 8, 2) := by decide +kernel
theorem dX7_init_7 : decode cX7_init 7 = .ok (.bipush 41, 2) := by decide +kernel
theorem dX7_init_9 : decode cX7_init 9 = .ok (.multianewarray 9 2, 4) := by decide +kernel
theorem dX7_init_13 : decode cX7_init 13 = .ok (.putfield 11, 3) := by decide +kernel
theorem dX7_init_16 : decode cX7_init 16 = .ok (.aload_n 0, 1) := by decide +kernel
theorem dX7_init_17 : decode cX7_init 17 = .ok (.bipush 8, 2) := by decide +kernel
theorem dX7_init_19 : decode cX7_init 19 = .ok (.bipush 41, 2) := by decide +kernel
theorem dX7_init_21 : decode cX7_init 21 = .ok (.multianewarray 9 2, 4) := by decide +kernel
theorem dX7_init_25 : decode cX7_init 25 = .ok (.putfield 16, 3) := by decide +kernel
theorem dX7_init_28 : decode cX7_init 28 = .ok (.aload_n 0, 1) := by decide +kernel
theorem dX7_init_29 : decode cX7_init 29 = .ok (.bipush 8, 2) := by decide +kernel
theorem dX7_init_31 : decode cX7_init 31 = .ok (.newarray .int, 2) := by decide +kernel
theorem dX7_init_33 : decode cX7_init 33 = .ok (.putfield 19, 3) := by decide +kernel
theorem dX7_init_36 : decode cX7_init 36 = .ok (.aload_n 0, 1) := by decide +kernel
theorem dX7_init_37 : decode cX7_init 37 = .ok (.bipush 8, 2) := by decide +kernel
theorem dX7_init_39 : decode cX7_init 39 = .ok (.newarray .int, 2) := by decide +kernel
theorem dX7_init_41 : decode cX7_init 41 = .ok (.putfield 23, 3) := by decide +kernel
theorem dX7_init_44 : decode cX7_init 44 = .ok (.aload_n 0, 1) := by decide +kernel
theorem dX7_init_45 : decode cX7_init 45 = .ok (.aload_n 1, 1) := by decide +kernel
theorem dX7_init_46 : decode cX7_init 46 = .ok (.putfield 26, 3) := by decide +kernel
theorem dX7_init_49 : decode cX7_init 49 = .ok (.return_, 1) := by decide +kernel
theorem dX7_refresh_0 : decode cX7_refresh 0 = .ok (.iconst 0, 1) := by decide +kernel
theorem dX7_refresh_1 : decode cX7_refresh 1 = .ok (.istore_n 1, 1) := by decide +kernel
theorem dX7_refresh_2 : decode cX7_refresh 2 = .ok (.iload_n 1, 1) := by decide +kernel
theorem dX7_refresh_3 : decode cX7_refresh 3 = .ok (.aload_n 0, 1) := by decide +kernel
theorem dX7_refresh_4 : decode cX7_refresh 4 = .ok (.getfield 26, 3) := by decide +kernel
theorem dX7_refresh_7 : decode cX7_refresh 7 = .ok (.getfield 30, 3) := by decide +kernel
theorem dX7_refresh_10 : decode cX7_refresh 10 = .ok (.if_icmp .ge 43, 3) := by decide +kernel
theorem dX7_refresh_13 : decode cX7_refresh 13 = .ok (.aload_n 0, 1) := by decide +kernel
theorem dX7_refresh_14 : decode cX7_refresh 14 = .ok (.iload_n 1, 1) := by decide +kernel
theorem dX7_refresh_15 : decode cX7_refresh 15 = .ok (.invokevirtual 36, 3) := by decide +kernel
theorem dX7_refresh_18 : decode cX7_refresh 18 = .ok (.aload_n 0, 1) := by decide +kernel
theorem dX7_refresh_19 : decode cX7_refresh 19 = .ok (.aload_n 0, 1) := by decide +kernel
theorem dX7_refresh_20 : decode cX7_refresh 20 = .ok (.getfield 16, 3) := by decide +kernel
theorem dX7_refresh_23 : decode cX7_refresh 23 = .ok (.iload_n 1, 1) := by decide +kernel
theorem dX7_refresh_24 : decode cX7_refresh 24 = .ok (.aaload, 1) := by decide +kernel
theorem dX7_refresh_25 : decode cX7_refresh 25 = .ok (.iload_n 1, 1) := by decide +kernel
theorem dX7_refresh_26 : decode cX7_refresh 26 = .ok (.aload_n 0, 1) := by decide +kernel
theorem dX7_refresh_27 : decode cX7_refresh 27 = .ok (.getfield 26, 3) := by decide +kernel
theorem dX7_refresh_30 : decode cX7_refresh 30 = .ok (.iload_n 1, 1) := by decide +kernel
theorem dX7_refresh_31 : decode cX7_refresh 31 = .ok (.iconst 3, 1) := by decide +kernel
theorem dX7_refresh_32 : decode cX7_refresh 32 = .ok (.invokevirtual 40, 3) := by decide +kernel
theorem dX7_refresh_35 : decode cX7_refresh 35 = .ok (.aload_n 0, 1) := by decide +kernel
theorem dX7_refresh_36 : decode cX7_refresh 36 = .ok (.getfield 26, 3) := by decide +kernel
theorem dX7_refresh_39 : decode cX7_refresh 39 = .ok (.iload_n 1, 1) := by decide +kernel
theorem dX7_refresh_40 : decode cX7_refresh 40 = .ok (.iconst 4, 1) := by decide +kernel
theorem dX7_refresh_41 : decode cX7_refresh 41 = .ok (.invokevirtual 40, 3) := by decide +kernel
theorem dX7_refresh_44 : decode cX7_refresh 44 = .ok (.invokevirtual 44, 3) := by decide +kernel
theorem dX7_refresh_47 : decode cX7_refresh 47 = .ok (.iinc 1 1, 3) := by decide +kernel
theorem dX7_refresh_50 : decode cX7_refresh 50 = .ok (.goto (-48), 3) := by decide +kernel
theorem dX7_refresh_53 : decode cX7_refresh 53 = .ok (.aload_n 0, 1) := by decide +kernel
theorem dX7_refresh_54 : decode cX7_refresh 54 = .ok (.iconst 0, 1) := by decide +kernel
theorem dX7_refresh_55 : decode cX7_refresh 55 = .ok (.putfield 48, 3) := by decide +kernel
theorem dX7_refresh_58 : decode cX7_refresh 58 = .ok (.return_, 1) := by decide +kernel
theorem dX7_fillPlaces_0 : decode cX7_fillPlaces 0 = .ok (.aload_n 0, 1) := by decide +kernel
theorem dX7_fillPlaces_1 : decode cX7_fillPlaces 1 = .ok (.getfield 26, 3) := by decide +kernel
theorem dX7_fillPlaces_4 : decode cX7_fillPlaces 4 = .ok (.iload_n 1, 1) := by decide +kernel
theorem dX7_fillPlaces_5 : decode cX7_fillPlaces 5 = .ok (.iconst 0, 1) := by decide +kernel
theorem dX7_fillPlaces_6 : decode cX7_fillPlaces 6 = .ok (.invokevirtual 40, 3) := by decide +kernel
theorem dX7_fillPlaces_9 : decode cX7_fillPlaces 9 = .ok (.aload_n 0, 1) := by decide +kernel
theorem dX7_fillPlaces_10 : decode cX7_fillPlaces 10 = .ok (.getfield 26, 3) := by decide +kernel
theorem dX7_fillPlaces_13 : decode cX7_fillPlaces 13 = .ok (.invokevirtual 52, 3) := by decide +kernel
theorem dX7_fillPlaces_16 : decode cX7_fillPlaces 16 = .ok (.iadd, 1) := by decide +kernel
theorem dX7_fillPlaces_17 : decode cX7_fillPlaces 17 = .ok (.istore_n 2, 1) := by decide +kernel
theorem dX7_fillPlaces_18 : decode cX7_fillPlaces 18 = .ok (.aload_n 0, 1) := by decide +kernel
theorem dX7_fillPlaces_19 : decode cX7_fillPlaces 19 = .ok (.getfield 26, 3) := by decide +kernel
theorem dX7_fillPlaces_22 : decode cX7_fillPlaces 22 = .ok (.iload_n 1, 1) := by decide +kernel
theorem dX7_fillPlaces_23 : decode cX7_fillPlaces 23 = .ok (.iconst 2, 1) := by decide +kernel
theorem dX7_fillPlaces_24 : decode cX7_fillPlaces 24 = .ok (.invokevirtual 40, 3) := by decide +kernel
theorem dX7_fillPlaces_27 : decode cX7_fillPlaces 27 = .ok (.istore_n 3, 1) := by decide +kernel
theorem dX7_fillPlaces_28 : decode cX7_fillPlaces 28 = .ok (.iconst 0, 1) := by decide +kernel
theorem dX7_fillPlaces_29 : decode cX7_fillPlaces 29 = .ok (.istore 4, 2) := by decide +kernel
theorem dX7_fillPlaces_31 : decode cX7_fillPlaces 31 = .ok (.iload 4, 2) := by decide +kernel
theorem dX7_fillPlaces_33 : decode cX7_fillPlaces 33 = .ok (.aload_n 0, 1) := by decide +kernel
theorem dX7_fillPlaces_34 : decode cX7_fillPlaces 34 = .ok (.getfield 26, 3) := by decide +kernel
theorem dX7_fillPlaces_37 : decode cX7_fillPlaces 37 = .ok (.getfield 56, 3) := by decide +kernel
theorem dX7_fillPlaces_40 : decode cX7_fillPlaces 40 = .ok (.if_icmp .gt 35, 3) := by decide +kernel
theorem dX7_fillPlaces_43 : decode cX7_fillPlaces 43 = .ok (.aload_n 0, 1) := by decide +kernel
theorem dX7_fillPlaces_44 : decode cX7_fillPlaces 44 = .ok (.getfield 11, 3) := by decide +kernel
theorem dX7_fillPlaces_47 : decode cX7_fillPlaces 47 = .ok (.iload_n 1, 1) := by decide +kernel
theorem dX7_fillPlaces_48 : decode cX7_fillPlaces 48 = .ok (.aaload, 1) := by decide +kernel
theorem dX7_fillPlaces_49 : decode cX7_fillPlaces 49 = .ok (.iload 4, 2) := by decide +kernel
theorem dX7_fillPlaces_51 : decode cX7_fillPlaces 51 = .ok (.iload_n 2, 1) := by decide +kernel
theorem dX7_fillPlaces_52 : decode cX7_fillPlaces 52 = .ok (.aload_n 0, 1) := by decide +kernel
theorem dX7_fillPlaces_53 : decode cX7_fillPlaces 53 = .ok (.getfield 26, 3) := by decide +kernel
theorem dX7_fillPlaces_56 : decode cX7_fillPlaces 56 = .ok (.getfield 56, 3) := by decide +kernel
theorem dX7_fillPlaces_59 : decode cX7_fillPlaces 59 = .ok (.iload 4, 2) := by decide +kernel
theorem dX7_fillPlaces_61 : decode cX7_fillPlaces 61 = .ok (.isub, 1) := by decide +kernel
theorem dX7_fillPlaces_62 : decode cX7_fillPlaces 62 = .ok (.imul, 1) := by decide +kernel
theorem dX7_fillPlaces_63 : decode cX7_fillPlaces 63 = .ok (.iload_n 3, 1) := by decide +kernel
theorem dX7_fillPlaces_64 : decode cX7_fillPlaces 64 = .ok (.iload 4, 2) := by decide +kernel
theorem dX7_fillPlaces_66 : decode cX7_fillPlaces 66 = .ok (.imul, 1) := by decide +kernel
theorem dX7_fillPlaces_67 : decode cX7_fillPlaces 67 = .ok (.iadd, 1) := by decide +kernel
theorem dX7_fillPlaces_68 : decode cX7_fillPlaces 68 = .ok (.iastore, 1) := by decide +kernel
theorem dX7_fillPlaces_69 : decode cX7_fillPlaces 69 = .ok (.iinc 4 1, 3) := by decide +kernel
theorem dX7_fillPlaces_72 : decode cX7_fillPlaces 72 = .ok (.goto (-41), 3) := by decide +kernel
theorem dX7_fillPlaces_75 : decode cX7_fillPlaces 75 = .ok (.return_, 1) := by decide +kernel
theorem dX7_fillHeights_0 : decode cX7_fillHeights 0 = .ok (.bipush 10, 2) := by decide +kernel
theorem dX7_fillHeights_2 : decode cX7_fillHeights 2 = .ok (.aload_n 0, 1) := by decide +kernel
theorem dX7_fillHeights_3 : decode cX7_fillHeights 3 = .ok (.getfield 26, 3) := by decide +kernel
theorem dX7_fillHeights_6 : decode cX7_fillHeights 6 = .ok (.iload_n 2, 1) := by decide +kernel
theorem dX7_fillHeights_7 : decode cX7_fillHeights 7 = .ok (.iconst 1, 1) := by decide +kernel
theorem dX7_fillHeights_8 : decode cX7_fillHeights 8 = .ok (.invokevirtual 40, 3) := by decide +kernel
theorem dX7_fillHeights_11 : decode cX7_fillHeights 11 = .ok (.imul, 1) := by decide +kernel
theorem dX7_fillHeights_12 : decode cX7_fillHeights 12 = .ok (.istore 5, 2) := by decide +kernel
theorem dX7_fillHeights_14 : decode cX7_fillHeights 14 = .ok (.aload_n 1, 1) := by decide +kernel
theorem dX7_fillHeights_15 : decode cX7_fillHeights 15 = .ok (.iconst 0, 1) := by decide +kernel
theorem dX7_fillHeights_16 : decode cX7_fillHeights 16 = .ok (.iload 5, 2) := by decide +kernel
theorem dX7_fillHeights_18 : decode cX7_fillHeights 18 = .ok (.iastore, 1) := by decide +kernel
theorem dX7_fillHeights_19 : decode cX7_fillHeights 19 = .ok (.iconst 1, 1) := by decide +kernel
theorem dX7_fillHeights_20 : decode cX7_fillHeights 20 = .ok (.istore 6, 2) := by decide +kernel
theorem dX7_fillHeights_22 : decode cX7_fillHeights 22 = .ok (.iload 6, 2) := by decide +kernel
theorem dX7_fillHeights_24 : decode cX7_fillHeights 24 = .ok (.aload_n 0, 1) := by decide +kernel
theorem dX7_fillHeights_25 : decode cX7_fillHeights 25 = .ok (.getfield 26, 3) := by decide +kernel
theorem dX7_fillHeights_28 : decode cX7_fillHeights 28 = .ok (.getfield 56, 3) := by decide +kernel
theorem dX7_fillHeights_31 : decode cX7_fillHeights 31 = .ok (.if_icmp .ge 24, 3) := by decide +kernel
theorem dX7_fillHeights_34 : decode cX7_fillHeights 34 = .ok (.aload_n 1, 1) := by decide +kernel
theorem dX7_fillHeights_35 : decode cX7_fillHeights 35 = .ok (.iload 6, 2) := by decide +kernel
theorem dX7_fillHeights_37 : decode cX7_fillHeights 37 = .ok (.aload_n 0, 1) := by decide +kernel
theorem dX7_fillHeights_38 : decode cX7_fillHeights 38 = .ok (.iload 5, 2) := by decide +kernel
theorem dX7_fillHeights_40 : decode cX7_fillHeights 40 = .ok (.iload_n 3, 1) := by decide +kernel
theorem dX7_fillHeights_41 : decode cX7_fillHeights 41 = .ok (.iload 4, 2) := by decide +kernel
theorem dX7_fillHeights_43 : decode cX7_fillHeights 43 = .ok (.iload 6, 2) := by decide +kernel
theorem dX7_fillHeights_45 : decode cX7_fillHeights 45 = .ok (.invokevirtual 59, 3) := by decide +kernel
theorem dX7_fillHeights_48 : decode cX7_fillHeights 48 = .ok (.iastore, 1) := by decide +kernel
theorem dX7_fillHeights_49 : decode cX7_fillHeights 49 = .ok (.iinc 6 1, 3) := by decide +kernel
theorem dX7_fillHeights_52 : decode cX7_fillHeights 52 = .ok (.goto (-30), 3) := by decide +kernel
theorem dX7_fillHeights_55 : decode cX7_fillHeights 55 = .ok (.aload_n 1, 1) := by decide +kernel
theorem dX7_fillHeights_56 : decode cX7_fillHeights 56 = .ok (.aload_n 0, 1) := by decide +kernel
theorem dX7_fillHeights_57 : decode cX7_fillHeights 57 = .ok (.getfield 26, 3) := by decide +kernel
theorem dX7_fillHeights_60 : decode cX7_fillHeights 60 = .ok (.getfield 56, 3) := by decide +kernel
theorem dX7_fillHeights_63 : decode cX7_fillHeights 63 = .ok (.iconst 0, 1) := by decide +kernel
theorem dX7_fillHeights_64 : decode cX7_fillHeights 64 = .ok (.iastore, 1) := by decide +kernel
theorem dX7_fillHeights_65 : decode cX7_fillHeights 65 = .ok (.return_, 1) := by decide +kernel
theorem dX7_heightBetween_0 : decode cX7_heightBetween 0 = .ok (.aload_n 0, 1) := by decide +kernel
theorem dX7_heightBetween_1 : decode cX7_heightBetween 1 = .ok (.getfield 26, 3) := by decide +kernel
theorem dX7_heightBetween_4 : decode cX7_heightBetween 4 = .ok (.getfield 56, 3) := by decide +kernel
theorem dX7_heightBetween_7 : decode cX7_heightBetween 7 = .ok (.istore 5, 2) := by decide +kernel
theorem dX7_heightBetween_9 : decode cX7_heightBetween 9 = .ok (.iload_n 2, 1) := by decide +kernel
theorem dX7_heightBetween_10 : decode cX7_heightBetween 10 = .ok (.ifCond .ne 7, 3) := by decide +kernel
theorem dX7_heightBetween_13 : decode cX7_heightBetween 13 = .ok (.iload_n 1, 1) := by decide +kernel
theorem dX7_heightBetween_14 : decode cX7_heightBetween 14 = .ok (.iload_n 3, 1) := by decide +kernel
theorem dX7_heightBetween_15 : decode cX7_heightBetween 15 = .ok (.iadd, 1) := by decide +kernel
theorem dX7_heightBetween_16 : decode cX7_heightBetween 16 = .ok (.ireturn, 1) := by decide +kernel
theorem dX7_heightBetween_17 : decode cX7_heightBetween 17 = .ok (.iload_n 2, 1) := by decide +kernel
theorem dX7_heightBetween_18 : decode cX7_heightBetween 18 = .ok (.iconst 1, 1) := by decide +kernel
theorem dX7_heightBetween_19 : decode cX7_heightBetween 19 = .ok (.if_icmp .ne 37, 3) := by decide +kernel
theorem dX7_heightBetween_22 : decode cX7_heightBetween 22 = .ok (.iload_n 1, 1) := by decide +kernel
theorem dX7_heightBetween_23 : decode cX7_heightBetween 23 = .ok (.iload 5, 2) := by decide +kernel
theorem dX7_heightBetween_25 : decode cX7_heightBetween 25 = .ok (.iload 4, 2) := by decide +kernel
theorem dX7_heightBetween_27 : decode cX7_heightBetween 27 = .ok (.isub, 1) := by decide +kernel
theorem dX7_heightBetween_28 : decode cX7_heightBetween 28 = .ok (.imul, 1) := by decide +kernel
theorem dX7_heightBetween_29 : decode cX7_heightBetween 29 = .ok (.iload 5, 2) := by decide +kernel
theorem dX7_heightBetween_31 : decode cX7_heightBetween 31 = .ok (.invokestatic 63, 3) := by decide +kernel
theorem dX7_heightBetween_34 : decode cX7_heightBetween 34 = .ok (.iconst 4, 1) := by decide +kernel
theorem dX7_heightBetween_35 : decode cX7_heightBetween 35 = .ok (.iload_n 3, 1) := by decide +kernel
theorem dX7_heightBetween_36 : decode cX7_heightBetween 36 = .ok (.imul, 1) := by decide +kernel
theorem dX7_heightBetween_37 : decode cX7_heightBetween 37 = .ok (.iload 4, 2) := by decide +kernel
theorem dX7_heightBetween_39 : decode cX7_heightBetween 39 = .ok (.imul, 1) := by decide +kernel
theorem dX7_heightBetween_40 : decode cX7_heightBetween 40 = .ok (.iload 5, 2) := by decide +kernel
theorem dX7_heightBetween_42 : decode cX7_heightBetween 42 = .ok (.iload 4, 2) := by decide +kernel
theorem dX7_heightBetween_44 : decode cX7_heightBetween 44 = .ok (.isub, 1) := by decide +kernel
theorem dX7_heightBetween_45 : decode cX7_heightBetween 45 = .ok (.imul, 1) := by decide +kernel
theorem dX7_heightBetween_46 : decode cX7_heightBetween 46 = .ok (.iload 5, 2) := by decide +kernel
theorem dX7_heightBetween_48 : decode cX7_heightBetween 48 = .ok (.iload 5, 2) := by decide +kernel
theorem dX7_heightBetween_50 : decode cX7_heightBetween 50 = .ok (.imul, 1) := by decide +kernel
theorem dX7_heightBetween_51 : decode cX7_heightBetween 51 = .ok (.invokestatic 63, 3) := by decide +kernel
theorem dX7_heightBetween_54 : decode cX7_heightBetween 54 = .ok (.iadd, 1) := by decide +kernel
theorem dX7_heightBetween_55 : decode cX7_heightBetween 55 = .ok (.ireturn, 1) := by decide +kernel
theorem dX7_heightBetween_56 : decode cX7_heightBetween 56 = .ok (.iload 5, 2) := by decide +kernel
theorem dX7_heightBetween_58 : decode cX7_heightBetween 58 = .ok (.iconst 4, 1) := by decide +kernel
theorem dX7_heightBetween_59 : decode cX7_heightBetween 59 = .ok (.invokestatic 63, 3) := by decide +kernel
theorem dX7_heightBetween_62 : decode cX7_heightBetween 62 = .ok (.istore 6, 2) := by decide +kernel
theorem dX7_heightBetween_64 : decode cX7_heightBetween 64 = .ok (.iload 4, 2) := by decide +kernel
theorem dX7_heightBetween_66 : decode cX7_heightBetween 66 = .ok (.iload 6, 2) := by decide +kernel
theorem dX7_heightBetween_68 : decode cX7_heightBetween 68 = .ok (.if_icmp .ge 15, 3) := by decide +kernel
theorem dX7_heightBetween_71 : decode cX7_heightBetween 71 = .ok (.iload_n 1, 1) := by decide +kernel
theorem dX7_heightBetween_72 : decode cX7_heightBetween 72 = .ok (.iload_n 3, 1) := by decide +kernel
theorem dX7_heightBetween_73 : decode cX7_heightBetween 73 = .ok (.iload 4, 2) := by decide +kernel
theorem dX7_heightBetween_75 : decode cX7_heightBetween 75 = .ok (.imul, 1) := by decide +kernel
theorem dX7_heightBetween_76 : decode cX7_heightBetween 76 = .ok (.iload 6, 2) := by decide +kernel
theorem dX7_heightBetween_78 : decode cX7_heightBetween 78 = .ok (.invokestatic 63, 3) := by decide +kernel
theorem dX7_heightBetween_81 : decode cX7_heightBetween 81 = .ok (.iadd, 1) := by decide +kernel
theorem dX7_heightBetween_82 : decode cX7_heightBetween 82 = .ok (.ireturn, 1) := by decide +kernel
theorem dX7_heightBetween_83 : decode cX7_heightBetween 83 = .ok (.iload_n 1, 1) := by decide +kernel
theorem dX7_heightBetween_84 : decode cX7_heightBetween 84 = .ok (.iload_n 3, 1) := by decide +kernel
theorem dX7_heightBetween_85 : decode cX7_heightBetween 85 = .ok (.iadd, 1) := by decide +kernel
theorem dX7_heightBetween_86 : decode cX7_heightBetween 86 = .ok (.iload 5, 2) := by decide +kernel
theorem dX7_heightBetween_88 : decode cX7_heightBetween 88 = .ok (.iload 4, 2) := by decide +kernel
theorem dX7_heightBetween_90 : decode cX7_heightBetween 90 = .ok (.isub, 1) := by decide +kernel
theorem dX7_heightBetween_91 : decode cX7_heightBetween 91 = .ok (.imul, 1) := by decide +kernel
theorem dX7_heightBetween_92 : decode cX7_heightBetween 92 = .ok (.iload 5, 2) := by decide +kernel
theorem dX7_heightBetween_94 : decode cX7_heightBetween 94 = .ok (.iload 6, 2) := by decide +kernel
theorem dX7_heightBetween_96 : decode cX7_heightBetween 96 = .ok (.isub, 1) := by decide +kernel
theorem dX7_heightBetween_97 : decode cX7_heightBetween 97 = .ok (.invokestatic 63, 3) := by decide +kernel
theorem dX7_heightBetween_100 : decode cX7_heightBetween 100 = .ok (.ireturn, 1) := by decide +kernel
theorem dX7_cut_0 : decode cX7_cut 0 = .ok (.iload_n 1, 1) := by decide +kernel
theorem dX7_cut_1 : decode cX7_cut 1 = .ok (.ifCond .le 9, 3) := by decide +kernel
theorem dX7_cut_4 : decode cX7_cut 4 = .ok (.iload_n 0, 1) := by decide +kernel
theorem dX7_cut_5 : decode cX7_cut 5 = .ok (.iload_n 1, 1) := by decide +kernel
theorem dX7_cut_6 : decode cX7_cut 6 = .ok (.idiv, 1) := by decide +kernel
theorem dX7_cut_7 : decode cX7_cut 7 = .ok (.goto 4, 3) := by decide +kernel
theorem dX7_cut_10 : decode cX7_cut 10 = .ok (.iconst 0, 1) := by decide +kernel
theorem dX7_cut_11 : decode cX7_cut 11 = .ok (.ireturn, 1) := by decide +kernel
theorem dX7_placeOf_0 : decode cX7_placeOf 0 = .ok (.aload_n 0, 1) := by decide +kernel
theorem dX7_placeOf_1 : decode cX7_placeOf 1 = .ok (.getfield 11, 3) := by decide +kernel
theorem dX7_placeOf_4 : decode cX7_placeOf 4 = .ok (.iload_n 1, 1) := by decide +kernel
theorem dX7_placeOf_5 : decode cX7_placeOf 5 = .ok (.aaload, 1) := by decide +kernel
theorem dX7_placeOf_6 : decode cX7_placeOf 6 = .ok (.iload_n 2, 1) := by decide +kernel
theorem dX7_placeOf_7 : decode cX7_placeOf 7 = .ok (.iaload, 1) := by decide +kernel
theorem dX7_placeOf_8 : decode cX7_placeOf 8 = .ok (.ireturn, 1) := by decide +kernel
theorem dX7_heightOf_0 : decode cX7_heightOf 0 = .ok (.aload_n 0, 1) := by decide +kernel
theorem dX7_heightOf_1 : decode cX7_heightOf 1 = .ok (.getfield 16, 3) := by decide +kernel
theorem dX7_heightOf_4 : decode cX7_heightOf 4 = .ok (.iload_n 1, 1) := by decide +kernel
theorem dX7_heightOf_5 : decode cX7_heightOf 5 = .ok (.aaload, 1) := by decide +kernel
theorem dX7_heightOf_6 : decode cX7_heightOf 6 = .ok (.iload_n 2, 1) := by decide +kernel
theorem dX7_heightOf_7 : decode cX7_heightOf 7 = .ok (.iaload, 1) := by decide +kernel
theorem dX7_heightOf_8 : decode cX7_heightOf 8 = .ok (.ireturn, 1) := by decide +kernel
theorem dX7_longOf_0 : decode cX7_longOf 0 = .ok (.aload_n 0, 1) := by decide +kernel
theorem dX7_longOf_1 : decode cX7_longOf 1 = .ok (.getfield 16, 3) := by decide +kernel
theorem dX7_longOf_4 : decode cX7_longOf 4 = .ok (.iload_n 1, 1) := by decide +kernel
theorem dX7_longOf_5 : decode cX7_longOf 5 = .ok (.aaload, 1) := by decide +kernel
theorem dX7_longOf_6 : decode cX7_longOf 6 = .ok (.astore_n 2, 1) := by decide +kernel
theorem dX7_longOf_7 : decode cX7_longOf 7 = .ok (.aload_n 0, 1) := by decide +kernel
theorem dX7_longOf_8 : decode cX7_longOf 8 = .ok (.getfield 26, 3) := by decide +kernel
theorem dX7_longOf_11 : decode cX7_longOf 11 = .ok (.getfield 56, 3) := by decide +kernel
theorem dX7_longOf_14 : decode cX7_longOf 14 = .ok (.istore_n 3, 1) := by decide +kernel
theorem dX7_longOf_15 : decode cX7_longOf 15 = .ok (.iload_n 3, 1) := by decide +kernel
theorem dX7_longOf_16 : decode cX7_longOf 16 = .ok (.aload_n 0, 1) := by decide +kernel
theorem dX7_longOf_17 : decode cX7_longOf 17 = .ok (.getfield 11, 3) := by decide +kernel
theorem dX7_longOf_20 : decode cX7_longOf 20 = .ok (.iload_n 1, 1) := by decide +kernel
theorem dX7_longOf_21 : decode cX7_longOf 21 = .ok (.aaload, 1) := by decide +kernel
theorem dX7_longOf_22 : decode cX7_longOf 22 = .ok (.iconst 0, 1) := by decide +kernel
theorem dX7_longOf_23 : decode cX7_longOf 23 = .ok (.iaload, 1) := by decide +kernel
theorem dX7_longOf_24 : decode cX7_longOf 24 = .ok (.aload_n 0, 1) := by decide +kernel
theorem dX7_longOf_25 : decode cX7_longOf 25 = .ok (.getfield 11, 3) := by decide +kernel
theorem dX7_longOf_28 : decode cX7_longOf 28 = .ok (.iload_n 1, 1) := by decide +kernel
theorem dX7_longOf_29 : decode cX7_longOf 29 = .ok (.aaload, 1) := by decide +kernel
theorem dX7_longOf_30 : decode cX7_longOf 30 = .ok (.iload_n 3, 1) := by decide +kernel
theorem dX7_longOf_31 : decode cX7_longOf 31 = .ok (.iaload, 1) := by decide +kernel
theorem dX7_longOf_32 : decode cX7_longOf 32 = .ok (.isub, 1) := by decide +kernel
theorem dX7_longOf_33 : decode cX7_longOf 33 = .ok (.invokestatic 66, 3) := by decide +kernel
theorem dX7_longOf_36 : decode cX7_longOf 36 = .ok (.iload_n 3, 1) := by decide +kernel
theorem dX7_longOf_37 : decode cX7_longOf 37 = .ok (.invokestatic 63, 3) := by decide +kernel
theorem dX7_longOf_40 : decode cX7_longOf 40 = .ok (.iadd, 1) := by decide +kernel
theorem dX7_longOf_41 : decode cX7_longOf 41 = .ok (.istore 4, 2) := by decide +kernel
theorem dX7_longOf_43 : decode cX7_longOf 43 = .ok (.iconst 0, 1) := by decide +kernel
theorem dX7_longOf_44 : decode cX7_longOf 44 = .ok (.istore 5, 2) := by decide +kernel
theorem dX7_longOf_46 : decode cX7_longOf 46 = .ok (.iload 5, 2) := by decide +kernel
theorem dX7_longOf_48 : decode cX7_longOf 48 = .ok (.iload_n 3, 1) := by decide +kernel
theorem dX7_longOf_49 : decode cX7_longOf 49 = .ok (.if_icmp .ge 28, 3) := by decide +kernel
theorem dX7_longOf_52 : decode cX7_longOf 52 = .ok (.iload 4, 2) := by decide +kernel
theorem dX7_longOf_54 : decode cX7_longOf 54 = .ok (.aload_n 2, 1) := by decide +kernel
theorem dX7_longOf_55 : decode cX7_longOf 55 = .ok (.iload 5, 2) := by decide +kernel
theorem dX7_longOf_57 : decode cX7_longOf 57 = .ok (.iaload, 1) := by decide +kernel
theorem dX7_longOf_58 : decode cX7_longOf 58 = .ok (.aload_n 2, 1) := by decide +kernel
theorem dX7_longOf_59 : decode cX7_longOf 59 = .ok (.iload 5, 2) := by decide +kernel
theorem dX7_longOf_61 : decode cX7_longOf 61 = .ok (.iconst 1, 1) := by decide +kernel
theorem dX7_longOf_62 : decode cX7_longOf 62 = .ok (.iadd, 1) := by decide +kernel
theorem dX7_longOf_63 : decode cX7_longOf 63 = .ok (.iaload, 1) := by decide +kernel
theorem dX7_longOf_64 : decode cX7_longOf 64 = .ok (.isub, 1) := by decide +kernel
theorem dX7_longOf_65 : decode cX7_longOf 65 = .ok (.invokestatic 66, 3) := by decide +kernel
theorem dX7_longOf_68 : decode cX7_longOf 68 = .ok (.iadd, 1) := by decide +kernel
theorem dX7_longOf_69 : decode cX7_longOf 69 = .ok (.istore 4, 2) := by decide +kernel
theorem dX7_longOf_71 : decode cX7_longOf 71 = .ok (.iinc 5 1, 3) := by decide +kernel
theorem dX7_longOf_74 : decode cX7_longOf 74 = .ok (.goto (-28), 3) := by decide +kernel
theorem dX7_longOf_77 : decode cX7_longOf 77 = .ok (.iload 4, 2) := by decide +kernel
theorem dX7_longOf_79 : decode cX7_longOf 79 = .ok (.ireturn, 1) := by decide +kernel
theorem dX7_longOfAll_0 : decode cX7_longOfAll 0 = .ok (.iconst 0, 1) := by decide +kernel
theorem dX7_longOfAll_1 : decode cX7_longOfAll 1 = .ok (.istore_n 1, 1) := by decide +kernel
theorem dX7_longOfAll_2 : decode cX7_longOfAll 2 = .ok (.iconst 0, 1) := by decide +kernel
theorem dX7_longOfAll_3 : decode cX7_longOfAll 3 = .ok (.istore_n 2, 1) := by decide +kernel
theorem dX7_longOfAll_4 : decode cX7_longOfAll 4 = .ok (.iload_n 2, 1) := by decide +kernel
theorem dX7_longOfAll_5 : decode cX7_longOfAll 5 = .ok (.aload_n 0, 1) := by decide +kernel
theorem dX7_longOfAll_6 : decode cX7_longOfAll 6 = .ok (.getfield 26, 3) := by decide +kernel
theorem dX7_longOfAll_9 : decode cX7_longOfAll 9 = .ok (.getfield 30, 3) := by decide +kernel
theorem dX7_longOfAll_12 : decode cX7_longOfAll 12 = .ok (.if_icmp .ge 17, 3) := by decide +kernel
theorem dX7_longOfAll_15 : decode cX7_longOfAll 15 = .ok (.iload_n 1, 1) := by decide +kernel
theorem dX7_longOfAll_16 : decode cX7_longOfAll 16 = .ok (.aload_n 0, 1) := by decide +kernel
theorem dX7_longOfAll_17 : decode cX7_longOfAll 17 = .ok (.iload_n 2, 1) := by decide +kernel
theorem dX7_longOfAll_18 : decode cX7_longOfAll 18 = .ok (.invokevirtual 72, 3) := by decide +kernel
theorem dX7_longOfAll_21 : decode cX7_longOfAll 21 = .ok (.iadd, 1) := by decide +kernel
theorem dX7_longOfAll_22 : decode cX7_longOfAll 22 = .ok (.istore_n 1, 1) := by decide +kernel
theorem dX7_longOfAll_23 : decode cX7_longOfAll 23 = .ok (.iinc 2 1, 3) := by decide +kernel
theorem dX7_longOfAll_26 : decode cX7_longOfAll 26 = .ok (.goto (-22), 3) := by decide +kernel
theorem dX7_longOfAll_29 : decode cX7_longOfAll 29 = .ok (.iload_n 1, 1) := by decide +kernel
theorem dX7_longOfAll_30 : decode cX7_longOfAll 30 = .ok (.ireturn, 1) := by decide +kernel
theorem dX7_topRow_0 : decode cX7_topRow 0 = .ok (.iconst 0, 1) := by decide +kernel
theorem dX7_topRow_1 : decode cX7_topRow 1 = .ok (.istore_n 2, 1) := by decide +kernel
theorem dX7_topRow_2 : decode cX7_topRow 2 = .ok (.iconst 1, 1) := by decide +kernel
theorem dX7_topRow_3 : decode cX7_topRow 3 = .ok (.istore_n 3, 1) := by decide +kernel
theorem dX7_topRow_4 : decode cX7_topRow 4 = .ok (.iload_n 3, 1) := by decide +kernel
theorem dX7_topRow_5 : decode cX7_topRow 5 = .ok (.aload_n 0, 1) := by decide +kernel
theorem dX7_topRow_6 : decode cX7_topRow 6 = .ok (.getfield 26, 3) := by decide +kernel
theorem dX7_topRow_9 : decode cX7_topRow 9 = .ok (.getfield 56, 3) := by decide +kernel
theorem dX7_topRow_12 : decode cX7_topRow 12 = .ok (.if_icmp .gt 30, 3) := by decide +kernel
theorem dX7_topRow_15 : decode cX7_topRow 15 = .ok (.aload_n 0, 1) := by decide +kernel
theorem dX7_topRow_16 : decode cX7_topRow 16 = .ok (.getfield 16, 3) := by decide +kernel
theorem dX7_topRow_19 : decode cX7_topRow 19 = .ok (.iload_n 1, 1) := by decide +kernel
theorem dX7_topRow_20 : decode cX7_topRow 20 = .ok (.aaload, 1) := by decide +kernel
theorem dX7_topRow_21 : decode cX7_topRow 21 = .ok (.iload_n 3, 1) := by decide +kernel
theorem dX7_topRow_22 : decode cX7_topRow 22 = .ok (.iaload, 1) := by decide +kernel
theorem dX7_topRow_23 : decode cX7_topRow 23 = .ok (.aload_n 0, 1) := by decide +kernel
theorem dX7_topRow_24 : decode cX7_topRow 24 = .ok (.getfield 16, 3) := by decide +kernel
theorem dX7_topRow_27 : decode cX7_topRow 27 = .ok (.iload_n 1, 1) := by decide +kernel
theorem dX7_topRow_28 : decode cX7_topRow 28 = .ok (.aaload, 1) := by decide +kernel
theorem dX7_topRow_29 : decode cX7_topRow 29 = .ok (.iload_n 2, 1) := by decide +kernel
theorem dX7_topRow_30 : decode cX7_topRow 30 = .ok (.iaload, 1) := by decide +kernel
theorem dX7_topRow_31 : decode cX7_topRow 31 = .ok (.if_icmp .le 5, 3) := by decide +kernel
theorem dX7_topRow_34 : decode cX7_topRow 34 = .ok (.iload_n 3, 1) := by decide +kernel
theorem dX7_topRow_35 : decode cX7_topRow 35 = .ok (.istore_n 2, 1) := by decide +kernel
theorem dX7_topRow_36 : decode cX7_topRow 36 = .ok (.iinc 3 1, 3) := by decide +kernel
theorem dX7_topRow_39 : decode cX7_topRow 39 = .ok (.goto (-35), 3) := by decide +kernel
theorem dX7_topRow_42 : decode cX7_topRow 42 = .ok (.iload_n 2, 1) := by decide +kernel
theorem dX7_topRow_43 : decode cX7_topRow 43 = .ok (.ireturn, 1) := by decide +kernel
theorem dX7_closeAt_0 : decode cX7_closeAt 0 = .ok (.aload_n 0, 1) := by decide +kernel
theorem dX7_closeAt_1 : decode cX7_closeAt 1 = .ok (.getfield 11, 3) := by decide +kernel
theorem dX7_closeAt_4 : decode cX7_closeAt 4 = .ok (.iload_n 1, 1) := by decide +kernel
theorem dX7_closeAt_5 : decode cX7_closeAt 5 = .ok (.aaload, 1) := by decide +kernel
theorem dX7_closeAt_6 : decode cX7_closeAt 6 = .ok (.iload_n 3, 1) := by decide +kernel
theorem dX7_closeAt_7 : decode cX7_closeAt 7 = .ok (.iaload, 1) := by decide +kernel
theorem dX7_closeAt_8 : decode cX7_closeAt 8 = .ok (.aload_n 0, 1) := by decide +kernel
theorem dX7_closeAt_9 : decode cX7_closeAt 9 = .ok (.getfield 11, 3) := by decide +kernel
theorem dX7_closeAt_12 : decode cX7_closeAt 12 = .ok (.iload_n 2, 1) := by decide +kernel
theorem dX7_closeAt_13 : decode cX7_closeAt 13 = .ok (.aaload, 1) := by decide +kernel
theorem dX7_closeAt_14 : decode cX7_closeAt 14 = .ok (.iload_n 3, 1) := by decide +kernel
theorem dX7_closeAt_15 : decode cX7_closeAt 15 = .ok (.iaload, 1) := by decide +kernel
theorem dX7_closeAt_16 : decode cX7_closeAt 16 = .ok (.isub, 1) := by decide +kernel
theorem dX7_closeAt_17 : decode cX7_closeAt 17 = .ok (.invokestatic 66, 3) := by decide +kernel
theorem dX7_closeAt_20 : decode cX7_closeAt 20 = .ok (.aload_n 0, 1) := by decide +kernel
theorem dX7_closeAt_21 : decode cX7_closeAt 21 = .ok (.getfield 26, 3) := by decide +kernel
theorem dX7_closeAt_24 : decode cX7_closeAt 24 = .ok (.iconst 0, 1) := by decide +kernel
theorem dX7_closeAt_25 : decode cX7_closeAt 25 = .ok (.invokevirtual 75, 3) := by decide +kernel
theorem dX7_closeAt_28 : decode cX7_closeAt 28 = .ok (.aload_n 0, 1) := by decide +kernel
theorem dX7_closeAt_29 : decode cX7_closeAt 29 = .ok (.getfield 26, 3) := by decide +kernel
theorem dX7_closeAt_32 : decode cX7_closeAt 32 = .ok (.getfield 56, 3) := by decide +kernel
theorem dX7_closeAt_35 : decode cX7_closeAt 35 = .ok (.imul, 1) := by decide +kernel
theorem dX7_closeAt_36 : decode cX7_closeAt 36 = .ok (.if_icmp .ge 7, 3) := by decide +kernel
theorem dX7_closeAt_39 : decode cX7_closeAt 39 = .ok (.iconst 1, 1) := by decide +kernel
theorem dX7_closeAt_40 : decode cX7_closeAt 40 = .ok (.goto 4, 3) := by decide +kernel
theorem dX7_closeAt_43 : decode cX7_closeAt 43 = .ok (.iconst 0, 1) := by decide +kernel
theorem dX7_closeAt_44 : decode cX7_closeAt 44 = .ok (.ireturn, 1) := by decide +kernel
theorem dX7_nearAt_0 : decode cX7_nearAt 0 = .ok (.aload_n 0, 1) := by decide +kernel
theorem dX7_nearAt_1 : decode cX7_nearAt 1 = .ok (.iload_n 1, 1) := by decide +kernel
theorem dX7_nearAt_2 : decode cX7_nearAt 2 = .ok (.iload_n 2, 1) := by decide +kernel
theorem dX7_nearAt_3 : decode cX7_nearAt 3 = .ok (.iload_n 3, 1) := by decide +kernel
theorem dX7_nearAt_4 : decode cX7_nearAt 4 = .ok (.invokevirtual 78, 3) := by decide +kernel
theorem dX7_nearAt_7 : decode cX7_nearAt 7 = .ok (.ifCond .eq 38, 3) := by decide +kernel
theorem dX7_nearAt_10 : decode cX7_nearAt 10 = .ok (.aload_n 0, 1) := by decide +kernel
theorem dX7_nearAt_11 : decode cX7_nearAt 11 = .ok (.getfield 16, 3) := by decide +kernel
theorem dX7_nearAt_14 : decode cX7_nearAt 14 = .ok (.iload_n 1, 1) := by decide +kernel
theorem dX7_nearAt_15 : decode cX7_nearAt 15 = .ok (.aaload, 1) := by decide +kernel
theorem dX7_nearAt_16 : decode cX7_nearAt 16 = .ok (.iload_n 3, 1) := by decide +kernel
theorem dX7_nearAt_17 : decode cX7_nearAt 17 = .ok (.iaload, 1) := by decide +kernel
theorem dX7_nearAt_18 : decode cX7_nearAt 18 = .ok (.aload_n 0, 1) := by decide +kernel
theorem dX7_nearAt_19 : decode cX7_nearAt 19 = .ok (.getfield 16, 3) := by decide +kernel
theorem dX7_nearAt_22 : decode cX7_nearAt 22 = .ok (.iload_n 2, 1) := by decide +kernel
theorem dX7_nearAt_23 : decode cX7_nearAt 23 = .ok (.aaload, 1) := by decide +kernel
theorem dX7_nearAt_24 : decode cX7_nearAt 24 = .ok (.iload_n 3, 1) := by decide +kernel
theorem dX7_nearAt_25 : decode cX7_nearAt 25 = .ok (.iaload, 1) := by decide +kernel
theorem dX7_nearAt_26 : decode cX7_nearAt 26 = .ok (.isub, 1) := by decide +kernel
theorem dX7_nearAt_27 : decode cX7_nearAt 27 = .ok (.invokestatic 66, 3) := by decide +kernel
theorem dX7_nearAt_30 : decode cX7_nearAt 30 = .ok (.aload_n 0, 1) := by decide +kernel
theorem dX7_nearAt_31 : decode cX7_nearAt 31 = .ok (.getfield 26, 3) := by decide +kernel
theorem dX7_nearAt_34 : decode cX7_nearAt 34 = .ok (.iconst 1, 1) := by decide +kernel
theorem dX7_nearAt_35 : decode cX7_nearAt 35 = .ok (.invokevirtual 75, 3) := by decide +kernel
theorem dX7_nearAt_38 : decode cX7_nearAt 38 = .ok (.if_icmp .ge 7, 3) := by decide +kernel
theorem dX7_nearAt_41 : decode cX7_nearAt 41 = .ok (.iconst 1, 1) := by decide +kernel
theorem dX7_nearAt_42 : decode cX7_nearAt 42 = .ok (.goto 4, 3) := by decide +kernel
theorem dX7_nearAt_45 : decode cX7_nearAt 45 = .ok (.iconst 0, 1) := by decide +kernel
theorem dX7_nearAt_46 : decode cX7_nearAt 46 = .ok (.ireturn, 1) := by decide +kernel
theorem dX7_firstNear_0 : decode cX7_firstNear 0 = .ok (.iconst 0, 1) := by decide +kernel
theorem dX7_firstNear_1 : decode cX7_firstNear 1 = .ok (.istore_n 3, 1) := by decide +kernel
theorem dX7_firstNear_2 : decode cX7_firstNear 2 = .ok (.iload_n 3, 1) := by decide +kernel
theorem dX7_firstNear_3 : decode cX7_firstNear 3 = .ok (.aload_n 0, 1) := by decide +kernel
theorem dX7_firstNear_4 : decode cX7_firstNear 4 = .ok (.getfield 26, 3) := by decide +kernel
theorem dX7_firstNear_7 : decode cX7_firstNear 7 = .ok (.getfield 56, 3) := by decide +kernel
theorem dX7_firstNear_10 : decode cX7_firstNear 10 = .ok (.if_icmp .gt 21, 3) := by decide +kernel
theorem dX7_firstNear_13 : decode cX7_firstNear 13 = .ok (.aload_n 0, 1) := by decide +kernel
theorem dX7_firstNear_14 : decode cX7_firstNear 14 = .ok (.iload_n 1, 1) := by decide +kernel
theorem dX7_firstNear_15 : decode cX7_firstNear 15 = .ok (.iload_n 2, 1) := by decide +kernel
theorem dX7_firstNear_16 : decode cX7_firstNear 16 = .ok (.iload_n 3, 1) := by decide +kernel
theorem dX7_firstNear_17 : decode cX7_firstNear 17 = .ok (.invokevirtual 82, 3) := by decide +kernel
theorem dX7_firstNear_20 : decode cX7_firstNear 20 = .ok (.ifCond .eq 5, 3) := by decide +kernel
theorem dX7_firstNear_23 : decode cX7_firstNear 23 = .ok (.iload_n 3, 1) := by decide +kernel
theorem dX7_firstNear_24 : decode cX7_firstNear 24 = .ok (.ireturn, 1) := by decide +kernel
theorem dX7_firstNear_25 : decode cX7_firstNear 25 = .ok (.iinc 3 1, 3) := by decide +kernel
theorem dX7_firstNear_28 : decode cX7_firstNear 28 = .ok (.goto (-26), 3) := by decide +kernel
theorem dX7_firstNear_31 : decode cX7_firstNear 31 = .ok (.bipush (-4), 2) := by decide +kernel
theorem dX7_firstNear_33 : decode cX7_firstNear 33 = .ok (.ireturn, 1) := by decide +kernel
theorem dX7_nearRows_0 : decode cX7_nearRows 0 = .ok (.iconst 0, 1) := by decide +kernel
theorem dX7_nearRows_1 : decode cX7_nearRows 1 = .ok (.istore_n 3, 1) := by decide +kernel
theorem dX7_nearRows_2 : decode cX7_nearRows 2 = .ok (.iconst 0, 1) := by decide +kernel
theorem dX7_nearRows_3 : decode cX7_nearRows 3 = .ok (.istore 4, 2) := by decide +kernel
theorem dX7_nearRows_5 : decode cX7_nearRows 5 = .ok (.iload 4, 2) := by decide +kernel
theorem dX7_nearRows_7 : decode cX7_nearRows 7 = .ok (.aload_n 0, 1) := by decide +kernel
theorem dX7_nearRows_8 : decode cX7_nearRows 8 = .ok (.getfield 26, 3) := by decide +kernel
theorem dX7_nearRows_11 : decode cX7_nearRows 11 = .ok (.getfield 56, 3) := by decide +kernel
theorem dX7_nearRows_14 : decode cX7_nearRows 14 = .ok (.if_icmp .gt 23, 3) := by decide +kernel
theorem dX7_nearRows_17 : decode cX7_nearRows 17 = .ok (.aload_n 0, 1) := by decide +kernel
theorem dX7_nearRows_18 : decode cX7_nearRows 18 = .ok (.iload_n 1, 1) := by decide +kernel
theorem dX7_nearRows_19 : decode cX7_nearRows 19 = .ok (.iload_n 2, 1) := by decide +kernel
theorem dX7_nearRows_20 : decode cX7_nearRows 20 = .ok (.iload 4, 2) := by decide +kernel
theorem dX7_nearRows_22 : decode cX7_nearRows 22 = .ok (.invokevirtual 82, 3) := by decide +kernel
theorem dX7_nearRows_25 : decode cX7_nearRows 25 = .ok (.ifCond .eq 6, 3) := by decide +kernel
theorem dX7_nearRows_28 : decode cX7_nearRows 28 = .ok (.iinc 3 1, 3) := by decide +kernel
theorem dX7_nearRows_31 : decode cX7_nearRows 31 = .ok (.iinc 4 1, 3) := by decide +kernel
theorem dX7_nearRows_34 : decode cX7_nearRows 34 = .ok (.goto (-29), 3) := by decide +kernel
theorem dX7_nearRows_37 : decode cX7_nearRows 37 = .ok (.iload_n 3, 1) := by decide +kernel
theorem dX7_nearRows_38 : decode cX7_nearRows 38 = .ok (.ireturn, 1) := by decide +kernel
theorem dX7_cross_0 : decode cX7_cross 0 = .ok (.aload_n 0, 1) := by decide +kernel
theorem dX7_cross_1 : decode cX7_cross 1 = .ok (.getfield 11, 3) := by decide +kernel
theorem dX7_cross_4 : decode cX7_cross 4 = .ok (.iload_n 1, 1) := by decide +kernel
theorem dX7_cross_5 : decode cX7_cross 5 = .ok (.aaload, 1) := by decide +kernel
theorem dX7_cross_6 : decode cX7_cross 6 = .ok (.iconst 0, 1) := by decide +kernel
theorem dX7_cross_7 : decode cX7_cross 7 = .ok (.iaload, 1) := by decide +kernel
theorem dX7_cross_8 : decode cX7_cross 8 = .ok (.aload_n 0, 1) := by decide +kernel
theorem dX7_cross_9 : decode cX7_cross 9 = .ok (.getfield 11, 3) := by decide +kernel
theorem dX7_cross_12 : decode cX7_cross 12 = .ok (.iload_n 2, 1) := by decide +kernel
theorem dX7_cross_13 : decode cX7_cross 13 = .ok (.aaload, 1) := by decide +kernel
theorem dX7_cross_14 : decode cX7_cross 14 = .ok (.iconst 0, 1) := by decide +kernel
theorem dX7_cross_15 : decode cX7_cross 15 = .ok (.iaload, 1) := by decide +kernel
theorem dX7_cross_16 : decode cX7_cross 16 = .ok (.invokestatic 85, 3) := by decide +kernel
theorem dX7_cross_19 : decode cX7_cross 19 = .ok (.istore_n 3, 1) := by decide +kernel
theorem dX7_cross_20 : decode cX7_cross 20 = .ok (.aload_n 0, 1) := by decide +kernel
theorem dX7_cross_21 : decode cX7_cross 21 = .ok (.getfield 11, 3) := by decide +kernel
theorem dX7_cross_24 : decode cX7_cross 24 = .ok (.iload_n 1, 1) := by decide +kernel
theorem dX7_cross_25 : decode cX7_cross 25 = .ok (.aaload, 1) := by decide +kernel
theorem dX7_cross_26 : decode cX7_cross 26 = .ok (.aload_n 0, 1) := by decide +kernel
theorem dX7_cross_27 : decode cX7_cross 27 = .ok (.getfield 26, 3) := by decide +kernel
theorem dX7_cross_30 : decode cX7_cross 30 = .ok (.getfield 56, 3) := by decide +kernel
theorem dX7_cross_33 : decode cX7_cross 33 = .ok (.iaload, 1) := by decide +kernel
theorem dX7_cross_34 : decode cX7_cross 34 = .ok (.aload_n 0, 1) := by decide +kernel
theorem dX7_cross_35 : decode cX7_cross 35 = .ok (.getfield 11, 3) := by decide +kernel
theorem dX7_cross_38 : decode cX7_cross 38 = .ok (.iload_n 2, 1) := by decide +kernel
theorem dX7_cross_39 : decode cX7_cross 39 = .ok (.aaload, 1) := by decide +kernel
theorem dX7_cross_40 : decode cX7_cross 40 = .ok (.aload_n 0, 1) := by decide +kernel
theorem dX7_cross_41 : decode cX7_cross 41 = .ok (.getfield 26, 3) := by decide +kernel
theorem dX7_cross_44 : decode cX7_cross 44 = .ok (.getfield 56, 3) := by decide +kernel
theorem dX7_cross_47 : decode cX7_cross 47 = .ok (.iaload, 1) := by decide +kernel
theorem dX7_cross_48 : decode cX7_cross 48 = .ok (.invokestatic 85, 3) := by decide +kernel
theorem dX7_cross_51 : decode cX7_cross 51 = .ok (.istore 4, 2) := by decide +kernel
theorem dX7_cross_53 : decode cX7_cross 53 = .ok (.iload_n 3, 1) := by decide +kernel
theorem dX7_cross_54 : decode cX7_cross 54 = .ok (.iload 4, 2) := by decide +kernel
theorem dX7_cross_56 : decode cX7_cross 56 = .ok (.imul, 1) := by decide +kernel
theorem dX7_cross_57 : decode cX7_cross 57 = .ok (.ifCond .ge 7, 3) := by decide +kernel
theorem dX7_cross_60 : decode cX7_cross 60 = .ok (.iconst 1, 1) := by decide +kernel
theorem dX7_cross_61 : decode cX7_cross 61 = .ok (.goto 4, 3) := by decide +kernel
theorem dX7_cross_64 : decode cX7_cross 64 = .ok (.iconst 0, 1) := by decide +kernel
theorem dX7_cross_65 : decode cX7_cross 65 = .ok (.ireturn, 1) := by decide +kernel
theorem dX7_nearPairs_0 : decode cX7_nearPairs 0 = .ok (.iconst 0, 1) := by decide +kernel
theorem dX7_nearPairs_1 : decode cX7_nearPairs 1 = .ok (.istore_n 1, 1) := by decide +kernel
theorem dX7_nearPairs_2 : decode cX7_nearPairs 2 = .ok (.iconst 0, 1) := by decide +kernel
theorem dX7_nearPairs_3 : decode cX7_nearPairs 3 = .ok (.istore_n 2, 1) := by decide +kernel
theorem dX7_nearPairs_4 : decode cX7_nearPairs 4 = .ok (.iload_n 2, 1) := by decide +kernel
theorem dX7_nearPairs_5 : decode cX7_nearPairs 5 = .ok (.aload_n 0, 1) := by decide +kernel
theorem dX7_nearPairs_6 : decode cX7_nearPairs 6 = .ok (.getfield 26, 3) := by decide +kernel
theorem dX7_nearPairs_9 : decode cX7_nearPairs 9 = .ok (.getfield 30, 3) := by decide +kernel
theorem dX7_nearPairs_12 : decode cX7_nearPairs 12 = .ok (.if_icmp .ge 44, 3) := by decide +kernel
theorem dX7_nearPairs_15 : decode cX7_nearPairs 15 = .ok (.iload_n 2, 1) := by decide +kernel
theorem dX7_nearPairs_16 : decode cX7_nearPairs 16 = .ok (.iconst 1, 1) := by decide +kernel
theorem dX7_nearPairs_17 : decode cX7_nearPairs 17 = .ok (.iadd, 1) := by decide +kernel
theorem dX7_nearPairs_18 : decode cX7_nearPairs 18 = .ok (.istore_n 3, 1) := by decide +kernel
theorem dX7_nearPairs_19 : decode cX7_nearPairs 19 = .ok (.iload_n 3, 1) := by decide +kernel
theorem dX7_nearPairs_20 : decode cX7_nearPairs 20 = .ok (.aload_n 0, 1) := by decide +kernel
theorem dX7_nearPairs_21 : decode cX7_nearPairs 21 = .ok (.getfield 26, 3) := by decide +kernel
theorem dX7_nearPairs_24 : decode cX7_nearPairs 24 = .ok (.getfield 30, 3) := by decide +kernel
theorem dX7_nearPairs_27 : decode cX7_nearPairs 27 = .ok (.if_icmp .ge 23, 3) := by decide +kernel
theorem dX7_nearPairs_30 : decode cX7_nearPairs 30 = .ok (.aload_n 0, 1) := by decide +kernel
theorem dX7_nearPairs_31 : decode cX7_nearPairs 31 = .ok (.iload_n 2, 1) := by decide +kernel
theorem dX7_nearPairs_32 : decode cX7_nearPairs 32 = .ok (.iload_n 3, 1) := by decide +kernel
theorem dX7_nearPairs_33 : decode cX7_nearPairs 33 = .ok (.invokevirtual 90, 3) := by decide +kernel
theorem dX7_nearPairs_36 : decode cX7_nearPairs 36 = .ok (.bipush (-4), 2) := by decide +kernel
theorem dX7_nearPairs_38 : decode cX7_nearPairs 38 = .ok (.if_icmp .eq 6, 3) := by decide +kernel
theorem dX7_nearPairs_41 : decode cX7_nearPairs 41 = .ok (.iinc 1 1, 3) := by decide +kernel
theorem dX7_nearPairs_44 : decode cX7_nearPairs 44 = .ok (.iinc 3 1, 3) := by decide +kernel
theorem dX7_nearPairs_47 : decode cX7_nearPairs 47 = .ok (.goto (-28), 3) := by decide +kernel
theorem dX7_nearPairs_50 : decode cX7_nearPairs 50 = .ok (.iinc 2 1, 3) := by decide +kernel
theorem dX7_nearPairs_53 : decode cX7_nearPairs 53 = .ok (.goto (-49), 3) := by decide +kernel
theorem dX7_nearPairs_56 : decode cX7_nearPairs 56 = .ok (.iload_n 1, 1) := by decide +kernel
theorem dX7_nearPairs_57 : decode cX7_nearPairs 57 = .ok (.ireturn, 1) := by decide +kernel
theorem dX7_crossPairs_0 : decode cX7_crossPairs 0 = .ok (.iconst 0, 1) := by decide +kernel
theorem dX7_crossPairs_1 : decode cX7_crossPairs 1 = .ok (.istore_n 1, 1) := by decide +kernel
theorem dX7_crossPairs_2 : decode cX7_crossPairs 2 = .ok (.iconst 0, 1) := by decide +kernel
theorem dX7_crossPairs_3 : decode cX7_crossPairs 3 = .ok (.istore_n 2, 1) := by decide +kernel
theorem dX7_crossPairs_4 : decode cX7_crossPairs 4 = .ok (.iload_n 2, 1) := by decide +kernel
theorem dX7_crossPairs_5 : decode cX7_crossPairs 5 = .ok (.aload_n 0, 1) := by decide +kernel
theorem dX7_crossPairs_6 : decode cX7_crossPairs 6 = .ok (.getfield 26, 3) := by decide +kernel
theorem dX7_crossPairs_9 : decode cX7_crossPairs 9 = .ok (.getfield 30, 3) := by decide +kernel
theorem dX7_crossPairs_12 : decode cX7_crossPairs 12 = .ok (.if_icmp .ge 42, 3) := by decide +kernel
theorem dX7_crossPairs_15 : decode cX7_crossPairs 15 = .ok (.iload_n 2, 1) := by decide +kernel
theorem dX7_crossPairs_16 : decode cX7_crossPairs 16 = .ok (.iconst 1, 1) := by decide +kernel
theorem dX7_crossPairs_17 : decode cX7_crossPairs 17 = .ok (.iadd, 1) := by decide +kernel
theorem dX7_crossPairs_18 : decode cX7_crossPairs 18 = .ok (.istore_n 3, 1) := by decide +kernel
theorem dX7_crossPairs_19 : decode cX7_crossPairs 19 = .ok (.iload_n 3, 1) := by decide +kernel
theorem dX7_crossPairs_20 : decode cX7_crossPairs 20 = .ok (.aload_n 0, 1) := by decide +kernel
theorem dX7_crossPairs_21 : decode cX7_crossPairs 21 = .ok (.getfield 26, 3) := by decide +kernel
theorem dX7_crossPairs_24 : decode cX7_crossPairs 24 = .ok (.getfield 30, 3) := by decide +kernel
theorem dX7_crossPairs_27 : decode cX7_crossPairs 27 = .ok (.if_icmp .ge 21, 3) := by decide +kernel
theorem dX7_crossPairs_30 : decode cX7_crossPairs 30 = .ok (.aload_n 0, 1) := by decide +kernel
theorem dX7_crossPairs_31 : decode cX7_crossPairs 31 = .ok (.iload_n 2, 1) := by decide +kernel
theorem dX7_crossPairs_32 : decode cX7_crossPairs 32 = .ok (.iload_n 3, 1) := by decide +kernel
theorem dX7_crossPairs_33 : decode cX7_crossPairs 33 = .ok (.invokevirtual 93, 3) := by decide +kernel
theorem dX7_crossPairs_36 : decode cX7_crossPairs 36 = .ok (.ifCond .eq 6, 3) := by decide +kernel
theorem dX7_crossPairs_39 : decode cX7_crossPairs 39 = .ok (.iinc 1 1, 3) := by decide +kernel
theorem dX7_crossPairs_42 : decode cX7_crossPairs 42 = .ok (.iinc 3 1, 3) := by decide +kernel
theorem dX7_crossPairs_45 : decode cX7_crossPairs 45 = .ok (.goto (-26), 3) := by decide +kernel
theorem dX7_crossPairs_48 : decode cX7_crossPairs 48 = .ok (.iinc 2 1, 3) := by decide +kernel
theorem dX7_crossPairs_51 : decode cX7_crossPairs 51 = .ok (.goto (-47), 3) := by decide +kernel
theorem dX7_crossPairs_54 : decode cX7_crossPairs 54 = .ok (.iload_n 1, 1) := by decide +kernel
theorem dX7_crossPairs_55 : decode cX7_crossPairs 55 = .ok (.ireturn, 1) := by decide +kernel
theorem dX7_blockedPairs_0 : decode cX7_blockedPairs 0 = .ok (.iconst 0, 1) := by decide +kernel
theorem dX7_blockedPairs_1 : decode cX7_blockedPairs 1 = .ok (.istore_n 1, 1) := by decide +kernel
theorem dX7_blockedPairs_2 : decode cX7_blockedPairs 2 = .ok (.iconst 0, 1) := by decide +kernel
theorem dX7_blockedPairs_3 : decode cX7_blockedPairs 3 = .ok (.istore_n 2, 1) := by decide +kernel
theorem dX7_blockedPairs_4 : decode cX7_blockedPairs 4 = .ok (.iload_n 2, 1) := by decide +kernel
theorem dX7_blockedPairs_5 : decode cX7_blockedPairs 5 = .ok (.aload_n 0, 1) := by decide +kernel
theorem dX7_blockedPairs_6 : decode cX7_blockedPairs 6 = .ok (.getfield 26, 3) := by decide +kernel
theorem dX7_blockedPairs_9 : decode cX7_blockedPairs 9 = .ok (.getfield 30, 3) := by decide +kernel
theorem dX7_blockedPairs_12 : decode cX7_blockedPairs 12 = .ok (.if_icmp .ge 20, 3) := by decide +kernel
theorem dX7_blockedPairs_15 : decode cX7_blockedPairs 15 = .ok (.iload_n 1, 1) := by decide +kernel
theorem dX7_blockedPairs_16 : decode cX7_blockedPairs 16 = .ok (.aload_n 0, 1) := by decide +kernel
theorem dX7_blockedPairs_17 : decode cX7_blockedPairs 17 = .ok (.iload_n 2, 1) := by decide +kernel
theorem dX7_blockedPairs_18 : decode cX7_blockedPairs 18 = .ok (.invokevirtual 97, 3) := by decide +kernel
theorem dX7_blockedPairs_21 : decode cX7_blockedPairs 21 = .ok (.invokestatic 100, 3) := by decide +kernel
theorem dX7_blockedPairs_24 : decode cX7_blockedPairs 24 = .ok (.iadd, 1) := by decide +kernel
theorem dX7_blockedPairs_25 : decode cX7_blockedPairs 25 = .ok (.istore_n 1, 1) := by decide +kernel
theorem dX7_blockedPairs_26 : decode cX7_blockedPairs 26 = .ok (.iinc 2 1, 3) := by decide +kernel
theorem dX7_blockedPairs_29 : decode cX7_blockedPairs 29 = .ok (.goto (-25), 3) := by decide +kernel
theorem dX7_blockedPairs_32 : decode cX7_blockedPairs 32 = .ok (.iload_n 1, 1) := by decide +kernel
theorem dX7_blockedPairs_33 : decode cX7_blockedPairs 33 = .ok (.ireturn, 1) := by decide +kernel
theorem dX7_blockersOf_0 : decode cX7_blockersOf 0 = .ok (.aload_n 0, 1) := by decide +kernel
theorem dX7_blockersOf_1 : decode cX7_blockersOf 1 = .ok (.invokevirtual 103, 3) := by decide +kernel
theorem dX7_blockersOf_4 : decode cX7_blockersOf 4 = .ok (.aload_n 0, 1) := by decide +kernel
theorem dX7_blockersOf_5 : decode cX7_blockersOf 5 = .ok (.getfield 19, 3) := by decide +kernel
theorem dX7_blockersOf_8 : decode cX7_blockersOf 8 = .ok (.iload_n 1, 1) := by decide +kernel
theorem dX7_blockersOf_9 : decode cX7_blockersOf 9 = .ok (.iaload, 1) := by decide +kernel
theorem dX7_blockersOf_10 : decode cX7_blockersOf 10 = .ok (.ireturn, 1) := by decide +kernel
theorem dX7_blockedByEach_0 : decode cX7_blockedByEach 0 = .ok (.aload_n 0, 1) := by decide +kernel
theorem dX7_blockedByEach_1 : decode cX7_blockedByEach 1 = .ok (.invokevirtual 103, 3) := by decide +kernel
theorem dX7_blockedByEach_4 : decode cX7_blockedByEach 4 = .ok (.aload_n 0, 1) := by decide +kernel
theorem dX7_blockedByEach_5 : decode cX7_blockedByEach 5 = .ok (.getfield 23, 3) := by decide +kernel
theorem dX7_blockedByEach_8 : decode cX7_blockedByEach 8 = .ok (.areturn, 1) := by decide +kernel
theorem dX7_findBlockers_0 : decode cX7_findBlockers 0 = .ok (.aload_n 0, 1) := by decide +kernel
theorem dX7_findBlockers_1 : decode cX7_findBlockers 1 = .ok (.getfield 48, 3) := by decide +kernel
theorem dX7_findBlockers_4 : decode cX7_findBlockers 4 = .ok (.ifCond .eq 4, 3) := by decide +kernel
theorem dX7_findBlockers_7 : decode cX7_findBlockers 7 = .ok (.return_, 1) := by decide +kernel
theorem dX7_findBlockers_8 : decode cX7_findBlockers 8 = .ok (.iconst 0, 1) := by decide +kernel
theorem dX7_findBlockers_9 : decode cX7_findBlockers 9 = .ok (.istore_n 1, 1) := by decide +kernel
theorem dX7_findBlockers_10 : decode cX7_findBlockers 10 = .ok (.iload_n 1, 1) := by decide +kernel
theorem dX7_findBlockers_11 : decode cX7_findBlockers 11 = .ok (.bipush 8, 2) := by decide +kernel
theorem dX7_findBlockers_13 : decode cX7_findBlockers 13 = .ok (.if_icmp .ge 23, 3) := by decide +kernel
theorem dX7_findBlockers_16 : decode cX7_findBlockers 16 = .ok (.aload_n 0, 1) := by decide +kernel
theorem dX7_findBlockers_17 : decode cX7_findBlockers 17 = .ok (.getfield 19, 3) := by decide +kernel
theorem dX7_findBlockers_20 : decode cX7_findBlockers 20 = .ok (.iload_n 1, 1) := by decide +kernel
theorem dX7_findBlockers_21 : decode cX7_findBlockers 21 = .ok (.iconst 0, 1) := by decide +kernel
theorem dX7_findBlockers_22 : decode cX7_findBlockers 22 = .ok (.iastore, 1) := by decide +kernel
theorem dX7_findBlockers_23 : decode cX7_findBlockers 23 = .ok (.aload_n 0, 1) := by decide +kernel
theorem dX7_findBlockers_24 : decode cX7_findBlockers 24 = .ok (.getfield 23, 3) := by decide +kernel
theorem dX7_findBlockers_27 : decode cX7_findBlockers 27 = .ok (.iload_n 1, 1) := by decide +kernel
theorem dX7_findBlockers_28 : decode cX7_findBlockers 28 = .ok (.iconst 0, 1) := by decide +kernel
theorem dX7_findBlockers_29 : decode cX7_findBlockers 29 = .ok (.iastore, 1) := by decide +kernel
theorem dX7_findBlockers_30 : decode cX7_findBlockers 30 = .ok (.iinc 1 1, 3) := by decide +kernel
theorem dX7_findBlockers_33 : decode cX7_findBlockers 33 = .ok (.goto (-23), 3) := by decide +kernel
theorem dX7_findBlockers_36 : decode cX7_findBlockers 36 = .ok (.iconst 0, 1) := by decide +kernel
theorem dX7_findBlockers_37 : decode cX7_findBlockers 37 = .ok (.istore_n 1, 1) := by decide +kernel
theorem dX7_findBlockers_38 : decode cX7_findBlockers 38 = .ok (.iload_n 1, 1) := by decide +kernel
theorem dX7_findBlockers_39 : decode cX7_findBlockers 39 = .ok (.aload_n 0, 1) := by decide +kernel
theorem dX7_findBlockers_40 : decode cX7_findBlockers 40 = .ok (.getfield 26, 3) := by decide +kernel
theorem dX7_findBlockers_43 : decode cX7_findBlockers 43 = .ok (.getfield 30, 3) := by decide +kernel
theorem dX7_findBlockers_46 : decode cX7_findBlockers 46 = .ok (.if_icmp .ge 72, 3) := by decide +kernel
theorem dX7_findBlockers_49 : decode cX7_findBlockers 49 = .ok (.iconst 0, 1) := by decide +kernel
theorem dX7_findBlockers_50 : decode cX7_findBlockers 50 = .ok (.istore_n 2, 1) := by decide +kernel
theorem dX7_findBlockers_51 : decode cX7_findBlockers 51 = .ok (.iload_n 2, 1) := by decide +kernel
theorem dX7_findBlockers_52 : decode cX7_findBlockers 52 = .ok (.aload_n 0, 1) := by decide +kernel
theorem dX7_findBlockers_53 : decode cX7_findBlockers 53 = .ok (.getfield 26, 3) := by decide +kernel
theorem dX7_findBlockers_56 : decode cX7_findBlockers 56 = .ok (.getfield 30, 3) := by decide +kernel
theorem dX7_findBlockers_59 : decode cX7_findBlockers 59 = .ok (.if_icmp .ge 53, 3) := by decide +kernel
theorem dX7_findBlockers_62 : decode cX7_findBlockers 62 = .ok (.iload_n 1, 1) := by decide +kernel
theorem dX7_findBlockers_63 : decode cX7_findBlockers 63 = .ok (.iload_n 2, 1) := by decide +kernel
theorem dX7_findBlockers_64 : decode cX7_findBlockers 64 = .ok (.if_icmp .eq 42, 3) := by decide +kernel
theorem dX7_findBlockers_67 : decode cX7_findBlockers 67 = .ok (.aload_n 0, 1) := by decide +kernel
theorem dX7_findBlockers_68 : decode cX7_findBlockers 68 = .ok (.iload_n 2, 1) := by decide +kernel
theorem dX7_findBlockers_69 : decode cX7_findBlockers 69 = .ok (.aload_n 0, 1) := by decide +kernel
theorem dX7_findBlockers_70 : decode cX7_findBlockers 70 = .ok (.getfield 16, 3) := by decide +kernel
theorem dX7_findBlockers_73 : decode cX7_findBlockers 73 = .ok (.iload_n 2, 1) := by decide +kernel
theorem dX7_findBlockers_74 : decode cX7_findBlockers 74 = .ok (.aaload, 1) := by decide +kernel
theorem dX7_findBlockers_75 : decode cX7_findBlockers 75 = .ok (.iload_n 1, 1) := by decide +kernel
theorem dX7_findBlockers_76 : decode cX7_findBlockers 76 = .ok (.invokevirtual 106, 3) := by decide +kernel
theorem dX7_findBlockers_79 : decode cX7_findBlockers 79 = .ok (.ifCond .eq 27, 3) := by decide +kernel
theorem dX7_findBlockers_82 : decode cX7_findBlockers 82 = .ok (.aload_n 0, 1) := by decide +kernel
theorem dX7_findBlockers_83 : decode cX7_findBlockers 83 = .ok (.getfield 19, 3) := by decide +kernel
theorem dX7_findBlockers_86 : decode cX7_findBlockers 86 = .ok (.iload_n 1, 1) := by decide +kernel
theorem dX7_findBlockers_87 : decode cX7_findBlockers 87 = .ok (.dup2, 1) := by decide +kernel
theorem dX7_findBlockers_88 : decode cX7_findBlockers 88 = .ok (.iaload, 1) := by decide +kernel
theorem dX7_findBlockers_89 : decode cX7_findBlockers 89 = .ok (.iconst 1, 1) := by decide +kernel
theorem dX7_findBlockers_90 : decode cX7_findBlockers 90 = .ok (.iload_n 2, 1) := by decide +kernel
theorem dX7_findBlockers_91 : decode cX7_findBlockers 91 = .ok (.ishl, 1) := by decide +kernel
theorem dX7_findBlockers_92 : decode cX7_findBlockers 92 = .ok (.ior, 1) := by decide +kernel
theorem dX7_findBlockers_93 : decode cX7_findBlockers 93 = .ok (.iastore, 1) := by decide +kernel
theorem dX7_findBlockers_94 : decode cX7_findBlockers 94 = .ok (.aload_n 0, 1) := by decide +kernel
theorem dX7_findBlockers_95 : decode cX7_findBlockers 95 = .ok (.getfield 23, 3) := by decide +kernel
theorem dX7_findBlockers_98 : decode cX7_findBlockers 98 = .ok (.iload_n 2, 1) := by decide +kernel
theorem dX7_findBlockers_99 : decode cX7_findBlockers 99 = .ok (.dup2, 1) := by decide +kernel
theorem dX7_findBlockers_100 : decode cX7_findBlockers 100 = .ok (.iaload, 1) := by decide +kernel
theorem dX7_findBlockers_101 : decode cX7_findBlockers 101 = .ok (.iconst 1, 1) := by decide +kernel
theorem dX7_findBlockers_102 : decode cX7_findBlockers 102 = .ok (.iload_n 1, 1) := by decide +kernel
theorem dX7_findBlockers_103 : decode cX7_findBlockers 103 = .ok (.ishl, 1) := by decide +kernel
theorem dX7_findBlockers_104 : decode cX7_findBlockers 104 = .ok (.ior, 1) := by decide +kernel
theorem dX7_findBlockers_105 : decode cX7_findBlockers 105 = .ok (.iastore, 1) := by decide +kernel
theorem dX7_findBlockers_106 : decode cX7_findBlockers 106 = .ok (.iinc 2 1, 3) := by decide +kernel
theorem dX7_findBlockers_109 : decode cX7_findBlockers 109 = .ok (.goto (-58), 3) := by decide +kernel
theorem dX7_findBlockers_112 : decode cX7_findBlockers 112 = .ok (.iinc 1 1, 3) := by decide +kernel
theorem dX7_findBlockers_115 : decode cX7_findBlockers 115 = .ok (.goto (-77), 3) := by decide +kernel
theorem dX7_findBlockers_118 : decode cX7_findBlockers 118 = .ok (.aload_n 0, 1) := by decide +kernel
theorem dX7_findBlockers_119 : decode cX7_findBlockers 119 = .ok (.iconst 1, 1) := by decide +kernel
theorem dX7_findBlockers_120 : decode cX7_findBlockers 120 = .ok (.putfield 48, 3) := by decide +kernel
theorem dX7_findBlockers_123 : decode cX7_findBlockers 123 = .ok (.return_, 1) := by decide +kernel
theorem dX7_isInTheWay_0 : decode cX7_isInTheWay 0 = .ok (.aload_n 0, 1) := by decide +kernel
theorem dX7_isInTheWay_1 : decode cX7_isInTheWay 1 = .ok (.iload_n 1, 1) := by decide +kernel
theorem dX7_isInTheWay_2 : decode cX7_isInTheWay 2 = .ok (.aload_n 2, 1) := by decide +kernel
theorem dX7_isInTheWay_3 : decode cX7_isInTheWay 3 = .ok (.iload_n 3, 1) := by decide +kernel
theorem dX7_isInTheWay_4 : decode cX7_isInTheWay 4 = .ok (.iconst 0, 1) := by decide +kernel
theorem dX7_isInTheWay_5 : decode cX7_isInTheWay 5 = .ok (.invokevirtual 110, 3) := by decide +kernel
theorem dX7_isInTheWay_8 : decode cX7_isInTheWay 8 = .ok (.ifCond .ne 20, 3) := by decide +kernel
theorem dX7_isInTheWay_11 : decode cX7_isInTheWay 11 = .ok (.aload_n 0, 1) := by decide +kernel
theorem dX7_isInTheWay_12 : decode cX7_isInTheWay 12 = .ok (.iload_n 1, 1) := by decide +kernel
theorem dX7_isInTheWay_13 : decode cX7_isInTheWay 13 = .ok (.aload_n 2, 1) := by decide +kernel
theorem dX7_isInTheWay_14 : decode cX7_isInTheWay 14 = .ok (.iload_n 3, 1) := by decide +kernel
theorem dX7_isInTheWay_15 : decode cX7_isInTheWay 15 = .ok (.aload_n 0, 1) := by decide +kernel
theorem dX7_isInTheWay_16 : decode cX7_isInTheWay 16 = .ok (.getfield 26, 3) := by decide +kernel
theorem dX7_isInTheWay_19 : decode cX7_isInTheWay 19 = .ok (.getfield 56, 3) := by decide +kernel
theorem dX7_isInTheWay_22 : decode cX7_isInTheWay 22 = .ok (.invokevirtual 110, 3) := by decide +kernel
theorem dX7_isInTheWay_25 : decode cX7_isInTheWay 25 = .ok (.ifCond .eq 7, 3) := by decide +kernel
theorem dX7_isInTheWay_28 : decode cX7_isInTheWay 28 = .ok (.iconst 1, 1) := by decide +kernel
theorem dX7_isInTheWay_29 : decode cX7_isInTheWay 29 = .ok (.goto 4, 3) := by decide +kernel
theorem dX7_isInTheWay_32 : decode cX7_isInTheWay 32 = .ok (.iconst 0, 1) := by decide +kernel
theorem dX7_isInTheWay_33 : decode cX7_isInTheWay 33 = .ok (.ireturn, 1) := by decide +kernel
theorem dX7_isOverEnd_0 : decode cX7_isOverEnd 0 = .ok (.aload_n 0, 1) := by decide +kernel
theorem dX7_isOverEnd_1 : decode cX7_isOverEnd 1 = .ok (.getfield 26, 3) := by decide +kernel
theorem dX7_isOverEnd_4 : decode cX7_isOverEnd 4 = .ok (.getfield 56, 3) := by decide +kernel
theorem dX7_isOverEnd_7 : decode cX7_isOverEnd 7 = .ok (.istore 5, 2) := by decide +kernel
theorem dX7_isOverEnd_9 : decode cX7_isOverEnd 9 = .ok (.iconst 2, 1) := by decide +kernel
theorem dX7_isOverEnd_10 : decode cX7_isOverEnd 10 = .ok (.aload_n 0, 1) := by decide +kernel
theorem dX7_isOverEnd_11 : decode cX7_isOverEnd 11 = .ok (.getfield 26, 3) := by decide +kernel
theorem dX7_isOverEnd_14 : decode cX7_isOverEnd 14 = .ok (.iconst 2, 1) := by decide +kernel
theorem dX7_isOverEnd_15 : decode cX7_isOverEnd 15 = .ok (.invokevirtual 75, 3) := by decide +kernel
theorem dX7_isOverEnd_18 : decode cX7_isOverEnd 18 = .ok (.imul, 1) := by decide +kernel
theorem dX7_isOverEnd_19 : decode cX7_isOverEnd 19 = .ok (.istore 6, 2) := by decide +kernel
theorem dX7_isOverEnd_21 : decode cX7_isOverEnd 21 = .ok (.aload_n 0, 1) := by decide +kernel
theorem dX7_isOverEnd_22 : decode cX7_isOverEnd 22 = .ok (.getfield 11, 3) := by decide +kernel
theorem dX7_isOverEnd_25 : decode cX7_isOverEnd 25 = .ok (.iload_n 3, 1) := by decide +kernel
theorem dX7_isOverEnd_26 : decode cX7_isOverEnd 26 = .ok (.aaload, 1) := by decide +kernel
theorem dX7_isOverEnd_27 : decode cX7_isOverEnd 27 = .ok (.iload 4, 2) := by decide +kernel
theorem dX7_isOverEnd_29 : decode cX7_isOverEnd 29 = .ok (.iaload, 1) := by decide +kernel
theorem dX7_isOverEnd_30 : decode cX7_isOverEnd 30 = .ok (.istore 7, 2) := by decide +kernel
theorem dX7_isOverEnd_32 : decode cX7_isOverEnd 32 = .ok (.aload_n 0, 1) := by decide +kernel
theorem dX7_isOverEnd_33 : decode cX7_isOverEnd 33 = .ok (.getfield 16, 3) := by decide +kernel
theorem dX7_isOverEnd_36 : decode cX7_isOverEnd 36 = .ok (.iload_n 3, 1) := by decide +kernel
theorem dX7_isOverEnd_37 : decode cX7_isOverEnd 37 = .ok (.aaload, 1) := by decide +kernel
theorem dX7_isOverEnd_38 : decode cX7_isOverEnd 38 = .ok (.iload 4, 2) := by decide +kernel
theorem dX7_isOverEnd_40 : decode cX7_isOverEnd 40 = .ok (.iaload, 1) := by decide +kernel
theorem dX7_isOverEnd_41 : decode cX7_isOverEnd 41 = .ok (.istore 8, 2) := by decide +kernel
theorem dX7_isOverEnd_43 : decode cX7_isOverEnd 43 = .ok (.iconst 0, 1) := by decide +kernel
theorem dX7_isOverEnd_44 : decode cX7_isOverEnd 44 = .ok (.istore 9, 2) := by decide +kernel
theorem dX7_isOverEnd_46 : decode cX7_isOverEnd 46 = .ok (.iload 9, 2) := by decide +kernel
theorem dX7_isOverEnd_48 : decode cX7_isOverEnd 48 = .ok (.iload 5, 2) := by decide +kernel
theorem dX7_isOverEnd_50 : decode cX7_isOverEnd 50 = .ok (.if_icmp .gt 72, 3) := by decide +kernel
theorem dX7_isOverEnd_53 : decode cX7_isOverEnd 53 = .ok (.aload_n 2, 1) := by decide +kernel
theorem dX7_isOverEnd_54 : decode cX7_isOverEnd 54 = .ok (.iload 9, 2) := by decide +kernel
theorem dX7_isOverEnd_56 : decode cX7_isOverEnd 56 = .ok (.iaload, 1) := by decide +kernel
theorem dX7_isOverEnd_57 : decode cX7_isOverEnd 57 = .ok (.iload 8, 2) := by decide +kernel
theorem dX7_isOverEnd_59 : decode cX7_isOverEnd 59 = .ok (.isub, 1) := by decide +kernel
theorem dX7_isOverEnd_60 : decode cX7_isOverEnd 60 = .ok (.istore 10, 2) := by decide +kernel
theorem dX7_isOverEnd_62 : decode cX7_isOverEnd 62 = .ok (.iload 6, 2) := by decide +kernel
theorem dX7_isOverEnd_64 : decode cX7_isOverEnd 64 = .ok (.iload 10, 2) := by decide +kernel
theorem dX7_isOverEnd_66 : decode cX7_isOverEnd 66 = .ok (.iadd, 1) := by decide +kernel
theorem dX7_isOverEnd_67 : decode cX7_isOverEnd 67 = .ok (.istore 11, 2) := by decide +kernel
theorem dX7_isOverEnd_69 : decode cX7_isOverEnd 69 = .ok (.iload 10, 2) := by decide +kernel
theorem dX7_isOverEnd_71 : decode cX7_isOverEnd 71 = .ok (.ifCond .lt 45, 3) := by decide +kernel
theorem dX7_isOverEnd_74 : decode cX7_isOverEnd 74 = .ok (.iconst 2, 1) := by decide +kernel
theorem dX7_isOverEnd_75 : decode cX7_isOverEnd 75 = .ok (.iload 9, 2) := by decide +kernel
theorem dX7_isOverEnd_77 : decode cX7_isOverEnd 77 = .ok (.iload 4, 2) := by decide +kernel
theorem dX7_isOverEnd_79 : decode cX7_isOverEnd 79 = .ok (.isub, 1) := by decide +kernel
theorem dX7_isOverEnd_80 : decode cX7_isOverEnd 80 = .ok (.invokestatic 66, 3) := by decide +kernel
theorem dX7_isOverEnd_83 : decode cX7_isOverEnd 83 = .ok (.imul, 1) := by decide +kernel
theorem dX7_isOverEnd_84 : decode cX7_isOverEnd 84 = .ok (.iload 11, 2) := by decide +kernel
theorem dX7_isOverEnd_86 : decode cX7_isOverEnd 86 = .ok (.if_icmp .ge 30, 3) := by decide +kernel
theorem dX7_isOverEnd_89 : decode cX7_isOverEnd 89 = .ok (.iconst 2, 1) := by decide +kernel
theorem dX7_isOverEnd_90 : decode cX7_isOverEnd 90 = .ok (.aload_n 0, 1) := by decide +kernel
theorem dX7_isOverEnd_91 : decode cX7_isOverEnd 91 = .ok (.getfield 11, 3) := by decide +kernel
theorem dX7_isOverEnd_94 : decode cX7_isOverEnd 94 = .ok (.iload_n 1, 1) := by decide +kernel
theorem dX7_isOverEnd_95 : decode cX7_isOverEnd 95 = .ok (.aaload, 1) := by decide +kernel
theorem dX7_isOverEnd_96 : decode cX7_isOverEnd 96 = .ok (.iload 9, 2) := by decide +kernel
theorem dX7_isOverEnd_98 : decode cX7_isOverEnd 98 = .ok (.iaload, 1) := by decide +kernel
theorem dX7_isOverEnd_99 : decode cX7_isOverEnd 99 = .ok (.iload 7, 2) := by decide +kernel
theorem dX7_isOverEnd_101 : decode cX7_isOverEnd 101 = .ok (.isub, 1) := by decide +kernel
theorem dX7_isOverEnd_102 : decode cX7_isOverEnd 102 = .ok (.invokestatic 66, 3) := by decide +kernel
theorem dX7_isOverEnd_105 : decode cX7_isOverEnd 105 = .ok (.imul, 1) := by decide +kernel
theorem dX7_isOverEnd_106 : decode cX7_isOverEnd 106 = .ok (.iload 5, 2) := by decide +kernel
theorem dX7_isOverEnd_108 : decode cX7_isOverEnd 108 = .ok (.iload 11, 2) := by decide +kernel
theorem dX7_isOverEnd_110 : decode cX7_isOverEnd 110 = .ok (.imul, 1) := by decide +kernel
theorem dX7_isOverEnd_111 : decode cX7_isOverEnd 111 = .ok (.if_icmp .ge 5, 3) := by decide +kernel
theorem dX7_isOverEnd_114 : decode cX7_isOverEnd 114 = .ok (.iconst 1, 1) := by decide +kernel
theorem dX7_isOverEnd_115 : decode cX7_isOverEnd 115 = .ok (.ireturn, 1) := by decide +kernel
theorem dX7_isOverEnd_116 : decode cX7_isOverEnd 116 = .ok (.iinc 9 1, 3) := by decide +kernel
theorem dX7_isOverEnd_119 : decode cX7_isOverEnd 119 = .ok (.goto (-73), 3) := by decide +kernel
theorem dX7_isOverEnd_122 : decode cX7_isOverEnd 122 = .ok (.iconst 0, 1) := by decide +kernel
theorem dX7_isOverEnd_123 : decode cX7_isOverEnd 123 = .ok (.ireturn, 1) := by decide +kernel
