-- decode rows (printed by program)
theorem dX3_init_0 : decode cX3_init 0 = .ok (.aload_n 0, 1) := by decide +kernel
theorem dX3_init_1 : decode cX3_init 1 = .ok (.invokespecial 3, 3) := by decide +kernel
theorem dX3_init_4 : decode cX3_init 4 = .ok (.aload_n 0, 1) := by decide +kernel
theorem dX3_init_5 : decode cX3_init 5 = .ok (.bipush 6, 2) := by decide +kernel
theorem dX3_init_7 : decode cX3_init 7 = .ok (.bipush 45, 2) := by decide +kernel
theorem dX3_init_9 : decode cX3_init 9 = .ok (.multianewarray 11 2, 4) := by decide +kernel
theorem dX3_init_13 : decode cX3_init 13 = .ok (.putfield 13, 3) := by decide +kernel
theorem dX3_init_16 : decode cX3_init 16 = .ok (.return_, 1) := by decide +kernel
theorem dX3_clear_0 : decode cX3_clear 0 = .ok (.aload_n 0, 1) := by decide +kernel
theorem dX3_clear_1 : decode cX3_clear 1 = .ok (.iconst 0, 1) := by decide +kernel
theorem dX3_clear_2 : decode cX3_clear 2 = .ok (.putfield 18, 3) := by decide +kernel
theorem dX3_clear_5 : decode cX3_clear 5 = .ok (.return_, 1) := by decide +kernel
theorem dX3_keep_0 : decode cX3_keep 0 = .ok (.aload_n 1, 1) := by decide +kernel
theorem dX3_keep_1 : decode cX3_keep 1 = .ok (.getfield 22, 3) := by decide +kernel
theorem dX3_keep_4 : decode cX3_keep 4 = .ok (.iconst 0, 1) := by decide +kernel
theorem dX3_keep_5 : decode cX3_keep 5 = .ok (.aload_n 0, 1) := by decide +kernel
theorem dX3_keep_6 : decode cX3_keep 6 = .ok (.getfield 13, 3) := by decide +kernel
theorem dX3_keep_9 : decode cX3_keep 9 = .ok (.aload_n 0, 1) := by decide +kernel
theorem dX3_keep_10 : decode cX3_keep 10 = .ok (.getfield 26, 3) := by decide +kernel
theorem dX3_keep_13 : decode cX3_keep 13 = .ok (.aaload, 1) := by decide +kernel
theorem dX3_keep_14 : decode cX3_keep 14 = .ok (.iconst 0, 1) := by decide +kernel
theorem dX3_keep_15 : decode cX3_keep 15 = .ok (.bipush 45, 2) := by decide +kernel
theorem dX3_keep_17 : decode cX3_keep 17 = .ok (.invokestatic 29, 3) := by decide +kernel
theorem dX3_keep_20 : decode cX3_keep 20 = .ok (.aload_n 0, 1) := by decide +kernel
theorem dX3_keep_21 : decode cX3_keep 21 = .ok (.aload_n 0, 1) := by decide +kernel
theorem dX3_keep_22 : decode cX3_keep 22 = .ok (.getfield 26, 3) := by decide +kernel
theorem dX3_keep_25 : decode cX3_keep 25 = .ok (.iconst 1, 1) := by decide +kernel
theorem dX3_keep_26 : decode cX3_keep 26 = .ok (.iadd, 1) := by decide +kernel
theorem dX3_keep_27 : decode cX3_keep 27 = .ok (.bipush 6, 2) := by decide +kernel
theorem dX3_keep_29 : decode cX3_keep 29 = .ok (.if_icmp .ge 12, 3) := by decide +kernel
theorem dX3_keep_32 : decode cX3_keep 32 = .ok (.aload_n 0, 1) := by decide +kernel
theorem dX3_keep_33 : decode cX3_keep 33 = .ok (.getfield 26, 3) := by decide +kernel
theorem dX3_keep_36 : decode cX3_keep 36 = .ok (.iconst 1, 1) := by decide +kernel
theorem dX3_keep_37 : decode cX3_keep 37 = .ok (.iadd, 1) := by decide +kernel
theorem dX3_keep_38 : decode cX3_keep 38 = .ok (.goto 4, 3) := by decide +kernel
theorem dX3_keep_41 : decode cX3_keep 41 = .ok (.iconst 0, 1) := by decide +kernel
theorem dX3_keep_42 : decode cX3_keep 42 = .ok (.putfield 26, 3) := by decide +kernel
theorem dX3_keep_45 : decode cX3_keep 45 = .ok (.aload_n 0, 1) := by decide +kernel
theorem dX3_keep_46 : decode cX3_keep 46 = .ok (.aload_n 0, 1) := by decide +kernel
theorem dX3_keep_47 : decode cX3_keep 47 = .ok (.getfield 18, 3) := by decide +kernel
theorem dX3_keep_50 : decode cX3_keep 50 = .ok (.iconst 1, 1) := by decide +kernel
theorem dX3_keep_51 : decode cX3_keep 51 = .ok (.iadd, 1) := by decide +kernel
theorem dX3_keep_52 : decode cX3_keep 52 = .ok (.bipush 6, 2) := by decide +kernel
theorem dX3_keep_54 : decode cX3_keep 54 = .ok (.invokestatic 35, 3) := by decide +kernel
theorem dX3_keep_57 : decode cX3_keep 57 = .ok (.putfield 18, 3) := by decide +kernel
theorem dX3_keep_60 : decode cX3_keep 60 = .ok (.return_, 1) := by decide +kernel
theorem dX3_giveBack_0 : decode cX3_giveBack 0 = .ok (.aload_n 0, 1) := by decide +kernel
theorem dX3_giveBack_1 : decode cX3_giveBack 1 = .ok (.getfield 18, 3) := by decide +kernel
theorem dX3_giveBack_4 : decode cX3_giveBack 4 = .ok (.ifCond .ne 4, 3) := by decide +kernel
theorem dX3_giveBack_7 : decode cX3_giveBack 7 = .ok (.return_, 1) := by decide +kernel
theorem dX3_giveBack_8 : decode cX3_giveBack 8 = .ok (.aload_n 0, 1) := by decide +kernel
theorem dX3_giveBack_9 : decode cX3_giveBack 9 = .ok (.aload_n 0, 1) := by decide +kernel
theorem dX3_giveBack_10 : decode cX3_giveBack 10 = .ok (.getfield 26, 3) := by decide +kernel
theorem dX3_giveBack_13 : decode cX3_giveBack 13 = .ok (.ifCond .le 12, 3) := by decide +kernel
theorem dX3_giveBack_16 : decode cX3_giveBack 16 = .ok (.aload_n 0, 1) := by decide +kernel
theorem dX3_giveBack_17 : decode cX3_giveBack 17 = .ok (.getfield 26, 3) := by decide +kernel
theorem dX3_giveBack_20 : decode cX3_giveBack 20 = .ok (.iconst 1, 1) := by decide +kernel
theorem dX3_giveBack_21 : decode cX3_giveBack 21 = .ok (.isub, 1) := by decide +kernel
theorem dX3_giveBack_22 : decode cX3_giveBack 22 = .ok (.goto 4, 3) := by decide +kernel
theorem dX3_giveBack_25 : decode cX3_giveBack 25 = .ok (.iconst 5, 1) := by decide +kernel
theorem dX3_giveBack_26 : decode cX3_giveBack 26 = .ok (.putfield 26, 3) := by decide +kernel
theorem dX3_giveBack_29 : decode cX3_giveBack 29 = .ok (.aload_n 0, 1) := by decide +kernel
theorem dX3_giveBack_30 : decode cX3_giveBack 30 = .ok (.dup, 1) := by decide +kernel
theorem dX3_giveBack_31 : decode cX3_giveBack 31 = .ok (.getfield 18, 3) := by decide +kernel
theorem dX3_giveBack_34 : decode cX3_giveBack 34 = .ok (.iconst 1, 1) := by decide +kernel
theorem dX3_giveBack_35 : decode cX3_giveBack 35 = .ok (.isub, 1) := by decide +kernel
theorem dX3_giveBack_36 : decode cX3_giveBack 36 = .ok (.putfield 18, 3) := by decide +kernel
theorem dX3_giveBack_39 : decode cX3_giveBack 39 = .ok (.aload_n 0, 1) := by decide +kernel
theorem dX3_giveBack_40 : decode cX3_giveBack 40 = .ok (.getfield 13, 3) := by decide +kernel
theorem dX3_giveBack_43 : decode cX3_giveBack 43 = .ok (.aload_n 0, 1) := by decide +kernel
theorem dX3_giveBack_44 : decode cX3_giveBack 44 = .ok (.getfield 26, 3) := by decide +kernel
theorem dX3_giveBack_47 : decode cX3_giveBack 47 = .ok (.aaload, 1) := by decide +kernel
theorem dX3_giveBack_48 : decode cX3_giveBack 48 = .ok (.iconst 0, 1) := by decide +kernel
theorem dX3_giveBack_49 : decode cX3_giveBack 49 = .ok (.aload_n 1, 1) := by decide +kernel
theorem dX3_giveBack_50 : decode cX3_giveBack 50 = .ok (.getfield 22, 3) := by decide +kernel
theorem dX3_giveBack_53 : decode cX3_giveBack 53 = .ok (.iconst 0, 1) := by decide +kernel
theorem dX3_giveBack_54 : decode cX3_giveBack 54 = .ok (.bipush 45, 2) := by decide +kernel
theorem dX3_giveBack_56 : decode cX3_giveBack 56 = .ok (.invokestatic 29, 3) := by decide +kernel
theorem dX3_giveBack_59 : decode cX3_giveBack 59 = .ok (.return_, 1) := by decide +kernel
