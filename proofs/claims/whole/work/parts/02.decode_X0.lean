-- decode rows (printed by program)
theorem dX0_init_0 : decode cX0_init 0 = .ok (.aload_n 0, 1) := by decide +kernel
theorem dX0_init_1 : decode cX0_init 1 = .ok (.invokespecial 5, 3) := by decide +kernel
theorem dX0_init_4 : decode cX0_init 4 = .ok (.aload_n 0, 1) := by decide +kernel
theorem dX0_init_5 : decode cX0_init 5 = .ok (.bipush 45, 2) := by decide +kernel
theorem dX0_init_7 : decode cX0_init 7 = .ok (.newarray .int, 2) := by decide +kernel
theorem dX0_init_9 : decode cX0_init 9 = .ok (.putfield 11, 3) := by decide +kernel
theorem dX0_init_12 : decode cX0_init 12 = .ok (.return_, 1) := by decide +kernel
theorem dX0_layFrom_0 : decode cX0_layFrom 0 = .ok (.aload_n 0, 1) := by decide +kernel
theorem dX0_layFrom_1 : decode cX0_layFrom 1 = .ok (.aload_n 1, 1) := by decide +kernel
theorem dX0_layFrom_2 : decode cX0_layFrom 2 = .ok (.getfield 15, 3) := by decide +kernel
theorem dX0_layFrom_5 : decode cX0_layFrom 5 = .ok (.putfield 21, 3) := by decide +kernel
theorem dX0_layFrom_8 : decode cX0_layFrom 8 = .ok (.aload_n 0, 1) := by decide +kernel
theorem dX0_layFrom_9 : decode cX0_layFrom 9 = .ok (.aload_n 1, 1) := by decide +kernel
theorem dX0_layFrom_10 : decode cX0_layFrom 10 = .ok (.getfield 22, 3) := by decide +kernel
theorem dX0_layFrom_13 : decode cX0_layFrom 13 = .ok (.putfield 25, 3) := by decide +kernel
theorem dX0_layFrom_16 : decode cX0_layFrom 16 = .ok (.aload_n 1, 1) := by decide +kernel
theorem dX0_layFrom_17 : decode cX0_layFrom 17 = .ok (.getfield 26, 3) := by decide +kernel
theorem dX0_layFrom_20 : decode cX0_layFrom 20 = .ok (.iconst 0, 1) := by decide +kernel
theorem dX0_layFrom_21 : decode cX0_layFrom 21 = .ok (.aload_n 0, 1) := by decide +kernel
theorem dX0_layFrom_22 : decode cX0_layFrom 22 = .ok (.getfield 11, 3) := by decide +kernel
theorem dX0_layFrom_25 : decode cX0_layFrom 25 = .ok (.iconst 0, 1) := by decide +kernel
theorem dX0_layFrom_26 : decode cX0_layFrom 26 = .ok (.bipush 40, 2) := by decide +kernel
theorem dX0_layFrom_28 : decode cX0_layFrom 28 = .ok (.invokestatic 29, 3) := by decide +kernel
theorem dX0_layFrom_31 : decode cX0_layFrom 31 = .ok (.aload_n 1, 1) := by decide +kernel
theorem dX0_layFrom_32 : decode cX0_layFrom 32 = .ok (.getfield 35, 3) := by decide +kernel
theorem dX0_layFrom_35 : decode cX0_layFrom 35 = .ok (.iconst 0, 1) := by decide +kernel
theorem dX0_layFrom_36 : decode cX0_layFrom 36 = .ok (.aload_n 0, 1) := by decide +kernel
theorem dX0_layFrom_37 : decode cX0_layFrom 37 = .ok (.getfield 11, 3) := by decide +kernel
theorem dX0_layFrom_40 : decode cX0_layFrom 40 = .ok (.bipush 40, 2) := by decide +kernel
theorem dX0_layFrom_42 : decode cX0_layFrom 42 = .ok (.iconst 3, 1) := by decide +kernel
theorem dX0_layFrom_43 : decode cX0_layFrom 43 = .ok (.invokestatic 29, 3) := by decide +kernel
theorem dX0_layFrom_46 : decode cX0_layFrom 46 = .ok (.aload_n 0, 1) := by decide +kernel
theorem dX0_layFrom_47 : decode cX0_layFrom 47 = .ok (.getfield 11, 3) := by decide +kernel
theorem dX0_layFrom_50 : decode cX0_layFrom 50 = .ok (.bipush 43, 2) := by decide +kernel
theorem dX0_layFrom_52 : decode cX0_layFrom 52 = .ok (.iconst 0, 1) := by decide +kernel
theorem dX0_layFrom_53 : decode cX0_layFrom 53 = .ok (.iastore, 1) := by decide +kernel
theorem dX0_layFrom_54 : decode cX0_layFrom 54 = .ok (.aload_n 0, 1) := by decide +kernel
theorem dX0_layFrom_55 : decode cX0_layFrom 55 = .ok (.getfield 11, 3) := by decide +kernel
theorem dX0_layFrom_58 : decode cX0_layFrom 58 = .ok (.bipush 44, 2) := by decide +kernel
theorem dX0_layFrom_60 : decode cX0_layFrom 60 = .ok (.iconst 0, 1) := by decide +kernel
theorem dX0_layFrom_61 : decode cX0_layFrom 61 = .ok (.iastore, 1) := by decide +kernel
theorem dX0_layFrom_62 : decode cX0_layFrom 62 = .ok (.return_, 1) := by decide +kernel
theorem dX0_numberOf_0 : decode cX0_numberOf 0 = .ok (.aload_n 0, 1) := by decide +kernel
theorem dX0_numberOf_1 : decode cX0_numberOf 1 = .ok (.getfield 11, 3) := by decide +kernel
theorem dX0_numberOf_4 : decode cX0_numberOf 4 = .ok (.iload_n 1, 1) := by decide +kernel
theorem dX0_numberOf_5 : decode cX0_numberOf 5 = .ok (.iconst 5, 1) := by decide +kernel
theorem dX0_numberOf_6 : decode cX0_numberOf 6 = .ok (.imul, 1) := by decide +kernel
theorem dX0_numberOf_7 : decode cX0_numberOf 7 = .ok (.iload_n 2, 1) := by decide +kernel
theorem dX0_numberOf_8 : decode cX0_numberOf 8 = .ok (.iadd, 1) := by decide +kernel
theorem dX0_numberOf_9 : decode cX0_numberOf 9 = .ok (.iaload, 1) := by decide +kernel
theorem dX0_numberOf_10 : decode cX0_numberOf 10 = .ok (.ireturn, 1) := by decide +kernel
theorem dX0_tellNumber_0 : decode cX0_tellNumber 0 = .ok (.aload_n 0, 1) := by decide +kernel
theorem dX0_tellNumber_1 : decode cX0_tellNumber 1 = .ok (.getfield 11, 3) := by decide +kernel
theorem dX0_tellNumber_4 : decode cX0_tellNumber 4 = .ok (.iload_n 1, 1) := by decide +kernel
theorem dX0_tellNumber_5 : decode cX0_tellNumber 5 = .ok (.iconst 5, 1) := by decide +kernel
theorem dX0_tellNumber_6 : decode cX0_tellNumber 6 = .ok (.imul, 1) := by decide +kernel
theorem dX0_tellNumber_7 : decode cX0_tellNumber 7 = .ok (.iload_n 2, 1) := by decide +kernel
theorem dX0_tellNumber_8 : decode cX0_tellNumber 8 = .ok (.iadd, 1) := by decide +kernel
theorem dX0_tellNumber_9 : decode cX0_tellNumber 9 = .ok (.iload_n 3, 1) := by decide +kernel
theorem dX0_tellNumber_10 : decode cX0_tellNumber 10 = .ok (.iastore, 1) := by decide +kernel
theorem dX0_tellNumber_11 : decode cX0_tellNumber 11 = .ok (.return_, 1) := by decide +kernel
theorem dX0_limitOf_0 : decode cX0_limitOf 0 = .ok (.aload_n 0, 1) := by decide +kernel
theorem dX0_limitOf_1 : decode cX0_limitOf 1 = .ok (.getfield 11, 3) := by decide +kernel
theorem dX0_limitOf_4 : decode cX0_limitOf 4 = .ok (.bipush 40, 2) := by decide +kernel
theorem dX0_limitOf_6 : decode cX0_limitOf 6 = .ok (.iload_n 1, 1) := by decide +kernel
theorem dX0_limitOf_7 : decode cX0_limitOf 7 = .ok (.iadd, 1) := by decide +kernel
theorem dX0_limitOf_8 : decode cX0_limitOf 8 = .ok (.iaload, 1) := by decide +kernel
theorem dX0_limitOf_9 : decode cX0_limitOf 9 = .ok (.ireturn, 1) := by decide +kernel
theorem dX0_tellLimit_0 : decode cX0_tellLimit 0 = .ok (.aload_n 0, 1) := by decide +kernel
theorem dX0_tellLimit_1 : decode cX0_tellLimit 1 = .ok (.getfield 11, 3) := by decide +kernel
theorem dX0_tellLimit_4 : decode cX0_tellLimit 4 = .ok (.bipush 40, 2) := by decide +kernel
theorem dX0_tellLimit_6 : decode cX0_tellLimit 6 = .ok (.iload_n 1, 1) := by decide +kernel
theorem dX0_tellLimit_7 : decode cX0_tellLimit 7 = .ok (.iadd, 1) := by decide +kernel
theorem dX0_tellLimit_8 : decode cX0_tellLimit 8 = .ok (.iload_n 2, 1) := by decide +kernel
theorem dX0_tellLimit_9 : decode cX0_tellLimit 9 = .ok (.iastore, 1) := by decide +kernel
theorem dX0_tellLimit_10 : decode cX0_tellLimit 10 = .ok (.return_, 1) := by decide +kernel
theorem dX0_shiftNow_0 : decode cX0_shiftNow 0 = .ok (.aload_n 0, 1) := by decide +kernel
theorem dX0_shiftNow_1 : decode cX0_shiftNow 1 = .ok (.getfield 11, 3) := by decide +kernel
theorem dX0_shiftNow_4 : decode cX0_shiftNow 4 = .ok (.bipush 43, 2) := by decide +kernel
theorem dX0_shiftNow_6 : decode cX0_shiftNow 6 = .ok (.iaload, 1) := by decide +kernel
theorem dX0_shiftNow_7 : decode cX0_shiftNow 7 = .ok (.ireturn, 1) := by decide +kernel
theorem dX0_tellShift_0 : decode cX0_tellShift 0 = .ok (.aload_n 0, 1) := by decide +kernel
theorem dX0_tellShift_1 : decode cX0_tellShift 1 = .ok (.getfield 11, 3) := by decide +kernel
theorem dX0_tellShift_4 : decode cX0_tellShift 4 = .ok (.bipush 43, 2) := by decide +kernel
theorem dX0_tellShift_6 : decode cX0_tellShift 6 = .ok (.iload_n 1, 1) := by decide +kernel
theorem dX0_tellShift_7 : decode cX0_tellShift 7 = .ok (.iastore, 1) := by decide +kernel
theorem dX0_tellShift_8 : decode cX0_tellShift 8 = .ok (.return_, 1) := by decide +kernel
theorem dX0_bonded_0 : decode cX0_bonded 0 = .ok (.aload_n 0, 1) := by decide +kernel
theorem dX0_bonded_1 : decode cX0_bonded 1 = .ok (.getfield 11, 3) := by decide +kernel
theorem dX0_bonded_4 : decode cX0_bonded 4 = .ok (.bipush 44, 2) := by decide +kernel
theorem dX0_bonded_6 : decode cX0_bonded 6 = .ok (.iaload, 1) := by decide +kernel
theorem dX0_bonded_7 : decode cX0_bonded 7 = .ok (.ireturn, 1) := by decide +kernel
theorem dX0_tellBonded_0 : decode cX0_tellBonded 0 = .ok (.aload_n 0, 1) := by decide +kernel
theorem dX0_tellBonded_1 : decode cX0_tellBonded 1 = .ok (.getfield 11, 3) := by decide +kernel
theorem dX0_tellBonded_4 : decode cX0_tellBonded 4 = .ok (.bipush 44, 2) := by decide +kernel
theorem dX0_tellBonded_6 : decode cX0_tellBonded 6 = .ok (.iload_n 1, 1) := by decide +kernel
theorem dX0_tellBonded_7 : decode cX0_tellBonded 7 = .ok (.iastore, 1) := by decide +kernel
theorem dX0_tellBonded_8 : decode cX0_tellBonded 8 = .ok (.return_, 1) := by decide +kernel
theorem dX0_isBonded_0 : decode cX0_isBonded 0 = .ok (.aload_n 0, 1) := by decide +kernel
theorem dX0_isBonded_1 : decode cX0_isBonded 1 = .ok (.invokevirtual 38, 3) := by decide +kernel
theorem dX0_isBonded_4 : decode cX0_isBonded 4 = .ok (.iconst 1, 1) := by decide +kernel
theorem dX0_isBonded_5 : decode cX0_isBonded 5 = .ok (.iload_n 1, 1) := by decide +kernel
theorem dX0_isBonded_6 : decode cX0_isBonded 6 = .ok (.ishl, 1) := by decide +kernel
theorem dX0_isBonded_7 : decode cX0_isBonded 7 = .ok (.iand, 1) := by decide +kernel
theorem dX0_isBonded_8 : decode cX0_isBonded 8 = .ok (.ifCond .eq 7, 3) := by decide +kernel
theorem dX0_isBonded_11 : decode cX0_isBonded 11 = .ok (.iconst 1, 1) := by decide +kernel
theorem dX0_isBonded_12 : decode cX0_isBonded 12 = .ok (.goto 4, 3) := by decide +kernel
theorem dX0_isBonded_15 : decode cX0_isBonded 15 = .ok (.iconst 0, 1) := by decide +kernel
theorem dX0_isBonded_16 : decode cX0_isBonded 16 = .ok (.ireturn, 1) := by decide +kernel
