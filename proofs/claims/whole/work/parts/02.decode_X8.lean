-- decode rows (printed by program)
theorem dX8_init_0 : decode cX8_init 0 = .ok (.aload_n 0, 1) := by decide +kernel
theorem dX8_init_1 : decode cX8_init 1 = .ok (.invokespecial 1, 3) := by decide +kernel
theorem dX8_init_4 : decode cX8_init 4 = .ok (.aload_n 0, 1) := by decide +kernel
theorem dX8_init_5 : decode cX8_init 5 = .ok (.new 7, 3) := by decide +kernel
theorem dX8_init_8 : decode cX8_init 8 = .ok (.dup, 1) := by decide +kernel
theorem dX8_init_9 : decode cX8_init 9 = .ok (.invokespecial 9, 3) := by decide +kernel
theorem dX8_init_12 : decode cX8_init 12 = .ok (.putfield 10, 3) := by decide +kernel
theorem dX8_init_15 : decode cX8_init 15 = .ok (.aload_n 0, 1) := by decide +kernel
theorem dX8_init_16 : decode cX8_init 16 = .ok (.new 16, 3) := by decide +kernel
theorem dX8_init_19 : decode cX8_init 19 = .ok (.dup, 1) := by decide +kernel
theorem dX8_init_20 : decode cX8_init 20 = .ok (.invokespecial 18, 3) := by decide +kernel
theorem dX8_init_23 : decode cX8_init 23 = .ok (.putfield 19, 3) := by decide +kernel
theorem dX8_init_26 : decode cX8_init 26 = .ok (.aload_n 0, 1) := by decide +kernel
theorem dX8_init_27 : decode cX8_init 27 = .ok (.new 23, 3) := by decide +kernel
theorem dX8_init_30 : decode cX8_init 30 = .ok (.dup, 1) := by decide +kernel
theorem dX8_init_31 : decode cX8_init 31 = .ok (.invokespecial 25, 3) := by decide +kernel
theorem dX8_init_34 : decode cX8_init 34 = .ok (.putfield 26, 3) := by decide +kernel
theorem dX8_init_37 : decode cX8_init 37 = .ok (.aload_n 0, 1) := by decide +kernel
theorem dX8_init_38 : decode cX8_init 38 = .ok (.new 30, 3) := by decide +kernel
theorem dX8_init_41 : decode cX8_init 41 = .ok (.dup, 1) := by decide +kernel
theorem dX8_init_42 : decode cX8_init 42 = .ok (.invokespecial 32, 3) := by decide +kernel
theorem dX8_init_45 : decode cX8_init 45 = .ok (.putfield 33, 3) := by decide +kernel
theorem dX8_init_48 : decode cX8_init 48 = .ok (.aload_n 0, 1) := by decide +kernel
theorem dX8_init_49 : decode cX8_init 49 = .ok (.new 37, 3) := by decide +kernel
theorem dX8_init_52 : decode cX8_init 52 = .ok (.dup, 1) := by decide +kernel
theorem dX8_init_53 : decode cX8_init 53 = .ok (.aload_n 0, 1) := by decide +kernel
theorem dX8_init_54 : decode cX8_init 54 = .ok (.getfield 26, 3) := by decide +kernel
theorem dX8_init_57 : decode cX8_init 57 = .ok (.invokespecial 39, 3) := by decide +kernel
theorem dX8_init_60 : decode cX8_init 60 = .ok (.putfield 42, 3) := by decide +kernel
theorem dX8_init_63 : decode cX8_init 63 = .ok (.aload_n 0, 1) := by decide +kernel
theorem dX8_init_64 : decode cX8_init 64 = .ok (.new 46, 3) := by decide +kernel
theorem dX8_init_67 : decode cX8_init 67 = .ok (.dup, 1) := by decide +kernel
theorem dX8_init_68 : decode cX8_init 68 = .ok (.aload_n 0, 1) := by decide +kernel
theorem dX8_init_69 : decode cX8_init 69 = .ok (.getfield 26, 3) := by decide +kernel
theorem dX8_init_72 : decode cX8_init 72 = .ok (.aload_n 0, 1) := by decide +kernel
theorem dX8_init_73 : decode cX8_init 73 = .ok (.getfield 42, 3) := by decide +kernel
theorem dX8_init_76 : decode cX8_init 76 = .ok (.invokespecial 48, 3) := by decide +kernel
theorem dX8_init_79 : decode cX8_init 79 = .ok (.putfield 51, 3) := by decide +kernel
theorem dX8_init_82 : decode cX8_init 82 = .ok (.aload_n 0, 1) := by decide +kernel
theorem dX8_init_83 : decode cX8_init 83 = .ok (.new 55, 3) := by decide +kernel
theorem dX8_init_86 : decode cX8_init 86 = .ok (.dup, 1) := by decide +kernel
theorem dX8_init_87 : decode cX8_init 87 = .ok (.aload_n 0, 1) := by decide +kernel
theorem dX8_init_88 : decode cX8_init 88 = .ok (.getfield 26, 3) := by decide +kernel
theorem dX8_init_91 : decode cX8_init 91 = .ok (.aload_n 0, 1) := by decide +kernel
theorem dX8_init_92 : decode cX8_init 92 = .ok (.getfield 42, 3) := by decide +kernel
theorem dX8_init_95 : decode cX8_init 95 = .ok (.invokespecial 57, 3) := by decide +kernel
theorem dX8_init_98 : decode cX8_init 98 = .ok (.putfield 58, 3) := by decide +kernel
theorem dX8_init_101 : decode cX8_init 101 = .ok (.aload_n 0, 1) := by decide +kernel
theorem dX8_init_102 : decode cX8_init 102 = .ok (.new 62, 3) := by decide +kernel
theorem dX8_init_105 : decode cX8_init 105 = .ok (.dup, 1) := by decide +kernel
theorem dX8_init_106 : decode cX8_init 106 = .ok (.aload_n 0, 1) := by decide +kernel
theorem dX8_init_107 : decode cX8_init 107 = .ok (.getfield 26, 3) := by decide +kernel
theorem dX8_init_110 : decode cX8_init 110 = .ok (.invokespecial 64, 3) := by decide +kernel
theorem dX8_init_113 : decode cX8_init 113 = .ok (.putfield 65, 3) := by decide +kernel
theorem dX8_init_116 : decode cX8_init 116 = .ok (.iconst 0, 1) := by decide +kernel
theorem dX8_init_117 : decode cX8_init 117 = .ok (.istore_n 1, 1) := by decide +kernel
theorem dX8_init_118 : decode cX8_init 118 = .ok (.iload_n 1, 1) := by decide +kernel
theorem dX8_init_119 : decode cX8_init 119 = .ok (.ldc 69, 2) := by decide +kernel
theorem dX8_init_121 : decode cX8_init 121 = .ok (.invokevirtual 71, 3) := by decide +kernel
theorem dX8_init_124 : decode cX8_init 124 = .ok (.if_icmp .ge 23, 3) := by decide +kernel
theorem dX8_init_127 : decode cX8_init 127 = .ok (.aload_n 0, 1) := by decide +kernel
theorem dX8_init_128 : decode cX8_init 128 = .ok (.getfield 10, 3) := by decide +kernel
theorem dX8_init_131 : decode cX8_init 131 = .ok (.ldc 69, 2) := by decide +kernel
theorem dX8_init_133 : decode cX8_init 133 = .ok (.iload_n 1, 1) := by decide +kernel
theorem dX8_init_134 : decode cX8_init 134 = .ok (.invokevirtual 77, 3) := by decide +kernel
theorem dX8_init_137 : decode cX8_init 137 = .ok (.invokevirtual 81, 3) := by decide +kernel
theorem dX8_init_140 : decode cX8_init 140 = .ok (.pop, 1) := by decide +kernel
theorem dX8_init_141 : decode cX8_init 141 = .ok (.iinc 1 1, 3) := by decide +kernel
theorem dX8_init_144 : decode cX8_init 144 = .ok (.goto (-26), 3) := by decide +kernel
theorem dX8_init_147 : decode cX8_init 147 = .ok (.aload_n 0, 1) := by decide +kernel
theorem dX8_init_148 : decode cX8_init 148 = .ok (.invokevirtual 85, 3) := by decide +kernel
theorem dX8_init_151 : decode cX8_init 151 = .ok (.pop, 1) := by decide +kernel
theorem dX8_init_152 : decode cX8_init 152 = .ok (.aload_n 0, 1) := by decide +kernel
theorem dX8_init_153 : decode cX8_init 153 = .ok (.getfield 10, 3) := by decide +kernel
theorem dX8_init_156 : decode cX8_init 156 = .ok (.invokevirtual 89, 3) := by decide +kernel
theorem dX8_init_159 : decode cX8_init 159 = .ok (.return_, 1) := by decide +kernel
theorem dX8_write_0 : decode cX8_write 0 = .ok (.iload_n 1, 1) := by decide +kernel
theorem dX8_write_1 : decode cX8_write 1 = .ok (.bipush 32, 2) := by decide +kernel
theorem dX8_write_3 : decode cX8_write 3 = .ok (.if_icmp .lt 9, 3) := by decide +kernel
theorem dX8_write_6 : decode cX8_write 6 = .ok (.iload_n 1, 1) := by decide +kernel
theorem dX8_write_7 : decode cX8_write 7 = .ok (.bipush 126, 2) := by decide +kernel
theorem dX8_write_9 : decode cX8_write 9 = .ok (.if_icmp .le 5, 3) := by decide +kernel
theorem dX8_write_12 : decode cX8_write 12 = .ok (.iconst (-1), 1) := by decide +kernel
theorem dX8_write_13 : decode cX8_write 13 = .ok (.ireturn, 1) := by decide +kernel
theorem dX8_write_14 : decode cX8_write 14 = .ok (.aload_n 0, 1) := by decide +kernel
theorem dX8_write_15 : decode cX8_write 15 = .ok (.getfield 10, 3) := by decide +kernel
theorem dX8_write_18 : decode cX8_write 18 = .ok (.iload_n 1, 1) := by decide +kernel
theorem dX8_write_19 : decode cX8_write 19 = .ok (.i2c, 1) := by decide +kernel
theorem dX8_write_20 : decode cX8_write 20 = .ok (.invokevirtual 81, 3) := by decide +kernel
theorem dX8_write_23 : decode cX8_write 23 = .ok (.ifCond .eq 13, 3) := by decide +kernel
theorem dX8_write_26 : decode cX8_write 26 = .ok (.aload_n 0, 1) := by decide +kernel
theorem dX8_write_27 : decode cX8_write 27 = .ok (.getfield 10, 3) := by decide +kernel
theorem dX8_write_30 : decode cX8_write 30 = .ok (.getfield 92, 3) := by decide +kernel
theorem dX8_write_33 : decode cX8_write 33 = .ok (.goto 5, 3) := by decide +kernel
theorem dX8_write_36 : decode cX8_write 36 = .ok (.bipush (-3), 2) := by decide +kernel
theorem dX8_write_38 : decode cX8_write 38 = .ok (.ireturn, 1) := by decide +kernel
theorem dX8_wipe_0 : decode cX8_wipe 0 = .ok (.aload_n 0, 1) := by decide +kernel
theorem dX8_wipe_1 : decode cX8_wipe 1 = .ok (.getfield 10, 3) := by decide +kernel
theorem dX8_wipe_4 : decode cX8_wipe 4 = .ok (.getfield 92, 3) := by decide +kernel
theorem dX8_wipe_7 : decode cX8_wipe 7 = .ok (.istore_n 1, 1) := by decide +kernel
theorem dX8_wipe_8 : decode cX8_wipe 8 = .ok (.aload_n 0, 1) := by decide +kernel
theorem dX8_wipe_9 : decode cX8_wipe 9 = .ok (.getfield 10, 3) := by decide +kernel
theorem dX8_wipe_12 : decode cX8_wipe 12 = .ok (.invokevirtual 89, 3) := by decide +kernel
theorem dX8_wipe_15 : decode cX8_wipe 15 = .ok (.iload_n 1, 1) := by decide +kernel
theorem dX8_wipe_16 : decode cX8_wipe 16 = .ok (.ireturn, 1) := by decide +kernel
theorem dX8_fault_0 : decode cX8_fault 0 = .ok (.aload_n 0, 1) := by decide +kernel
theorem dX8_fault_1 : decode cX8_fault 1 = .ok (.getfield 19, 3) := by decide +kernel
theorem dX8_fault_4 : decode cX8_fault 4 = .ok (.aload_n 0, 1) := by decide +kernel
theorem dX8_fault_5 : decode cX8_fault 5 = .ok (.getfield 10, 3) := by decide +kernel
theorem dX8_fault_8 : decode cX8_fault 8 = .ok (.invokevirtual 95, 3) := by decide +kernel
theorem dX8_fault_11 : decode cX8_fault 11 = .ok (.aload_n 0, 1) := by decide +kernel
theorem dX8_fault_12 : decode cX8_fault 12 = .ok (.getfield 19, 3) := by decide +kernel
theorem dX8_fault_15 : decode cX8_fault 15 = .ok (.getfield 99, 3) := by decide +kernel
theorem dX8_fault_18 : decode cX8_fault 18 = .ok (.ireturn, 1) := by decide +kernel
theorem dX8_lay_0 : decode cX8_lay 0 = .ok (.aload_n 0, 1) := by decide +kernel
theorem dX8_lay_1 : decode cX8_lay 1 = .ok (.invokevirtual 85, 3) := by decide +kernel
theorem dX8_lay_4 : decode cX8_lay 4 = .ok (.ifCond .eq 13, 3) := by decide +kernel
theorem dX8_lay_7 : decode cX8_lay 7 = .ok (.aload_n 0, 1) := by decide +kernel
theorem dX8_lay_8 : decode cX8_lay 8 = .ok (.getfield 26, 3) := by decide +kernel
theorem dX8_lay_11 : decode cX8_lay 11 = .ok (.getfield 102, 3) := by decide +kernel
theorem dX8_lay_14 : decode cX8_lay 14 = .ok (.goto 5, 3) := by decide +kernel
theorem dX8_lay_17 : decode cX8_lay 17 = .ok (.bipush (-2), 2) := by decide +kernel
theorem dX8_lay_19 : decode cX8_lay 19 = .ok (.ireturn, 1) := by decide +kernel
theorem dX8_set_0 : decode cX8_set 0 = .ok (.aload_n 0, 1) := by decide +kernel
theorem dX8_set_1 : decode cX8_set 1 = .ok (.iload_n 1, 1) := by decide +kernel
theorem dX8_set_2 : decode cX8_set 2 = .ok (.invokevirtual 105, 3) := by decide +kernel
theorem dX8_set_5 : decode cX8_set 5 = .ok (.ifCond .eq 12, 3) := by decide +kernel
theorem dX8_set_8 : decode cX8_set 8 = .ok (.iload_n 2, 1) := by decide +kernel
theorem dX8_set_9 : decode cX8_set 9 = .ok (.ifCond .lt 8, 3) := by decide +kernel
theorem dX8_set_12 : decode cX8_set 12 = .ok (.iload_n 2, 1) := by decide +kernel
theorem dX8_set_13 : decode cX8_set 13 = .ok (.iconst 5, 1) := by decide +kernel
theorem dX8_set_14 : decode cX8_set 14 = .ok (.if_icmp .lt 5, 3) := by decide +kernel
theorem dX8_set_17 : decode cX8_set 17 = .ok (.iconst (-1), 1) := by decide +kernel
theorem dX8_set_18 : decode cX8_set 18 = .ok (.ireturn, 1) := by decide +kernel
theorem dX8_set_19 : decode cX8_set 19 = .ok (.iload_n 3, 1) := by decide +kernel
theorem dX8_set_20 : decode cX8_set 20 = .ok (.getstatic 109, 3) := by decide +kernel
theorem dX8_set_23 : decode cX8_set 23 = .ok (.iload_n 2, 1) := by decide +kernel
theorem dX8_set_24 : decode cX8_set 24 = .ok (.iaload, 1) := by decide +kernel
theorem dX8_set_25 : decode cX8_set 25 = .ok (.if_icmp .lt 12, 3) := by decide +kernel
theorem dX8_set_28 : decode cX8_set 28 = .ok (.iload_n 3, 1) := by decide +kernel
theorem dX8_set_29 : decode cX8_set 29 = .ok (.getstatic 113, 3) := by decide +kernel
theorem dX8_set_32 : decode cX8_set 32 = .ok (.iload_n 2, 1) := by decide +kernel
theorem dX8_set_33 : decode cX8_set 33 = .ok (.iaload, 1) := by decide +kernel
theorem dX8_set_34 : decode cX8_set 34 = .ok (.if_icmp .le 5, 3) := by decide +kernel
theorem dX8_set_37 : decode cX8_set 37 = .ok (.iconst (-1), 1) := by decide +kernel
theorem dX8_set_38 : decode cX8_set 38 = .ok (.ireturn, 1) := by decide +kernel
theorem dX8_set_39 : decode cX8_set 39 = .ok (.aload_n 0, 1) := by decide +kernel
theorem dX8_set_40 : decode cX8_set 40 = .ok (.getfield 26, 3) := by decide +kernel
theorem dX8_set_43 : decode cX8_set 43 = .ok (.iload_n 1, 1) := by decide +kernel
theorem dX8_set_44 : decode cX8_set 44 = .ok (.iload_n 2, 1) := by decide +kernel
theorem dX8_set_45 : decode cX8_set 45 = .ok (.invokevirtual 116, 3) := by decide +kernel
theorem dX8_set_48 : decode cX8_set 48 = .ok (.istore 4, 2) := by decide +kernel
theorem dX8_set_50 : decode cX8_set 50 = .ok (.iload 4, 2) := by decide +kernel
theorem dX8_set_52 : decode cX8_set 52 = .ok (.iload_n 3, 1) := by decide +kernel
theorem dX8_set_53 : decode cX8_set 53 = .ok (.if_icmp .ne 6, 3) := by decide +kernel
theorem dX8_set_56 : decode cX8_set 56 = .ok (.bipush (-2), 2) := by decide +kernel
theorem dX8_set_58 : decode cX8_set 58 = .ok (.ireturn, 1) := by decide +kernel
theorem dX8_set_59 : decode cX8_set 59 = .ok (.aload_n 0, 1) := by decide +kernel
theorem dX8_set_60 : decode cX8_set 60 = .ok (.getfield 33, 3) := by decide +kernel
theorem dX8_set_63 : decode cX8_set 63 = .ok (.aload_n 0, 1) := by decide +kernel
theorem dX8_set_64 : decode cX8_set 64 = .ok (.getfield 26, 3) := by decide +kernel
theorem dX8_set_67 : decode cX8_set 67 = .ok (.invokevirtual 120, 3) := by decide +kernel
theorem dX8_set_70 : decode cX8_set 70 = .ok (.aload_n 0, 1) := by decide +kernel
theorem dX8_set_71 : decode cX8_set 71 = .ok (.getfield 26, 3) := by decide +kernel
theorem dX8_set_74 : decode cX8_set 74 = .ok (.iload_n 1, 1) := by decide +kernel
theorem dX8_set_75 : decode cX8_set 75 = .ok (.iload_n 2, 1) := by decide +kernel
theorem dX8_set_76 : decode cX8_set 76 = .ok (.iload_n 3, 1) := by decide +kernel
theorem dX8_set_77 : decode cX8_set 77 = .ok (.invokevirtual 123, 3) := by decide +kernel
theorem dX8_set_80 : decode cX8_set 80 = .ok (.aload_n 0, 1) := by decide +kernel
theorem dX8_set_81 : decode cX8_set 81 = .ok (.getfield 42, 3) := by decide +kernel
theorem dX8_set_84 : decode cX8_set 84 = .ok (.invokevirtual 127, 3) := by decide +kernel
theorem dX8_set_87 : decode cX8_set 87 = .ok (.iload 4, 2) := by decide +kernel
theorem dX8_set_89 : decode cX8_set 89 = .ok (.ireturn, 1) := by decide +kernel
theorem dX8_limit_0 : decode cX8_limit 0 = .ok (.iload_n 1, 1) := by decide +kernel
theorem dX8_limit_1 : decode cX8_limit 1 = .ok (.ifCond .lt 22, 3) := by decide +kernel
theorem dX8_limit_4 : decode cX8_limit 4 = .ok (.iload_n 1, 1) := by decide +kernel
theorem dX8_limit_5 : decode cX8_limit 5 = .ok (.iconst 3, 1) := by decide +kernel
theorem dX8_limit_6 : decode cX8_limit 6 = .ok (.if_icmp .ge 17, 3) := by decide +kernel
theorem dX8_limit_9 : decode cX8_limit 9 = .ok (.iload_n 2, 1) := by decide +kernel
theorem dX8_limit_10 : decode cX8_limit 10 = .ok (.iconst 1, 1) := by decide +kernel
theorem dX8_limit_11 : decode cX8_limit 11 = .ok (.if_icmp .lt 12, 3) := by decide +kernel
theorem dX8_limit_14 : decode cX8_limit 14 = .ok (.iload_n 2, 1) := by decide +kernel
theorem dX8_limit_15 : decode cX8_limit 15 = .ok (.getstatic 130, 3) := by decide +kernel
theorem dX8_limit_18 : decode cX8_limit 18 = .ok (.iload_n 1, 1) := by decide +kernel
theorem dX8_limit_19 : decode cX8_limit 19 = .ok (.iaload, 1) := by decide +kernel
theorem dX8_limit_20 : decode cX8_limit 20 = .ok (.if_icmp .le 5, 3) := by decide +kernel
theorem dX8_limit_23 : decode cX8_limit 23 = .ok (.iconst (-1), 1) := by decide +kernel
theorem dX8_limit_24 : decode cX8_limit 24 = .ok (.ireturn, 1) := by decide +kernel
theorem dX8_limit_25 : decode cX8_limit 25 = .ok (.aload_n 0, 1) := by decide +kernel
theorem dX8_limit_26 : decode cX8_limit 26 = .ok (.getfield 26, 3) := by decide +kernel
theorem dX8_limit_29 : decode cX8_limit 29 = .ok (.iload_n 1, 1) := by decide +kernel
theorem dX8_limit_30 : decode cX8_limit 30 = .ok (.invokevirtual 133, 3) := by decide +kernel
theorem dX8_limit_33 : decode cX8_limit 33 = .ok (.istore_n 3, 1) := by decide +kernel
theorem dX8_limit_34 : decode cX8_limit 34 = .ok (.iload_n 3, 1) := by decide +kernel
theorem dX8_limit_35 : decode cX8_limit 35 = .ok (.iload_n 2, 1) := by decide +kernel
theorem dX8_limit_36 : decode cX8_limit 36 = .ok (.if_icmp .ne 6, 3) := by decide +kernel
theorem dX8_limit_39 : decode cX8_limit 39 = .ok (.bipush (-2), 2) := by decide +kernel
theorem dX8_limit_41 : decode cX8_limit 41 = .ok (.ireturn, 1) := by decide +kernel
theorem dX8_limit_42 : decode cX8_limit 42 = .ok (.aload_n 0, 1) := by decide +kernel
theorem dX8_limit_43 : decode cX8_limit 43 = .ok (.getfield 33, 3) := by decide +kernel
theorem dX8_limit_46 : decode cX8_limit 46 = .ok (.aload_n 0, 1) := by decide +kernel
theorem dX8_limit_47 : decode cX8_limit 47 = .ok (.getfield 26, 3) := by decide +kernel
theorem dX8_limit_50 : decode cX8_limit 50 = .ok (.invokevirtual 120, 3) := by decide +kernel
theorem dX8_limit_53 : decode cX8_limit 53 = .ok (.aload_n 0, 1) := by decide +kernel
theorem dX8_limit_54 : decode cX8_limit 54 = .ok (.getfield 26, 3) := by decide +kernel
theorem dX8_limit_57 : decode cX8_limit 57 = .ok (.iload_n 1, 1) := by decide +kernel
theorem dX8_limit_58 : decode cX8_limit 58 = .ok (.iload_n 2, 1) := by decide +kernel
theorem dX8_limit_59 : decode cX8_limit 59 = .ok (.invokevirtual 137, 3) := by decide +kernel
theorem dX8_limit_62 : decode cX8_limit 62 = .ok (.aload_n 0, 1) := by decide +kernel
theorem dX8_limit_63 : decode cX8_limit 63 = .ok (.getfield 42, 3) := by decide +kernel
theorem dX8_limit_66 : decode cX8_limit 66 = .ok (.invokevirtual 127, 3) := by decide +kernel
theorem dX8_limit_69 : decode cX8_limit 69 = .ok (.iload_n 3, 1) := by decide +kernel
theorem dX8_limit_70 : decode cX8_limit 70 = .ok (.ireturn, 1) := by decide +kernel
theorem dX8_shift_0 : decode cX8_shift 0 = .ok (.iload_n 1, 1) := by decide +kernel
theorem dX8_shift_1 : decode cX8_shift 1 = .ok (.bipush (-9), 2) := by decide +kernel
theorem dX8_shift_3 : decode cX8_shift 3 = .ok (.if_icmp .lt 9, 3) := by decide +kernel
theorem dX8_shift_6 : decode cX8_shift 6 = .ok (.iload_n 1, 1) := by decide +kernel
theorem dX8_shift_7 : decode cX8_shift 7 = .ok (.bipush 9, 2) := by decide +kernel
theorem dX8_shift_9 : decode cX8_shift 9 = .ok (.if_icmp .le 5, 3) := by decide +kernel
theorem dX8_shift_12 : decode cX8_shift 12 = .ok (.iconst (-1), 1) := by decide +kernel
theorem dX8_shift_13 : decode cX8_shift 13 = .ok (.ireturn, 1) := by decide +kernel
theorem dX8_shift_14 : decode cX8_shift 14 = .ok (.aload_n 0, 1) := by decide +kernel
theorem dX8_shift_15 : decode cX8_shift 15 = .ok (.getfield 26, 3) := by decide +kernel
theorem dX8_shift_18 : decode cX8_shift 18 = .ok (.invokevirtual 141, 3) := by decide +kernel
theorem dX8_shift_21 : decode cX8_shift 21 = .ok (.istore_n 2, 1) := by decide +kernel
theorem dX8_shift_22 : decode cX8_shift 22 = .ok (.iload_n 2, 1) := by decide +kernel
theorem dX8_shift_23 : decode cX8_shift 23 = .ok (.iload_n 1, 1) := by decide +kernel
theorem dX8_shift_24 : decode cX8_shift 24 = .ok (.if_icmp .ne 6, 3) := by decide +kernel
theorem dX8_shift_27 : decode cX8_shift 27 = .ok (.bipush (-2), 2) := by decide +kernel
theorem dX8_shift_29 : decode cX8_shift 29 = .ok (.ireturn, 1) := by decide +kernel
theorem dX8_shift_30 : decode cX8_shift 30 = .ok (.aload_n 0, 1) := by decide +kernel
theorem dX8_shift_31 : decode cX8_shift 31 = .ok (.getfield 33, 3) := by decide +kernel
theorem dX8_shift_34 : decode cX8_shift 34 = .ok (.aload_n 0, 1) := by decide +kernel
theorem dX8_shift_35 : decode cX8_shift 35 = .ok (.getfield 26, 3) := by decide +kernel
theorem dX8_shift_38 : decode cX8_shift 38 = .ok (.invokevirtual 120, 3) := by decide +kernel
theorem dX8_shift_41 : decode cX8_shift 41 = .ok (.aload_n 0, 1) := by decide +kernel
theorem dX8_shift_42 : decode cX8_shift 42 = .ok (.getfield 26, 3) := by decide +kernel
theorem dX8_shift_45 : decode cX8_shift 45 = .ok (.iload_n 1, 1) := by decide +kernel
theorem dX8_shift_46 : decode cX8_shift 46 = .ok (.invokevirtual 144, 3) := by decide +kernel
theorem dX8_shift_49 : decode cX8_shift 49 = .ok (.aload_n 0, 1) := by decide +kernel
theorem dX8_shift_50 : decode cX8_shift 50 = .ok (.getfield 42, 3) := by decide +kernel
theorem dX8_shift_53 : decode cX8_shift 53 = .ok (.invokevirtual 127, 3) := by decide +kernel
theorem dX8_shift_56 : decode cX8_shift 56 = .ok (.iload_n 2, 1) := by decide +kernel
theorem dX8_shift_57 : decode cX8_shift 57 = .ok (.ldc 148, 2) := by decide +kernel
theorem dX8_shift_59 : decode cX8_shift 59 = .ok (.iadd, 1) := by decide +kernel
theorem dX8_shift_60 : decode cX8_shift 60 = .ok (.ireturn, 1) := by decide +kernel
theorem dX8_undo_0 : decode cX8_undo 0 = .ok (.aload_n 0, 1) := by decide +kernel
theorem dX8_undo_1 : decode cX8_undo 1 = .ok (.getfield 33, 3) := by decide +kernel
theorem dX8_undo_4 : decode cX8_undo 4 = .ok (.getfield 149, 3) := by decide +kernel
theorem dX8_undo_7 : decode cX8_undo 7 = .ok (.ifCond .ne 6, 3) := by decide +kernel
theorem dX8_undo_10 : decode cX8_undo 10 = .ok (.bipush (-2), 2) := by decide +kernel
theorem dX8_undo_12 : decode cX8_undo 12 = .ok (.ireturn, 1) := by decide +kernel
theorem dX8_undo_13 : decode cX8_undo 13 = .ok (.aload_n 0, 1) := by decide +kernel
theorem dX8_undo_14 : decode cX8_undo 14 = .ok (.getfield 33, 3) := by decide +kernel
theorem dX8_undo_17 : decode cX8_undo 17 = .ok (.aload_n 0, 1) := by decide +kernel
theorem dX8_undo_18 : decode cX8_undo 18 = .ok (.getfield 26, 3) := by decide +kernel
theorem dX8_undo_21 : decode cX8_undo 21 = .ok (.invokevirtual 152, 3) := by decide +kernel
theorem dX8_undo_24 : decode cX8_undo 24 = .ok (.aload_n 0, 1) := by decide +kernel
theorem dX8_undo_25 : decode cX8_undo 25 = .ok (.getfield 42, 3) := by decide +kernel
theorem dX8_undo_28 : decode cX8_undo 28 = .ok (.invokevirtual 127, 3) := by decide +kernel
theorem dX8_undo_31 : decode cX8_undo 31 = .ok (.aload_n 0, 1) := by decide +kernel
theorem dX8_undo_32 : decode cX8_undo 32 = .ok (.getfield 33, 3) := by decide +kernel
theorem dX8_undo_35 : decode cX8_undo 35 = .ok (.getfield 149, 3) := by decide +kernel
theorem dX8_undo_38 : decode cX8_undo 38 = .ok (.ireturn, 1) := by decide +kernel
theorem dX8_wire_0 : decode cX8_wire 0 = .ok (.aload_n 0, 1) := by decide +kernel
theorem dX8_wire_1 : decode cX8_wire 1 = .ok (.iload_n 1, 1) := by decide +kernel
theorem dX8_wire_2 : decode cX8_wire 2 = .ok (.invokevirtual 105, 3) := by decide +kernel
theorem dX8_wire_5 : decode cX8_wire 5 = .ok (.ifCond .ne 5, 3) := by decide +kernel
theorem dX8_wire_8 : decode cX8_wire 8 = .ok (.iconst (-1), 1) := by decide +kernel
theorem dX8_wire_9 : decode cX8_wire 9 = .ok (.ireturn, 1) := by decide +kernel
theorem dX8_wire_10 : decode cX8_wire 10 = .ok (.iload_n 2, 1) := by decide +kernel
theorem dX8_wire_11 : decode cX8_wire 11 = .ok (.tableswitch 111 0 8 #[49, 49, 49, 49, 49, 59, 76, 85, 102], 49) := by decide +kernel
theorem dX8_wire_60 : decode cX8_wire 60 = .ok (.aload_n 0, 1) := by decide +kernel
theorem dX8_wire_61 : decode cX8_wire 61 = .ok (.getfield 26, 3) := by decide +kernel
theorem dX8_wire_64 : decode cX8_wire 64 = .ok (.iload_n 1, 1) := by decide +kernel
theorem dX8_wire_65 : decode cX8_wire 65 = .ok (.iload_n 2, 1) := by decide +kernel
theorem dX8_wire_66 : decode cX8_wire 66 = .ok (.invokevirtual 116, 3) := by decide +kernel
theorem dX8_wire_69 : decode cX8_wire 69 = .ok (.ireturn, 1) := by decide +kernel
theorem dX8_wire_70 : decode cX8_wire 70 = .ok (.aload_n 0, 1) := by decide +kernel
theorem dX8_wire_71 : decode cX8_wire 71 = .ok (.getfield 26, 3) := by decide +kernel
theorem dX8_wire_74 : decode cX8_wire 74 = .ok (.iload_n 1, 1) := by decide +kernel
theorem dX8_wire_75 : decode cX8_wire 75 = .ok (.invokevirtual 155, 3) := by decide +kernel
theorem dX8_wire_78 : decode cX8_wire 78 = .ok (.ifCond .eq 7, 3) := by decide +kernel
theorem dX8_wire_81 : decode cX8_wire 81 = .ok (.iconst 1, 1) := by decide +kernel
theorem dX8_wire_82 : decode cX8_wire 82 = .ok (.goto 4, 3) := by decide +kernel
theorem dX8_wire_85 : decode cX8_wire 85 = .ok (.iconst 0, 1) := by decide +kernel
theorem dX8_wire_86 : decode cX8_wire 86 = .ok (.ireturn, 1) := by decide +kernel
theorem dX8_wire_87 : decode cX8_wire 87 = .ok (.aload_n 0, 1) := by decide +kernel
theorem dX8_wire_88 : decode cX8_wire 88 = .ok (.getfield 42, 3) := by decide +kernel
theorem dX8_wire_91 : decode cX8_wire 91 = .ok (.iload_n 1, 1) := by decide +kernel
theorem dX8_wire_92 : decode cX8_wire 92 = .ok (.invokevirtual 158, 3) := by decide +kernel
theorem dX8_wire_95 : decode cX8_wire 95 = .ok (.ireturn, 1) := by decide +kernel
theorem dX8_wire_96 : decode cX8_wire 96 = .ok (.aload_n 0, 1) := by decide +kernel
theorem dX8_wire_97 : decode cX8_wire 97 = .ok (.getfield 42, 3) := by decide +kernel
theorem dX8_wire_100 : decode cX8_wire 100 = .ok (.iload_n 1, 1) := by decide +kernel
theorem dX8_wire_101 : decode cX8_wire 101 = .ok (.aload_n 0, 1) := by decide +kernel
theorem dX8_wire_102 : decode cX8_wire 102 = .ok (.getfield 42, 3) := by decide +kernel
theorem dX8_wire_105 : decode cX8_wire 105 = .ok (.iload_n 1, 1) := by decide +kernel
theorem dX8_wire_106 : decode cX8_wire 106 = .ok (.invokevirtual 161, 3) := by decide +kernel
theorem dX8_wire_109 : decode cX8_wire 109 = .ok (.invokevirtual 164, 3) := by decide +kernel
theorem dX8_wire_112 : decode cX8_wire 112 = .ok (.ireturn, 1) := by decide +kernel
theorem dX8_wire_113 : decode cX8_wire 113 = .ok (.aload_n 0, 1) := by decide +kernel
theorem dX8_wire_114 : decode cX8_wire 114 = .ok (.getfield 42, 3) := by decide +kernel
theorem dX8_wire_117 : decode cX8_wire 117 = .ok (.iload_n 1, 1) := by decide +kernel
theorem dX8_wire_118 : decode cX8_wire 118 = .ok (.invokevirtual 161, 3) := by decide +kernel
theorem dX8_wire_121 : decode cX8_wire 121 = .ok (.ireturn, 1) := by decide +kernel
theorem dX8_wire_122 : decode cX8_wire 122 = .ok (.iconst (-1), 1) := by decide +kernel
theorem dX8_wire_123 : decode cX8_wire 123 = .ok (.ireturn, 1) := by decide +kernel
theorem dX8_place_0 : decode cX8_place 0 = .ok (.aload_n 0, 1) := by decide +kernel
theorem dX8_place_1 : decode cX8_place 1 = .ok (.iload_n 1, 1) := by decide +kernel
theorem dX8_place_2 : decode cX8_place 2 = .ok (.invokevirtual 105, 3) := by decide +kernel
theorem dX8_place_5 : decode cX8_place 5 = .ok (.ifCond .eq 26, 3) := by decide +kernel
theorem dX8_place_8 : decode cX8_place 8 = .ok (.aload_n 0, 1) := by decide +kernel
theorem dX8_place_9 : decode cX8_place 9 = .ok (.iload_n 2, 1) := by decide +kernel
theorem dX8_place_10 : decode cX8_place 10 = .ok (.invokevirtual 167, 3) := by decide +kernel
theorem dX8_place_13 : decode cX8_place 13 = .ok (.ifCond .eq 18, 3) := by decide +kernel
theorem dX8_place_16 : decode cX8_place 16 = .ok (.aload_n 0, 1) := by decide +kernel
theorem dX8_place_17 : decode cX8_place 17 = .ok (.getfield 42, 3) := by decide +kernel
theorem dX8_place_20 : decode cX8_place 20 = .ok (.iload_n 1, 1) := by decide +kernel
theorem dX8_place_21 : decode cX8_place 21 = .ok (.iload_n 2, 1) := by decide +kernel
theorem dX8_place_22 : decode cX8_place 22 = .ok (.invokevirtual 170, 3) := by decide +kernel
theorem dX8_place_25 : decode cX8_place 25 = .ok (.ldc 148, 2) := by decide +kernel
theorem dX8_place_27 : decode cX8_place 27 = .ok (.iadd, 1) := by decide +kernel
theorem dX8_place_28 : decode cX8_place 28 = .ok (.goto 4, 3) := by decide +kernel
theorem dX8_place_31 : decode cX8_place 31 = .ok (.iconst (-1), 1) := by decide +kernel
theorem dX8_place_32 : decode cX8_place 32 = .ok (.ireturn, 1) := by decide +kernel
theorem dX8_height_0 : decode cX8_height 0 = .ok (.aload_n 0, 1) := by decide +kernel
theorem dX8_height_1 : decode cX8_height 1 = .ok (.iload_n 1, 1) := by decide +kernel
theorem dX8_height_2 : decode cX8_height 2 = .ok (.invokevirtual 105, 3) := by decide +kernel
theorem dX8_height_5 : decode cX8_height 5 = .ok (.ifCond .eq 23, 3) := by decide +kernel
theorem dX8_height_8 : decode cX8_height 8 = .ok (.aload_n 0, 1) := by decide +kernel
theorem dX8_height_9 : decode cX8_height 9 = .ok (.iload_n 2, 1) := by decide +kernel
theorem dX8_height_10 : decode cX8_height 10 = .ok (.invokevirtual 167, 3) := by decide +kernel
theorem dX8_height_13 : decode cX8_height 13 = .ok (.ifCond .eq 15, 3) := by decide +kernel
theorem dX8_height_16 : decode cX8_height 16 = .ok (.aload_n 0, 1) := by decide +kernel
theorem dX8_height_17 : decode cX8_height 17 = .ok (.getfield 42, 3) := by decide +kernel
theorem dX8_height_20 : decode cX8_height 20 = .ok (.iload_n 1, 1) := by decide +kernel
theorem dX8_height_21 : decode cX8_height 21 = .ok (.iload_n 2, 1) := by decide +kernel
theorem dX8_height_22 : decode cX8_height 22 = .ok (.invokevirtual 164, 3) := by decide +kernel
theorem dX8_height_25 : decode cX8_height 25 = .ok (.goto 4, 3) := by decide +kernel
theorem dX8_height_28 : decode cX8_height 28 = .ok (.iconst (-1), 1) := by decide +kernel
theorem dX8_height_29 : decode cX8_height 29 = .ok (.ireturn, 1) := by decide +kernel
theorem dX8_pair_0 : decode cX8_pair 0 = .ok (.aload_n 0, 1) := by decide +kernel
theorem dX8_pair_1 : decode cX8_pair 1 = .ok (.iload_n 1, 1) := by decide +kernel
theorem dX8_pair_2 : decode cX8_pair 2 = .ok (.invokevirtual 105, 3) := by decide +kernel
theorem dX8_pair_5 : decode cX8_pair 5 = .ok (.ifCond .eq 16, 3) := by decide +kernel
theorem dX8_pair_8 : decode cX8_pair 8 = .ok (.aload_n 0, 1) := by decide +kernel
theorem dX8_pair_9 : decode cX8_pair 9 = .ok (.iload_n 2, 1) := by decide +kernel
theorem dX8_pair_10 : decode cX8_pair 10 = .ok (.invokevirtual 105, 3) := by decide +kernel
theorem dX8_pair_13 : decode cX8_pair 13 = .ok (.ifCond .eq 8, 3) := by decide +kernel
theorem dX8_pair_16 : decode cX8_pair 16 = .ok (.iload_n 1, 1) := by decide +kernel
theorem dX8_pair_17 : decode cX8_pair 17 = .ok (.iload_n 2, 1) := by decide +kernel
theorem dX8_pair_18 : decode cX8_pair 18 = .ok (.if_icmp .ne 5, 3) := by decide +kernel
theorem dX8_pair_21 : decode cX8_pair 21 = .ok (.iconst (-1), 1) := by decide +kernel
theorem dX8_pair_22 : decode cX8_pair 22 = .ok (.ireturn, 1) := by decide +kernel
theorem dX8_pair_23 : decode cX8_pair 23 = .ok (.iload_n 3, 1) := by decide +kernel
theorem dX8_pair_24 : decode cX8_pair 24 = .ok (.tableswitch 83 0 3 #[32, 42, 52, 70], 32) := by decide +kernel
theorem dX8_pair_56 : decode cX8_pair 56 = .ok (.aload_n 0, 1) := by decide +kernel
theorem dX8_pair_57 : decode cX8_pair 57 = .ok (.getfield 42, 3) := by decide +kernel
theorem dX8_pair_60 : decode cX8_pair 60 = .ok (.iload_n 1, 1) := by decide +kernel
theorem dX8_pair_61 : decode cX8_pair 61 = .ok (.iload_n 2, 1) := by decide +kernel
theorem dX8_pair_62 : decode cX8_pair 62 = .ok (.invokevirtual 173, 3) := by decide +kernel
theorem dX8_pair_65 : decode cX8_pair 65 = .ok (.ireturn, 1) := by decide +kernel
theorem dX8_pair_66 : decode cX8_pair 66 = .ok (.aload_n 0, 1) := by decide +kernel
theorem dX8_pair_67 : decode cX8_pair 67 = .ok (.getfield 42, 3) := by decide +kernel
theorem dX8_pair_70 : decode cX8_pair 70 = .ok (.iload_n 1, 1) := by decide +kernel
theorem dX8_pair_71 : decode cX8_pair 71 = .ok (.iload_n 2, 1) := by decide +kernel
theorem dX8_pair_72 : decode cX8_pair 72 = .ok (.invokevirtual 176, 3) := by decide +kernel
theorem dX8_pair_75 : decode cX8_pair 75 = .ok (.ireturn, 1) := by decide +kernel
theorem dX8_pair_76 : decode cX8_pair 76 = .ok (.aload_n 0, 1) := by decide +kernel
theorem dX8_pair_77 : decode cX8_pair 77 = .ok (.getfield 42, 3) := by decide +kernel
theorem dX8_pair_80 : decode cX8_pair 80 = .ok (.iload_n 1, 1) := by decide +kernel
theorem dX8_pair_81 : decode cX8_pair 81 = .ok (.iload_n 2, 1) := by decide +kernel
theorem dX8_pair_82 : decode cX8_pair 82 = .ok (.invokevirtual 179, 3) := by decide +kernel
theorem dX8_pair_85 : decode cX8_pair 85 = .ok (.ifCond .eq 7, 3) := by decide +kernel
theorem dX8_pair_88 : decode cX8_pair 88 = .ok (.iconst 1, 1) := by decide +kernel
theorem dX8_pair_89 : decode cX8_pair 89 = .ok (.goto 4, 3) := by decide +kernel
theorem dX8_pair_92 : decode cX8_pair 92 = .ok (.iconst 0, 1) := by decide +kernel
theorem dX8_pair_93 : decode cX8_pair 93 = .ok (.ireturn, 1) := by decide +kernel
theorem dX8_pair_94 : decode cX8_pair 94 = .ok (.aload_n 0, 1) := by decide +kernel
theorem dX8_pair_95 : decode cX8_pair 95 = .ok (.getfield 42, 3) := by decide +kernel
theorem dX8_pair_98 : decode cX8_pair 98 = .ok (.iload_n 1, 1) := by decide +kernel
theorem dX8_pair_99 : decode cX8_pair 99 = .ok (.invokevirtual 183, 3) := by decide +kernel
theorem dX8_pair_102 : decode cX8_pair 102 = .ok (.iload_n 2, 1) := by decide +kernel
theorem dX8_pair_103 : decode cX8_pair 103 = .ok (.ishr, 1) := by decide +kernel
theorem dX8_pair_104 : decode cX8_pair 104 = .ok (.iconst 1, 1) := by decide +kernel
theorem dX8_pair_105 : decode cX8_pair 105 = .ok (.iand, 1) := by decide +kernel
theorem dX8_pair_106 : decode cX8_pair 106 = .ok (.ireturn, 1) := by decide +kernel
theorem dX8_pair_107 : decode cX8_pair 107 = .ok (.iconst (-1), 1) := by decide +kernel
theorem dX8_pair_108 : decode cX8_pair 108 = .ok (.ireturn, 1) := by decide +kernel
theorem dX8_bond_0 : decode cX8_bond 0 = .ok (.aload_n 0, 1) := by decide +kernel
theorem dX8_bond_1 : decode cX8_bond 1 = .ok (.iload_n 1, 1) := by decide +kernel
theorem dX8_bond_2 : decode cX8_bond 2 = .ok (.invokevirtual 105, 3) := by decide +kernel
theorem dX8_bond_5 : decode cX8_bond 5 = .ok (.ifCond .ne 5, 3) := by decide +kernel
theorem dX8_bond_8 : decode cX8_bond 8 = .ok (.iconst (-1), 1) := by decide +kernel
theorem dX8_bond_9 : decode cX8_bond 9 = .ok (.ireturn, 1) := by decide +kernel
theorem dX8_bond_10 : decode cX8_bond 10 = .ok (.aload_n 0, 1) := by decide +kernel
theorem dX8_bond_11 : decode cX8_bond 11 = .ok (.iload_n 1, 1) := by decide +kernel
theorem dX8_bond_12 : decode cX8_bond 12 = .ok (.invokevirtual 186, 3) := by decide +kernel
theorem dX8_bond_15 : decode cX8_bond 15 = .ok (.ifCond .ne 6, 3) := by decide +kernel
theorem dX8_bond_18 : decode cX8_bond 18 = .ok (.bipush (-2), 2) := by decide +kernel
theorem dX8_bond_20 : decode cX8_bond 20 = .ok (.ireturn, 1) := by decide +kernel
theorem dX8_bond_21 : decode cX8_bond 21 = .ok (.aload_n 0, 1) := by decide +kernel
theorem dX8_bond_22 : decode cX8_bond 22 = .ok (.getfield 33, 3) := by decide +kernel
theorem dX8_bond_25 : decode cX8_bond 25 = .ok (.aload_n 0, 1) := by decide +kernel
theorem dX8_bond_26 : decode cX8_bond 26 = .ok (.getfield 26, 3) := by decide +kernel
theorem dX8_bond_29 : decode cX8_bond 29 = .ok (.invokevirtual 120, 3) := by decide +kernel
theorem dX8_bond_32 : decode cX8_bond 32 = .ok (.aload_n 0, 1) := by decide +kernel
theorem dX8_bond_33 : decode cX8_bond 33 = .ok (.getfield 26, 3) := by decide +kernel
theorem dX8_bond_36 : decode cX8_bond 36 = .ok (.aload_n 0, 1) := by decide +kernel
theorem dX8_bond_37 : decode cX8_bond 37 = .ok (.getfield 26, 3) := by decide +kernel
theorem dX8_bond_40 : decode cX8_bond 40 = .ok (.invokevirtual 189, 3) := by decide +kernel
theorem dX8_bond_43 : decode cX8_bond 43 = .ok (.iconst 1, 1) := by decide +kernel
theorem dX8_bond_44 : decode cX8_bond 44 = .ok (.iload_n 1, 1) := by decide +kernel
theorem dX8_bond_45 : decode cX8_bond 45 = .ok (.ishl, 1) := by decide +kernel
theorem dX8_bond_46 : decode cX8_bond 46 = .ok (.ior, 1) := by decide +kernel
theorem dX8_bond_47 : decode cX8_bond 47 = .ok (.invokevirtual 192, 3) := by decide +kernel
theorem dX8_bond_50 : decode cX8_bond 50 = .ok (.aload_n 0, 1) := by decide +kernel
theorem dX8_bond_51 : decode cX8_bond 51 = .ok (.getfield 26, 3) := by decide +kernel
theorem dX8_bond_54 : decode cX8_bond 54 = .ok (.invokevirtual 189, 3) := by decide +kernel
theorem dX8_bond_57 : decode cX8_bond 57 = .ok (.invokestatic 195, 3) := by decide +kernel
theorem dX8_bond_60 : decode cX8_bond 60 = .ok (.ireturn, 1) := by decide +kernel
theorem dX8_take_0 : decode cX8_take 0 = .ok (.aload_n 0, 1) := by decide +kernel
theorem dX8_take_1 : decode cX8_take 1 = .ok (.iload_n 1, 1) := by decide +kernel
theorem dX8_take_2 : decode cX8_take 2 = .ok (.invokevirtual 105, 3) := by decide +kernel
theorem dX8_take_5 : decode cX8_take 5 = .ok (.ifCond .ne 5, 3) := by decide +kernel
theorem dX8_take_8 : decode cX8_take 8 = .ok (.iconst (-1), 1) := by decide +kernel
theorem dX8_take_9 : decode cX8_take 9 = .ok (.ireturn, 1) := by decide +kernel
theorem dX8_take_10 : decode cX8_take 10 = .ok (.aload_n 0, 1) := by decide +kernel
theorem dX8_take_11 : decode cX8_take 11 = .ok (.getfield 26, 3) := by decide +kernel
theorem dX8_take_14 : decode cX8_take 14 = .ok (.iload_n 1, 1) := by decide +kernel
theorem dX8_take_15 : decode cX8_take 15 = .ok (.invokevirtual 155, 3) := by decide +kernel
theorem dX8_take_18 : decode cX8_take 18 = .ok (.ifCond .ne 6, 3) := by decide +kernel
theorem dX8_take_21 : decode cX8_take 21 = .ok (.bipush (-2), 2) := by decide +kernel
theorem dX8_take_23 : decode cX8_take 23 = .ok (.ireturn, 1) := by decide +kernel
theorem dX8_take_24 : decode cX8_take 24 = .ok (.aload_n 0, 1) := by decide +kernel
theorem dX8_take_25 : decode cX8_take 25 = .ok (.getfield 33, 3) := by decide +kernel
theorem dX8_take_28 : decode cX8_take 28 = .ok (.aload_n 0, 1) := by decide +kernel
theorem dX8_take_29 : decode cX8_take 29 = .ok (.getfield 26, 3) := by decide +kernel
theorem dX8_take_32 : decode cX8_take 32 = .ok (.invokevirtual 120, 3) := by decide +kernel
theorem dX8_take_35 : decode cX8_take 35 = .ok (.aload_n 0, 1) := by decide +kernel
theorem dX8_take_36 : decode cX8_take 36 = .ok (.getfield 26, 3) := by decide +kernel
theorem dX8_take_39 : decode cX8_take 39 = .ok (.aload_n 0, 1) := by decide +kernel
theorem dX8_take_40 : decode cX8_take 40 = .ok (.getfield 26, 3) := by decide +kernel
theorem dX8_take_43 : decode cX8_take 43 = .ok (.invokevirtual 189, 3) := by decide +kernel
theorem dX8_take_46 : decode cX8_take 46 = .ok (.iconst 1, 1) := by decide +kernel
theorem dX8_take_47 : decode cX8_take 47 = .ok (.iload_n 1, 1) := by decide +kernel
theorem dX8_take_48 : decode cX8_take 48 = .ok (.ishl, 1) := by decide +kernel
theorem dX8_take_49 : decode cX8_take 49 = .ok (.iconst (-1), 1) := by decide +kernel
theorem dX8_take_50 : decode cX8_take 50 = .ok (.ixor, 1) := by decide +kernel
theorem dX8_take_51 : decode cX8_take 51 = .ok (.iand, 1) := by decide +kernel
theorem dX8_take_52 : decode cX8_take 52 = .ok (.invokevirtual 192, 3) := by decide +kernel
theorem dX8_take_55 : decode cX8_take 55 = .ok (.aload_n 0, 1) := by decide +kernel
theorem dX8_take_56 : decode cX8_take 56 = .ok (.getfield 26, 3) := by decide +kernel
theorem dX8_take_59 : decode cX8_take 59 = .ok (.invokevirtual 189, 3) := by decide +kernel
theorem dX8_take_62 : decode cX8_take 62 = .ok (.invokestatic 195, 3) := by decide +kernel
theorem dX8_take_65 : decode cX8_take 65 = .ok (.ireturn, 1) := by decide +kernel
theorem dX8_ready_0 : decode cX8_ready 0 = .ok (.iconst 0, 1) := by decide +kernel
theorem dX8_ready_1 : decode cX8_ready 1 = .ok (.istore_n 1, 1) := by decide +kernel
theorem dX8_ready_2 : decode cX8_ready 2 = .ok (.iconst 0, 1) := by decide +kernel
theorem dX8_ready_3 : decode cX8_ready 3 = .ok (.istore_n 2, 1) := by decide +kernel
theorem dX8_ready_4 : decode cX8_ready 4 = .ok (.iload_n 2, 1) := by decide +kernel
theorem dX8_ready_5 : decode cX8_ready 5 = .ok (.aload_n 0, 1) := by decide +kernel
theorem dX8_ready_6 : decode cX8_ready 6 = .ok (.getfield 26, 3) := by decide +kernel
theorem dX8_ready_9 : decode cX8_ready 9 = .ok (.getfield 102, 3) := by decide +kernel
theorem dX8_ready_12 : decode cX8_ready 12 = .ok (.if_icmp .ge 23, 3) := by decide +kernel
theorem dX8_ready_15 : decode cX8_ready 15 = .ok (.aload_n 0, 1) := by decide +kernel
theorem dX8_ready_16 : decode cX8_ready 16 = .ok (.iload_n 2, 1) := by decide +kernel
theorem dX8_ready_17 : decode cX8_ready 17 = .ok (.invokevirtual 186, 3) := by decide +kernel
theorem dX8_ready_20 : decode cX8_ready 20 = .ok (.ifCond .eq 9, 3) := by decide +kernel
theorem dX8_ready_23 : decode cX8_ready 23 = .ok (.iload_n 1, 1) := by decide +kernel
theorem dX8_ready_24 : decode cX8_ready 24 = .ok (.iconst 1, 1) := by decide +kernel
theorem dX8_ready_25 : decode cX8_ready 25 = .ok (.iload_n 2, 1) := by decide +kernel
theorem dX8_ready_26 : decode cX8_ready 26 = .ok (.ishl, 1) := by decide +kernel
theorem dX8_ready_27 : decode cX8_ready 27 = .ok (.ior, 1) := by decide +kernel
theorem dX8_ready_28 : decode cX8_ready 28 = .ok (.istore_n 1, 1) := by decide +kernel
theorem dX8_ready_29 : decode cX8_ready 29 = .ok (.iinc 2 1, 3) := by decide +kernel
theorem dX8_ready_32 : decode cX8_ready 32 = .ok (.goto (-28), 3) := by decide +kernel
theorem dX8_ready_35 : decode cX8_ready 35 = .ok (.iload_n 1, 1) := by decide +kernel
theorem dX8_ready_36 : decode cX8_ready 36 = .ok (.ireturn, 1) := by decide +kernel
theorem dX8_order_0 : decode cX8_order 0 = .ok (.iload_n 1, 1) := by decide +kernel
theorem dX8_order_1 : decode cX8_order 1 = .ok (.ifCond .lt 9, 3) := by decide +kernel
theorem dX8_order_4 : decode cX8_order 4 = .ok (.iload_n 1, 1) := by decide +kernel
theorem dX8_order_5 : decode cX8_order 5 = .ok (.bipush 8, 2) := by decide +kernel
theorem dX8_order_7 : decode cX8_order 7 = .ok (.if_icmp .lt 5, 3) := by decide +kernel
theorem dX8_order_10 : decode cX8_order 10 = .ok (.iconst (-1), 1) := by decide +kernel
theorem dX8_order_11 : decode cX8_order 11 = .ok (.ireturn, 1) := by decide +kernel
theorem dX8_order_12 : decode cX8_order 12 = .ok (.aload_n 0, 1) := by decide +kernel
theorem dX8_order_13 : decode cX8_order 13 = .ok (.getfield 51, 3) := by decide +kernel
theorem dX8_order_16 : decode cX8_order 16 = .ok (.invokevirtual 200, 3) := by decide +kernel
theorem dX8_order_19 : decode cX8_order 19 = .ok (.ifCond .eq 6, 3) := by decide +kernel
theorem dX8_order_22 : decode cX8_order 22 = .ok (.bipush (-2), 2) := by decide +kernel
theorem dX8_order_24 : decode cX8_order 24 = .ok (.ireturn, 1) := by decide +kernel
theorem dX8_order_25 : decode cX8_order 25 = .ok (.iload_n 1, 1) := by decide +kernel
theorem dX8_order_26 : decode cX8_order 26 = .ok (.aload_n 0, 1) := by decide +kernel
theorem dX8_order_27 : decode cX8_order 27 = .ok (.getfield 26, 3) := by decide +kernel
theorem dX8_order_30 : decode cX8_order 30 = .ok (.getfield 102, 3) := by decide +kernel
theorem dX8_order_33 : decode cX8_order 33 = .ok (.if_icmp .ge 14, 3) := by decide +kernel
theorem dX8_order_36 : decode cX8_order 36 = .ok (.aload_n 0, 1) := by decide +kernel
theorem dX8_order_37 : decode cX8_order 37 = .ok (.getfield 51, 3) := by decide +kernel
theorem dX8_order_40 : decode cX8_order 40 = .ok (.iload_n 1, 1) := by decide +kernel
theorem dX8_order_41 : decode cX8_order 41 = .ok (.invokevirtual 203, 3) := by decide +kernel
theorem dX8_order_44 : decode cX8_order 44 = .ok (.goto 5, 3) := by decide +kernel
theorem dX8_order_47 : decode cX8_order 47 = .ok (.bipush (-4), 2) := by decide +kernel
theorem dX8_order_49 : decode cX8_order 49 = .ok (.ireturn, 1) := by decide +kernel
theorem dX8_orders_0 : decode cX8_orders 0 = .ok (.aload_n 0, 1) := by decide +kernel
theorem dX8_orders_1 : decode cX8_orders 1 = .ok (.getfield 51, 3) := by decide +kernel
theorem dX8_orders_4 : decode cX8_orders 4 = .ok (.invokevirtual 206, 3) := by decide +kernel
theorem dX8_orders_7 : decode cX8_orders 7 = .ok (.ireturn, 1) := by decide +kernel
theorem dX8_stuck_0 : decode cX8_stuck 0 = .ok (.aload_n 0, 1) := by decide +kernel
theorem dX8_stuck_1 : decode cX8_stuck 1 = .ok (.getfield 51, 3) := by decide +kernel
theorem dX8_stuck_4 : decode cX8_stuck 4 = .ok (.invokevirtual 200, 3) := by decide +kernel
theorem dX8_stuck_7 : decode cX8_stuck 7 = .ok (.ireturn, 1) := by decide +kernel
theorem dX8_loop_0 : decode cX8_loop 0 = .ok (.aload_n 0, 1) := by decide +kernel
theorem dX8_loop_1 : decode cX8_loop 1 = .ok (.iload_n 1, 1) := by decide +kernel
theorem dX8_loop_2 : decode cX8_loop 2 = .ok (.invokevirtual 105, 3) := by decide +kernel
theorem dX8_loop_5 : decode cX8_loop 5 = .ok (.ifCond .ne 5, 3) := by decide +kernel
theorem dX8_loop_8 : decode cX8_loop 8 = .ok (.iconst (-1), 1) := by decide +kernel
theorem dX8_loop_9 : decode cX8_loop 9 = .ok (.ireturn, 1) := by decide +kernel
theorem dX8_loop_10 : decode cX8_loop 10 = .ok (.aload_n 0, 1) := by decide +kernel
theorem dX8_loop_11 : decode cX8_loop 11 = .ok (.getfield 58, 3) := by decide +kernel
theorem dX8_loop_14 : decode cX8_loop 14 = .ok (.iload_n 1, 1) := by decide +kernel
theorem dX8_loop_15 : decode cX8_loop 15 = .ok (.invokevirtual 209, 3) := by decide +kernel
theorem dX8_loop_18 : decode cX8_loop 18 = .ok (.ifCond .eq 24, 3) := by decide +kernel
theorem dX8_loop_21 : decode cX8_loop 21 = .ok (.bipush 100, 2) := by decide +kernel
theorem dX8_loop_23 : decode cX8_loop 23 = .ok (.aload_n 0, 1) := by decide +kernel
theorem dX8_loop_24 : decode cX8_loop 24 = .ok (.getfield 58, 3) := by decide +kernel
theorem dX8_loop_27 : decode cX8_loop 27 = .ok (.getfield 212, 3) := by decide +kernel
theorem dX8_loop_30 : decode cX8_loop 30 = .ok (.imul, 1) := by decide +kernel
theorem dX8_loop_31 : decode cX8_loop 31 = .ok (.aload_n 0, 1) := by decide +kernel
theorem dX8_loop_32 : decode cX8_loop 32 = .ok (.getfield 58, 3) := by decide +kernel
theorem dX8_loop_35 : decode cX8_loop 35 = .ok (.getfield 215, 3) := by decide +kernel
theorem dX8_loop_38 : decode cX8_loop 38 = .ok (.iadd, 1) := by decide +kernel
theorem dX8_loop_39 : decode cX8_loop 39 = .ok (.goto 5, 3) := by decide +kernel
theorem dX8_loop_42 : decode cX8_loop 42 = .ok (.bipush (-4), 2) := by decide +kernel
theorem dX8_loop_44 : decode cX8_loop 44 = .ok (.ireturn, 1) := by decide +kernel
theorem dX8_mend_0 : decode cX8_mend 0 = .ok (.aload_n 0, 1) := by decide +kernel
theorem dX8_mend_1 : decode cX8_mend 1 = .ok (.iload_n 1, 1) := by decide +kernel
theorem dX8_mend_2 : decode cX8_mend 2 = .ok (.invokevirtual 105, 3) := by decide +kernel
theorem dX8_mend_5 : decode cX8_mend 5 = .ok (.ifCond .ne 5, 3) := by decide +kernel
theorem dX8_mend_8 : decode cX8_mend 8 = .ok (.iconst (-1), 1) := by decide +kernel
theorem dX8_mend_9 : decode cX8_mend 9 = .ok (.ireturn, 1) := by decide +kernel
theorem dX8_mend_10 : decode cX8_mend 10 = .ok (.aload_n 0, 1) := by decide +kernel
theorem dX8_mend_11 : decode cX8_mend 11 = .ok (.getfield 58, 3) := by decide +kernel
theorem dX8_mend_14 : decode cX8_mend 14 = .ok (.iload_n 1, 1) := by decide +kernel
theorem dX8_mend_15 : decode cX8_mend 15 = .ok (.invokevirtual 209, 3) := by decide +kernel
theorem dX8_mend_18 : decode cX8_mend 18 = .ok (.ifCond .ne 6, 3) := by decide +kernel
theorem dX8_mend_21 : decode cX8_mend 21 = .ok (.bipush (-4), 2) := by decide +kernel
theorem dX8_mend_23 : decode cX8_mend 23 = .ok (.ireturn, 1) := by decide +kernel
theorem dX8_mend_24 : decode cX8_mend 24 = .ok (.aload_n 0, 1) := by decide +kernel
theorem dX8_mend_25 : decode cX8_mend 25 = .ok (.getfield 26, 3) := by decide +kernel
theorem dX8_mend_28 : decode cX8_mend 28 = .ok (.iload_n 1, 1) := by decide +kernel
theorem dX8_mend_29 : decode cX8_mend 29 = .ok (.iconst 4, 1) := by decide +kernel
theorem dX8_mend_30 : decode cX8_mend 30 = .ok (.invokevirtual 116, 3) := by decide +kernel
theorem dX8_mend_33 : decode cX8_mend 33 = .ok (.istore_n 2, 1) := by decide +kernel
theorem dX8_mend_34 : decode cX8_mend 34 = .ok (.aload_n 0, 1) := by decide +kernel
theorem dX8_mend_35 : decode cX8_mend 35 = .ok (.getfield 58, 3) := by decide +kernel
theorem dX8_mend_38 : decode cX8_mend 38 = .ok (.getfield 212, 3) := by decide +kernel
theorem dX8_mend_41 : decode cX8_mend 41 = .ok (.aload_n 0, 1) := by decide +kernel
theorem dX8_mend_42 : decode cX8_mend 42 = .ok (.getfield 26, 3) := by decide +kernel
theorem dX8_mend_45 : decode cX8_mend 45 = .ok (.iload_n 1, 1) := by decide +kernel
theorem dX8_mend_46 : decode cX8_mend 46 = .ok (.iconst 3, 1) := by decide +kernel
theorem dX8_mend_47 : decode cX8_mend 47 = .ok (.invokevirtual 116, 3) := by decide +kernel
theorem dX8_mend_50 : decode cX8_mend 50 = .ok (.if_icmp .ne 17, 3) := by decide +kernel
theorem dX8_mend_53 : decode cX8_mend 53 = .ok (.aload_n 0, 1) := by decide +kernel
theorem dX8_mend_54 : decode cX8_mend 54 = .ok (.getfield 58, 3) := by decide +kernel
theorem dX8_mend_57 : decode cX8_mend 57 = .ok (.getfield 215, 3) := by decide +kernel
theorem dX8_mend_60 : decode cX8_mend 60 = .ok (.iload_n 2, 1) := by decide +kernel
theorem dX8_mend_61 : decode cX8_mend 61 = .ok (.if_icmp .ne 6, 3) := by decide +kernel
theorem dX8_mend_64 : decode cX8_mend 64 = .ok (.bipush (-2), 2) := by decide +kernel
theorem dX8_mend_66 : decode cX8_mend 66 = .ok (.ireturn, 1) := by decide +kernel
theorem dX8_mend_67 : decode cX8_mend 67 = .ok (.aload_n 0, 1) := by decide +kernel
theorem dX8_mend_68 : decode cX8_mend 68 = .ok (.getfield 33, 3) := by decide +kernel
theorem dX8_mend_71 : decode cX8_mend 71 = .ok (.aload_n 0, 1) := by decide +kernel
theorem dX8_mend_72 : decode cX8_mend 72 = .ok (.getfield 26, 3) := by decide +kernel
theorem dX8_mend_75 : decode cX8_mend 75 = .ok (.invokevirtual 120, 3) := by decide +kernel
theorem dX8_mend_78 : decode cX8_mend 78 = .ok (.aload_n 0, 1) := by decide +kernel
theorem dX8_mend_79 : decode cX8_mend 79 = .ok (.getfield 26, 3) := by decide +kernel
theorem dX8_mend_82 : decode cX8_mend 82 = .ok (.iload_n 1, 1) := by decide +kernel
theorem dX8_mend_83 : decode cX8_mend 83 = .ok (.iconst 3, 1) := by decide +kernel
theorem dX8_mend_84 : decode cX8_mend 84 = .ok (.aload_n 0, 1) := by decide +kernel
theorem dX8_mend_85 : decode cX8_mend 85 = .ok (.getfield 58, 3) := by decide +kernel
theorem dX8_mend_88 : decode cX8_mend 88 = .ok (.getfield 212, 3) := by decide +kernel
theorem dX8_mend_91 : decode cX8_mend 91 = .ok (.invokevirtual 123, 3) := by decide +kernel
theorem dX8_mend_94 : decode cX8_mend 94 = .ok (.aload_n 0, 1) := by decide +kernel
theorem dX8_mend_95 : decode cX8_mend 95 = .ok (.getfield 26, 3) := by decide +kernel
theorem dX8_mend_98 : decode cX8_mend 98 = .ok (.iload_n 1, 1) := by decide +kernel
theorem dX8_mend_99 : decode cX8_mend 99 = .ok (.iconst 4, 1) := by decide +kernel
theorem dX8_mend_100 : decode cX8_mend 100 = .ok (.aload_n 0, 1) := by decide +kernel
theorem dX8_mend_101 : decode cX8_mend 101 = .ok (.getfield 58, 3) := by decide +kernel
theorem dX8_mend_104 : decode cX8_mend 104 = .ok (.getfield 215, 3) := by decide +kernel
theorem dX8_mend_107 : decode cX8_mend 107 = .ok (.invokevirtual 123, 3) := by decide +kernel
theorem dX8_mend_110 : decode cX8_mend 110 = .ok (.aload_n 0, 1) := by decide +kernel
theorem dX8_mend_111 : decode cX8_mend 111 = .ok (.getfield 42, 3) := by decide +kernel
theorem dX8_mend_114 : decode cX8_mend 114 = .ok (.invokevirtual 127, 3) := by decide +kernel
theorem dX8_mend_117 : decode cX8_mend 117 = .ok (.aload_n 0, 1) := by decide +kernel
theorem dX8_mend_118 : decode cX8_mend 118 = .ok (.getfield 58, 3) := by decide +kernel
theorem dX8_mend_121 : decode cX8_mend 121 = .ok (.getfield 215, 3) := by decide +kernel
theorem dX8_mend_124 : decode cX8_mend 124 = .ok (.iload_n 2, 1) := by decide +kernel
theorem dX8_mend_125 : decode cX8_mend 125 = .ok (.isub, 1) := by decide +kernel
theorem dX8_mend_126 : decode cX8_mend 126 = .ok (.invokestatic 218, 3) := by decide +kernel
theorem dX8_mend_129 : decode cX8_mend 129 = .ok (.ireturn, 1) := by decide +kernel
theorem dX8_sees_0 : decode cX8_sees 0 = .ok (.iload_n 1, 1) := by decide +kernel
theorem dX8_sees_1 : decode cX8_sees 1 = .ok (.iload_n 2, 1) := by decide +kernel
theorem dX8_sees_2 : decode cX8_sees 2 = .ok (.iload_n 3, 1) := by decide +kernel
theorem dX8_sees_3 : decode cX8_sees 3 = .ok (.invokestatic 223, 3) := by decide +kernel
theorem dX8_sees_6 : decode cX8_sees 6 = .ok (.ifCond .eq 23, 3) := by decide +kernel
theorem dX8_sees_9 : decode cX8_sees 9 = .ok (.aload_n 0, 1) := by decide +kernel
theorem dX8_sees_10 : decode cX8_sees 10 = .ok (.getfield 65, 3) := by decide +kernel
theorem dX8_sees_13 : decode cX8_sees 13 = .ok (.iload_n 1, 1) := by decide +kernel
theorem dX8_sees_14 : decode cX8_sees 14 = .ok (.iload_n 2, 1) := by decide +kernel
theorem dX8_sees_15 : decode cX8_sees 15 = .ok (.iload_n 3, 1) := by decide +kernel
theorem dX8_sees_16 : decode cX8_sees 16 = .ok (.aload_n 0, 1) := by decide +kernel
theorem dX8_sees_17 : decode cX8_sees 17 = .ok (.getfield 26, 3) := by decide +kernel
theorem dX8_sees_20 : decode cX8_sees 20 = .ok (.invokevirtual 141, 3) := by decide +kernel
theorem dX8_sees_23 : decode cX8_sees 23 = .ok (.invokevirtual 227, 3) := by decide +kernel
theorem dX8_sees_26 : decode cX8_sees 26 = .ok (.goto 4, 3) := by decide +kernel
theorem dX8_sees_29 : decode cX8_sees 29 = .ok (.iconst (-1), 1) := by decide +kernel
theorem dX8_sees_30 : decode cX8_sees 30 = .ok (.ireturn, 1) := by decide +kernel
theorem dX8_eye_0 : decode cX8_eye 0 = .ok (.iload_n 1, 1) := by decide +kernel
theorem dX8_eye_1 : decode cX8_eye 1 = .ok (.ifCond .lt 18, 3) := by decide +kernel
theorem dX8_eye_4 : decode cX8_eye 4 = .ok (.iload_n 1, 1) := by decide +kernel
theorem dX8_eye_5 : decode cX8_eye 5 = .ok (.iconst 2, 1) := by decide +kernel
theorem dX8_eye_6 : decode cX8_eye 6 = .ok (.if_icmp .ge 13, 3) := by decide +kernel
theorem dX8_eye_9 : decode cX8_eye 9 = .ok (.iload_n 2, 1) := by decide +kernel
theorem dX8_eye_10 : decode cX8_eye 10 = .ok (.iload_n 3, 1) := by decide +kernel
theorem dX8_eye_11 : decode cX8_eye 11 = .ok (.iload 4, 2) := by decide +kernel
theorem dX8_eye_13 : decode cX8_eye 13 = .ok (.invokestatic 223, 3) := by decide +kernel
theorem dX8_eye_16 : decode cX8_eye 16 = .ok (.ifCond .ne 5, 3) := by decide +kernel
theorem dX8_eye_19 : decode cX8_eye 19 = .ok (.iconst (-1), 1) := by decide +kernel
theorem dX8_eye_20 : decode cX8_eye 20 = .ok (.ireturn, 1) := by decide +kernel
theorem dX8_eye_21 : decode cX8_eye 21 = .ok (.iload 5, 2) := by decide +kernel
theorem dX8_eye_23 : decode cX8_eye 23 = .ok (.ifCond .lt 16, 3) := by decide +kernel
theorem dX8_eye_26 : decode cX8_eye 26 = .ok (.iload 5, 2) := by decide +kernel
theorem dX8_eye_28 : decode cX8_eye 28 = .ok (.iconst 1, 1) := by decide +kernel
theorem dX8_eye_29 : decode cX8_eye 29 = .ok (.iload 4, 2) := by decide +kernel
theorem dX8_eye_31 : decode cX8_eye 31 = .ok (.iload_n 3, 1) := by decide +kernel
theorem dX8_eye_32 : decode cX8_eye 32 = .ok (.isub, 1) := by decide +kernel
theorem dX8_eye_33 : decode cX8_eye 33 = .ok (.iconst 1, 1) := by decide +kernel
theorem dX8_eye_34 : decode cX8_eye 34 = .ok (.iadd, 1) := by decide +kernel
theorem dX8_eye_35 : decode cX8_eye 35 = .ok (.ishl, 1) := by decide +kernel
theorem dX8_eye_36 : decode cX8_eye 36 = .ok (.if_icmp .lt 5, 3) := by decide +kernel
theorem dX8_eye_39 : decode cX8_eye 39 = .ok (.iconst (-1), 1) := by decide +kernel
theorem dX8_eye_40 : decode cX8_eye 40 = .ok (.ireturn, 1) := by decide +kernel
theorem dX8_eye_41 : decode cX8_eye 41 = .ok (.aload_n 0, 1) := by decide +kernel
theorem dX8_eye_42 : decode cX8_eye 42 = .ok (.getfield 65, 3) := by decide +kernel
theorem dX8_eye_45 : decode cX8_eye 45 = .ok (.iload_n 1, 1) := by decide +kernel
theorem dX8_eye_46 : decode cX8_eye 46 = .ok (.iload_n 2, 1) := by decide +kernel
theorem dX8_eye_47 : decode cX8_eye 47 = .ok (.iload_n 3, 1) := by decide +kernel
theorem dX8_eye_48 : decode cX8_eye 48 = .ok (.iload 4, 2) := by decide +kernel
theorem dX8_eye_50 : decode cX8_eye 50 = .ok (.iload 5, 2) := by decide +kernel
theorem dX8_eye_52 : decode cX8_eye 52 = .ok (.invokevirtual 231, 3) := by decide +kernel
theorem dX8_eye_55 : decode cX8_eye 55 = .ok (.aload_n 0, 1) := by decide +kernel
theorem dX8_eye_56 : decode cX8_eye 56 = .ok (.getfield 65, 3) := by decide +kernel
theorem dX8_eye_59 : decode cX8_eye 59 = .ok (.invokevirtual 235, 3) := by decide +kernel
theorem dX8_eye_62 : decode cX8_eye 62 = .ok (.ireturn, 1) := by decide +kernel
theorem dX8_forget_0 : decode cX8_forget 0 = .ok (.aload_n 0, 1) := by decide +kernel
theorem dX8_forget_1 : decode cX8_forget 1 = .ok (.getfield 65, 3) := by decide +kernel
theorem dX8_forget_4 : decode cX8_forget 4 = .ok (.invokevirtual 235, 3) := by decide +kernel
theorem dX8_forget_7 : decode cX8_forget 7 = .ok (.istore_n 1, 1) := by decide +kernel
theorem dX8_forget_8 : decode cX8_forget 8 = .ok (.aload_n 0, 1) := by decide +kernel
theorem dX8_forget_9 : decode cX8_forget 9 = .ok (.getfield 65, 3) := by decide +kernel
theorem dX8_forget_12 : decode cX8_forget 12 = .ok (.invokevirtual 236, 3) := by decide +kernel
theorem dX8_forget_15 : decode cX8_forget 15 = .ok (.iload_n 1, 1) := by decide +kernel
theorem dX8_forget_16 : decode cX8_forget 16 = .ok (.ireturn, 1) := by decide +kernel
theorem dX8_explains_0 : decode cX8_explains 0 = .ok (.iload_n 1, 1) := by decide +kernel
theorem dX8_explains_1 : decode cX8_explains 1 = .ok (.lookupswitch 43 #[(0, 27), (1, 35)], 27) := by decide +kernel
theorem dX8_explains_28 : decode cX8_explains 28 = .ok (.aload_n 0, 1) := by decide +kernel
theorem dX8_explains_29 : decode cX8_explains 29 = .ok (.getfield 65, 3) := by decide +kernel
theorem dX8_explains_32 : decode cX8_explains 32 = .ok (.invokevirtual 237, 3) := by decide +kernel
theorem dX8_explains_35 : decode cX8_explains 35 = .ok (.ireturn, 1) := by decide +kernel
theorem dX8_explains_36 : decode cX8_explains 36 = .ok (.aload_n 0, 1) := by decide +kernel
theorem dX8_explains_37 : decode cX8_explains 37 = .ok (.getfield 65, 3) := by decide +kernel
theorem dX8_explains_40 : decode cX8_explains 40 = .ok (.invokevirtual 240, 3) := by decide +kernel
theorem dX8_explains_43 : decode cX8_explains 43 = .ok (.ireturn, 1) := by decide +kernel
theorem dX8_explains_44 : decode cX8_explains 44 = .ok (.iconst (-1), 1) := by decide +kernel
theorem dX8_explains_45 : decode cX8_explains 45 = .ok (.ireturn, 1) := by decide +kernel
theorem dX8_count_0 : decode cX8_count 0 = .ok (.iload_n 1, 1) := by decide +kernel
theorem dX8_count_1 : decode cX8_count 1 = .ok (.tableswitch 180 0 12 #[67, 75, 83, 92, 101, 110, 121, 129, 137, 145, 153, 161, 172], 67) := by decide +kernel
theorem dX8_count_68 : decode cX8_count 68 = .ok (.aload_n 0, 1) := by decide +kernel
theorem dX8_count_69 : decode cX8_count 69 = .ok (.getfield 26, 3) := by decide +kernel
theorem dX8_count_72 : decode cX8_count 72 = .ok (.getfield 102, 3) := by decide +kernel
theorem dX8_count_75 : decode cX8_count 75 = .ok (.ireturn, 1) := by decide +kernel
theorem dX8_count_76 : decode cX8_count 76 = .ok (.aload_n 0, 1) := by decide +kernel
theorem dX8_count_77 : decode cX8_count 77 = .ok (.getfield 26, 3) := by decide +kernel
theorem dX8_count_80 : decode cX8_count 80 = .ok (.getfield 243, 3) := by decide +kernel
theorem dX8_count_83 : decode cX8_count 83 = .ok (.ireturn, 1) := by decide +kernel
theorem dX8_count_84 : decode cX8_count 84 = .ok (.aload_n 0, 1) := by decide +kernel
theorem dX8_count_85 : decode cX8_count 85 = .ok (.getfield 26, 3) := by decide +kernel
theorem dX8_count_88 : decode cX8_count 88 = .ok (.iconst 0, 1) := by decide +kernel
theorem dX8_count_89 : decode cX8_count 89 = .ok (.invokevirtual 133, 3) := by decide +kernel
theorem dX8_count_92 : decode cX8_count 92 = .ok (.ireturn, 1) := by decide +kernel
theorem dX8_count_93 : decode cX8_count 93 = .ok (.aload_n 0, 1) := by decide +kernel
theorem dX8_count_94 : decode cX8_count 94 = .ok (.getfield 26, 3) := by decide +kernel
theorem dX8_count_97 : decode cX8_count 97 = .ok (.iconst 1, 1) := by decide +kernel
theorem dX8_count_98 : decode cX8_count 98 = .ok (.invokevirtual 133, 3) := by decide +kernel
theorem dX8_count_101 : decode cX8_count 101 = .ok (.ireturn, 1) := by decide +kernel
theorem dX8_count_102 : decode cX8_count 102 = .ok (.aload_n 0, 1) := by decide +kernel
theorem dX8_count_103 : decode cX8_count 103 = .ok (.getfield 26, 3) := by decide +kernel
theorem dX8_count_106 : decode cX8_count 106 = .ok (.iconst 2, 1) := by decide +kernel
theorem dX8_count_107 : decode cX8_count 107 = .ok (.invokevirtual 133, 3) := by decide +kernel
theorem dX8_count_110 : decode cX8_count 110 = .ok (.ireturn, 1) := by decide +kernel
theorem dX8_count_111 : decode cX8_count 111 = .ok (.aload_n 0, 1) := by decide +kernel
theorem dX8_count_112 : decode cX8_count 112 = .ok (.getfield 26, 3) := by decide +kernel
theorem dX8_count_115 : decode cX8_count 115 = .ok (.invokevirtual 189, 3) := by decide +kernel
theorem dX8_count_118 : decode cX8_count 118 = .ok (.invokestatic 195, 3) := by decide +kernel
theorem dX8_count_121 : decode cX8_count 121 = .ok (.ireturn, 1) := by decide +kernel
theorem dX8_count_122 : decode cX8_count 122 = .ok (.aload_n 0, 1) := by decide +kernel
theorem dX8_count_123 : decode cX8_count 123 = .ok (.getfield 42, 3) := by decide +kernel
theorem dX8_count_126 : decode cX8_count 126 = .ok (.invokevirtual 246, 3) := by decide +kernel
theorem dX8_count_129 : decode cX8_count 129 = .ok (.ireturn, 1) := by decide +kernel
theorem dX8_count_130 : decode cX8_count 130 = .ok (.aload_n 0, 1) := by decide +kernel
theorem dX8_count_131 : decode cX8_count 131 = .ok (.getfield 42, 3) := by decide +kernel
theorem dX8_count_134 : decode cX8_count 134 = .ok (.invokevirtual 249, 3) := by decide +kernel
theorem dX8_count_137 : decode cX8_count 137 = .ok (.ireturn, 1) := by decide +kernel
theorem dX8_count_138 : decode cX8_count 138 = .ok (.aload_n 0, 1) := by decide +kernel
theorem dX8_count_139 : decode cX8_count 139 = .ok (.getfield 42, 3) := by decide +kernel
theorem dX8_count_142 : decode cX8_count 142 = .ok (.invokevirtual 252, 3) := by decide +kernel
theorem dX8_count_145 : decode cX8_count 145 = .ok (.ireturn, 1) := by decide +kernel
theorem dX8_count_146 : decode cX8_count 146 = .ok (.aload_n 0, 1) := by decide +kernel
theorem dX8_count_147 : decode cX8_count 147 = .ok (.getfield 33, 3) := by decide +kernel
theorem dX8_count_150 : decode cX8_count 150 = .ok (.getfield 149, 3) := by decide +kernel
theorem dX8_count_153 : decode cX8_count 153 = .ok (.ireturn, 1) := by decide +kernel
theorem dX8_count_154 : decode cX8_count 154 = .ok (.aload_n 0, 1) := by decide +kernel
theorem dX8_count_155 : decode cX8_count 155 = .ok (.getfield 10, 3) := by decide +kernel
theorem dX8_count_158 : decode cX8_count 158 = .ok (.getfield 92, 3) := by decide +kernel
theorem dX8_count_161 : decode cX8_count 161 = .ok (.ireturn, 1) := by decide +kernel
theorem dX8_count_162 : decode cX8_count 162 = .ok (.aload_n 0, 1) := by decide +kernel
theorem dX8_count_163 : decode cX8_count 163 = .ok (.getfield 26, 3) := by decide +kernel
theorem dX8_count_166 : decode cX8_count 166 = .ok (.invokevirtual 141, 3) := by decide +kernel
theorem dX8_count_169 : decode cX8_count 169 = .ok (.ldc 148, 2) := by decide +kernel
theorem dX8_count_171 : decode cX8_count 171 = .ok (.iadd, 1) := by decide +kernel
theorem dX8_count_172 : decode cX8_count 172 = .ok (.ireturn, 1) := by decide +kernel
theorem dX8_count_173 : decode cX8_count 173 = .ok (.aload_n 0, 1) := by decide +kernel
theorem dX8_count_174 : decode cX8_count 174 = .ok (.getfield 42, 3) := by decide +kernel
theorem dX8_count_177 : decode cX8_count 177 = .ok (.invokevirtual 255, 3) := by decide +kernel
theorem dX8_count_180 : decode cX8_count 180 = .ok (.ireturn, 1) := by decide +kernel
theorem dX8_count_181 : decode cX8_count 181 = .ok (.iconst (-1), 1) := by decide +kernel
theorem dX8_count_182 : decode cX8_count 182 = .ok (.ireturn, 1) := by decide +kernel
theorem dX8_layText_0 : decode cX8_layText 0 = .ok (.aload_n 0, 1) := by decide +kernel
theorem dX8_layText_1 : decode cX8_layText 1 = .ok (.getfield 19, 3) := by decide +kernel
theorem dX8_layText_4 : decode cX8_layText 4 = .ok (.aload_n 0, 1) := by decide +kernel
theorem dX8_layText_5 : decode cX8_layText 5 = .ok (.getfield 10, 3) := by decide +kernel
theorem dX8_layText_8 : decode cX8_layText 8 = .ok (.invokevirtual 95, 3) := by decide +kernel
theorem dX8_layText_11 : decode cX8_layText 11 = .ok (.aload_n 0, 1) := by decide +kernel
theorem dX8_layText_12 : decode cX8_layText 12 = .ok (.getfield 19, 3) := by decide +kernel
theorem dX8_layText_15 : decode cX8_layText 15 = .ok (.getfield 99, 3) := by decide +kernel
theorem dX8_layText_18 : decode cX8_layText 18 = .ok (.bipush (-4), 2) := by decide +kernel
theorem dX8_layText_20 : decode cX8_layText 20 = .ok (.if_icmp .ne 13, 3) := by decide +kernel
theorem dX8_layText_23 : decode cX8_layText 23 = .ok (.aload_n 0, 1) := by decide +kernel
theorem dX8_layText_24 : decode cX8_layText 24 = .ok (.getfield 19, 3) := by decide +kernel
theorem dX8_layText_27 : decode cX8_layText 27 = .ok (.getfield 258, 3) := by decide +kernel
theorem dX8_layText_30 : decode cX8_layText 30 = .ok (.ifCond .ne 5, 3) := by decide +kernel
theorem dX8_layText_33 : decode cX8_layText 33 = .ok (.iconst 0, 1) := by decide +kernel
theorem dX8_layText_34 : decode cX8_layText 34 = .ok (.ireturn, 1) := by decide +kernel
theorem dX8_layText_35 : decode cX8_layText 35 = .ok (.aload_n 0, 1) := by decide +kernel
theorem dX8_layText_36 : decode cX8_layText 36 = .ok (.getfield 26, 3) := by decide +kernel
theorem dX8_layText_39 : decode cX8_layText 39 = .ok (.aload_n 0, 1) := by decide +kernel
theorem dX8_layText_40 : decode cX8_layText 40 = .ok (.getfield 19, 3) := by decide +kernel
theorem dX8_layText_43 : decode cX8_layText 43 = .ok (.invokevirtual 259, 3) := by decide +kernel
theorem dX8_layText_46 : decode cX8_layText 46 = .ok (.aload_n 0, 1) := by decide +kernel
theorem dX8_layText_47 : decode cX8_layText 47 = .ok (.getfield 33, 3) := by decide +kernel
theorem dX8_layText_50 : decode cX8_layText 50 = .ok (.invokevirtual 263, 3) := by decide +kernel
theorem dX8_layText_53 : decode cX8_layText 53 = .ok (.aload_n 0, 1) := by decide +kernel
theorem dX8_layText_54 : decode cX8_layText 54 = .ok (.getfield 65, 3) := by decide +kernel
theorem dX8_layText_57 : decode cX8_layText 57 = .ok (.invokevirtual 236, 3) := by decide +kernel
theorem dX8_layText_60 : decode cX8_layText 60 = .ok (.aload_n 0, 1) := by decide +kernel
theorem dX8_layText_61 : decode cX8_layText 61 = .ok (.getfield 42, 3) := by decide +kernel
theorem dX8_layText_64 : decode cX8_layText 64 = .ok (.invokevirtual 127, 3) := by decide +kernel
theorem dX8_layText_67 : decode cX8_layText 67 = .ok (.iconst 1, 1) := by decide +kernel
theorem dX8_layText_68 : decode cX8_layText 68 = .ok (.ireturn, 1) := by decide +kernel
theorem dX8_isWire_0 : decode cX8_isWire 0 = .ok (.iload_n 1, 1) := by decide +kernel
theorem dX8_isWire_1 : decode cX8_isWire 1 = .ok (.ifCond .lt 18, 3) := by decide +kernel
theorem dX8_isWire_4 : decode cX8_isWire 4 = .ok (.iload_n 1, 1) := by decide +kernel
theorem dX8_isWire_5 : decode cX8_isWire 5 = .ok (.aload_n 0, 1) := by decide +kernel
theorem dX8_isWire_6 : decode cX8_isWire 6 = .ok (.getfield 26, 3) := by decide +kernel
theorem dX8_isWire_9 : decode cX8_isWire 9 = .ok (.getfield 102, 3) := by decide +kernel
theorem dX8_isWire_12 : decode cX8_isWire 12 = .ok (.if_icmp .ge 7, 3) := by decide +kernel
theorem dX8_isWire_15 : decode cX8_isWire 15 = .ok (.iconst 1, 1) := by decide +kernel
theorem dX8_isWire_16 : decode cX8_isWire 16 = .ok (.goto 4, 3) := by decide +kernel
theorem dX8_isWire_19 : decode cX8_isWire 19 = .ok (.iconst 0, 1) := by decide +kernel
theorem dX8_isWire_20 : decode cX8_isWire 20 = .ok (.ireturn, 1) := by decide +kernel
theorem dX8_isRow_0 : decode cX8_isRow 0 = .ok (.iload_n 1, 1) := by decide +kernel
theorem dX8_isRow_1 : decode cX8_isRow 1 = .ok (.ifCond .lt 18, 3) := by decide +kernel
theorem dX8_isRow_4 : decode cX8_isRow 4 = .ok (.iload_n 1, 1) := by decide +kernel
theorem dX8_isRow_5 : decode cX8_isRow 5 = .ok (.aload_n 0, 1) := by decide +kernel
theorem dX8_isRow_6 : decode cX8_isRow 6 = .ok (.getfield 26, 3) := by decide +kernel
theorem dX8_isRow_9 : decode cX8_isRow 9 = .ok (.getfield 243, 3) := by decide +kernel
theorem dX8_isRow_12 : decode cX8_isRow 12 = .ok (.if_icmp .gt 7, 3) := by decide +kernel
theorem dX8_isRow_15 : decode cX8_isRow 15 = .ok (.iconst 1, 1) := by decide +kernel
theorem dX8_isRow_16 : decode cX8_isRow 16 = .ok (.goto 4, 3) := by decide +kernel
theorem dX8_isRow_19 : decode cX8_isRow 19 = .ok (.iconst 0, 1) := by decide +kernel
theorem dX8_isRow_20 : decode cX8_isRow 20 = .ok (.ireturn, 1) := by decide +kernel
theorem dX8_canBeBonded_0 : decode cX8_canBeBonded 0 = .ok (.aload_n 0, 1) := by decide +kernel
theorem dX8_canBeBonded_1 : decode cX8_canBeBonded 1 = .ok (.getfield 26, 3) := by decide +kernel
theorem dX8_canBeBonded_4 : decode cX8_canBeBonded 4 = .ok (.iload_n 1, 1) := by decide +kernel
theorem dX8_canBeBonded_5 : decode cX8_canBeBonded 5 = .ok (.invokevirtual 155, 3) := by decide +kernel
theorem dX8_canBeBonded_8 : decode cX8_canBeBonded 8 = .ok (.ifCond .ne 26, 3) := by decide +kernel
theorem dX8_canBeBonded_11 : decode cX8_canBeBonded 11 = .ok (.aload_n 0, 1) := by decide +kernel
theorem dX8_canBeBonded_12 : decode cX8_canBeBonded 12 = .ok (.getfield 42, 3) := by decide +kernel
theorem dX8_canBeBonded_15 : decode cX8_canBeBonded 15 = .ok (.iload_n 1, 1) := by decide +kernel
theorem dX8_canBeBonded_16 : decode cX8_canBeBonded 16 = .ok (.invokevirtual 183, 3) := by decide +kernel
theorem dX8_canBeBonded_19 : decode cX8_canBeBonded 19 = .ok (.aload_n 0, 1) := by decide +kernel
theorem dX8_canBeBonded_20 : decode cX8_canBeBonded 20 = .ok (.getfield 26, 3) := by decide +kernel
theorem dX8_canBeBonded_23 : decode cX8_canBeBonded 23 = .ok (.invokevirtual 189, 3) := by decide +kernel
theorem dX8_canBeBonded_26 : decode cX8_canBeBonded 26 = .ok (.iand, 1) := by decide +kernel
theorem dX8_canBeBonded_27 : decode cX8_canBeBonded 27 = .ok (.ifCond .ne 7, 3) := by decide +kernel
theorem dX8_canBeBonded_30 : decode cX8_canBeBonded 30 = .ok (.iconst 1, 1) := by decide +kernel
theorem dX8_canBeBonded_31 : decode cX8_canBeBonded 31 = .ok (.goto 4, 3) := by decide +kernel
theorem dX8_canBeBonded_34 : decode cX8_canBeBonded 34 = .ok (.iconst 0, 1) := by decide +kernel
theorem dX8_canBeBonded_35 : decode cX8_canBeBonded 35 = .ok (.ireturn, 1) := by decide +kernel
theorem dX8_isLook_0 : decode cX8_isLook 0 = .ok (.iload_n 0, 1) := by decide +kernel
theorem dX8_isLook_1 : decode cX8_isLook 1 = .ok (.ifCond .lt 35, 3) := by decide +kernel
theorem dX8_isLook_4 : decode cX8_isLook 4 = .ok (.iload_n 0, 1) := by decide +kernel
theorem dX8_isLook_5 : decode cX8_isLook 5 = .ok (.iconst 2, 1) := by decide +kernel
theorem dX8_isLook_6 : decode cX8_isLook 6 = .ok (.if_icmp .gt 30, 3) := by decide +kernel
theorem dX8_isLook_9 : decode cX8_isLook 9 = .ok (.iload_n 1, 1) := by decide +kernel
theorem dX8_isLook_10 : decode cX8_isLook 10 = .ok (.ifCond .lt 26, 3) := by decide +kernel
theorem dX8_isLook_13 : decode cX8_isLook 13 = .ok (.iload_n 1, 1) := by decide +kernel
theorem dX8_isLook_14 : decode cX8_isLook 14 = .ok (.iload_n 2, 1) := by decide +kernel
theorem dX8_isLook_15 : decode cX8_isLook 15 = .ok (.if_icmp .gt 21, 3) := by decide +kernel
theorem dX8_isLook_18 : decode cX8_isLook 18 = .ok (.iload_n 2, 1) := by decide +kernel
theorem dX8_isLook_19 : decode cX8_isLook 19 = .ok (.bipush 60, 2) := by decide +kernel
theorem dX8_isLook_21 : decode cX8_isLook 21 = .ok (.if_icmp .gt 15, 3) := by decide +kernel
theorem dX8_isLook_24 : decode cX8_isLook 24 = .ok (.iload_n 2, 1) := by decide +kernel
theorem dX8_isLook_25 : decode cX8_isLook 25 = .ok (.iload_n 1, 1) := by decide +kernel
theorem dX8_isLook_26 : decode cX8_isLook 26 = .ok (.isub, 1) := by decide +kernel
theorem dX8_isLook_27 : decode cX8_isLook 27 = .ok (.bipush 20, 2) := by decide +kernel
theorem dX8_isLook_29 : decode cX8_isLook 29 = .ok (.if_icmp .ge 7, 3) := by decide +kernel
theorem dX8_isLook_32 : decode cX8_isLook 32 = .ok (.iconst 1, 1) := by decide +kernel
theorem dX8_isLook_33 : decode cX8_isLook 33 = .ok (.goto 4, 3) := by decide +kernel
theorem dX8_isLook_36 : decode cX8_isLook 36 = .ok (.iconst 0, 1) := by decide +kernel
theorem dX8_isLook_37 : decode cX8_isLook 37 = .ok (.ireturn, 1) := by decide +kernel
