-- decode rows (printed by program)
theorem dX1_init_0 : decode cX1_init 0 = .ok (.aload_n 0, 1) := by decide +kernel
theorem dX1_init_1 : decode cX1_init 1 = .ok (.invokespecial 3, 3) := by decide +kernel
theorem dX1_init_4 : decode cX1_init 4 = .ok (.aload_n 0, 1) := by decide +kernel
theorem dX1_init_5 : decode cX1_init 5 = .ok (.bipush 40, 2) := by decide +kernel
theorem dX1_init_7 : decode cX1_init 7 = .ok (.newarray .int, 2) := by decide +kernel
theorem dX1_init_9 : decode cX1_init 9 = .ok (.putfield 9, 3) := by decide +kernel
theorem dX1_init_12 : decode cX1_init 12 = .ok (.aload_n 0, 1) := by decide +kernel
theorem dX1_init_13 : decode cX1_init 13 = .ok (.iconst 3, 1) := by decide +kernel
theorem dX1_init_14 : decode cX1_init 14 = .ok (.newarray .int, 2) := by decide +kernel
theorem dX1_init_16 : decode cX1_init 16 = .ok (.putfield 15, 3) := by decide +kernel
theorem dX1_init_19 : decode cX1_init 19 = .ok (.return_, 1) := by decide +kernel
theorem dX1_read_0 : decode cX1_read 0 = .ok (.aload_n 0, 1) := by decide +kernel
theorem dX1_read_1 : decode cX1_read 1 = .ok (.iconst 0, 1) := by decide +kernel
theorem dX1_read_2 : decode cX1_read 2 = .ok (.putfield 18, 3) := by decide +kernel
theorem dX1_read_5 : decode cX1_read 5 = .ok (.aload_n 0, 1) := by decide +kernel
theorem dX1_read_6 : decode cX1_read 6 = .ok (.iconst 0, 1) := by decide +kernel
theorem dX1_read_7 : decode cX1_read 7 = .ok (.putfield 22, 3) := by decide +kernel
theorem dX1_read_10 : decode cX1_read 10 = .ok (.aload_n 0, 1) := by decide +kernel
theorem dX1_read_11 : decode cX1_read 11 = .ok (.iconst 0, 1) := by decide +kernel
theorem dX1_read_12 : decode cX1_read 12 = .ok (.putfield 25, 3) := by decide +kernel
theorem dX1_read_15 : decode cX1_read 15 = .ok (.aload_n 0, 1) := by decide +kernel
theorem dX1_read_16 : decode cX1_read 16 = .ok (.bipush (-4), 2) := by decide +kernel
theorem dX1_read_18 : decode cX1_read 18 = .ok (.putfield 28, 3) := by decide +kernel
theorem dX1_read_21 : decode cX1_read 21 = .ok (.getstatic 31, 3) := by decide +kernel
theorem dX1_read_24 : decode cX1_read 24 = .ok (.iconst 0, 1) := by decide +kernel
theorem dX1_read_25 : decode cX1_read 25 = .ok (.aload_n 0, 1) := by decide +kernel
theorem dX1_read_26 : decode cX1_read 26 = .ok (.getfield 15, 3) := by decide +kernel
theorem dX1_read_29 : decode cX1_read 29 = .ok (.iconst 0, 1) := by decide +kernel
theorem dX1_read_30 : decode cX1_read 30 = .ok (.iconst 3, 1) := by decide +kernel
theorem dX1_read_31 : decode cX1_read 31 = .ok (.invokestatic 34, 3) := by decide +kernel
theorem dX1_read_34 : decode cX1_read 34 = .ok (.iconst 0, 1) := by decide +kernel
theorem dX1_read_35 : decode cX1_read 35 = .ok (.istore_n 2, 1) := by decide +kernel
theorem dX1_read_36 : decode cX1_read 36 = .ok (.iload_n 2, 1) := by decide +kernel
theorem dX1_read_37 : decode cX1_read 37 = .ok (.sipush 200, 3) := by decide +kernel
theorem dX1_read_40 : decode cX1_read 40 = .ok (.if_icmp .ge 39, 3) := by decide +kernel
theorem dX1_read_43 : decode cX1_read 43 = .ok (.aload_n 0, 1) := by decide +kernel
theorem dX1_read_44 : decode cX1_read 44 = .ok (.getfield 25, 3) := by decide +kernel
theorem dX1_read_47 : decode cX1_read 47 = .ok (.aload_n 1, 1) := by decide +kernel
theorem dX1_read_48 : decode cX1_read 48 = .ok (.getfield 40, 3) := by decide +kernel
theorem dX1_read_51 : decode cX1_read 51 = .ok (.if_icmp .ge 28, 3) := by decide +kernel
theorem dX1_read_54 : decode cX1_read 54 = .ok (.aload_n 0, 1) := by decide +kernel
theorem dX1_read_55 : decode cX1_read 55 = .ok (.getfield 25, 3) := by decide +kernel
theorem dX1_read_58 : decode cX1_read 58 = .ok (.istore_n 3, 1) := by decide +kernel
theorem dX1_read_59 : decode cX1_read 59 = .ok (.aload_n 0, 1) := by decide +kernel
theorem dX1_read_60 : decode cX1_read 60 = .ok (.aload_n 1, 1) := by decide +kernel
theorem dX1_read_61 : decode cX1_read 61 = .ok (.invokevirtual 45, 3) := by decide +kernel
theorem dX1_read_64 : decode cX1_read 64 = .ok (.ifCond .ne 9, 3) := by decide +kernel
theorem dX1_read_67 : decode cX1_read 67 = .ok (.aload_n 0, 1) := by decide +kernel
theorem dX1_read_68 : decode cX1_read 68 = .ok (.iload_n 3, 1) := by decide +kernel
theorem dX1_read_69 : decode cX1_read 69 = .ok (.putfield 28, 3) := by decide +kernel
theorem dX1_read_72 : decode cX1_read 72 = .ok (.return_, 1) := by decide +kernel
theorem dX1_read_73 : decode cX1_read 73 = .ok (.iinc 2 1, 3) := by decide +kernel
theorem dX1_read_76 : decode cX1_read 76 = .ok (.goto (-40), 3) := by decide +kernel
theorem dX1_read_79 : decode cX1_read 79 = .ok (.return_, 1) := by decide +kernel
theorem dX1_readItem_0 : decode cX1_readItem 0 = .ok (.aload_n 1, 1) := by decide +kernel
theorem dX1_readItem_1 : decode cX1_readItem 1 = .ok (.aload_n 0, 1) := by decide +kernel
theorem dX1_readItem_2 : decode cX1_readItem 2 = .ok (.getfield 25, 3) := by decide +kernel
theorem dX1_readItem_5 : decode cX1_readItem 5 = .ok (.invokevirtual 49, 3) := by decide +kernel
theorem dX1_readItem_8 : decode cX1_readItem 8 = .ok (.istore_n 2, 1) := by decide +kernel
theorem dX1_readItem_9 : decode cX1_readItem 9 = .ok (.aload_n 0, 1) := by decide +kernel
theorem dX1_readItem_10 : decode cX1_readItem 10 = .ok (.dup, 1) := by decide +kernel
theorem dX1_readItem_11 : decode cX1_readItem 11 = .ok (.getfield 25, 3) := by decide +kernel
theorem dX1_readItem_14 : decode cX1_readItem 14 = .ok (.iconst 1, 1) := by decide +kernel
theorem dX1_readItem_15 : decode cX1_readItem 15 = .ok (.iadd, 1) := by decide +kernel
theorem dX1_readItem_16 : decode cX1_readItem 16 = .ok (.putfield 25, 3) := by decide +kernel
theorem dX1_readItem_19 : decode cX1_readItem 19 = .ok (.iload_n 2, 1) := by decide +kernel
theorem dX1_readItem_20 : decode cX1_readItem 20 = .ok (.bipush 115, 2) := by decide +kernel
theorem dX1_readItem_22 : decode cX1_readItem 22 = .ok (.if_icmp .ne 7, 3) := by decide +kernel
theorem dX1_readItem_25 : decode cX1_readItem 25 = .ok (.iconst 1, 1) := by decide +kernel
theorem dX1_readItem_26 : decode cX1_readItem 26 = .ok (.goto 4, 3) := by decide +kernel
theorem dX1_readItem_29 : decode cX1_readItem 29 = .ok (.iconst 0, 1) := by decide +kernel
theorem dX1_readItem_30 : decode cX1_readItem 30 = .ok (.aload_n 0, 1) := by decide +kernel
theorem dX1_readItem_31 : decode cX1_readItem 31 = .ok (.getfield 18, 3) := by decide +kernel
theorem dX1_readItem_34 : decode cX1_readItem 34 = .ok (.ifCond .ne 7, 3) := by decide +kernel
theorem dX1_readItem_37 : decode cX1_readItem 37 = .ok (.iconst 1, 1) := by decide +kernel
theorem dX1_readItem_38 : decode cX1_readItem 38 = .ok (.goto 4, 3) := by decide +kernel
theorem dX1_readItem_41 : decode cX1_readItem 41 = .ok (.iconst 0, 1) := by decide +kernel
theorem dX1_readItem_42 : decode cX1_readItem 42 = .ok (.if_icmp .eq 5, 3) := by decide +kernel
theorem dX1_readItem_45 : decode cX1_readItem 45 = .ok (.iconst 0, 1) := by decide +kernel
theorem dX1_readItem_46 : decode cX1_readItem 46 = .ok (.ireturn, 1) := by decide +kernel
theorem dX1_readItem_47 : decode cX1_readItem 47 = .ok (.iload_n 2, 1) := by decide +kernel
theorem dX1_readItem_48 : decode cX1_readItem 48 = .ok (.lookupswitch 85 #[(103, 58), (104, 65), (115, 52), (116, 72), (119, 79)], 52) := by decide +kernel
theorem dX1_readItem_100 : decode cX1_readItem 100 = .ok (.aload_n 0, 1) := by decide +kernel
theorem dX1_readItem_101 : decode cX1_readItem 101 = .ok (.aload_n 1, 1) := by decide +kernel
theorem dX1_readItem_102 : decode cX1_readItem 102 = .ok (.invokevirtual 53, 3) := by decide +kernel
theorem dX1_readItem_105 : decode cX1_readItem 105 = .ok (.ireturn, 1) := by decide +kernel
theorem dX1_readItem_106 : decode cX1_readItem 106 = .ok (.aload_n 0, 1) := by decide +kernel
theorem dX1_readItem_107 : decode cX1_readItem 107 = .ok (.aload_n 1, 1) := by decide +kernel
theorem dX1_readItem_108 : decode cX1_readItem 108 = .ok (.iconst 0, 1) := by decide +kernel
theorem dX1_readItem_109 : decode cX1_readItem 109 = .ok (.invokevirtual 56, 3) := by decide +kernel
theorem dX1_readItem_112 : decode cX1_readItem 112 = .ok (.ireturn, 1) := by decide +kernel
theorem dX1_readItem_113 : decode cX1_readItem 113 = .ok (.aload_n 0, 1) := by decide +kernel
theorem dX1_readItem_114 : decode cX1_readItem 114 = .ok (.aload_n 1, 1) := by decide +kernel
theorem dX1_readItem_115 : decode cX1_readItem 115 = .ok (.iconst 1, 1) := by decide +kernel
theorem dX1_readItem_116 : decode cX1_readItem 116 = .ok (.invokevirtual 56, 3) := by decide +kernel
theorem dX1_readItem_119 : decode cX1_readItem 119 = .ok (.ireturn, 1) := by decide +kernel
theorem dX1_readItem_120 : decode cX1_readItem 120 = .ok (.aload_n 0, 1) := by decide +kernel
theorem dX1_readItem_121 : decode cX1_readItem 121 = .ok (.aload_n 1, 1) := by decide +kernel
theorem dX1_readItem_122 : decode cX1_readItem 122 = .ok (.iconst 2, 1) := by decide +kernel
theorem dX1_readItem_123 : decode cX1_readItem 123 = .ok (.invokevirtual 56, 3) := by decide +kernel
theorem dX1_readItem_126 : decode cX1_readItem 126 = .ok (.ireturn, 1) := by decide +kernel
theorem dX1_readItem_127 : decode cX1_readItem 127 = .ok (.aload_n 0, 1) := by decide +kernel
theorem dX1_readItem_128 : decode cX1_readItem 128 = .ok (.aload_n 1, 1) := by decide +kernel
theorem dX1_readItem_129 : decode cX1_readItem 129 = .ok (.invokevirtual 60, 3) := by decide +kernel
theorem dX1_readItem_132 : decode cX1_readItem 132 = .ok (.ireturn, 1) := by decide +kernel
theorem dX1_readItem_133 : decode cX1_readItem 133 = .ok (.iconst 0, 1) := by decide +kernel
theorem dX1_readItem_134 : decode cX1_readItem 134 = .ok (.ireturn, 1) := by decide +kernel
theorem dX1_readSpan_0 : decode cX1_readSpan 0 = .ok (.aload_n 0, 1) := by decide +kernel
theorem dX1_readSpan_1 : decode cX1_readSpan 1 = .ok (.aload_n 1, 1) := by decide +kernel
theorem dX1_readSpan_2 : decode cX1_readSpan 2 = .ok (.bipush 59, 2) := by decide +kernel
theorem dX1_readSpan_4 : decode cX1_readSpan 4 = .ok (.invokevirtual 63, 3) := by decide +kernel
theorem dX1_readSpan_7 : decode cX1_readSpan 7 = .ok (.istore_n 2, 1) := by decide +kernel
theorem dX1_readSpan_8 : decode cX1_readSpan 8 = .ok (.iload_n 2, 1) := by decide +kernel
theorem dX1_readSpan_9 : decode cX1_readSpan 9 = .ok (.bipush 8, 2) := by decide +kernel
theorem dX1_readSpan_11 : decode cX1_readSpan 11 = .ok (.if_icmp .lt 9, 3) := by decide +kernel
theorem dX1_readSpan_14 : decode cX1_readSpan 14 = .ok (.iload_n 2, 1) := by decide +kernel
theorem dX1_readSpan_15 : decode cX1_readSpan 15 = .ok (.bipush 40, 2) := by decide +kernel
theorem dX1_readSpan_17 : decode cX1_readSpan 17 = .ok (.if_icmp .le 5, 3) := by decide +kernel
theorem dX1_readSpan_20 : decode cX1_readSpan 20 = .ok (.iconst 0, 1) := by decide +kernel
theorem dX1_readSpan_21 : decode cX1_readSpan 21 = .ok (.ireturn, 1) := by decide +kernel
theorem dX1_readSpan_22 : decode cX1_readSpan 22 = .ok (.aload_n 0, 1) := by decide +kernel
theorem dX1_readSpan_23 : decode cX1_readSpan 23 = .ok (.iload_n 2, 1) := by decide +kernel
theorem dX1_readSpan_24 : decode cX1_readSpan 24 = .ok (.putfield 18, 3) := by decide +kernel
theorem dX1_readSpan_27 : decode cX1_readSpan 27 = .ok (.iconst 1, 1) := by decide +kernel
theorem dX1_readSpan_28 : decode cX1_readSpan 28 = .ok (.ireturn, 1) := by decide +kernel
theorem dX1_readLimit_0 : decode cX1_readLimit 0 = .ok (.aload_n 0, 1) := by decide +kernel
theorem dX1_readLimit_1 : decode cX1_readLimit 1 = .ok (.aload_n 1, 1) := by decide +kernel
theorem dX1_readLimit_2 : decode cX1_readLimit 2 = .ok (.bipush 59, 2) := by decide +kernel
theorem dX1_readLimit_4 : decode cX1_readLimit 4 = .ok (.invokevirtual 63, 3) := by decide +kernel
theorem dX1_readLimit_7 : decode cX1_readLimit 7 = .ok (.istore_n 3, 1) := by decide +kernel
theorem dX1_readLimit_8 : decode cX1_readLimit 8 = .ok (.iload_n 3, 1) := by decide +kernel
theorem dX1_readLimit_9 : decode cX1_readLimit 9 = .ok (.iconst 1, 1) := by decide +kernel
theorem dX1_readLimit_10 : decode cX1_readLimit 10 = .ok (.if_icmp .lt 12, 3) := by decide +kernel
theorem dX1_readLimit_13 : decode cX1_readLimit 13 = .ok (.iload_n 3, 1) := by decide +kernel
theorem dX1_readLimit_14 : decode cX1_readLimit 14 = .ok (.getstatic 67, 3) := by decide +kernel
theorem dX1_readLimit_17 : decode cX1_readLimit 17 = .ok (.iload_n 2, 1) := by decide +kernel
theorem dX1_readLimit_18 : decode cX1_readLimit 18 = .ok (.iaload, 1) := by decide +kernel
theorem dX1_readLimit_19 : decode cX1_readLimit 19 = .ok (.if_icmp .le 5, 3) := by decide +kernel
theorem dX1_readLimit_22 : decode cX1_readLimit 22 = .ok (.iconst 0, 1) := by decide +kernel
theorem dX1_readLimit_23 : decode cX1_readLimit 23 = .ok (.ireturn, 1) := by decide +kernel
theorem dX1_readLimit_24 : decode cX1_readLimit 24 = .ok (.aload_n 0, 1) := by decide +kernel
theorem dX1_readLimit_25 : decode cX1_readLimit 25 = .ok (.getfield 15, 3) := by decide +kernel
theorem dX1_readLimit_28 : decode cX1_readLimit 28 = .ok (.iload_n 2, 1) := by decide +kernel
theorem dX1_readLimit_29 : decode cX1_readLimit 29 = .ok (.iload_n 3, 1) := by decide +kernel
theorem dX1_readLimit_30 : decode cX1_readLimit 30 = .ok (.iastore, 1) := by decide +kernel
theorem dX1_readLimit_31 : decode cX1_readLimit 31 = .ok (.iconst 1, 1) := by decide +kernel
theorem dX1_readLimit_32 : decode cX1_readLimit 32 = .ok (.ireturn, 1) := by decide +kernel
theorem dX1_readWire_0 : decode cX1_readWire 0 = .ok (.aload_n 0, 1) := by decide +kernel
theorem dX1_readWire_1 : decode cX1_readWire 1 = .ok (.getfield 22, 3) := by decide +kernel
theorem dX1_readWire_4 : decode cX1_readWire 4 = .ok (.bipush 8, 2) := by decide +kernel
theorem dX1_readWire_6 : decode cX1_readWire 6 = .ok (.if_icmp .lt 5, 3) := by decide +kernel
theorem dX1_readWire_9 : decode cX1_readWire 9 = .ok (.iconst 0, 1) := by decide +kernel
theorem dX1_readWire_10 : decode cX1_readWire 10 = .ok (.ireturn, 1) := by decide +kernel
theorem dX1_readWire_11 : decode cX1_readWire 11 = .ok (.iconst 0, 1) := by decide +kernel
theorem dX1_readWire_12 : decode cX1_readWire 12 = .ok (.istore_n 2, 1) := by decide +kernel
theorem dX1_readWire_13 : decode cX1_readWire 13 = .ok (.iload_n 2, 1) := by decide +kernel
theorem dX1_readWire_14 : decode cX1_readWire 14 = .ok (.iconst 5, 1) := by decide +kernel
theorem dX1_readWire_15 : decode cX1_readWire 15 = .ok (.if_icmp .ge 61, 3) := by decide +kernel
theorem dX1_readWire_18 : decode cX1_readWire 18 = .ok (.aload_n 0, 1) := by decide +kernel
theorem dX1_readWire_19 : decode cX1_readWire 19 = .ok (.aload_n 1, 1) := by decide +kernel
theorem dX1_readWire_20 : decode cX1_readWire 20 = .ok (.iload_n 2, 1) := by decide +kernel
theorem dX1_readWire_21 : decode cX1_readWire 21 = .ok (.iconst 4, 1) := by decide +kernel
theorem dX1_readWire_22 : decode cX1_readWire 22 = .ok (.if_icmp .ne 8, 3) := by decide +kernel
theorem dX1_readWire_25 : decode cX1_readWire 25 = .ok (.bipush 59, 2) := by decide +kernel
theorem dX1_readWire_27 : decode cX1_readWire 27 = .ok (.goto 5, 3) := by decide +kernel
theorem dX1_readWire_30 : decode cX1_readWire 30 = .ok (.bipush 44, 2) := by decide +kernel
theorem dX1_readWire_32 : decode cX1_readWire 32 = .ok (.invokevirtual 63, 3) := by decide +kernel
theorem dX1_readWire_35 : decode cX1_readWire 35 = .ok (.istore_n 3, 1) := by decide +kernel
theorem dX1_readWire_36 : decode cX1_readWire 36 = .ok (.iload_n 3, 1) := by decide +kernel
theorem dX1_readWire_37 : decode cX1_readWire 37 = .ok (.getstatic 70, 3) := by decide +kernel
theorem dX1_readWire_40 : decode cX1_readWire 40 = .ok (.iload_n 2, 1) := by decide +kernel
theorem dX1_readWire_41 : decode cX1_readWire 41 = .ok (.iaload, 1) := by decide +kernel
theorem dX1_readWire_42 : decode cX1_readWire 42 = .ok (.if_icmp .lt 12, 3) := by decide +kernel
theorem dX1_readWire_45 : decode cX1_readWire 45 = .ok (.iload_n 3, 1) := by decide +kernel
theorem dX1_readWire_46 : decode cX1_readWire 46 = .ok (.getstatic 73, 3) := by decide +kernel
theorem dX1_readWire_49 : decode cX1_readWire 49 = .ok (.iload_n 2, 1) := by decide +kernel
theorem dX1_readWire_50 : decode cX1_readWire 50 = .ok (.iaload, 1) := by decide +kernel
theorem dX1_readWire_51 : decode cX1_readWire 51 = .ok (.if_icmp .le 5, 3) := by decide +kernel
theorem dX1_readWire_54 : decode cX1_readWire 54 = .ok (.iconst 0, 1) := by decide +kernel
theorem dX1_readWire_55 : decode cX1_readWire 55 = .ok (.ireturn, 1) := by decide +kernel
theorem dX1_readWire_56 : decode cX1_readWire 56 = .ok (.aload_n 0, 1) := by decide +kernel
theorem dX1_readWire_57 : decode cX1_readWire 57 = .ok (.getfield 9, 3) := by decide +kernel
theorem dX1_readWire_60 : decode cX1_readWire 60 = .ok (.aload_n 0, 1) := by decide +kernel
theorem dX1_readWire_61 : decode cX1_readWire 61 = .ok (.getfield 22, 3) := by decide +kernel
theorem dX1_readWire_64 : decode cX1_readWire 64 = .ok (.iconst 5, 1) := by decide +kernel
theorem dX1_readWire_65 : decode cX1_readWire 65 = .ok (.imul, 1) := by decide +kernel
theorem dX1_readWire_66 : decode cX1_readWire 66 = .ok (.iload_n 2, 1) := by decide +kernel
theorem dX1_readWire_67 : decode cX1_readWire 67 = .ok (.iadd, 1) := by decide +kernel
theorem dX1_readWire_68 : decode cX1_readWire 68 = .ok (.iload_n 3, 1) := by decide +kernel
theorem dX1_readWire_69 : decode cX1_readWire 69 = .ok (.iastore, 1) := by decide +kernel
theorem dX1_readWire_70 : decode cX1_readWire 70 = .ok (.iinc 2 1, 3) := by decide +kernel
theorem dX1_readWire_73 : decode cX1_readWire 73 = .ok (.goto (-60), 3) := by decide +kernel
theorem dX1_readWire_76 : decode cX1_readWire 76 = .ok (.aload_n 0, 1) := by decide +kernel
theorem dX1_readWire_77 : decode cX1_readWire 77 = .ok (.dup, 1) := by decide +kernel
theorem dX1_readWire_78 : decode cX1_readWire 78 = .ok (.getfield 22, 3) := by decide +kernel
theorem dX1_readWire_81 : decode cX1_readWire 81 = .ok (.iconst 1, 1) := by decide +kernel
theorem dX1_readWire_82 : decode cX1_readWire 82 = .ok (.iadd, 1) := by decide +kernel
theorem dX1_readWire_83 : decode cX1_readWire 83 = .ok (.putfield 22, 3) := by decide +kernel
theorem dX1_readWire_86 : decode cX1_readWire 86 = .ok (.iconst 1, 1) := by decide +kernel
theorem dX1_readWire_87 : decode cX1_readWire 87 = .ok (.ireturn, 1) := by decide +kernel
theorem dX1_readNumber_0 : decode cX1_readNumber 0 = .ok (.aload_n 1, 1) := by decide +kernel
theorem dX1_readNumber_1 : decode cX1_readNumber 1 = .ok (.aload_n 0, 1) := by decide +kernel
theorem dX1_readNumber_2 : decode cX1_readNumber 2 = .ok (.getfield 25, 3) := by decide +kernel
theorem dX1_readNumber_5 : decode cX1_readNumber 5 = .ok (.invokevirtual 49, 3) := by decide +kernel
theorem dX1_readNumber_8 : decode cX1_readNumber 8 = .ok (.invokestatic 76, 3) := by decide +kernel
theorem dX1_readNumber_11 : decode cX1_readNumber 11 = .ok (.istore_n 3, 1) := by decide +kernel
theorem dX1_readNumber_12 : decode cX1_readNumber 12 = .ok (.iload_n 3, 1) := by decide +kernel
theorem dX1_readNumber_13 : decode cX1_readNumber 13 = .ok (.ifCond .ge 5, 3) := by decide +kernel
theorem dX1_readNumber_16 : decode cX1_readNumber 16 = .ok (.iconst (-1), 1) := by decide +kernel
theorem dX1_readNumber_17 : decode cX1_readNumber 17 = .ok (.ireturn, 1) := by decide +kernel
theorem dX1_readNumber_18 : decode cX1_readNumber 18 = .ok (.aload_n 0, 1) := by decide +kernel
theorem dX1_readNumber_19 : decode cX1_readNumber 19 = .ok (.dup, 1) := by decide +kernel
theorem dX1_readNumber_20 : decode cX1_readNumber 20 = .ok (.getfield 25, 3) := by decide +kernel
theorem dX1_readNumber_23 : decode cX1_readNumber 23 = .ok (.iconst 1, 1) := by decide +kernel
theorem dX1_readNumber_24 : decode cX1_readNumber 24 = .ok (.iadd, 1) := by decide +kernel
theorem dX1_readNumber_25 : decode cX1_readNumber 25 = .ok (.putfield 25, 3) := by decide +kernel
theorem dX1_readNumber_28 : decode cX1_readNumber 28 = .ok (.aload_n 1, 1) := by decide +kernel
theorem dX1_readNumber_29 : decode cX1_readNumber 29 = .ok (.aload_n 0, 1) := by decide +kernel
theorem dX1_readNumber_30 : decode cX1_readNumber 30 = .ok (.getfield 25, 3) := by decide +kernel
theorem dX1_readNumber_33 : decode cX1_readNumber 33 = .ok (.invokevirtual 49, 3) := by decide +kernel
theorem dX1_readNumber_36 : decode cX1_readNumber 36 = .ok (.invokestatic 76, 3) := by decide +kernel
theorem dX1_readNumber_39 : decode cX1_readNumber 39 = .ok (.istore 4, 2) := by decide +kernel
theorem dX1_readNumber_41 : decode cX1_readNumber 41 = .ok (.iload 4, 2) := by decide +kernel
theorem dX1_readNumber_43 : decode cX1_readNumber 43 = .ok (.ifCond .lt 21, 3) := by decide +kernel
theorem dX1_readNumber_46 : decode cX1_readNumber 46 = .ok (.bipush 10, 2) := by decide +kernel
theorem dX1_readNumber_48 : decode cX1_readNumber 48 = .ok (.iload_n 3, 1) := by decide +kernel
theorem dX1_readNumber_49 : decode cX1_readNumber 49 = .ok (.imul, 1) := by decide +kernel
theorem dX1_readNumber_50 : decode cX1_readNumber 50 = .ok (.iload 4, 2) := by decide +kernel
theorem dX1_readNumber_52 : decode cX1_readNumber 52 = .ok (.iadd, 1) := by decide +kernel
theorem dX1_readNumber_53 : decode cX1_readNumber 53 = .ok (.istore_n 3, 1) := by decide +kernel
theorem dX1_readNumber_54 : decode cX1_readNumber 54 = .ok (.aload_n 0, 1) := by decide +kernel
theorem dX1_readNumber_55 : decode cX1_readNumber 55 = .ok (.dup, 1) := by decide +kernel
theorem dX1_readNumber_56 : decode cX1_readNumber 56 = .ok (.getfield 25, 3) := by decide +kernel
theorem dX1_readNumber_59 : decode cX1_readNumber 59 = .ok (.iconst 1, 1) := by decide +kernel
theorem dX1_readNumber_60 : decode cX1_readNumber 60 = .ok (.iadd, 1) := by decide +kernel
theorem dX1_readNumber_61 : decode cX1_readNumber 61 = .ok (.putfield 25, 3) := by decide +kernel
theorem dX1_readNumber_64 : decode cX1_readNumber 64 = .ok (.aload_n 1, 1) := by decide +kernel
theorem dX1_readNumber_65 : decode cX1_readNumber 65 = .ok (.aload_n 0, 1) := by decide +kernel
theorem dX1_readNumber_66 : decode cX1_readNumber 66 = .ok (.getfield 25, 3) := by decide +kernel
theorem dX1_readNumber_69 : decode cX1_readNumber 69 = .ok (.invokevirtual 49, 3) := by decide +kernel
theorem dX1_readNumber_72 : decode cX1_readNumber 72 = .ok (.iload_n 2, 1) := by decide +kernel
theorem dX1_readNumber_73 : decode cX1_readNumber 73 = .ok (.if_icmp .eq 5, 3) := by decide +kernel
theorem dX1_readNumber_76 : decode cX1_readNumber 76 = .ok (.iconst (-1), 1) := by decide +kernel
theorem dX1_readNumber_77 : decode cX1_readNumber 77 = .ok (.ireturn, 1) := by decide +kernel
theorem dX1_readNumber_78 : decode cX1_readNumber 78 = .ok (.aload_n 0, 1) := by decide +kernel
theorem dX1_readNumber_79 : decode cX1_readNumber 79 = .ok (.dup, 1) := by decide +kernel
theorem dX1_readNumber_80 : decode cX1_readNumber 80 = .ok (.getfield 25, 3) := by decide +kernel
theorem dX1_readNumber_83 : decode cX1_readNumber 83 = .ok (.iconst 1, 1) := by decide +kernel
theorem dX1_readNumber_84 : decode cX1_readNumber 84 = .ok (.iadd, 1) := by decide +kernel
theorem dX1_readNumber_85 : decode cX1_readNumber 85 = .ok (.putfield 25, 3) := by decide +kernel
theorem dX1_readNumber_88 : decode cX1_readNumber 88 = .ok (.iload_n 3, 1) := by decide +kernel
theorem dX1_readNumber_89 : decode cX1_readNumber 89 = .ok (.ireturn, 1) := by decide +kernel
theorem dX1_figure_0 : decode cX1_figure 0 = .ok (.iload_n 0, 1) := by decide +kernel
theorem dX1_figure_1 : decode cX1_figure 1 = .ok (.bipush 48, 2) := by decide +kernel
theorem dX1_figure_3 : decode cX1_figure 3 = .ok (.if_icmp .lt 16, 3) := by decide +kernel
theorem dX1_figure_6 : decode cX1_figure 6 = .ok (.iload_n 0, 1) := by decide +kernel
theorem dX1_figure_7 : decode cX1_figure 7 = .ok (.bipush 57, 2) := by decide +kernel
theorem dX1_figure_9 : decode cX1_figure 9 = .ok (.if_icmp .gt 10, 3) := by decide +kernel
theorem dX1_figure_12 : decode cX1_figure 12 = .ok (.iload_n 0, 1) := by decide +kernel
theorem dX1_figure_13 : decode cX1_figure 13 = .ok (.bipush 48, 2) := by decide +kernel
theorem dX1_figure_15 : decode cX1_figure 15 = .ok (.isub, 1) := by decide +kernel
theorem dX1_figure_16 : decode cX1_figure 16 = .ok (.goto 4, 3) := by decide +kernel
theorem dX1_figure_19 : decode cX1_figure 19 = .ok (.iconst (-1), 1) := by decide +kernel
theorem dX1_figure_20 : decode cX1_figure 20 = .ok (.ireturn, 1) := by decide +kernel
