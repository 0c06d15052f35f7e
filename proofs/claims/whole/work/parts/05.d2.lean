theorem dX8_init_0 : decode cX8_init 0 = .ok (.aload_n 0, 1) := by decide +kernel
theorem dX8_init_1 : decode cX8_init 1 = .ok (.invokespecial 1, 3) := by decide +kernel
theorem dX8_init_4 : decode cX8_init 4 = .ok (.aload_n 0, 1) := by decide +kernel
theorem dX8_init_5 : decode cX8_init 5 = .ok (.bipush 24, 2) := by decide +kernel
theorem dX8_init_7 : decode cX8_init 7 = .ok (.newarray .int, 2) := by decide +kernel
theorem dX8_init_9 : decode cX8_init 9 = .ok (.putfield 7, 3) := by decide +kernel
theorem dX8_init_12 : decode cX8_init 12 = .ok (.aload_n 0, 1) := by decide +kernel
theorem dX8_init_13 : decode cX8_init 13 = .ok (.bipush 6, 2) := by decide +kernel
theorem dX8_init_15 : decode cX8_init 15 = .ok (.newarray .int, 2) := by decide +kernel
theorem dX8_init_17 : decode cX8_init 17 = .ok (.putfield 13, 3) := by decide +kernel
theorem dX8_init_20 : decode cX8_init 20 = .ok (.aload_n 0, 1) := by decide +kernel
theorem dX8_init_21 : decode cX8_init 21 = .ok (.bipush 11, 2) := by decide +kernel
theorem dX8_init_23 : decode cX8_init 23 = .ok (.newarray .int, 2) := by decide +kernel
theorem dX8_init_25 : decode cX8_init 25 = .ok (.putfield 16, 3) := by decide +kernel
theorem dX8_init_28 : decode cX8_init 28 = .ok (.aload_n 0, 1) := by decide +kernel
theorem dX8_init_29 : decode cX8_init 29 = .ok (.bipush 110, 2) := by decide +kernel
theorem dX8_init_31 : decode cX8_init 31 = .ok (.newarray .int, 2) := by decide +kernel
theorem dX8_init_33 : decode cX8_init 33 = .ok (.putfield 19, 3) := by decide +kernel
theorem dX8_init_36 : decode cX8_init 36 = .ok (.aload_n 0, 1) := by decide +kernel
theorem dX8_init_37 : decode cX8_init 37 = .ok (.bipush 22, 2) := by decide +kernel
theorem dX8_init_39 : decode cX8_init 39 = .ok (.newarray .int, 2) := by decide +kernel
theorem dX8_init_41 : decode cX8_init 41 = .ok (.putfield 22, 3) := by decide +kernel
theorem dX8_init_44 : decode cX8_init 44 = .ok (.aload_n 0, 1) := by decide +kernel
theorem dX8_init_45 : decode cX8_init 45 = .ok (.iconst 2, 1) := by decide +kernel
theorem dX8_init_46 : decode cX8_init 46 = .ok (.newarray .boolean, 2) := by decide +kernel
theorem dX8_init_48 : decode cX8_init 48 = .ok (.putfield 25, 3) := by decide +kernel
theorem dX8_init_51 : decode cX8_init 51 = .ok (.aload_n 0, 1) := by decide +kernel
theorem dX8_init_52 : decode cX8_init 52 = .ok (.bipush 16, 2) := by decide +kernel
theorem dX8_init_54 : decode cX8_init 54 = .ok (.newarray .int, 2) := by decide +kernel
theorem dX8_init_56 : decode cX8_init 56 = .ok (.putfield 29, 3) := by decide +kernel
theorem dX8_init_59 : decode cX8_init 59 = .ok (.aload_n 0, 1) := by decide +kernel
theorem dX8_init_60 : decode cX8_init 60 = .ok (.iconst 4, 1) := by decide +kernel
theorem dX8_init_61 : decode cX8_init 61 = .ok (.newarray .int, 2) := by decide +kernel
theorem dX8_init_63 : decode cX8_init 63 = .ok (.putfield 32, 3) := by decide +kernel
theorem dX8_init_66 : decode cX8_init 66 = .ok (.aload_n 0, 1) := by decide +kernel
theorem dX8_init_67 : decode cX8_init 67 = .ok (.bipush 120, 2) := by decide +kernel
theorem dX8_init_69 : decode cX8_init 69 = .ok (.newarray .int, 2) := by decide +kernel
theorem dX8_init_71 : decode cX8_init 71 = .ok (.putfield 35, 3) := by decide +kernel
theorem dX8_init_74 : decode cX8_init 74 = .ok (.aload_n 0, 1) := by decide +kernel
theorem dX8_init_75 : decode cX8_init 75 = .ok (.bipush 36, 2) := by decide +kernel
theorem dX8_init_77 : decode cX8_init 77 = .ok (.newarray .int, 2) := by decide +kernel
theorem dX8_init_79 : decode cX8_init 79 = .ok (.putfield 38, 3) := by decide +kernel
theorem dX8_init_82 : decode cX8_init 82 = .ok (.aload_n 0, 1) := by decide +kernel
theorem dX8_init_83 : decode cX8_init 83 = .ok (.iconst 4, 1) := by decide +kernel
theorem dX8_init_84 : decode cX8_init 84 = .ok (.newarray .int, 2) := by decide +kernel
theorem dX8_init_86 : decode cX8_init 86 = .ok (.putfield 41, 3) := by decide +kernel
theorem dX8_init_89 : decode cX8_init 89 = .ok (.aload_n 0, 1) := by decide +kernel
theorem dX8_init_90 : decode cX8_init 90 = .ok (.bipush 11, 2) := by decide +kernel
theorem dX8_init_92 : decode cX8_init 92 = .ok (.newarray .int, 2) := by decide +kernel
theorem dX8_init_94 : decode cX8_init 94 = .ok (.putfield 44, 3) := by decide +kernel
theorem dX8_init_97 : decode cX8_init 97 = .ok (.aload_n 0, 1) := by decide +kernel
theorem dX8_init_98 : decode cX8_init 98 = .ok (.bipush 9, 2) := by decide +kernel
theorem dX8_init_100 : decode cX8_init 100 = .ok (.newarray .int, 2) := by decide +kernel
theorem dX8_init_102 : decode cX8_init 102 = .ok (.putfield 47, 3) := by decide +kernel
theorem dX8_init_105 : decode cX8_init 105 = .ok (.iconst 0, 1) := by decide +kernel
theorem dX8_init_106 : decode cX8_init 106 = .ok (.istore_n 1, 1) := by decide +kernel
theorem dX8_init_107 : decode cX8_init 107 = .ok (.iload_n 1, 1) := by decide +kernel
theorem dX8_init_108 : decode cX8_init 108 = .ok (.bipush 6, 2) := by decide +kernel
theorem dX8_init_110 : decode cX8_init 110 = .ok (.if_icmp .ge 19, 3) := by decide +kernel
theorem dX8_init_113 : decode cX8_init 113 = .ok (.aload_n 0, 1) := by decide +kernel
theorem dX8_init_114 : decode cX8_init 114 = .ok (.getfield 16, 3) := by decide +kernel
theorem dX8_init_117 : decode cX8_init 117 = .ok (.iconst 5, 1) := by decide +kernel
theorem dX8_init_118 : decode cX8_init 118 = .ok (.iload_n 1, 1) := by decide +kernel
theorem dX8_init_119 : decode cX8_init 119 = .ok (.iadd, 1) := by decide +kernel
theorem dX8_init_120 : decode cX8_init 120 = .ok (.bipush (-9), 2) := by decide +kernel
theorem dX8_init_122 : decode cX8_init 122 = .ok (.iastore, 1) := by decide +kernel
theorem dX8_init_123 : decode cX8_init 123 = .ok (.iinc 1 1, 3) := by decide +kernel
theorem dX8_init_126 : decode cX8_init 126 = .ok (.goto (-19), 3) := by decide +kernel
theorem dX8_init_129 : decode cX8_init 129 = .ok (.return_, 1) := by decide +kernel
theorem dX8_in_0 : decode cX8_in 0 = .ok (.iload_n 0, 1) := by decide +kernel
theorem dX8_in_1 : decode cX8_in 1 = .ok (.iload_n 1, 1) := by decide +kernel
theorem dX8_in_2 : decode cX8_in 2 = .ok (.if_icmp .lt 12, 3) := by decide +kernel
theorem dX8_in_5 : decode cX8_in 5 = .ok (.iload_n 0, 1) := by decide +kernel
theorem dX8_in_6 : decode cX8_in 6 = .ok (.iload_n 2, 1) := by decide +kernel
theorem dX8_in_7 : decode cX8_in 7 = .ok (.if_icmp .gt 7, 3) := by decide +kernel
theorem dX8_in_10 : decode cX8_in 10 = .ok (.iconst 1, 1) := by decide +kernel
theorem dX8_in_11 : decode cX8_in 11 = .ok (.goto 4, 3) := by decide +kernel
theorem dX8_in_14 : decode cX8_in 14 = .ok (.iconst 0, 1) := by decide +kernel
theorem dX8_in_15 : decode cX8_in 15 = .ok (.ireturn, 1) := by decide +kernel
theorem dX8_has_0 : decode cX8_has 0 = .ok (.iload_n 0, 1) := by decide +kernel
theorem dX8_has_1 : decode cX8_has 1 = .ok (.iload_n 1, 1) := by decide +kernel
theorem dX8_has_2 : decode cX8_has 2 = .ok (.ishr, 1) := by decide +kernel
theorem dX8_has_3 : decode cX8_has 3 = .ok (.iconst 1, 1) := by decide +kernel
theorem dX8_has_4 : decode cX8_has 4 = .ok (.iand, 1) := by decide +kernel
theorem dX8_has_5 : decode cX8_has 5 = .ok (.iconst 1, 1) := by decide +kernel
theorem dX8_has_6 : decode cX8_has 6 = .ok (.if_icmp .ne 7, 3) := by decide +kernel
theorem dX8_has_9 : decode cX8_has 9 = .ok (.iconst 1, 1) := by decide +kernel
theorem dX8_has_10 : decode cX8_has 10 = .ok (.goto 4, 3) := by decide +kernel
theorem dX8_has_13 : decode cX8_has 13 = .ok (.iconst 0, 1) := by decide +kernel
theorem dX8_has_14 : decode cX8_has 14 = .ok (.ireturn, 1) := by decide +kernel
theorem dX8_bits_0 : decode cX8_bits 0 = .ok (.iconst 0, 1) := by decide +kernel
theorem dX8_bits_1 : decode cX8_bits 1 = .ok (.istore_n 1, 1) := by decide +kernel
theorem dX8_bits_2 : decode cX8_bits 2 = .ok (.iconst 0, 1) := by decide +kernel
theorem dX8_bits_3 : decode cX8_bits 3 = .ok (.istore_n 2, 1) := by decide +kernel
theorem dX8_bits_4 : decode cX8_bits 4 = .ok (.iload_n 2, 1) := by decide +kernel
theorem dX8_bits_5 : decode cX8_bits 5 = .ok (.bipush 6, 2) := by decide +kernel
theorem dX8_bits_7 : decode cX8_bits 7 = .ok (.if_icmp .ge 17, 3) := by decide +kernel
theorem dX8_bits_10 : decode cX8_bits 10 = .ok (.iload_n 1, 1) := by decide +kernel
theorem dX8_bits_11 : decode cX8_bits 11 = .ok (.iload_n 0, 1) := by decide +kernel
theorem dX8_bits_12 : decode cX8_bits 12 = .ok (.iload_n 2, 1) := by decide +kernel
theorem dX8_bits_13 : decode cX8_bits 13 = .ok (.ishr, 1) := by decide +kernel
theorem dX8_bits_14 : decode cX8_bits 14 = .ok (.iconst 1, 1) := by decide +kernel
theorem dX8_bits_15 : decode cX8_bits 15 = .ok (.iand, 1) := by decide +kernel
theorem dX8_bits_16 : decode cX8_bits 16 = .ok (.iadd, 1) := by decide +kernel
theorem dX8_bits_17 : decode cX8_bits 17 = .ok (.istore_n 1, 1) := by decide +kernel
theorem dX8_bits_18 : decode cX8_bits 18 = .ok (.iinc 2 1, 3) := by decide +kernel
theorem dX8_bits_21 : decode cX8_bits 21 = .ok (.goto (-17), 3) := by decide +kernel
theorem dX8_bits_24 : decode cX8_bits 24 = .ok (.iload_n 1, 1) := by decide +kernel
theorem dX8_bits_25 : decode cX8_bits 25 = .ok (.ireturn, 1) := by decide +kernel
theorem dX8_isBrother_0 : decode cX8_isBrother 0 = .ok (.iload_n 1, 1) := by decide +kernel
theorem dX8_isBrother_1 : decode cX8_isBrother 1 = .ok (.iconst 0, 1) := by decide +kernel
theorem dX8_isBrother_2 : decode cX8_isBrother 2 = .ok (.aload_n 0, 1) := by decide +kernel
theorem dX8_isBrother_3 : decode cX8_isBrother 3 = .ok (.getfield 50, 3) := by decide +kernel
theorem dX8_isBrother_6 : decode cX8_isBrother 6 = .ok (.iconst 1, 1) := by decide +kernel
theorem dX8_isBrother_7 : decode cX8_isBrother 7 = .ok (.isub, 1) := by decide +kernel
theorem dX8_isBrother_8 : decode cX8_isBrother 8 = .ok (.invokestatic 54, 3) := by decide +kernel
theorem dX8_isBrother_11 : decode cX8_isBrother 11 = .ok (.ireturn, 1) := by decide +kernel
theorem dX8_isPart_0 : decode cX8_isPart 0 = .ok (.iload_n 0, 1) := by decide +kernel
theorem dX8_isPart_1 : decode cX8_isPart 1 = .ok (.iconst 0, 1) := by decide +kernel
theorem dX8_isPart_2 : decode cX8_isPart 2 = .ok (.iconst 3, 1) := by decide +kernel
theorem dX8_isPart_3 : decode cX8_isPart 3 = .ok (.invokestatic 54, 3) := by decide +kernel
theorem dX8_isPart_6 : decode cX8_isPart 6 = .ok (.ireturn, 1) := by decide +kernel
theorem dX8_copy_0 : decode cX8_copy 0 = .ok (.iconst 0, 1) := by decide +kernel
theorem dX8_copy_1 : decode cX8_copy 1 = .ok (.istore 4, 2) := by decide +kernel
theorem dX8_copy_3 : decode cX8_copy 3 = .ok (.iload 4, 2) := by decide +kernel
theorem dX8_copy_5 : decode cX8_copy 5 = .ok (.bipush 11, 2) := by decide +kernel
theorem dX8_copy_7 : decode cX8_copy 7 = .ok (.if_icmp .ge 21, 3) := by decide +kernel
theorem dX8_copy_10 : decode cX8_copy 10 = .ok (.aload_n 0, 1) := by decide +kernel
theorem dX8_copy_11 : decode cX8_copy 11 = .ok (.iload_n 1, 1) := by decide +kernel
theorem dX8_copy_12 : decode cX8_copy 12 = .ok (.iload 4, 2) := by decide +kernel
theorem dX8_copy_14 : decode cX8_copy 14 = .ok (.iadd, 1) := by decide +kernel
theorem dX8_copy_15 : decode cX8_copy 15 = .ok (.aload_n 2, 1) := by decide +kernel
theorem dX8_copy_16 : decode cX8_copy 16 = .ok (.iload_n 3, 1) := by decide +kernel
theorem dX8_copy_17 : decode cX8_copy 17 = .ok (.iload 4, 2) := by decide +kernel
theorem dX8_copy_19 : decode cX8_copy 19 = .ok (.iadd, 1) := by decide +kernel
theorem dX8_copy_20 : decode cX8_copy 20 = .ok (.iaload, 1) := by decide +kernel
theorem dX8_copy_21 : decode cX8_copy 21 = .ok (.iastore, 1) := by decide +kernel
theorem dX8_copy_22 : decode cX8_copy 22 = .ok (.iinc 4 1, 3) := by decide +kernel
theorem dX8_copy_25 : decode cX8_copy 25 = .ok (.goto (-22), 3) := by decide +kernel
theorem dX8_copy_28 : decode cX8_copy 28 = .ok (.return_, 1) := by decide +kernel
theorem dX8_type_0 : decode cX8_type 0 = .ok (.iload_n 1, 1) := by decide +kernel
theorem dX8_type_1 : decode cX8_type 1 = .ok (.iconst 0, 1) := by decide +kernel
theorem dX8_type_2 : decode cX8_type 2 = .ok (.sipush 255, 3) := by decide +kernel
theorem dX8_type_5 : decode cX8_type 5 = .ok (.invokestatic 54, 3) := by decide +kernel
theorem dX8_type_8 : decode cX8_type 8 = .ok (.ifCond .ne 5, 3) := by decide +kernel
theorem dX8_type_11 : decode cX8_type 11 = .ok (.iconst (-1), 1) := by decide +kernel
theorem dX8_type_12 : decode cX8_type 12 = .ok (.ireturn, 1) := by decide +kernel
theorem dX8_type_13 : decode cX8_type 13 = .ok (.aload_n 0, 1) := by decide +kernel
theorem dX8_type_14 : decode cX8_type 14 = .ok (.getfield 58, 3) := by decide +kernel
theorem dX8_type_17 : decode cX8_type 17 = .ok (.bipush 120, 2) := by decide +kernel
theorem dX8_type_19 : decode cX8_type 19 = .ok (.if_icmp .ne 6, 3) := by decide +kernel
theorem dX8_type_22 : decode cX8_type 22 = .ok (.bipush (-3), 2) := by decide +kernel
theorem dX8_type_24 : decode cX8_type 24 = .ok (.ireturn, 1) := by decide +kernel
theorem dX8_type_25 : decode cX8_type 25 = .ok (.aload_n 0, 1) := by decide +kernel
theorem dX8_type_26 : decode cX8_type 26 = .ok (.getfield 35, 3) := by decide +kernel
theorem dX8_type_29 : decode cX8_type 29 = .ok (.aload_n 0, 1) := by decide +kernel
theorem dX8_type_30 : decode cX8_type 30 = .ok (.getfield 58, 3) := by decide +kernel
theorem dX8_type_33 : decode cX8_type 33 = .ok (.iload_n 1, 1) := by decide +kernel
theorem dX8_type_34 : decode cX8_type 34 = .ok (.iastore, 1) := by decide +kernel
theorem dX8_type_35 : decode cX8_type 35 = .ok (.aload_n 0, 1) := by decide +kernel
theorem dX8_type_36 : decode cX8_type 36 = .ok (.dup, 1) := by decide +kernel
theorem dX8_type_37 : decode cX8_type 37 = .ok (.getfield 58, 3) := by decide +kernel
theorem dX8_type_40 : decode cX8_type 40 = .ok (.iconst 1, 1) := by decide +kernel
theorem dX8_type_41 : decode cX8_type 41 = .ok (.iadd, 1) := by decide +kernel
theorem dX8_type_42 : decode cX8_type 42 = .ok (.putfield 58, 3) := by decide +kernel
theorem dX8_type_45 : decode cX8_type 45 = .ok (.aload_n 0, 1) := by decide +kernel
theorem dX8_type_46 : decode cX8_type 46 = .ok (.getfield 58, 3) := by decide +kernel
theorem dX8_type_49 : decode cX8_type 49 = .ok (.ireturn, 1) := by decide +kernel
theorem dX8_clear_0 : decode cX8_clear 0 = .ok (.aload_n 0, 1) := by decide +kernel
theorem dX8_clear_1 : decode cX8_clear 1 = .ok (.getfield 58, 3) := by decide +kernel
theorem dX8_clear_4 : decode cX8_clear 4 = .ok (.istore_n 1, 1) := by decide +kernel
theorem dX8_clear_5 : decode cX8_clear 5 = .ok (.aload_n 0, 1) := by decide +kernel
theorem dX8_clear_6 : decode cX8_clear 6 = .ok (.iconst 0, 1) := by decide +kernel
theorem dX8_clear_7 : decode cX8_clear 7 = .ok (.putfield 58, 3) := by decide +kernel
theorem dX8_clear_10 : decode cX8_clear 10 = .ok (.iload_n 1, 1) := by decide +kernel
theorem dX8_clear_11 : decode cX8_clear 11 = .ok (.ireturn, 1) := by decide +kernel
theorem dX8_letterAt_0 : decode cX8_letterAt 0 = .ok (.iload_n 1, 1) := by decide +kernel
theorem dX8_letterAt_1 : decode cX8_letterAt 1 = .ok (.aload_n 0, 1) := by decide +kernel
theorem dX8_letterAt_2 : decode cX8_letterAt 2 = .ok (.getfield 58, 3) := by decide +kernel
theorem dX8_letterAt_5 : decode cX8_letterAt 5 = .ok (.if_icmp .ge 12, 3) := by decide +kernel
theorem dX8_letterAt_8 : decode cX8_letterAt 8 = .ok (.aload_n 0, 1) := by decide +kernel
theorem dX8_letterAt_9 : decode cX8_letterAt 9 = .ok (.getfield 35, 3) := by decide +kernel
theorem dX8_letterAt_12 : decode cX8_letterAt 12 = .ok (.iload_n 1, 1) := by decide +kernel
theorem dX8_letterAt_13 : decode cX8_letterAt 13 = .ok (.iaload, 1) := by decide +kernel
theorem dX8_letterAt_14 : decode cX8_letterAt 14 = .ok (.goto 4, 3) := by decide +kernel
theorem dX8_letterAt_17 : decode cX8_letterAt 17 = .ok (.iconst (-1), 1) := by decide +kernel
theorem dX8_letterAt_18 : decode cX8_letterAt 18 = .ok (.ireturn, 1) := by decide +kernel
theorem dX8_isFigure_0 : decode cX8_isFigure 0 = .ok (.iload_n 0, 1) := by decide +kernel
theorem dX8_isFigure_1 : decode cX8_isFigure 1 = .ok (.bipush 48, 2) := by decide +kernel
theorem dX8_isFigure_3 : decode cX8_isFigure 3 = .ok (.bipush 57, 2) := by decide +kernel
theorem dX8_isFigure_5 : decode cX8_isFigure 5 = .ok (.invokestatic 54, 3) := by decide +kernel
theorem dX8_isFigure_8 : decode cX8_isFigure 8 = .ok (.ireturn, 1) := by decide +kernel
theorem dX8_next_0 : decode cX8_next 0 = .ok (.aload_n 0, 1) := by decide +kernel
theorem dX8_next_1 : decode cX8_next 1 = .ok (.aload_n 0, 1) := by decide +kernel
theorem dX8_next_2 : decode cX8_next 2 = .ok (.getfield 61, 3) := by decide +kernel
theorem dX8_next_5 : decode cX8_next 5 = .ok (.invokevirtual 64, 3) := by decide +kernel
theorem dX8_next_8 : decode cX8_next 8 = .ok (.bipush 32, 2) := by decide +kernel
theorem dX8_next_10 : decode cX8_next 10 = .ok (.if_icmp .ne 16, 3) := by decide +kernel
theorem dX8_next_13 : decode cX8_next 13 = .ok (.aload_n 0, 1) := by decide +kernel
theorem dX8_next_14 : decode cX8_next 14 = .ok (.dup, 1) := by decide +kernel
theorem dX8_next_15 : decode cX8_next 15 = .ok (.getfield 61, 3) := by decide +kernel
theorem dX8_next_18 : decode cX8_next 18 = .ok (.iconst 1, 1) := by decide +kernel
theorem dX8_next_19 : decode cX8_next 19 = .ok (.iadd, 1) := by decide +kernel
theorem dX8_next_20 : decode cX8_next 20 = .ok (.putfield 61, 3) := by decide +kernel
theorem dX8_next_23 : decode cX8_next 23 = .ok (.goto (-23), 3) := by decide +kernel
theorem dX8_next_26 : decode cX8_next 26 = .ok (.aload_n 0, 1) := by decide +kernel
theorem dX8_next_27 : decode cX8_next 27 = .ok (.aload_n 0, 1) := by decide +kernel
theorem dX8_next_28 : decode cX8_next 28 = .ok (.getfield 61, 3) := by decide +kernel
theorem dX8_next_31 : decode cX8_next 31 = .ok (.putfield 68, 3) := by decide +kernel
theorem dX8_next_34 : decode cX8_next 34 = .ok (.aload_n 0, 1) := by decide +kernel
theorem dX8_next_35 : decode cX8_next 35 = .ok (.aload_n 0, 1) := by decide +kernel
theorem dX8_next_36 : decode cX8_next 36 = .ok (.getfield 61, 3) := by decide +kernel
theorem dX8_next_39 : decode cX8_next 39 = .ok (.invokevirtual 64, 3) := by decide +kernel
theorem dX8_next_42 : decode cX8_next 42 = .ok (.istore_n 1, 1) := by decide +kernel
theorem dX8_next_43 : decode cX8_next 43 = .ok (.aload_n 0, 1) := by decide +kernel
theorem dX8_next_44 : decode cX8_next 44 = .ok (.iconst 0, 1) := by decide +kernel
theorem dX8_next_45 : decode cX8_next 45 = .ok (.putfield 71, 3) := by decide +kernel
theorem dX8_next_48 : decode cX8_next 48 = .ok (.iload_n 1, 1) := by decide +kernel
theorem dX8_next_49 : decode cX8_next 49 = .ok (.ifCond .ge 11, 3) := by decide +kernel
theorem dX8_next_52 : decode cX8_next 52 = .ok (.aload_n 0, 1) := by decide +kernel
theorem dX8_next_53 : decode cX8_next 53 = .ok (.iconst 0, 1) := by decide +kernel
theorem dX8_next_54 : decode cX8_next 54 = .ok (.putfield 74, 3) := by decide +kernel
theorem dX8_next_57 : decode cX8_next 57 = .ok (.goto 162, 3) := by decide +kernel
theorem dX8_next_60 : decode cX8_next 60 = .ok (.iload_n 1, 1) := by decide +kernel
theorem dX8_next_61 : decode cX8_next 61 = .ok (.invokestatic 77, 3) := by decide +kernel
theorem dX8_next_64 : decode cX8_next 64 = .ok (.ifCond .eq 109, 3) := by decide +kernel
theorem dX8_next_67 : decode cX8_next 67 = .ok (.aload_n 0, 1) := by decide +kernel
theorem dX8_next_68 : decode cX8_next 68 = .ok (.aload_n 0, 1) := by decide +kernel
theorem dX8_next_69 : decode cX8_next 69 = .ok (.getfield 61, 3) := by decide +kernel
theorem dX8_next_72 : decode cX8_next 72 = .ok (.invokevirtual 64, 3) := by decide +kernel
theorem dX8_next_75 : decode cX8_next 75 = .ok (.invokestatic 77, 3) := by decide +kernel
theorem dX8_next_78 : decode cX8_next 78 = .ok (.ifCond .eq 55, 3) := by decide +kernel
theorem dX8_next_81 : decode cX8_next 81 = .ok (.aload_n 0, 1) := by decide +kernel
theorem dX8_next_82 : decode cX8_next 82 = .ok (.aload_n 0, 1) := by decide +kernel
theorem dX8_next_83 : decode cX8_next 83 = .ok (.getfield 71, 3) := by decide +kernel
theorem dX8_next_86 : decode cX8_next 86 = .ok (.bipush 99, 2) := by decide +kernel
theorem dX8_next_88 : decode cX8_next 88 = .ok (.if_icmp .le 10, 3) := by decide +kernel
theorem dX8_next_91 : decode cX8_next 91 = .ok (.aload_n 0, 1) := by decide +kernel
theorem dX8_next_92 : decode cX8_next 92 = .ok (.getfield 71, 3) := by decide +kernel
theorem dX8_next_95 : decode cX8_next 95 = .ok (.goto 22, 3) := by decide +kernel
theorem dX8_next_98 : decode cX8_next 98 = .ok (.bipush 10, 2) := by decide +kernel
theorem dX8_next_100 : decode cX8_next 100 = .ok (.aload_n 0, 1) := by decide +kernel
theorem dX8_next_101 : decode cX8_next 101 = .ok (.getfield 71, 3) := by decide +kernel
theorem dX8_next_104 : decode cX8_next 104 = .ok (.imul, 1) := by decide +kernel
theorem dX8_next_105 : decode cX8_next 105 = .ok (.aload_n 0, 1) := by decide +kernel
theorem dX8_next_106 : decode cX8_next 106 = .ok (.aload_n 0, 1) := by decide +kernel
theorem dX8_next_107 : decode cX8_next 107 = .ok (.getfield 61, 3) := by decide +kernel
theorem dX8_next_110 : decode cX8_next 110 = .ok (.invokevirtual 64, 3) := by decide +kernel
theorem dX8_next_113 : decode cX8_next 113 = .ok (.iadd, 1) := by decide +kernel
theorem dX8_next_114 : decode cX8_next 114 = .ok (.bipush 48, 2) := by decide +kernel
theorem dX8_next_116 : decode cX8_next 116 = .ok (.isub, 1) := by decide +kernel
theorem dX8_next_117 : decode cX8_next 117 = .ok (.putfield 71, 3) := by decide +kernel
theorem dX8_next_120 : decode cX8_next 120 = .ok (.aload_n 0, 1) := by decide +kernel
theorem dX8_next_121 : decode cX8_next 121 = .ok (.dup, 1) := by decide +kernel
theorem dX8_next_122 : decode cX8_next 122 = .ok (.getfield 61, 3) := by decide +kernel
theorem dX8_next_125 : decode cX8_next 125 = .ok (.iconst 1, 1) := by decide +kernel
theorem dX8_next_126 : decode cX8_next 126 = .ok (.iadd, 1) := by decide +kernel
theorem dX8_next_127 : decode cX8_next 127 = .ok (.putfield 61, 3) := by decide +kernel
theorem dX8_next_130 : decode cX8_next 130 = .ok (.goto (-63), 3) := by decide +kernel
theorem dX8_next_133 : decode cX8_next 133 = .ok (.aload_n 0, 1) := by decide +kernel
theorem dX8_next_134 : decode cX8_next 134 = .ok (.aload_n 0, 1) := by decide +kernel
theorem dX8_next_135 : decode cX8_next 135 = .ok (.getfield 71, 3) := by decide +kernel
theorem dX8_next_138 : decode cX8_next 138 = .ok (.bipush 99, 2) := by decide +kernel
theorem dX8_next_140 : decode cX8_next 140 = .ok (.if_icmp .gt 22, 3) := by decide +kernel
theorem dX8_next_143 : decode cX8_next 143 = .ok (.iload_n 1, 1) := by decide +kernel
theorem dX8_next_144 : decode cX8_next 144 = .ok (.bipush 48, 2) := by decide +kernel
theorem dX8_next_146 : decode cX8_next 146 = .ok (.if_icmp .ne 20, 3) := by decide +kernel
theorem dX8_next_149 : decode cX8_next 149 = .ok (.aload_n 0, 1) := by decide +kernel
theorem dX8_next_150 : decode cX8_next 150 = .ok (.getfield 61, 3) := by decide +kernel
theorem dX8_next_153 : decode cX8_next 153 = .ok (.aload_n 0, 1) := by decide +kernel
theorem dX8_next_154 : decode cX8_next 154 = .ok (.getfield 68, 3) := by decide +kernel
theorem dX8_next_157 : decode cX8_next 157 = .ok (.isub, 1) := by decide +kernel
theorem dX8_next_158 : decode cX8_next 158 = .ok (.iconst 1, 1) := by decide +kernel
theorem dX8_next_159 : decode cX8_next 159 = .ok (.if_icmp .le 7, 3) := by decide +kernel
theorem dX8_next_162 : decode cX8_next 162 = .ok (.iconst 4, 1) := by decide +kernel
theorem dX8_next_163 : decode cX8_next 163 = .ok (.goto 4, 3) := by decide +kernel
theorem dX8_next_166 : decode cX8_next 166 = .ok (.iconst 2, 1) := by decide +kernel
theorem dX8_next_167 : decode cX8_next 167 = .ok (.putfield 74, 3) := by decide +kernel
theorem dX8_next_170 : decode cX8_next 170 = .ok (.goto 49, 3) := by decide +kernel
theorem dX8_next_173 : decode cX8_next 173 = .ok (.aload_n 0, 1) := by decide +kernel
theorem dX8_next_174 : decode cX8_next 174 = .ok (.iload_n 1, 1) := by decide +kernel
theorem dX8_next_175 : decode cX8_next 175 = .ok (.bipush 98, 2) := by decide +kernel
theorem dX8_next_177 : decode cX8_next 177 = .ok (.if_icmp .eq 9, 3) := by decide +kernel
theorem dX8_next_180 : decode cX8_next 180 = .ok (.iload_n 1, 1) := by decide +kernel
theorem dX8_next_181 : decode cX8_next 181 = .ok (.bipush 112, 2) := by decide +kernel
theorem dX8_next_183 : decode cX8_next 183 = .ok (.if_icmp .ne 7, 3) := by decide +kernel
theorem dX8_next_186 : decode cX8_next 186 = .ok (.iconst 1, 1) := by decide +kernel
theorem dX8_next_187 : decode cX8_next 187 = .ok (.goto 14, 3) := by decide +kernel
theorem dX8_next_190 : decode cX8_next 190 = .ok (.iload_n 1, 1) := by decide +kernel
theorem dX8_next_191 : decode cX8_next 191 = .ok (.bipush 59, 2) := by decide +kernel
theorem dX8_next_193 : decode cX8_next 193 = .ok (.if_icmp .ne 7, 3) := by decide +kernel
theorem dX8_next_196 : decode cX8_next 196 = .ok (.iconst 3, 1) := by decide +kernel
theorem dX8_next_197 : decode cX8_next 197 = .ok (.goto 4, 3) := by decide +kernel
theorem dX8_next_200 : decode cX8_next 200 = .ok (.iconst 4, 1) := by decide +kernel
theorem dX8_next_201 : decode cX8_next 201 = .ok (.putfield 74, 3) := by decide +kernel
theorem dX8_next_204 : decode cX8_next 204 = .ok (.aload_n 0, 1) := by decide +kernel
theorem dX8_next_205 : decode cX8_next 205 = .ok (.iload_n 1, 1) := by decide +kernel
theorem dX8_next_206 : decode cX8_next 206 = .ok (.putfield 71, 3) := by decide +kernel
theorem dX8_next_209 : decode cX8_next 209 = .ok (.aload_n 0, 1) := by decide +kernel
theorem dX8_next_210 : decode cX8_next 210 = .ok (.dup, 1) := by decide +kernel
theorem dX8_next_211 : decode cX8_next 211 = .ok (.getfield 61, 3) := by decide +kernel
theorem dX8_next_214 : decode cX8_next 214 = .ok (.iconst 1, 1) := by decide +kernel
theorem dX8_next_215 : decode cX8_next 215 = .ok (.iadd, 1) := by decide +kernel
theorem dX8_next_216 : decode cX8_next 216 = .ok (.putfield 61, 3) := by decide +kernel
theorem dX8_next_219 : decode cX8_next 219 = .ok (.return_, 1) := by decide +kernel
theorem dX8_takesNumber_0 : decode cX8_takesNumber 0 = .ok (.aload_n 0, 1) := by decide +kernel
theorem dX8_takesNumber_1 : decode cX8_takesNumber 1 = .ok (.getfield 81, 3) := by decide +kernel
theorem dX8_takesNumber_4 : decode cX8_takesNumber 4 = .ok (.ifCond .ne 27, 3) := by decide +kernel
theorem dX8_takesNumber_7 : decode cX8_takesNumber 7 = .ok (.aload_n 0, 1) := by decide +kernel
theorem dX8_takesNumber_8 : decode cX8_takesNumber 8 = .ok (.getfield 74, 3) := by decide +kernel
theorem dX8_takesNumber_11 : decode cX8_takesNumber 11 = .ok (.iconst 2, 1) := by decide +kernel
theorem dX8_takesNumber_12 : decode cX8_takesNumber 12 = .ok (.if_icmp .ne 19, 3) := by decide +kernel
theorem dX8_takesNumber_15 : decode cX8_takesNumber 15 = .ok (.aload_n 0, 1) := by decide +kernel
theorem dX8_takesNumber_16 : decode cX8_takesNumber 16 = .ok (.getfield 71, 3) := by decide +kernel
theorem dX8_takesNumber_19 : decode cX8_takesNumber 19 = .ok (.iload_n 1, 1) := by decide +kernel
theorem dX8_takesNumber_20 : decode cX8_takesNumber 20 = .ok (.iload_n 2, 1) := by decide +kernel
theorem dX8_takesNumber_21 : decode cX8_takesNumber 21 = .ok (.invokestatic 54, 3) := by decide +kernel
theorem dX8_takesNumber_24 : decode cX8_takesNumber 24 = .ok (.ifCond .eq 7, 3) := by decide +kernel
theorem dX8_takesNumber_27 : decode cX8_takesNumber 27 = .ok (.iconst 1, 1) := by decide +kernel
theorem dX8_takesNumber_28 : decode cX8_takesNumber 28 = .ok (.goto 4, 3) := by decide +kernel
theorem dX8_takesNumber_31 : decode cX8_takesNumber 31 = .ok (.iconst 0, 1) := by decide +kernel
theorem dX8_takesNumber_32 : decode cX8_takesNumber 32 = .ok (.istore_n 3, 1) := by decide +kernel
theorem dX8_takesNumber_33 : decode cX8_takesNumber 33 = .ok (.aload_n 0, 1) := by decide +kernel
theorem dX8_takesNumber_34 : decode cX8_takesNumber 34 = .ok (.iload_n 3, 1) := by decide +kernel
theorem dX8_takesNumber_35 : decode cX8_takesNumber 35 = .ok (.ifCond .ne 7, 3) := by decide +kernel
theorem dX8_takesNumber_38 : decode cX8_takesNumber 38 = .ok (.iconst 1, 1) := by decide +kernel
theorem dX8_takesNumber_39 : decode cX8_takesNumber 39 = .ok (.goto 4, 3) := by decide +kernel
theorem dX8_takesNumber_42 : decode cX8_takesNumber 42 = .ok (.iconst 0, 1) := by decide +kernel
theorem dX8_takesNumber_43 : decode cX8_takesNumber 43 = .ok (.putfield 81, 3) := by decide +kernel
theorem dX8_takesNumber_46 : decode cX8_takesNumber 46 = .ok (.aload_n 0, 1) := by decide +kernel
theorem dX8_takesNumber_47 : decode cX8_takesNumber 47 = .ok (.getfield 71, 3) := by decide +kernel
theorem dX8_takesNumber_50 : decode cX8_takesNumber 50 = .ok (.istore 4, 2) := by decide +kernel
theorem dX8_takesNumber_52 : decode cX8_takesNumber 52 = .ok (.iload_n 3, 1) := by decide +kernel
theorem dX8_takesNumber_53 : decode cX8_takesNumber 53 = .ok (.ifCond .eq 7, 3) := by decide +kernel
theorem dX8_takesNumber_56 : decode cX8_takesNumber 56 = .ok (.aload_n 0, 1) := by decide +kernel
theorem dX8_takesNumber_57 : decode cX8_takesNumber 57 = .ok (.invokevirtual 85, 3) := by decide +kernel
theorem dX8_takesNumber_60 : decode cX8_takesNumber 60 = .ok (.iload_n 3, 1) := by decide +kernel
theorem dX8_takesNumber_61 : decode cX8_takesNumber 61 = .ok (.ifCond .eq 8, 3) := by decide +kernel
theorem dX8_takesNumber_64 : decode cX8_takesNumber 64 = .ok (.iload 4, 2) := by decide +kernel
theorem dX8_takesNumber_66 : decode cX8_takesNumber 66 = .ok (.goto 4, 3) := by decide +kernel
theorem dX8_takesNumber_69 : decode cX8_takesNumber 69 = .ok (.iconst 0, 1) := by decide +kernel
theorem dX8_takesNumber_70 : decode cX8_takesNumber 70 = .ok (.ireturn, 1) := by decide +kernel
theorem dX8_readBrother_0 : decode cX8_readBrother 0 = .ok (.bipush 6, 2) := by decide +kernel
theorem dX8_readBrother_2 : decode cX8_readBrother 2 = .ok (.aload_n 0, 1) := by decide +kernel
theorem dX8_readBrother_3 : decode cX8_readBrother 3 = .ok (.getfield 88, 3) := by decide +kernel
theorem dX8_readBrother_6 : decode cX8_readBrother 6 = .ok (.imul, 1) := by decide +kernel
theorem dX8_readBrother_7 : decode cX8_readBrother 7 = .ok (.istore_n 1, 1) := by decide +kernel
theorem dX8_readBrother_8 : decode cX8_readBrother 8 = .ok (.iconst 0, 1) := by decide +kernel
theorem dX8_readBrother_9 : decode cX8_readBrother 9 = .ok (.istore_n 2, 1) := by decide +kernel
theorem dX8_readBrother_10 : decode cX8_readBrother 10 = .ok (.iload_n 2, 1) := by decide +kernel
theorem dX8_readBrother_11 : decode cX8_readBrother 11 = .ok (.iconst 4, 1) := by decide +kernel
theorem dX8_readBrother_12 : decode cX8_readBrother 12 = .ok (.if_icmp .ge 23, 3) := by decide +kernel
theorem dX8_readBrother_15 : decode cX8_readBrother 15 = .ok (.aload_n 0, 1) := by decide +kernel
theorem dX8_readBrother_16 : decode cX8_readBrother 16 = .ok (.getfield 38, 3) := by decide +kernel
theorem dX8_readBrother_19 : decode cX8_readBrother 19 = .ok (.iload_n 1, 1) := by decide +kernel
theorem dX8_readBrother_20 : decode cX8_readBrother 20 = .ok (.iload_n 2, 1) := by decide +kernel
theorem dX8_readBrother_21 : decode cX8_readBrother 21 = .ok (.iadd, 1) := by decide +kernel
theorem dX8_readBrother_22 : decode cX8_readBrother 22 = .ok (.aload_n 0, 1) := by decide +kernel
theorem dX8_readBrother_23 : decode cX8_readBrother 23 = .ok (.iconst 0, 1) := by decide +kernel
theorem dX8_readBrother_24 : decode cX8_readBrother 24 = .ok (.iconst 5, 1) := by decide +kernel
theorem dX8_readBrother_25 : decode cX8_readBrother 25 = .ok (.invokevirtual 91, 3) := by decide +kernel
theorem dX8_readBrother_28 : decode cX8_readBrother 28 = .ok (.iastore, 1) := by decide +kernel
theorem dX8_readBrother_29 : decode cX8_readBrother 29 = .ok (.iinc 2 1, 3) := by decide +kernel
theorem dX8_readBrother_32 : decode cX8_readBrother 32 = .ok (.goto (-22), 3) := by decide +kernel
theorem dX8_readBrother_35 : decode cX8_readBrother 35 = .ok (.aload_n 0, 1) := by decide +kernel
theorem dX8_readBrother_36 : decode cX8_readBrother 36 = .ok (.getfield 38, 3) := by decide +kernel
theorem dX8_readBrother_39 : decode cX8_readBrother 39 = .ok (.iload_n 1, 1) := by decide +kernel
theorem dX8_readBrother_40 : decode cX8_readBrother 40 = .ok (.iconst 4, 1) := by decide +kernel
theorem dX8_readBrother_41 : decode cX8_readBrother 41 = .ok (.iadd, 1) := by decide +kernel
theorem dX8_readBrother_42 : decode cX8_readBrother 42 = .ok (.aload_n 0, 1) := by decide +kernel
theorem dX8_readBrother_43 : decode cX8_readBrother 43 = .ok (.iconst 0, 1) := by decide +kernel
theorem dX8_readBrother_44 : decode cX8_readBrother 44 = .ok (.iconst 2, 1) := by decide +kernel
theorem dX8_readBrother_45 : decode cX8_readBrother 45 = .ok (.invokevirtual 91, 3) := by decide +kernel
theorem dX8_readBrother_48 : decode cX8_readBrother 48 = .ok (.iastore, 1) := by decide +kernel
theorem dX8_readBrother_49 : decode cX8_readBrother 49 = .ok (.aload_n 0, 1) := by decide +kernel
theorem dX8_readBrother_50 : decode cX8_readBrother 50 = .ok (.getfield 38, 3) := by decide +kernel
theorem dX8_readBrother_53 : decode cX8_readBrother 53 = .ok (.iload_n 1, 1) := by decide +kernel
theorem dX8_readBrother_54 : decode cX8_readBrother 54 = .ok (.iconst 5, 1) := by decide +kernel
theorem dX8_readBrother_55 : decode cX8_readBrother 55 = .ok (.iadd, 1) := by decide +kernel
theorem dX8_readBrother_56 : decode cX8_readBrother 56 = .ok (.aload_n 0, 1) := by decide +kernel
theorem dX8_readBrother_57 : decode cX8_readBrother 57 = .ok (.iconst 0, 1) := by decide +kernel
theorem dX8_readBrother_58 : decode cX8_readBrother 58 = .ok (.iconst 1, 1) := by decide +kernel
theorem dX8_readBrother_59 : decode cX8_readBrother 59 = .ok (.invokevirtual 91, 3) := by decide +kernel
theorem dX8_readBrother_62 : decode cX8_readBrother 62 = .ok (.iastore, 1) := by decide +kernel
theorem dX8_readBrother_63 : decode cX8_readBrother 63 = .ok (.aload_n 0, 1) := by decide +kernel
theorem dX8_readBrother_64 : decode cX8_readBrother 64 = .ok (.dup, 1) := by decide +kernel
theorem dX8_readBrother_65 : decode cX8_readBrother 65 = .ok (.getfield 88, 3) := by decide +kernel
theorem dX8_readBrother_68 : decode cX8_readBrother 68 = .ok (.iconst 1, 1) := by decide +kernel
theorem dX8_readBrother_69 : decode cX8_readBrother 69 = .ok (.iadd, 1) := by decide +kernel
theorem dX8_readBrother_70 : decode cX8_readBrother 70 = .ok (.putfield 88, 3) := by decide +kernel
theorem dX8_readBrother_73 : decode cX8_readBrother 73 = .ok (.return_, 1) := by decide +kernel
theorem dX8_readPot_0 : decode cX8_readPot 0 = .ok (.aload_n 0, 1) := by decide +kernel
theorem dX8_readPot_1 : decode cX8_readPot 1 = .ok (.iconst 1, 1) := by decide +kernel
theorem dX8_readPot_2 : decode cX8_readPot 2 = .ok (.putfield 95, 3) := by decide +kernel
theorem dX8_readPot_5 : decode cX8_readPot 5 = .ok (.iconst 0, 1) := by decide +kernel
theorem dX8_readPot_6 : decode cX8_readPot 6 = .ok (.istore_n 1, 1) := by decide +kernel
theorem dX8_readPot_7 : decode cX8_readPot 7 = .ok (.iload_n 1, 1) := by decide +kernel
theorem dX8_readPot_8 : decode cX8_readPot 8 = .ok (.iconst 4, 1) := by decide +kernel
theorem dX8_readPot_9 : decode cX8_readPot 9 = .ok (.if_icmp .ge 21, 3) := by decide +kernel
theorem dX8_readPot_12 : decode cX8_readPot 12 = .ok (.aload_n 0, 1) := by decide +kernel
theorem dX8_readPot_13 : decode cX8_readPot 13 = .ok (.getfield 41, 3) := by decide +kernel
theorem dX8_readPot_16 : decode cX8_readPot 16 = .ok (.iload_n 1, 1) := by decide +kernel
theorem dX8_readPot_17 : decode cX8_readPot 17 = .ok (.aload_n 0, 1) := by decide +kernel
theorem dX8_readPot_18 : decode cX8_readPot 18 = .ok (.iconst 0, 1) := by decide +kernel
theorem dX8_readPot_19 : decode cX8_readPot 19 = .ok (.iconst 5, 1) := by decide +kernel
theorem dX8_readPot_20 : decode cX8_readPot 20 = .ok (.invokevirtual 91, 3) := by decide +kernel
theorem dX8_readPot_23 : decode cX8_readPot 23 = .ok (.iastore, 1) := by decide +kernel
theorem dX8_readPot_24 : decode cX8_readPot 24 = .ok (.iinc 1 1, 3) := by decide +kernel
theorem dX8_readPot_27 : decode cX8_readPot 27 = .ok (.goto (-20), 3) := by decide +kernel
theorem dX8_readPot_30 : decode cX8_readPot 30 = .ok (.return_, 1) := by decide +kernel
theorem dX8_readItem_0 : decode cX8_readItem 0 = .ok (.aload_n 0, 1) := by decide +kernel
theorem dX8_readItem_1 : decode cX8_readItem 1 = .ok (.getfield 71, 3) := by decide +kernel
theorem dX8_readItem_4 : decode cX8_readItem 4 = .ok (.istore_n 1, 1) := by decide +kernel
theorem dX8_readItem_5 : decode cX8_readItem 5 = .ok (.iload_n 1, 1) := by decide +kernel
theorem dX8_readItem_6 : decode cX8_readItem 6 = .ok (.bipush 98, 2) := by decide +kernel
theorem dX8_readItem_8 : decode cX8_readItem 8 = .ok (.if_icmp .ne 20, 3) := by decide +kernel
theorem dX8_readItem_11 : decode cX8_readItem 11 = .ok (.aload_n 0, 1) := by decide +kernel
theorem dX8_readItem_12 : decode cX8_readItem 12 = .ok (.getfield 88, 3) := by decide +kernel
theorem dX8_readItem_15 : decode cX8_readItem 15 = .ok (.bipush 6, 2) := by decide +kernel
theorem dX8_readItem_17 : decode cX8_readItem 17 = .ok (.if_icmp .ge 7, 3) := by decide +kernel
theorem dX8_readItem_20 : decode cX8_readItem 20 = .ok (.iconst 1, 1) := by decide +kernel
theorem dX8_readItem_21 : decode cX8_readItem 21 = .ok (.goto 19, 3) := by decide +kernel
theorem dX8_readItem_24 : decode cX8_readItem 24 = .ok (.iconst 0, 1) := by decide +kernel
theorem dX8_readItem_25 : decode cX8_readItem 25 = .ok (.goto 15, 3) := by decide +kernel
theorem dX8_readItem_28 : decode cX8_readItem 28 = .ok (.aload_n 0, 1) := by decide +kernel
theorem dX8_readItem_29 : decode cX8_readItem 29 = .ok (.getfield 95, 3) := by decide +kernel
theorem dX8_readItem_32 : decode cX8_readItem 32 = .ok (.ifCond .ne 7, 3) := by decide +kernel
theorem dX8_readItem_35 : decode cX8_readItem 35 = .ok (.iconst 1, 1) := by decide +kernel
theorem dX8_readItem_36 : decode cX8_readItem 36 = .ok (.goto 4, 3) := by decide +kernel
theorem dX8_readItem_39 : decode cX8_readItem 39 = .ok (.iconst 0, 1) := by decide +kernel
theorem dX8_readItem_40 : decode cX8_readItem 40 = .ok (.istore_n 2, 1) := by decide +kernel
theorem dX8_readItem_41 : decode cX8_readItem 41 = .ok (.aload_n 0, 1) := by decide +kernel
theorem dX8_readItem_42 : decode cX8_readItem 42 = .ok (.getfield 74, 3) := by decide +kernel
theorem dX8_readItem_45 : decode cX8_readItem 45 = .ok (.iconst 1, 1) := by decide +kernel
theorem dX8_readItem_46 : decode cX8_readItem 46 = .ok (.if_icmp .ne 7, 3) := by decide +kernel
theorem dX8_readItem_49 : decode cX8_readItem 49 = .ok (.iload_n 2, 1) := by decide +kernel
theorem dX8_readItem_50 : decode cX8_readItem 50 = .ok (.ifCond .ne 9, 3) := by decide +kernel
theorem dX8_readItem_53 : decode cX8_readItem 53 = .ok (.aload_n 0, 1) := by decide +kernel
theorem dX8_readItem_54 : decode cX8_readItem 54 = .ok (.iconst 1, 1) := by decide +kernel
theorem dX8_readItem_55 : decode cX8_readItem 55 = .ok (.putfield 81, 3) := by decide +kernel
theorem dX8_readItem_58 : decode cX8_readItem 58 = .ok (.return_, 1) := by decide +kernel
theorem dX8_readItem_59 : decode cX8_readItem 59 = .ok (.aload_n 0, 1) := by decide +kernel
theorem dX8_readItem_60 : decode cX8_readItem 60 = .ok (.invokevirtual 85, 3) := by decide +kernel
theorem dX8_readItem_63 : decode cX8_readItem 63 = .ok (.iload_n 1, 1) := by decide +kernel
theorem dX8_readItem_64 : decode cX8_readItem 64 = .ok (.bipush 98, 2) := by decide +kernel
theorem dX8_readItem_66 : decode cX8_readItem 66 = .ok (.if_icmp .ne 10, 3) := by decide +kernel
theorem dX8_readItem_69 : decode cX8_readItem 69 = .ok (.aload_n 0, 1) := by decide +kernel
theorem dX8_readItem_70 : decode cX8_readItem 70 = .ok (.invokevirtual 98, 3) := by decide +kernel
theorem dX8_readItem_73 : decode cX8_readItem 73 = .ok (.goto 7, 3) := by decide +kernel
theorem dX8_readItem_76 : decode cX8_readItem 76 = .ok (.aload_n 0, 1) := by decide +kernel
theorem dX8_readItem_77 : decode cX8_readItem 77 = .ok (.invokevirtual 101, 3) := by decide +kernel
theorem dX8_readItem_80 : decode cX8_readItem 80 = .ok (.aload_n 0, 1) := by decide +kernel
theorem dX8_readItem_81 : decode cX8_readItem 81 = .ok (.aload_n 0, 1) := by decide +kernel
theorem dX8_readItem_82 : decode cX8_readItem 82 = .ok (.getfield 81, 3) := by decide +kernel
theorem dX8_readItem_85 : decode cX8_readItem 85 = .ok (.ifCond .ne 11, 3) := by decide +kernel
theorem dX8_readItem_88 : decode cX8_readItem 88 = .ok (.aload_n 0, 1) := by decide +kernel
theorem dX8_readItem_89 : decode cX8_readItem 89 = .ok (.getfield 74, 3) := by decide +kernel
theorem dX8_readItem_92 : decode cX8_readItem 92 = .ok (.iconst 3, 1) := by decide +kernel
theorem dX8_readItem_93 : decode cX8_readItem 93 = .ok (.if_icmp .eq 7, 3) := by decide +kernel
theorem dX8_readItem_96 : decode cX8_readItem 96 = .ok (.iconst 1, 1) := by decide +kernel
theorem dX8_readItem_97 : decode cX8_readItem 97 = .ok (.goto 4, 3) := by decide +kernel
theorem dX8_readItem_100 : decode cX8_readItem 100 = .ok (.iconst 0, 1) := by decide +kernel
theorem dX8_readItem_101 : decode cX8_readItem 101 = .ok (.putfield 81, 3) := by decide +kernel
theorem dX8_readItem_104 : decode cX8_readItem 104 = .ok (.aload_n 0, 1) := by decide +kernel
theorem dX8_readItem_105 : decode cX8_readItem 105 = .ok (.getfield 81, 3) := by decide +kernel
theorem dX8_readItem_108 : decode cX8_readItem 108 = .ok (.ifCond .ne 7, 3) := by decide +kernel
theorem dX8_readItem_111 : decode cX8_readItem 111 = .ok (.aload_n 0, 1) := by decide +kernel
theorem dX8_readItem_112 : decode cX8_readItem 112 = .ok (.invokevirtual 85, 3) := by decide +kernel
theorem dX8_readItem_115 : decode cX8_readItem 115 = .ok (.return_, 1) := by decide +kernel
theorem dX8_kitchen_0 : decode cX8_kitchen 0 = .ok (.aload_n 0, 1) := by decide +kernel
theorem dX8_kitchen_1 : decode cX8_kitchen 1 = .ok (.iconst 0, 1) := by decide +kernel
theorem dX8_kitchen_2 : decode cX8_kitchen 2 = .ok (.putfield 61, 3) := by decide +kernel
theorem dX8_kitchen_5 : decode cX8_kitchen 5 = .ok (.aload_n 0, 1) := by decide +kernel
theorem dX8_kitchen_6 : decode cX8_kitchen 6 = .ok (.iconst 0, 1) := by decide +kernel
theorem dX8_kitchen_7 : decode cX8_kitchen 7 = .ok (.putfield 81, 3) := by decide +kernel
theorem dX8_kitchen_10 : decode cX8_kitchen 10 = .ok (.aload_n 0, 1) := by decide +kernel
theorem dX8_kitchen_11 : decode cX8_kitchen 11 = .ok (.iconst 0, 1) := by decide +kernel
theorem dX8_kitchen_12 : decode cX8_kitchen 12 = .ok (.putfield 104, 3) := by decide +kernel
theorem dX8_kitchen_15 : decode cX8_kitchen 15 = .ok (.aload_n 0, 1) := by decide +kernel
theorem dX8_kitchen_16 : decode cX8_kitchen 16 = .ok (.iconst 0, 1) := by decide +kernel
theorem dX8_kitchen_17 : decode cX8_kitchen 17 = .ok (.putfield 88, 3) := by decide +kernel
theorem dX8_kitchen_20 : decode cX8_kitchen 20 = .ok (.aload_n 0, 1) := by decide +kernel
theorem dX8_kitchen_21 : decode cX8_kitchen 21 = .ok (.iconst 0, 1) := by decide +kernel
theorem dX8_kitchen_22 : decode cX8_kitchen 22 = .ok (.putfield 95, 3) := by decide +kernel
theorem dX8_kitchen_25 : decode cX8_kitchen 25 = .ok (.iconst 0, 1) := by decide +kernel
theorem dX8_kitchen_26 : decode cX8_kitchen 26 = .ok (.istore_n 1, 1) := by decide +kernel
theorem dX8_kitchen_27 : decode cX8_kitchen 27 = .ok (.iload_n 1, 1) := by decide +kernel
theorem dX8_kitchen_28 : decode cX8_kitchen 28 = .ok (.iconst 4, 1) := by decide +kernel
theorem dX8_kitchen_29 : decode cX8_kitchen 29 = .ok (.if_icmp .ge 16, 3) := by decide +kernel
theorem dX8_kitchen_32 : decode cX8_kitchen 32 = .ok (.aload_n 0, 1) := by decide +kernel
theorem dX8_kitchen_33 : decode cX8_kitchen 33 = .ok (.getfield 41, 3) := by decide +kernel
theorem dX8_kitchen_36 : decode cX8_kitchen 36 = .ok (.iload_n 1, 1) := by decide +kernel
theorem dX8_kitchen_37 : decode cX8_kitchen 37 = .ok (.iconst 0, 1) := by decide +kernel
theorem dX8_kitchen_38 : decode cX8_kitchen 38 = .ok (.iastore, 1) := by decide +kernel
theorem dX8_kitchen_39 : decode cX8_kitchen 39 = .ok (.iinc 1 1, 3) := by decide +kernel
theorem dX8_kitchen_42 : decode cX8_kitchen 42 = .ok (.goto (-15), 3) := by decide +kernel
theorem dX8_kitchen_45 : decode cX8_kitchen 45 = .ok (.aload_n 0, 1) := by decide +kernel
theorem dX8_kitchen_46 : decode cX8_kitchen 46 = .ok (.invokevirtual 85, 3) := by decide +kernel
theorem dX8_kitchen_49 : decode cX8_kitchen 49 = .ok (.aload_n 0, 1) := by decide +kernel
theorem dX8_kitchen_50 : decode cX8_kitchen 50 = .ok (.getfield 74, 3) := by decide +kernel
theorem dX8_kitchen_53 : decode cX8_kitchen 53 = .ok (.ifCond .eq 27, 3) := by decide +kernel
theorem dX8_kitchen_56 : decode cX8_kitchen 56 = .ok (.aload_n 0, 1) := by decide +kernel
theorem dX8_kitchen_57 : decode cX8_kitchen 57 = .ok (.getfield 81, 3) := by decide +kernel
theorem dX8_kitchen_60 : decode cX8_kitchen 60 = .ok (.ifCond .ne 20, 3) := by decide +kernel
theorem dX8_kitchen_63 : decode cX8_kitchen 63 = .ok (.aload_n 0, 1) := by decide +kernel
theorem dX8_kitchen_64 : decode cX8_kitchen 64 = .ok (.invokevirtual 107, 3) := by decide +kernel
theorem dX8_kitchen_67 : decode cX8_kitchen 67 = .ok (.aload_n 0, 1) := by decide +kernel
theorem dX8_kitchen_68 : decode cX8_kitchen 68 = .ok (.dup, 1) := by decide +kernel
theorem dX8_kitchen_69 : decode cX8_kitchen 69 = .ok (.getfield 104, 3) := by decide +kernel
theorem dX8_kitchen_72 : decode cX8_kitchen 72 = .ok (.iconst 1, 1) := by decide +kernel
theorem dX8_kitchen_73 : decode cX8_kitchen 73 = .ok (.iadd, 1) := by decide +kernel
theorem dX8_kitchen_74 : decode cX8_kitchen 74 = .ok (.putfield 104, 3) := by decide +kernel
theorem dX8_kitchen_77 : decode cX8_kitchen 77 = .ok (.goto (-28), 3) := by decide +kernel
theorem dX8_kitchen_80 : decode cX8_kitchen 80 = .ok (.aload_n 0, 1) := by decide +kernel
theorem dX8_kitchen_81 : decode cX8_kitchen 81 = .ok (.getfield 81, 3) := by decide +kernel
theorem dX8_kitchen_84 : decode cX8_kitchen 84 = .ok (.ifCond .eq 11, 3) := by decide +kernel
theorem dX8_kitchen_87 : decode cX8_kitchen 87 = .ok (.bipush (-10), 2) := by decide +kernel
theorem dX8_kitchen_89 : decode cX8_kitchen 89 = .ok (.aload_n 0, 1) := by decide +kernel
theorem dX8_kitchen_90 : decode cX8_kitchen 90 = .ok (.getfield 68, 3) := by decide +kernel
theorem dX8_kitchen_93 : decode cX8_kitchen 93 = .ok (.isub, 1) := by decide +kernel
theorem dX8_kitchen_94 : decode cX8_kitchen 94 = .ok (.ireturn, 1) := by decide +kernel
theorem dX8_kitchen_95 : decode cX8_kitchen 95 = .ok (.aload_n 0, 1) := by decide +kernel
theorem dX8_kitchen_96 : decode cX8_kitchen 96 = .ok (.invokevirtual 110, 3) := by decide +kernel
theorem dX8_kitchen_99 : decode cX8_kitchen 99 = .ok (.aload_n 0, 1) := by decide +kernel
theorem dX8_kitchen_100 : decode cX8_kitchen 100 = .ok (.getfield 104, 3) := by decide +kernel
theorem dX8_kitchen_103 : decode cX8_kitchen 103 = .ok (.ireturn, 1) := by decide +kernel
theorem dX8_settles_0 : decode cX8_settles 0 = .ok (.aload_n 0, 1) := by decide +kernel
theorem dX8_settles_1 : decode cX8_settles 1 = .ok (.aload_n 0, 1) := by decide +kernel
theorem dX8_settles_2 : decode cX8_settles 2 = .ok (.getfield 88, 3) := by decide +kernel
theorem dX8_settles_5 : decode cX8_settles 5 = .ok (.putfield 50, 3) := by decide +kernel
theorem dX8_settles_8 : decode cX8_settles 8 = .ok (.aload_n 0, 1) := by decide +kernel
theorem dX8_settles_9 : decode cX8_settles 9 = .ok (.getfield 16, 3) := by decide +kernel
theorem dX8_settles_12 : decode cX8_settles 12 = .ok (.iconst 4, 1) := by decide +kernel
theorem dX8_settles_13 : decode cX8_settles 13 = .ok (.iconst 0, 1) := by decide +kernel
theorem dX8_settles_14 : decode cX8_settles 14 = .ok (.iastore, 1) := by decide +kernel
theorem dX8_settles_15 : decode cX8_settles 15 = .ok (.iconst 0, 1) := by decide +kernel
theorem dX8_settles_16 : decode cX8_settles 16 = .ok (.istore_n 1, 1) := by decide +kernel
theorem dX8_settles_17 : decode cX8_settles 17 = .ok (.iload_n 1, 1) := by decide +kernel
theorem dX8_settles_18 : decode cX8_settles 18 = .ok (.bipush 6, 2) := by decide +kernel
theorem dX8_settles_20 : decode cX8_settles 20 = .ok (.if_icmp .ge 104, 3) := by decide +kernel
theorem dX8_settles_23 : decode cX8_settles 23 = .ok (.iconst 0, 1) := by decide +kernel
theorem dX8_settles_24 : decode cX8_settles 24 = .ok (.istore_n 2, 1) := by decide +kernel
theorem dX8_settles_25 : decode cX8_settles 25 = .ok (.iload_n 2, 1) := by decide +kernel
theorem dX8_settles_26 : decode cX8_settles 26 = .ok (.iconst 4, 1) := by decide +kernel
theorem dX8_settles_27 : decode cX8_settles 27 = .ok (.if_icmp .ge 30, 3) := by decide +kernel
theorem dX8_settles_30 : decode cX8_settles 30 = .ok (.aload_n 0, 1) := by decide +kernel
theorem dX8_settles_31 : decode cX8_settles 31 = .ok (.getfield 7, 3) := by decide +kernel
theorem dX8_settles_34 : decode cX8_settles 34 = .ok (.iconst 4, 1) := by decide +kernel
theorem dX8_settles_35 : decode cX8_settles 35 = .ok (.iload_n 1, 1) := by decide +kernel
theorem dX8_settles_36 : decode cX8_settles 36 = .ok (.imul, 1) := by decide +kernel
theorem dX8_settles_37 : decode cX8_settles 37 = .ok (.iload_n 2, 1) := by decide +kernel
theorem dX8_settles_38 : decode cX8_settles 38 = .ok (.iadd, 1) := by decide +kernel
theorem dX8_settles_39 : decode cX8_settles 39 = .ok (.aload_n 0, 1) := by decide +kernel
theorem dX8_settles_40 : decode cX8_settles 40 = .ok (.getfield 38, 3) := by decide +kernel
theorem dX8_settles_43 : decode cX8_settles 43 = .ok (.bipush 6, 2) := by decide +kernel
theorem dX8_settles_45 : decode cX8_settles 45 = .ok (.iload_n 1, 1) := by decide +kernel
theorem dX8_settles_46 : decode cX8_settles 46 = .ok (.imul, 1) := by decide +kernel
theorem dX8_settles_47 : decode cX8_settles 47 = .ok (.iload_n 2, 1) := by decide +kernel
theorem dX8_settles_48 : decode cX8_settles 48 = .ok (.iadd, 1) := by decide +kernel
theorem dX8_settles_49 : decode cX8_settles 49 = .ok (.iaload, 1) := by decide +kernel
theorem dX8_settles_50 : decode cX8_settles 50 = .ok (.iastore, 1) := by decide +kernel
theorem dX8_settles_51 : decode cX8_settles 51 = .ok (.iinc 2 1, 3) := by decide +kernel
theorem dX8_settles_54 : decode cX8_settles 54 = .ok (.goto (-29), 3) := by decide +kernel
theorem dX8_settles_57 : decode cX8_settles 57 = .ok (.aload_n 0, 1) := by decide +kernel
theorem dX8_settles_58 : decode cX8_settles 58 = .ok (.getfield 13, 3) := by decide +kernel
theorem dX8_settles_61 : decode cX8_settles 61 = .ok (.iload_n 1, 1) := by decide +kernel
theorem dX8_settles_62 : decode cX8_settles 62 = .ok (.aload_n 0, 1) := by decide +kernel
theorem dX8_settles_63 : decode cX8_settles 63 = .ok (.getfield 38, 3) := by decide +kernel
theorem dX8_settles_66 : decode cX8_settles 66 = .ok (.bipush 6, 2) := by decide +kernel
theorem dX8_settles_68 : decode cX8_settles 68 = .ok (.iload_n 1, 1) := by decide +kernel
theorem dX8_settles_69 : decode cX8_settles 69 = .ok (.imul, 1) := by decide +kernel
theorem dX8_settles_70 : decode cX8_settles 70 = .ok (.iconst 4, 1) := by decide +kernel
theorem dX8_settles_71 : decode cX8_settles 71 = .ok (.iadd, 1) := by decide +kernel
theorem dX8_settles_72 : decode cX8_settles 72 = .ok (.iaload, 1) := by decide +kernel
theorem dX8_settles_73 : decode cX8_settles 73 = .ok (.iastore, 1) := by decide +kernel
theorem dX8_settles_74 : decode cX8_settles 74 = .ok (.aload_n 0, 1) := by decide +kernel
theorem dX8_settles_75 : decode cX8_settles 75 = .ok (.getfield 16, 3) := by decide +kernel
theorem dX8_settles_78 : decode cX8_settles 78 = .ok (.iconst 4, 1) := by decide +kernel
theorem dX8_settles_79 : decode cX8_settles 79 = .ok (.dup2, 1) := by decide +kernel
theorem dX8_settles_80 : decode cX8_settles 80 = .ok (.iaload, 1) := by decide +kernel
theorem dX8_settles_81 : decode cX8_settles 81 = .ok (.iload_n 1, 1) := by decide +kernel
theorem dX8_settles_82 : decode cX8_settles 82 = .ok (.aload_n 0, 1) := by decide +kernel
theorem dX8_settles_83 : decode cX8_settles 83 = .ok (.getfield 50, 3) := by decide +kernel
theorem dX8_settles_86 : decode cX8_settles 86 = .ok (.if_icmp .ge 19, 3) := by decide +kernel
theorem dX8_settles_89 : decode cX8_settles 89 = .ok (.aload_n 0, 1) := by decide +kernel
theorem dX8_settles_90 : decode cX8_settles 90 = .ok (.getfield 38, 3) := by decide +kernel
theorem dX8_settles_93 : decode cX8_settles 93 = .ok (.bipush 6, 2) := by decide +kernel
theorem dX8_settles_95 : decode cX8_settles 95 = .ok (.iload_n 1, 1) := by decide +kernel
theorem dX8_settles_96 : decode cX8_settles 96 = .ok (.imul, 1) := by decide +kernel
theorem dX8_settles_97 : decode cX8_settles 97 = .ok (.iconst 5, 1) := by decide +kernel
theorem dX8_settles_98 : decode cX8_settles 98 = .ok (.iadd, 1) := by decide +kernel
theorem dX8_settles_99 : decode cX8_settles 99 = .ok (.iaload, 1) := by decide +kernel
theorem dX8_settles_100 : decode cX8_settles 100 = .ok (.iload_n 1, 1) := by decide +kernel
theorem dX8_settles_101 : decode cX8_settles 101 = .ok (.ishl, 1) := by decide +kernel
theorem dX8_settles_102 : decode cX8_settles 102 = .ok (.goto 4, 3) := by decide +kernel
theorem dX8_settles_105 : decode cX8_settles 105 = .ok (.iconst 0, 1) := by decide +kernel
theorem dX8_settles_106 : decode cX8_settles 106 = .ok (.ior, 1) := by decide +kernel
theorem dX8_settles_107 : decode cX8_settles 107 = .ok (.iastore, 1) := by decide +kernel
theorem dX8_settles_108 : decode cX8_settles 108 = .ok (.aload_n 0, 1) := by decide +kernel
theorem dX8_settles_109 : decode cX8_settles 109 = .ok (.getfield 16, 3) := by decide +kernel
theorem dX8_settles_112 : decode cX8_settles 112 = .ok (.iconst 5, 1) := by decide +kernel
theorem dX8_settles_113 : decode cX8_settles 113 = .ok (.iload_n 1, 1) := by decide +kernel
theorem dX8_settles_114 : decode cX8_settles 114 = .ok (.iadd, 1) := by decide +kernel
theorem dX8_settles_115 : decode cX8_settles 115 = .ok (.bipush (-9), 2) := by decide +kernel
theorem dX8_settles_117 : decode cX8_settles 117 = .ok (.iastore, 1) := by decide +kernel
theorem dX8_settles_118 : decode cX8_settles 118 = .ok (.iinc 1 1, 3) := by decide +kernel
theorem dX8_settles_121 : decode cX8_settles 121 = .ok (.goto (-104), 3) := by decide +kernel
theorem dX8_settles_124 : decode cX8_settles 124 = .ok (.iconst 0, 1) := by decide +kernel
theorem dX8_settles_125 : decode cX8_settles 125 = .ok (.istore_n 1, 1) := by decide +kernel
theorem dX8_settles_126 : decode cX8_settles 126 = .ok (.iload_n 1, 1) := by decide +kernel
theorem dX8_settles_127 : decode cX8_settles 127 = .ok (.iconst 4, 1) := by decide +kernel
theorem dX8_settles_128 : decode cX8_settles 128 = .ok (.if_icmp .ge 23, 3) := by decide +kernel
theorem dX8_settles_131 : decode cX8_settles 131 = .ok (.aload_n 0, 1) := by decide +kernel
theorem dX8_settles_132 : decode cX8_settles 132 = .ok (.getfield 16, 3) := by decide +kernel
theorem dX8_settles_135 : decode cX8_settles 135 = .ok (.iconst 0, 1) := by decide +kernel
theorem dX8_settles_136 : decode cX8_settles 136 = .ok (.iload_n 1, 1) := by decide +kernel
theorem dX8_settles_137 : decode cX8_settles 137 = .ok (.iadd, 1) := by decide +kernel
theorem dX8_settles_138 : decode cX8_settles 138 = .ok (.aload_n 0, 1) := by decide +kernel
theorem dX8_settles_139 : decode cX8_settles 139 = .ok (.getfield 41, 3) := by decide +kernel
theorem dX8_settles_142 : decode cX8_settles 142 = .ok (.iload_n 1, 1) := by decide +kernel
theorem dX8_settles_143 : decode cX8_settles 143 = .ok (.iaload, 1) := by decide +kernel
theorem dX8_settles_144 : decode cX8_settles 144 = .ok (.iastore, 1) := by decide +kernel
theorem dX8_settles_145 : decode cX8_settles 145 = .ok (.iinc 1 1, 3) := by decide +kernel
theorem dX8_settles_148 : decode cX8_settles 148 = .ok (.goto (-22), 3) := by decide +kernel
theorem dX8_settles_151 : decode cX8_settles 151 = .ok (.aload_n 0, 1) := by decide +kernel
theorem dX8_settles_152 : decode cX8_settles 152 = .ok (.iconst 0, 1) := by decide +kernel
theorem dX8_settles_153 : decode cX8_settles 153 = .ok (.putfield 113, 3) := by decide +kernel
theorem dX8_settles_156 : decode cX8_settles 156 = .ok (.aload_n 0, 1) := by decide +kernel
theorem dX8_settles_157 : decode cX8_settles 157 = .ok (.iconst 0, 1) := by decide +kernel
theorem dX8_settles_158 : decode cX8_settles 158 = .ok (.putfield 116, 3) := by decide +kernel
theorem dX8_settles_161 : decode cX8_settles 161 = .ok (.aload_n 0, 1) := by decide +kernel
theorem dX8_settles_162 : decode cX8_settles 162 = .ok (.getfield 25, 3) := by decide +kernel
theorem dX8_settles_165 : decode cX8_settles 165 = .ok (.iconst 0, 1) := by decide +kernel
theorem dX8_settles_166 : decode cX8_settles 166 = .ok (.iconst 0, 1) := by decide +kernel
theorem dX8_settles_167 : decode cX8_settles 167 = .ok (.bastore, 1) := by decide +kernel
theorem dX8_settles_168 : decode cX8_settles 168 = .ok (.aload_n 0, 1) := by decide +kernel
theorem dX8_settles_169 : decode cX8_settles 169 = .ok (.getfield 25, 3) := by decide +kernel
theorem dX8_settles_172 : decode cX8_settles 172 = .ok (.iconst 1, 1) := by decide +kernel
theorem dX8_settles_173 : decode cX8_settles 173 = .ok (.iconst 0, 1) := by decide +kernel
theorem dX8_settles_174 : decode cX8_settles 174 = .ok (.bastore, 1) := by decide +kernel
theorem dX8_settles_175 : decode cX8_settles 175 = .ok (.aload_n 0, 1) := by decide +kernel
theorem dX8_settles_176 : decode cX8_settles 176 = .ok (.iconst 0, 1) := by decide +kernel
theorem dX8_settles_177 : decode cX8_settles 177 = .ok (.putfield 58, 3) := by decide +kernel
theorem dX8_settles_180 : decode cX8_settles 180 = .ok (.return_, 1) := by decide +kernel
theorem dX8_asItIs_0 : decode cX8_asItIs 0 = .ok (.aload_n 0, 1) := by decide +kernel
theorem dX8_asItIs_1 : decode cX8_asItIs 1 = .ok (.getfield 44, 3) := by decide +kernel
theorem dX8_asItIs_4 : decode cX8_asItIs 4 = .ok (.iconst 0, 1) := by decide +kernel
theorem dX8_asItIs_5 : decode cX8_asItIs 5 = .ok (.aload_n 0, 1) := by decide +kernel
theorem dX8_asItIs_6 : decode cX8_asItIs 6 = .ok (.getfield 16, 3) := by decide +kernel
theorem dX8_asItIs_9 : decode cX8_asItIs 9 = .ok (.iconst 0, 1) := by decide +kernel
theorem dX8_asItIs_10 : decode cX8_asItIs 10 = .ok (.invokestatic 119, 3) := by decide +kernel
theorem dX8_asItIs_13 : decode cX8_asItIs 13 = .ok (.return_, 1) := by decide +kernel
theorem dX8_tasted_0 : decode cX8_tasted 0 = .ok (.iload_n 1, 1) := by decide +kernel
theorem dX8_tasted_1 : decode cX8_tasted 1 = .ok (.iconst 3, 1) := by decide +kernel
theorem dX8_tasted_2 : decode cX8_tasted 2 = .ok (.if_icmp .ne 13, 3) := by decide +kernel
theorem dX8_tasted_5 : decode cX8_tasted 5 = .ok (.iload_n 2, 1) := by decide +kernel
theorem dX8_tasted_6 : decode cX8_tasted 6 = .ok (.ifCond .eq 9, 3) := by decide +kernel
theorem dX8_tasted_9 : decode cX8_tasted 9 = .ok (.iload_n 0, 1) := by decide +kernel
theorem dX8_tasted_10 : decode cX8_tasted 10 = .ok (.iconst 2, 1) := by decide +kernel
theorem dX8_tasted_11 : decode cX8_tasted 11 = .ok (.idiv, 1) := by decide +kernel
theorem dX8_tasted_12 : decode cX8_tasted 12 = .ok (.goto 4, 3) := by decide +kernel
theorem dX8_tasted_15 : decode cX8_tasted 15 = .ok (.iload_n 0, 1) := by decide +kernel
theorem dX8_tasted_16 : decode cX8_tasted 16 = .ok (.ireturn, 1) := by decide +kernel
theorem dX8_far_0 : decode cX8_far 0 = .ok (.iload_n 0, 1) := by decide +kernel
theorem dX8_far_1 : decode cX8_far 1 = .ok (.ifCond .ge 8, 3) := by decide +kernel
theorem dX8_far_4 : decode cX8_far 4 = .ok (.iload_n 0, 1) := by decide +kernel
theorem dX8_far_5 : decode cX8_far 5 = .ok (.ineg, 1) := by decide +kernel
theorem dX8_far_6 : decode cX8_far 6 = .ok (.goto 4, 3) := by decide +kernel
theorem dX8_far_9 : decode cX8_far 9 = .ok (.iload_n 0, 1) := by decide +kernel
theorem dX8_far_10 : decode cX8_far 10 = .ok (.ireturn, 1) := by decide +kernel
theorem dX8_offOf_0 : decode cX8_offOf 0 = .ok (.aload_n 0, 1) := by decide +kernel
theorem dX8_offOf_1 : decode cX8_offOf 1 = .ok (.getfield 44, 3) := by decide +kernel
theorem dX8_offOf_4 : decode cX8_offOf 4 = .ok (.iconst 0, 1) := by decide +kernel
theorem dX8_offOf_5 : decode cX8_offOf 5 = .ok (.iload_n 2, 1) := by decide +kernel
theorem dX8_offOf_6 : decode cX8_offOf 6 = .ok (.iadd, 1) := by decide +kernel
theorem dX8_offOf_7 : decode cX8_offOf 7 = .ok (.iaload, 1) := by decide +kernel
theorem dX8_offOf_8 : decode cX8_offOf 8 = .ok (.iload_n 2, 1) := by decide +kernel
theorem dX8_offOf_9 : decode cX8_offOf 9 = .ok (.iload_n 3, 1) := by decide +kernel
theorem dX8_offOf_10 : decode cX8_offOf 10 = .ok (.invokestatic 123, 3) := by decide +kernel
theorem dX8_offOf_13 : decode cX8_offOf 13 = .ok (.aload_n 0, 1) := by decide +kernel
theorem dX8_offOf_14 : decode cX8_offOf 14 = .ok (.getfield 7, 3) := by decide +kernel
theorem dX8_offOf_17 : decode cX8_offOf 17 = .ok (.iconst 4, 1) := by decide +kernel
theorem dX8_offOf_18 : decode cX8_offOf 18 = .ok (.iload_n 1, 1) := by decide +kernel
theorem dX8_offOf_19 : decode cX8_offOf 19 = .ok (.imul, 1) := by decide +kernel
theorem dX8_offOf_20 : decode cX8_offOf 20 = .ok (.iload_n 2, 1) := by decide +kernel
theorem dX8_offOf_21 : decode cX8_offOf 21 = .ok (.iadd, 1) := by decide +kernel
theorem dX8_offOf_22 : decode cX8_offOf 22 = .ok (.iaload, 1) := by decide +kernel
theorem dX8_offOf_23 : decode cX8_offOf 23 = .ok (.isub, 1) := by decide +kernel
theorem dX8_offOf_24 : decode cX8_offOf 24 = .ok (.ireturn, 1) := by decide +kernel
theorem dX8_mienBy_0 : decode cX8_mienBy 0 = .ok (.iconst 0, 1) := by decide +kernel
theorem dX8_mienBy_1 : decode cX8_mienBy 1 = .ok (.istore_n 3, 1) := by decide +kernel
theorem dX8_mienBy_2 : decode cX8_mienBy 2 = .ok (.iconst 1, 1) := by decide +kernel
theorem dX8_mienBy_3 : decode cX8_mienBy 3 = .ok (.istore 4, 2) := by decide +kernel
theorem dX8_mienBy_5 : decode cX8_mienBy 5 = .ok (.iload 4, 2) := by decide +kernel
theorem dX8_mienBy_7 : decode cX8_mienBy 7 = .ok (.iconst 4, 1) := by decide +kernel
theorem dX8_mienBy_8 : decode cX8_mienBy 8 = .ok (.if_icmp .ge 40, 3) := by decide +kernel
theorem dX8_mienBy_11 : decode cX8_mienBy 11 = .ok (.aload_n 0, 1) := by decide +kernel
theorem dX8_mienBy_12 : decode cX8_mienBy 12 = .ok (.iload_n 1, 1) := by decide +kernel
theorem dX8_mienBy_13 : decode cX8_mienBy 13 = .ok (.iload 4, 2) := by decide +kernel
theorem dX8_mienBy_15 : decode cX8_mienBy 15 = .ok (.iload_n 2, 1) := by decide +kernel
theorem dX8_mienBy_16 : decode cX8_mienBy 16 = .ok (.invokevirtual 127, 3) := by decide +kernel
theorem dX8_mienBy_19 : decode cX8_mienBy 19 = .ok (.invokestatic 130, 3) := by decide +kernel
theorem dX8_mienBy_22 : decode cX8_mienBy 22 = .ok (.aload_n 0, 1) := by decide +kernel
theorem dX8_mienBy_23 : decode cX8_mienBy 23 = .ok (.iload_n 1, 1) := by decide +kernel
theorem dX8_mienBy_24 : decode cX8_mienBy 24 = .ok (.iload_n 3, 1) := by decide +kernel
theorem dX8_mienBy_25 : decode cX8_mienBy 25 = .ok (.iload_n 2, 1) := by decide +kernel
theorem dX8_mienBy_26 : decode cX8_mienBy 26 = .ok (.invokevirtual 127, 3) := by decide +kernel
theorem dX8_mienBy_29 : decode cX8_mienBy 29 = .ok (.invokestatic 130, 3) := by decide +kernel
theorem dX8_mienBy_32 : decode cX8_mienBy 32 = .ok (.if_icmp .le 8, 3) := by decide +kernel
theorem dX8_mienBy_35 : decode cX8_mienBy 35 = .ok (.iload 4, 2) := by decide +kernel
theorem dX8_mienBy_37 : decode cX8_mienBy 37 = .ok (.goto 4, 3) := by decide +kernel
theorem dX8_mienBy_40 : decode cX8_mienBy 40 = .ok (.iload_n 3, 1) := by decide +kernel
theorem dX8_mienBy_41 : decode cX8_mienBy 41 = .ok (.istore_n 3, 1) := by decide +kernel
theorem dX8_mienBy_42 : decode cX8_mienBy 42 = .ok (.iinc 4 1, 3) := by decide +kernel
theorem dX8_mienBy_45 : decode cX8_mienBy 45 = .ok (.goto (-40), 3) := by decide +kernel
theorem dX8_mienBy_48 : decode cX8_mienBy 48 = .ok (.aload_n 0, 1) := by decide +kernel
theorem dX8_mienBy_49 : decode cX8_mienBy 49 = .ok (.iload_n 1, 1) := by decide +kernel
theorem dX8_mienBy_50 : decode cX8_mienBy 50 = .ok (.iload_n 3, 1) := by decide +kernel
theorem dX8_mienBy_51 : decode cX8_mienBy 51 = .ok (.iload_n 2, 1) := by decide +kernel
theorem dX8_mienBy_52 : decode cX8_mienBy 52 = .ok (.invokevirtual 127, 3) := by decide +kernel
theorem dX8_mienBy_55 : decode cX8_mienBy 55 = .ok (.istore 4, 2) := by decide +kernel
theorem dX8_mienBy_57 : decode cX8_mienBy 57 = .ok (.iload 4, 2) := by decide +kernel
theorem dX8_mienBy_59 : decode cX8_mienBy 59 = .ok (.invokestatic 130, 3) := by decide +kernel
theorem dX8_mienBy_62 : decode cX8_mienBy 62 = .ok (.aload_n 0, 1) := by decide +kernel
theorem dX8_mienBy_63 : decode cX8_mienBy 63 = .ok (.getfield 13, 3) := by decide +kernel
theorem dX8_mienBy_66 : decode cX8_mienBy 66 = .ok (.iload_n 1, 1) := by decide +kernel
theorem dX8_mienBy_67 : decode cX8_mienBy 67 = .ok (.iaload, 1) := by decide +kernel
theorem dX8_mienBy_68 : decode cX8_mienBy 68 = .ok (.if_icmp .gt 7, 3) := by decide +kernel
theorem dX8_mienBy_71 : decode cX8_mienBy 71 = .ok (.iconst 0, 1) := by decide +kernel
theorem dX8_mienBy_72 : decode cX8_mienBy 72 = .ok (.goto 21, 3) := by decide +kernel
theorem dX8_mienBy_75 : decode cX8_mienBy 75 = .ok (.iload 4, 2) := by decide +kernel
theorem dX8_mienBy_77 : decode cX8_mienBy 77 = .ok (.ifCond .le 11, 3) := by decide +kernel
theorem dX8_mienBy_80 : decode cX8_mienBy 80 = .ok (.iconst 1, 1) := by decide +kernel
theorem dX8_mienBy_81 : decode cX8_mienBy 81 = .ok (.iconst 2, 1) := by decide +kernel
theorem dX8_mienBy_82 : decode cX8_mienBy 82 = .ok (.iload_n 3, 1) := by decide +kernel
theorem dX8_mienBy_83 : decode cX8_mienBy 83 = .ok (.imul, 1) := by decide +kernel
theorem dX8_mienBy_84 : decode cX8_mienBy 84 = .ok (.iadd, 1) := by decide +kernel
theorem dX8_mienBy_85 : decode cX8_mienBy 85 = .ok (.goto 8, 3) := by decide +kernel
theorem dX8_mienBy_88 : decode cX8_mienBy 88 = .ok (.iconst 2, 1) := by decide +kernel
theorem dX8_mienBy_89 : decode cX8_mienBy 89 = .ok (.iconst 2, 1) := by decide +kernel
theorem dX8_mienBy_90 : decode cX8_mienBy 90 = .ok (.iload_n 3, 1) := by decide +kernel
theorem dX8_mienBy_91 : decode cX8_mienBy 91 = .ok (.imul, 1) := by decide +kernel
theorem dX8_mienBy_92 : decode cX8_mienBy 92 = .ok (.iadd, 1) := by decide +kernel
theorem dX8_mienBy_93 : decode cX8_mienBy 93 = .ok (.ireturn, 1) := by decide +kernel
theorem dX8_mien_0 : decode cX8_mien 0 = .ok (.aload_n 0, 1) := by decide +kernel
theorem dX8_mien_1 : decode cX8_mien 1 = .ok (.iload_n 1, 1) := by decide +kernel
theorem dX8_mien_2 : decode cX8_mien 2 = .ok (.aload_n 0, 1) := by decide +kernel
theorem dX8_mien_3 : decode cX8_mien 3 = .ok (.getfield 44, 3) := by decide +kernel
theorem dX8_mien_6 : decode cX8_mien 6 = .ok (.iconst 4, 1) := by decide +kernel
theorem dX8_mien_7 : decode cX8_mien 7 = .ok (.iaload, 1) := by decide +kernel
theorem dX8_mien_8 : decode cX8_mien 8 = .ok (.iload_n 1, 1) := by decide +kernel
theorem dX8_mien_9 : decode cX8_mien 9 = .ok (.invokestatic 133, 3) := by decide +kernel
theorem dX8_mien_12 : decode cX8_mien 12 = .ok (.invokevirtual 137, 3) := by decide +kernel
theorem dX8_mien_15 : decode cX8_mien 15 = .ok (.ireturn, 1) := by decide +kernel
theorem dX8_mind_0 : decode cX8_mind 0 = .ok (.iconst 0, 1) := by decide +kernel
theorem dX8_mind_1 : decode cX8_mind 1 = .ok (.istore_n 2, 1) := by decide +kernel
theorem dX8_mind_2 : decode cX8_mind 2 = .ok (.iconst 0, 1) := by decide +kernel
theorem dX8_mind_3 : decode cX8_mind 3 = .ok (.istore_n 3, 1) := by decide +kernel
theorem dX8_mind_4 : decode cX8_mind 4 = .ok (.iload_n 3, 1) := by decide +kernel
theorem dX8_mind_5 : decode cX8_mind 5 = .ok (.iconst 4, 1) := by decide +kernel
theorem dX8_mind_6 : decode cX8_mind 6 = .ok (.if_icmp .ge 31, 3) := by decide +kernel
theorem dX8_mind_9 : decode cX8_mind 9 = .ok (.iload_n 2, 1) := by decide +kernel
theorem dX8_mind_10 : decode cX8_mind 10 = .ok (.aload_n 0, 1) := by decide +kernel
theorem dX8_mind_11 : decode cX8_mind 11 = .ok (.iload_n 1, 1) := by decide +kernel
theorem dX8_mind_12 : decode cX8_mind 12 = .ok (.iload_n 3, 1) := by decide +kernel
theorem dX8_mind_13 : decode cX8_mind 13 = .ok (.aload_n 0, 1) := by decide +kernel
theorem dX8_mind_14 : decode cX8_mind 14 = .ok (.getfield 44, 3) := by decide +kernel
theorem dX8_mind_17 : decode cX8_mind 17 = .ok (.iconst 4, 1) := by decide +kernel
theorem dX8_mind_18 : decode cX8_mind 18 = .ok (.iaload, 1) := by decide +kernel
theorem dX8_mind_19 : decode cX8_mind 19 = .ok (.iload_n 1, 1) := by decide +kernel
theorem dX8_mind_20 : decode cX8_mind 20 = .ok (.invokestatic 133, 3) := by decide +kernel
theorem dX8_mind_23 : decode cX8_mind 23 = .ok (.invokevirtual 127, 3) := by decide +kernel
theorem dX8_mind_26 : decode cX8_mind 26 = .ok (.invokestatic 130, 3) := by decide +kernel
theorem dX8_mind_29 : decode cX8_mind 29 = .ok (.iadd, 1) := by decide +kernel
theorem dX8_mind_30 : decode cX8_mind 30 = .ok (.istore_n 2, 1) := by decide +kernel
theorem dX8_mind_31 : decode cX8_mind 31 = .ok (.iinc 3 1, 3) := by decide +kernel
theorem dX8_mind_34 : decode cX8_mind 34 = .ok (.goto (-30), 3) := by decide +kernel
theorem dX8_mind_37 : decode cX8_mind 37 = .ok (.iload_n 2, 1) := by decide +kernel
theorem dX8_mind_38 : decode cX8_mind 38 = .ok (.ireturn, 1) := by decide +kernel
theorem dX8_calm_0 : decode cX8_calm 0 = .ok (.iconst 0, 1) := by decide +kernel
theorem dX8_calm_1 : decode cX8_calm 1 = .ok (.istore_n 1, 1) := by decide +kernel
theorem dX8_calm_2 : decode cX8_calm 2 = .ok (.iconst 0, 1) := by decide +kernel
theorem dX8_calm_3 : decode cX8_calm 3 = .ok (.istore_n 2, 1) := by decide +kernel
theorem dX8_calm_4 : decode cX8_calm 4 = .ok (.iload_n 2, 1) := by decide +kernel
theorem dX8_calm_5 : decode cX8_calm 5 = .ok (.aload_n 0, 1) := by decide +kernel
theorem dX8_calm_6 : decode cX8_calm 6 = .ok (.getfield 50, 3) := by decide +kernel
theorem dX8_calm_9 : decode cX8_calm 9 = .ok (.if_icmp .ge 27, 3) := by decide +kernel
theorem dX8_calm_12 : decode cX8_calm 12 = .ok (.iload_n 1, 1) := by decide +kernel
theorem dX8_calm_13 : decode cX8_calm 13 = .ok (.aload_n 0, 1) := by decide +kernel
theorem dX8_calm_14 : decode cX8_calm 14 = .ok (.iload_n 2, 1) := by decide +kernel
theorem dX8_calm_15 : decode cX8_calm 15 = .ok (.invokevirtual 141, 3) := by decide +kernel
theorem dX8_calm_18 : decode cX8_calm 18 = .ok (.ifCond .ne 9, 3) := by decide +kernel
theorem dX8_calm_21 : decode cX8_calm 21 = .ok (.iconst 1, 1) := by decide +kernel
theorem dX8_calm_22 : decode cX8_calm 22 = .ok (.iload_n 2, 1) := by decide +kernel
theorem dX8_calm_23 : decode cX8_calm 23 = .ok (.ishl, 1) := by decide +kernel
theorem dX8_calm_24 : decode cX8_calm 24 = .ok (.goto 4, 3) := by decide +kernel
theorem dX8_calm_27 : decode cX8_calm 27 = .ok (.iconst 0, 1) := by decide +kernel
theorem dX8_calm_28 : decode cX8_calm 28 = .ok (.ior, 1) := by decide +kernel
theorem dX8_calm_29 : decode cX8_calm 29 = .ok (.istore_n 1, 1) := by decide +kernel
theorem dX8_calm_30 : decode cX8_calm 30 = .ok (.iinc 2 1, 3) := by decide +kernel
theorem dX8_calm_33 : decode cX8_calm 33 = .ok (.goto (-29), 3) := by decide +kernel
theorem dX8_calm_36 : decode cX8_calm 36 = .ok (.iload_n 1, 1) := by decide +kernel
theorem dX8_calm_37 : decode cX8_calm 37 = .ok (.ireturn, 1) := by decide +kernel
theorem dX8_inPot_0 : decode cX8_inPot 0 = .ok (.iconst 0, 1) := by decide +kernel
theorem dX8_inPot_1 : decode cX8_inPot 1 = .ok (.istore_n 1, 1) := by decide +kernel
theorem dX8_inPot_2 : decode cX8_inPot 2 = .ok (.iconst 0, 1) := by decide +kernel
theorem dX8_inPot_3 : decode cX8_inPot 3 = .ok (.istore_n 2, 1) := by decide +kernel
theorem dX8_inPot_4 : decode cX8_inPot 4 = .ok (.iload_n 2, 1) := by decide +kernel
theorem dX8_inPot_5 : decode cX8_inPot 5 = .ok (.iconst 4, 1) := by decide +kernel
theorem dX8_inPot_6 : decode cX8_inPot 6 = .ok (.if_icmp .ge 20, 3) := by decide +kernel
theorem dX8_inPot_9 : decode cX8_inPot 9 = .ok (.iload_n 1, 1) := by decide +kernel
theorem dX8_inPot_10 : decode cX8_inPot 10 = .ok (.aload_n 0, 1) := by decide +kernel
theorem dX8_inPot_11 : decode cX8_inPot 11 = .ok (.getfield 44, 3) := by decide +kernel
theorem dX8_inPot_14 : decode cX8_inPot 14 = .ok (.iconst 0, 1) := by decide +kernel
theorem dX8_inPot_15 : decode cX8_inPot 15 = .ok (.iload_n 2, 1) := by decide +kernel
theorem dX8_inPot_16 : decode cX8_inPot 16 = .ok (.iadd, 1) := by decide +kernel
theorem dX8_inPot_17 : decode cX8_inPot 17 = .ok (.iaload, 1) := by decide +kernel
theorem dX8_inPot_18 : decode cX8_inPot 18 = .ok (.iadd, 1) := by decide +kernel
theorem dX8_inPot_19 : decode cX8_inPot 19 = .ok (.istore_n 1, 1) := by decide +kernel
theorem dX8_inPot_20 : decode cX8_inPot 20 = .ok (.iinc 2 1, 3) := by decide +kernel
theorem dX8_inPot_23 : decode cX8_inPot 23 = .ok (.goto (-19), 3) := by decide +kernel
theorem dX8_inPot_26 : decode cX8_inPot 26 = .ok (.iload_n 1, 1) := by decide +kernel
theorem dX8_inPot_27 : decode cX8_inPot 27 = .ok (.ireturn, 1) := by decide +kernel
theorem dX8_mindAll_0 : decode cX8_mindAll 0 = .ok (.iconst 0, 1) := by decide +kernel
theorem dX8_mindAll_1 : decode cX8_mindAll 1 = .ok (.istore_n 1, 1) := by decide +kernel
theorem dX8_mindAll_2 : decode cX8_mindAll 2 = .ok (.iconst 0, 1) := by decide +kernel
theorem dX8_mindAll_3 : decode cX8_mindAll 3 = .ok (.istore_n 2, 1) := by decide +kernel
theorem dX8_mindAll_4 : decode cX8_mindAll 4 = .ok (.iload_n 2, 1) := by decide +kernel
theorem dX8_mindAll_5 : decode cX8_mindAll 5 = .ok (.aload_n 0, 1) := by decide +kernel
theorem dX8_mindAll_6 : decode cX8_mindAll 6 = .ok (.getfield 50, 3) := by decide +kernel
theorem dX8_mindAll_9 : decode cX8_mindAll 9 = .ok (.if_icmp .ge 17, 3) := by decide +kernel
theorem dX8_mindAll_12 : decode cX8_mindAll 12 = .ok (.iload_n 1, 1) := by decide +kernel
theorem dX8_mindAll_13 : decode cX8_mindAll 13 = .ok (.aload_n 0, 1) := by decide +kernel
theorem dX8_mindAll_14 : decode cX8_mindAll 14 = .ok (.iload_n 2, 1) := by decide +kernel
theorem dX8_mindAll_15 : decode cX8_mindAll 15 = .ok (.invokevirtual 144, 3) := by decide +kernel
theorem dX8_mindAll_18 : decode cX8_mindAll 18 = .ok (.iadd, 1) := by decide +kernel
theorem dX8_mindAll_19 : decode cX8_mindAll 19 = .ok (.istore_n 1, 1) := by decide +kernel
theorem dX8_mindAll_20 : decode cX8_mindAll 20 = .ok (.iinc 2 1, 3) := by decide +kernel
theorem dX8_mindAll_23 : decode cX8_mindAll 23 = .ok (.goto (-19), 3) := by decide +kernel
theorem dX8_mindAll_26 : decode cX8_mindAll 26 = .ok (.iload_n 1, 1) := by decide +kernel
theorem dX8_mindAll_27 : decode cX8_mindAll 27 = .ok (.ireturn, 1) := by decide +kernel
theorem dX8_canBe_0 : decode cX8_canBe 0 = .ok (.iload_n 1, 1) := by decide +kernel
theorem dX8_canBe_1 : decode cX8_canBe 1 = .ok (.iconst 4, 1) := by decide +kernel
theorem dX8_canBe_2 : decode cX8_canBe 2 = .ok (.if_icmp .ne 18, 3) := by decide +kernel
theorem dX8_canBe_5 : decode cX8_canBe 5 = .ok (.aload_n 0, 1) := by decide +kernel
theorem dX8_canBe_6 : decode cX8_canBe 6 = .ok (.invokevirtual 147, 3) := by decide +kernel
theorem dX8_canBe_9 : decode cX8_canBe 9 = .ok (.ifCond .le 7, 3) := by decide +kernel
theorem dX8_canBe_12 : decode cX8_canBe 12 = .ok (.iconst 1, 1) := by decide +kernel
theorem dX8_canBe_13 : decode cX8_canBe 13 = .ok (.goto 24, 3) := by decide +kernel
theorem dX8_canBe_16 : decode cX8_canBe 16 = .ok (.iconst 0, 1) := by decide +kernel
theorem dX8_canBe_17 : decode cX8_canBe 17 = .ok (.goto 20, 3) := by decide +kernel
theorem dX8_canBe_20 : decode cX8_canBe 20 = .ok (.aload_n 0, 1) := by decide +kernel
theorem dX8_canBe_21 : decode cX8_canBe 21 = .ok (.getfield 44, 3) := by decide +kernel
theorem dX8_canBe_24 : decode cX8_canBe 24 = .ok (.iconst 0, 1) := by decide +kernel
theorem dX8_canBe_25 : decode cX8_canBe 25 = .ok (.iload_n 1, 1) := by decide +kernel
theorem dX8_canBe_26 : decode cX8_canBe 26 = .ok (.iadd, 1) := by decide +kernel
theorem dX8_canBe_27 : decode cX8_canBe 27 = .ok (.iaload, 1) := by decide +kernel
theorem dX8_canBe_28 : decode cX8_canBe 28 = .ok (.iconst 5, 1) := by decide +kernel
theorem dX8_canBe_29 : decode cX8_canBe 29 = .ok (.if_icmp .ge 7, 3) := by decide +kernel
theorem dX8_canBe_32 : decode cX8_canBe 32 = .ok (.iconst 1, 1) := by decide +kernel
theorem dX8_canBe_33 : decode cX8_canBe 33 = .ok (.goto 4, 3) := by decide +kernel
theorem dX8_canBe_36 : decode cX8_canBe 36 = .ok (.iconst 0, 1) := by decide +kernel
theorem dX8_canBe_37 : decode cX8_canBe 37 = .ok (.ireturn, 1) := by decide +kernel
theorem dX8_does_0 : decode cX8_does 0 = .ok (.iconst 0, 1) := by decide +kernel
theorem dX8_does_1 : decode cX8_does 1 = .ok (.istore_n 2, 1) := by decide +kernel
theorem dX8_does_2 : decode cX8_does 2 = .ok (.iload_n 2, 1) := by decide +kernel
theorem dX8_does_3 : decode cX8_does 3 = .ok (.iconst 4, 1) := by decide +kernel
theorem dX8_does_4 : decode cX8_does 4 = .ok (.if_icmp .ge 53, 3) := by decide +kernel
theorem dX8_does_7 : decode cX8_does 7 = .ok (.aload_n 0, 1) := by decide +kernel
theorem dX8_does_8 : decode cX8_does 8 = .ok (.getfield 44, 3) := by decide +kernel
theorem dX8_does_11 : decode cX8_does 11 = .ok (.iconst 0, 1) := by decide +kernel
theorem dX8_does_12 : decode cX8_does 12 = .ok (.iload_n 2, 1) := by decide +kernel
theorem dX8_does_13 : decode cX8_does 13 = .ok (.iadd, 1) := by decide +kernel
theorem dX8_does_14 : decode cX8_does 14 = .ok (.iaload, 1) := by decide +kernel
theorem dX8_does_15 : decode cX8_does 15 = .ok (.istore_n 3, 1) := by decide +kernel
theorem dX8_does_16 : decode cX8_does 16 = .ok (.aload_n 0, 1) := by decide +kernel
theorem dX8_does_17 : decode cX8_does 17 = .ok (.getfield 44, 3) := by decide +kernel
theorem dX8_does_20 : decode cX8_does 20 = .ok (.iconst 0, 1) := by decide +kernel
theorem dX8_does_21 : decode cX8_does 21 = .ok (.iload_n 2, 1) := by decide +kernel
theorem dX8_does_22 : decode cX8_does 22 = .ok (.iadd, 1) := by decide +kernel
theorem dX8_does_23 : decode cX8_does 23 = .ok (.iload_n 1, 1) := by decide +kernel
theorem dX8_does_24 : decode cX8_does 24 = .ok (.iload_n 2, 1) := by decide +kernel
theorem dX8_does_25 : decode cX8_does 25 = .ok (.if_icmp .ne 9, 3) := by decide +kernel
theorem dX8_does_28 : decode cX8_does 28 = .ok (.iload_n 3, 1) := by decide +kernel
theorem dX8_does_29 : decode cX8_does 29 = .ok (.iconst 1, 1) := by decide +kernel
theorem dX8_does_30 : decode cX8_does 30 = .ok (.iadd, 1) := by decide +kernel
theorem dX8_does_31 : decode cX8_does 31 = .ok (.goto 19, 3) := by decide +kernel
theorem dX8_does_34 : decode cX8_does 34 = .ok (.iload_n 1, 1) := by decide +kernel
theorem dX8_does_35 : decode cX8_does 35 = .ok (.iconst 4, 1) := by decide +kernel
theorem dX8_does_36 : decode cX8_does 36 = .ok (.if_icmp .ne 13, 3) := by decide +kernel
theorem dX8_does_39 : decode cX8_does 39 = .ok (.iload_n 3, 1) := by decide +kernel
theorem dX8_does_40 : decode cX8_does 40 = .ok (.ifCond .le 9, 3) := by decide +kernel
theorem dX8_does_43 : decode cX8_does 43 = .ok (.iload_n 3, 1) := by decide +kernel
theorem dX8_does_44 : decode cX8_does 44 = .ok (.iconst 1, 1) := by decide +kernel
theorem dX8_does_45 : decode cX8_does 45 = .ok (.isub, 1) := by decide +kernel
theorem dX8_does_46 : decode cX8_does 46 = .ok (.goto 4, 3) := by decide +kernel
theorem dX8_does_49 : decode cX8_does 49 = .ok (.iload_n 3, 1) := by decide +kernel
theorem dX8_does_50 : decode cX8_does 50 = .ok (.iastore, 1) := by decide +kernel
theorem dX8_does_51 : decode cX8_does 51 = .ok (.iinc 2 1, 3) := by decide +kernel
theorem dX8_does_54 : decode cX8_does 54 = .ok (.goto (-52), 3) := by decide +kernel
theorem dX8_does_57 : decode cX8_does 57 = .ok (.return_, 1) := by decide +kernel
theorem dX8_pot_0 : decode cX8_pot 0 = .ok (.iload_n 1, 1) := by decide +kernel
theorem dX8_pot_1 : decode cX8_pot 1 = .ok (.invokestatic 151, 3) := by decide +kernel
theorem dX8_pot_4 : decode cX8_pot 4 = .ok (.ifCond .eq 14, 3) := by decide +kernel
theorem dX8_pot_7 : decode cX8_pot 7 = .ok (.aload_n 0, 1) := by decide +kernel
theorem dX8_pot_8 : decode cX8_pot 8 = .ok (.getfield 16, 3) := by decide +kernel
theorem dX8_pot_11 : decode cX8_pot 11 = .ok (.iconst 0, 1) := by decide +kernel
theorem dX8_pot_12 : decode cX8_pot 12 = .ok (.iload_n 1, 1) := by decide +kernel
theorem dX8_pot_13 : decode cX8_pot 13 = .ok (.iadd, 1) := by decide +kernel
theorem dX8_pot_14 : decode cX8_pot 14 = .ok (.iaload, 1) := by decide +kernel
theorem dX8_pot_15 : decode cX8_pot 15 = .ok (.goto 4, 3) := by decide +kernel
theorem dX8_pot_18 : decode cX8_pot 18 = .ok (.iconst (-1), 1) := by decide +kernel
theorem dX8_pot_19 : decode cX8_pot 19 = .ok (.ireturn, 1) := by decide +kernel
theorem dX8_brother_0 : decode cX8_brother 0 = .ok (.aload_n 0, 1) := by decide +kernel
theorem dX8_brother_1 : decode cX8_brother 1 = .ok (.iload_n 1, 1) := by decide +kernel
theorem dX8_brother_2 : decode cX8_brother 2 = .ok (.invokevirtual 154, 3) := by decide +kernel
theorem dX8_brother_5 : decode cX8_brother 5 = .ok (.ifCond .eq 13, 3) := by decide +kernel
theorem dX8_brother_8 : decode cX8_brother 8 = .ok (.iload_n 2, 1) := by decide +kernel
theorem dX8_brother_9 : decode cX8_brother 9 = .ok (.iconst 0, 1) := by decide +kernel
theorem dX8_brother_10 : decode cX8_brother 10 = .ok (.bipush 8, 2) := by decide +kernel
theorem dX8_brother_12 : decode cX8_brother 12 = .ok (.invokestatic 54, 3) := by decide +kernel
theorem dX8_brother_15 : decode cX8_brother 15 = .ok (.ifCond .ne 5, 3) := by decide +kernel
theorem dX8_brother_18 : decode cX8_brother 18 = .ok (.iconst (-1), 1) := by decide +kernel
theorem dX8_brother_19 : decode cX8_brother 19 = .ok (.ireturn, 1) := by decide +kernel
theorem dX8_brother_20 : decode cX8_brother 20 = .ok (.aload_n 0, 1) := by decide +kernel
theorem dX8_brother_21 : decode cX8_brother 21 = .ok (.invokevirtual 157, 3) := by decide +kernel
theorem dX8_brother_24 : decode cX8_brother 24 = .ok (.iload_n 2, 1) := by decide +kernel
theorem dX8_brother_25 : decode cX8_brother 25 = .ok (.tableswitch 74 4 8 #[35, 42, 53, 59, 65], 35) := by decide +kernel
theorem dX8_brother_60 : decode cX8_brother 60 = .ok (.aload_n 0, 1) := by decide +kernel
theorem dX8_brother_61 : decode cX8_brother 61 = .ok (.getfield 13, 3) := by decide +kernel
theorem dX8_brother_64 : decode cX8_brother 64 = .ok (.iload_n 1, 1) := by decide +kernel
theorem dX8_brother_65 : decode cX8_brother 65 = .ok (.iaload, 1) := by decide +kernel
theorem dX8_brother_66 : decode cX8_brother 66 = .ok (.ireturn, 1) := by decide +kernel
theorem dX8_brother_67 : decode cX8_brother 67 = .ok (.aload_n 0, 1) := by decide +kernel
theorem dX8_brother_68 : decode cX8_brother 68 = .ok (.getfield 16, 3) := by decide +kernel
theorem dX8_brother_71 : decode cX8_brother 71 = .ok (.iconst 4, 1) := by decide +kernel
theorem dX8_brother_72 : decode cX8_brother 72 = .ok (.iaload, 1) := by decide +kernel
theorem dX8_brother_73 : decode cX8_brother 73 = .ok (.iload_n 1, 1) := by decide +kernel
theorem dX8_brother_74 : decode cX8_brother 74 = .ok (.ishr, 1) := by decide +kernel
theorem dX8_brother_75 : decode cX8_brother 75 = .ok (.iconst 1, 1) := by decide +kernel
theorem dX8_brother_76 : decode cX8_brother 76 = .ok (.iand, 1) := by decide +kernel
theorem dX8_brother_77 : decode cX8_brother 77 = .ok (.ireturn, 1) := by decide +kernel
theorem dX8_brother_78 : decode cX8_brother 78 = .ok (.aload_n 0, 1) := by decide +kernel
theorem dX8_brother_79 : decode cX8_brother 79 = .ok (.iload_n 1, 1) := by decide +kernel
theorem dX8_brother_80 : decode cX8_brother 80 = .ok (.invokevirtual 141, 3) := by decide +kernel
theorem dX8_brother_83 : decode cX8_brother 83 = .ok (.ireturn, 1) := by decide +kernel
theorem dX8_brother_84 : decode cX8_brother 84 = .ok (.aload_n 0, 1) := by decide +kernel
theorem dX8_brother_85 : decode cX8_brother 85 = .ok (.iload_n 1, 1) := by decide +kernel
theorem dX8_brother_86 : decode cX8_brother 86 = .ok (.invokevirtual 144, 3) := by decide +kernel
theorem dX8_brother_89 : decode cX8_brother 89 = .ok (.ireturn, 1) := by decide +kernel
theorem dX8_brother_90 : decode cX8_brother 90 = .ok (.aload_n 0, 1) := by decide +kernel
theorem dX8_brother_91 : decode cX8_brother 91 = .ok (.getfield 16, 3) := by decide +kernel
theorem dX8_brother_94 : decode cX8_brother 94 = .ok (.iconst 5, 1) := by decide +kernel
theorem dX8_brother_95 : decode cX8_brother 95 = .ok (.iload_n 1, 1) := by decide +kernel
theorem dX8_brother_96 : decode cX8_brother 96 = .ok (.iadd, 1) := by decide +kernel
theorem dX8_brother_97 : decode cX8_brother 97 = .ok (.iaload, 1) := by decide +kernel
theorem dX8_brother_98 : decode cX8_brother 98 = .ok (.ireturn, 1) := by decide +kernel
theorem dX8_brother_99 : decode cX8_brother 99 = .ok (.aload_n 0, 1) := by decide +kernel
theorem dX8_brother_100 : decode cX8_brother 100 = .ok (.getfield 7, 3) := by decide +kernel
theorem dX8_brother_103 : decode cX8_brother 103 = .ok (.iconst 4, 1) := by decide +kernel
theorem dX8_brother_104 : decode cX8_brother 104 = .ok (.iload_n 1, 1) := by decide +kernel
theorem dX8_brother_105 : decode cX8_brother 105 = .ok (.imul, 1) := by decide +kernel
theorem dX8_brother_106 : decode cX8_brother 106 = .ok (.iload_n 2, 1) := by decide +kernel
theorem dX8_brother_107 : decode cX8_brother 107 = .ok (.iadd, 1) := by decide +kernel
theorem dX8_brother_108 : decode cX8_brother 108 = .ok (.iaload, 1) := by decide +kernel
theorem dX8_brother_109 : decode cX8_brother 109 = .ok (.ireturn, 1) := by decide +kernel
theorem dX8_off_0 : decode cX8_off 0 = .ok (.aload_n 0, 1) := by decide +kernel
theorem dX8_off_1 : decode cX8_off 1 = .ok (.iload_n 1, 1) := by decide +kernel
theorem dX8_off_2 : decode cX8_off 2 = .ok (.invokevirtual 154, 3) := by decide +kernel
theorem dX8_off_5 : decode cX8_off 5 = .ok (.ifCond .eq 10, 3) := by decide +kernel
theorem dX8_off_8 : decode cX8_off 8 = .ok (.iload_n 2, 1) := by decide +kernel
theorem dX8_off_9 : decode cX8_off 9 = .ok (.invokestatic 151, 3) := by decide +kernel
theorem dX8_off_12 : decode cX8_off 12 = .ok (.ifCond .ne 6, 3) := by decide +kernel
theorem dX8_off_15 : decode cX8_off 15 = .ok (.ldc 160, 2) := by decide +kernel
theorem dX8_off_17 : decode cX8_off 17 = .ok (.ireturn, 1) := by decide +kernel
theorem dX8_off_18 : decode cX8_off 18 = .ok (.aload_n 0, 1) := by decide +kernel
theorem dX8_off_19 : decode cX8_off 19 = .ok (.invokevirtual 157, 3) := by decide +kernel
theorem dX8_off_22 : decode cX8_off 22 = .ok (.aload_n 0, 1) := by decide +kernel
theorem dX8_off_23 : decode cX8_off 23 = .ok (.iload_n 1, 1) := by decide +kernel
theorem dX8_off_24 : decode cX8_off 24 = .ok (.iload_n 2, 1) := by decide +kernel
theorem dX8_off_25 : decode cX8_off 25 = .ok (.aload_n 0, 1) := by decide +kernel
theorem dX8_off_26 : decode cX8_off 26 = .ok (.getfield 16, 3) := by decide +kernel
theorem dX8_off_29 : decode cX8_off 29 = .ok (.iconst 4, 1) := by decide +kernel
theorem dX8_off_30 : decode cX8_off 30 = .ok (.iaload, 1) := by decide +kernel
theorem dX8_off_31 : decode cX8_off 31 = .ok (.iload_n 1, 1) := by decide +kernel
theorem dX8_off_32 : decode cX8_off 32 = .ok (.invokestatic 133, 3) := by decide +kernel
theorem dX8_off_35 : decode cX8_off 35 = .ok (.invokevirtual 127, 3) := by decide +kernel
theorem dX8_off_38 : decode cX8_off 38 = .ok (.ireturn, 1) := by decide +kernel
theorem dX8_now_0 : decode cX8_now 0 = .ok (.aload_n 0, 1) := by decide +kernel
theorem dX8_now_1 : decode cX8_now 1 = .ok (.invokevirtual 157, 3) := by decide +kernel
theorem dX8_now_4 : decode cX8_now 4 = .ok (.iload_n 1, 1) := by decide +kernel
theorem dX8_now_5 : decode cX8_now 5 = .ok (.tableswitch 62 0 4 #[35, 40, 47, 52, 57], 35) := by decide +kernel
theorem dX8_now_40 : decode cX8_now 40 = .ok (.aload_n 0, 1) := by decide +kernel
theorem dX8_now_41 : decode cX8_now 41 = .ok (.invokevirtual 161, 3) := by decide +kernel
theorem dX8_now_44 : decode cX8_now 44 = .ok (.ireturn, 1) := by decide +kernel
theorem dX8_now_45 : decode cX8_now 45 = .ok (.aload_n 0, 1) := by decide +kernel
theorem dX8_now_46 : decode cX8_now 46 = .ok (.getfield 16, 3) := by decide +kernel
theorem dX8_now_49 : decode cX8_now 49 = .ok (.iconst 4, 1) := by decide +kernel
theorem dX8_now_50 : decode cX8_now 50 = .ok (.iaload, 1) := by decide +kernel
theorem dX8_now_51 : decode cX8_now 51 = .ok (.ireturn, 1) := by decide +kernel
theorem dX8_now_52 : decode cX8_now 52 = .ok (.aload_n 0, 1) := by decide +kernel
theorem dX8_now_53 : decode cX8_now 53 = .ok (.invokevirtual 147, 3) := by decide +kernel
theorem dX8_now_56 : decode cX8_now 56 = .ok (.ireturn, 1) := by decide +kernel
theorem dX8_now_57 : decode cX8_now 57 = .ok (.aload_n 0, 1) := by decide +kernel
theorem dX8_now_58 : decode cX8_now 58 = .ok (.invokevirtual 164, 3) := by decide +kernel
theorem dX8_now_61 : decode cX8_now 61 = .ok (.ireturn, 1) := by decide +kernel
theorem dX8_now_62 : decode cX8_now 62 = .ok (.aload_n 0, 1) := by decide +kernel
theorem dX8_now_63 : decode cX8_now 63 = .ok (.getfield 113, 3) := by decide +kernel
theorem dX8_now_66 : decode cX8_now 66 = .ok (.ireturn, 1) := by decide +kernel
theorem dX8_now_67 : decode cX8_now 67 = .ok (.iconst (-1), 1) := by decide +kernel
theorem dX8_now_68 : decode cX8_now 68 = .ok (.ireturn, 1) := by decide +kernel
theorem dX8_remembers_0 : decode cX8_remembers 0 = .ok (.aload_n 0, 1) := by decide +kernel
theorem dX8_remembers_1 : decode cX8_remembers 1 = .ok (.getfield 113, 3) := by decide +kernel
theorem dX8_remembers_4 : decode cX8_remembers 4 = .ok (.bipush 10, 2) := by decide +kernel
theorem dX8_remembers_6 : decode cX8_remembers 6 = .ok (.if_icmp .ne 42, 3) := by decide +kernel
theorem dX8_remembers_9 : decode cX8_remembers 9 = .ok (.iconst 0, 1) := by decide +kernel
theorem dX8_remembers_10 : decode cX8_remembers 10 = .ok (.istore_n 1, 1) := by decide +kernel
theorem dX8_remembers_11 : decode cX8_remembers 11 = .ok (.iload_n 1, 1) := by decide +kernel
theorem dX8_remembers_12 : decode cX8_remembers 12 = .ok (.bipush 99, 2) := by decide +kernel
theorem dX8_remembers_14 : decode cX8_remembers 14 = .ok (.if_icmp .ge 24, 3) := by decide +kernel
theorem dX8_remembers_17 : decode cX8_remembers 17 = .ok (.aload_n 0, 1) := by decide +kernel
theorem dX8_remembers_18 : decode cX8_remembers 18 = .ok (.getfield 19, 3) := by decide +kernel
theorem dX8_remembers_21 : decode cX8_remembers 21 = .ok (.iload_n 1, 1) := by decide +kernel
theorem dX8_remembers_22 : decode cX8_remembers 22 = .ok (.aload_n 0, 1) := by decide +kernel
theorem dX8_remembers_23 : decode cX8_remembers 23 = .ok (.getfield 19, 3) := by decide +kernel
theorem dX8_remembers_26 : decode cX8_remembers 26 = .ok (.iload_n 1, 1) := by decide +kernel
theorem dX8_remembers_27 : decode cX8_remembers 27 = .ok (.bipush 11, 2) := by decide +kernel
theorem dX8_remembers_29 : decode cX8_remembers 29 = .ok (.iadd, 1) := by decide +kernel
theorem dX8_remembers_30 : decode cX8_remembers 30 = .ok (.iaload, 1) := by decide +kernel
theorem dX8_remembers_31 : decode cX8_remembers 31 = .ok (.iastore, 1) := by decide +kernel
theorem dX8_remembers_32 : decode cX8_remembers 32 = .ok (.iinc 1 1, 3) := by decide +kernel
theorem dX8_remembers_35 : decode cX8_remembers 35 = .ok (.goto (-24), 3) := by decide +kernel
theorem dX8_remembers_38 : decode cX8_remembers 38 = .ok (.aload_n 0, 1) := by decide +kernel
theorem dX8_remembers_39 : decode cX8_remembers 39 = .ok (.dup, 1) := by decide +kernel
theorem dX8_remembers_40 : decode cX8_remembers 40 = .ok (.getfield 113, 3) := by decide +kernel
theorem dX8_remembers_43 : decode cX8_remembers 43 = .ok (.iconst 1, 1) := by decide +kernel
theorem dX8_remembers_44 : decode cX8_remembers 44 = .ok (.isub, 1) := by decide +kernel
theorem dX8_remembers_45 : decode cX8_remembers 45 = .ok (.putfield 113, 3) := by decide +kernel
theorem dX8_remembers_48 : decode cX8_remembers 48 = .ok (.aload_n 0, 1) := by decide +kernel
theorem dX8_remembers_49 : decode cX8_remembers 49 = .ok (.getfield 19, 3) := by decide +kernel
theorem dX8_remembers_52 : decode cX8_remembers 52 = .ok (.bipush 11, 2) := by decide +kernel
theorem dX8_remembers_54 : decode cX8_remembers 54 = .ok (.aload_n 0, 1) := by decide +kernel
theorem dX8_remembers_55 : decode cX8_remembers 55 = .ok (.getfield 113, 3) := by decide +kernel
theorem dX8_remembers_58 : decode cX8_remembers 58 = .ok (.imul, 1) := by decide +kernel
theorem dX8_remembers_59 : decode cX8_remembers 59 = .ok (.aload_n 0, 1) := by decide +kernel
theorem dX8_remembers_60 : decode cX8_remembers 60 = .ok (.getfield 16, 3) := by decide +kernel
theorem dX8_remembers_63 : decode cX8_remembers 63 = .ok (.iconst 0, 1) := by decide +kernel
theorem dX8_remembers_64 : decode cX8_remembers 64 = .ok (.invokestatic 119, 3) := by decide +kernel
theorem dX8_remembers_67 : decode cX8_remembers 67 = .ok (.aload_n 0, 1) := by decide +kernel
theorem dX8_remembers_68 : decode cX8_remembers 68 = .ok (.dup, 1) := by decide +kernel
theorem dX8_remembers_69 : decode cX8_remembers 69 = .ok (.getfield 113, 3) := by decide +kernel
theorem dX8_remembers_72 : decode cX8_remembers 72 = .ok (.iconst 1, 1) := by decide +kernel
theorem dX8_remembers_73 : decode cX8_remembers 73 = .ok (.iadd, 1) := by decide +kernel
theorem dX8_remembers_74 : decode cX8_remembers 74 = .ok (.putfield 113, 3) := by decide +kernel
theorem dX8_remembers_77 : decode cX8_remembers 77 = .ok (.return_, 1) := by decide +kernel
theorem dX8_adds_0 : decode cX8_adds 0 = .ok (.iload_n 1, 1) := by decide +kernel
theorem dX8_adds_1 : decode cX8_adds 1 = .ok (.invokestatic 151, 3) := by decide +kernel
theorem dX8_adds_4 : decode cX8_adds 4 = .ok (.ifCond .ne 5, 3) := by decide +kernel
theorem dX8_adds_7 : decode cX8_adds 7 = .ok (.iconst (-1), 1) := by decide +kernel
theorem dX8_adds_8 : decode cX8_adds 8 = .ok (.ireturn, 1) := by decide +kernel
theorem dX8_adds_9 : decode cX8_adds 9 = .ok (.aload_n 0, 1) := by decide +kernel
theorem dX8_adds_10 : decode cX8_adds 10 = .ok (.getfield 16, 3) := by decide +kernel
theorem dX8_adds_13 : decode cX8_adds 13 = .ok (.iconst 0, 1) := by decide +kernel
theorem dX8_adds_14 : decode cX8_adds 14 = .ok (.iload_n 1, 1) := by decide +kernel
theorem dX8_adds_15 : decode cX8_adds 15 = .ok (.iadd, 1) := by decide +kernel
theorem dX8_adds_16 : decode cX8_adds 16 = .ok (.iaload, 1) := by decide +kernel
theorem dX8_adds_17 : decode cX8_adds 17 = .ok (.iconst 5, 1) := by decide +kernel
theorem dX8_adds_18 : decode cX8_adds 18 = .ok (.if_icmp .ne 6, 3) := by decide +kernel
theorem dX8_adds_21 : decode cX8_adds 21 = .ok (.bipush (-2), 2) := by decide +kernel
theorem dX8_adds_23 : decode cX8_adds 23 = .ok (.ireturn, 1) := by decide +kernel
theorem dX8_adds_24 : decode cX8_adds 24 = .ok (.aload_n 0, 1) := by decide +kernel
theorem dX8_adds_25 : decode cX8_adds 25 = .ok (.invokevirtual 167, 3) := by decide +kernel
theorem dX8_adds_28 : decode cX8_adds 28 = .ok (.aload_n 0, 1) := by decide +kernel
theorem dX8_adds_29 : decode cX8_adds 29 = .ok (.getfield 16, 3) := by decide +kernel
theorem dX8_adds_32 : decode cX8_adds 32 = .ok (.iconst 0, 1) := by decide +kernel
theorem dX8_adds_33 : decode cX8_adds 33 = .ok (.iload_n 1, 1) := by decide +kernel
theorem dX8_adds_34 : decode cX8_adds 34 = .ok (.iadd, 1) := by decide +kernel
theorem dX8_adds_35 : decode cX8_adds 35 = .ok (.dup2, 1) := by decide +kernel
theorem dX8_adds_36 : decode cX8_adds 36 = .ok (.iaload, 1) := by decide +kernel
theorem dX8_adds_37 : decode cX8_adds 37 = .ok (.iconst 1, 1) := by decide +kernel
theorem dX8_adds_38 : decode cX8_adds 38 = .ok (.iadd, 1) := by decide +kernel
theorem dX8_adds_39 : decode cX8_adds 39 = .ok (.iastore, 1) := by decide +kernel
theorem dX8_adds_40 : decode cX8_adds 40 = .ok (.aload_n 0, 1) := by decide +kernel
theorem dX8_adds_41 : decode cX8_adds 41 = .ok (.getfield 16, 3) := by decide +kernel
theorem dX8_adds_44 : decode cX8_adds 44 = .ok (.iconst 0, 1) := by decide +kernel
theorem dX8_adds_45 : decode cX8_adds 45 = .ok (.iload_n 1, 1) := by decide +kernel
theorem dX8_adds_46 : decode cX8_adds 46 = .ok (.iadd, 1) := by decide +kernel
theorem dX8_adds_47 : decode cX8_adds 47 = .ok (.iaload, 1) := by decide +kernel
theorem dX8_adds_48 : decode cX8_adds 48 = .ok (.ireturn, 1) := by decide +kernel
theorem dX8_waters_0 : decode cX8_waters 0 = .ok (.aload_n 0, 1) := by decide +kernel
theorem dX8_waters_1 : decode cX8_waters 1 = .ok (.invokevirtual 157, 3) := by decide +kernel
theorem dX8_waters_4 : decode cX8_waters 4 = .ok (.aload_n 0, 1) := by decide +kernel
theorem dX8_waters_5 : decode cX8_waters 5 = .ok (.invokevirtual 147, 3) := by decide +kernel
theorem dX8_waters_8 : decode cX8_waters 8 = .ok (.ifCond .ne 6, 3) := by decide +kernel
theorem dX8_waters_11 : decode cX8_waters 11 = .ok (.bipush (-2), 2) := by decide +kernel
theorem dX8_waters_13 : decode cX8_waters 13 = .ok (.ireturn, 1) := by decide +kernel
theorem dX8_waters_14 : decode cX8_waters 14 = .ok (.aload_n 0, 1) := by decide +kernel
theorem dX8_waters_15 : decode cX8_waters 15 = .ok (.invokevirtual 167, 3) := by decide +kernel
theorem dX8_waters_18 : decode cX8_waters 18 = .ok (.aload_n 0, 1) := by decide +kernel
theorem dX8_waters_19 : decode cX8_waters 19 = .ok (.iconst 4, 1) := by decide +kernel
theorem dX8_waters_20 : decode cX8_waters 20 = .ok (.invokevirtual 170, 3) := by decide +kernel
theorem dX8_waters_23 : decode cX8_waters 23 = .ok (.aload_n 0, 1) := by decide +kernel
theorem dX8_waters_24 : decode cX8_waters 24 = .ok (.getfield 16, 3) := by decide +kernel
theorem dX8_waters_27 : decode cX8_waters 27 = .ok (.iconst 0, 1) := by decide +kernel
theorem dX8_waters_28 : decode cX8_waters 28 = .ok (.aload_n 0, 1) := by decide +kernel
theorem dX8_waters_29 : decode cX8_waters 29 = .ok (.getfield 44, 3) := by decide +kernel
theorem dX8_waters_32 : decode cX8_waters 32 = .ok (.iconst 0, 1) := by decide +kernel
theorem dX8_waters_33 : decode cX8_waters 33 = .ok (.invokestatic 119, 3) := by decide +kernel
theorem dX8_waters_36 : decode cX8_waters 36 = .ok (.aload_n 0, 1) := by decide +kernel
theorem dX8_waters_37 : decode cX8_waters 37 = .ok (.invokevirtual 147, 3) := by decide +kernel
theorem dX8_waters_40 : decode cX8_waters 40 = .ok (.ireturn, 1) := by decide +kernel
theorem dX8_sends_0 : decode cX8_sends 0 = .ok (.aload_n 0, 1) := by decide +kernel
theorem dX8_sends_1 : decode cX8_sends 1 = .ok (.iload_n 1, 1) := by decide +kernel
theorem dX8_sends_2 : decode cX8_sends 2 = .ok (.invokevirtual 154, 3) := by decide +kernel
theorem dX8_sends_5 : decode cX8_sends 5 = .ok (.ifCond .ne 5, 3) := by decide +kernel
theorem dX8_sends_8 : decode cX8_sends 8 = .ok (.iconst (-1), 1) := by decide +kernel
theorem dX8_sends_9 : decode cX8_sends 9 = .ok (.ireturn, 1) := by decide +kernel
theorem dX8_sends_10 : decode cX8_sends 10 = .ok (.aload_n 0, 1) := by decide +kernel
theorem dX8_sends_11 : decode cX8_sends 11 = .ok (.invokevirtual 167, 3) := by decide +kernel
theorem dX8_sends_14 : decode cX8_sends 14 = .ok (.aload_n 0, 1) := by decide +kernel
theorem dX8_sends_15 : decode cX8_sends 15 = .ok (.invokevirtual 157, 3) := by decide +kernel
theorem dX8_sends_18 : decode cX8_sends 18 = .ok (.aload_n 0, 1) := by decide +kernel
theorem dX8_sends_19 : decode cX8_sends 19 = .ok (.getfield 16, 3) := by decide +kernel
theorem dX8_sends_22 : decode cX8_sends 22 = .ok (.iconst 5, 1) := by decide +kernel
theorem dX8_sends_23 : decode cX8_sends 23 = .ok (.iload_n 1, 1) := by decide +kernel
theorem dX8_sends_24 : decode cX8_sends 24 = .ok (.iadd, 1) := by decide +kernel
theorem dX8_sends_25 : decode cX8_sends 25 = .ok (.aload_n 0, 1) := by decide +kernel
theorem dX8_sends_26 : decode cX8_sends 26 = .ok (.iload_n 1, 1) := by decide +kernel
theorem dX8_sends_27 : decode cX8_sends 27 = .ok (.invokevirtual 141, 3) := by decide +kernel
theorem dX8_sends_30 : decode cX8_sends 30 = .ok (.iastore, 1) := by decide +kernel
theorem dX8_sends_31 : decode cX8_sends 31 = .ok (.aload_n 0, 1) := by decide +kernel
theorem dX8_sends_32 : decode cX8_sends 32 = .ok (.getfield 16, 3) := by decide +kernel
theorem dX8_sends_35 : decode cX8_sends 35 = .ok (.iconst 5, 1) := by decide +kernel
theorem dX8_sends_36 : decode cX8_sends 36 = .ok (.iload_n 1, 1) := by decide +kernel
theorem dX8_sends_37 : decode cX8_sends 37 = .ok (.iadd, 1) := by decide +kernel
theorem dX8_sends_38 : decode cX8_sends 38 = .ok (.iaload, 1) := by decide +kernel
theorem dX8_sends_39 : decode cX8_sends 39 = .ok (.ireturn, 1) := by decide +kernel
theorem dX8_colds_0 : decode cX8_colds 0 = .ok (.aload_n 0, 1) := by decide +kernel
theorem dX8_colds_1 : decode cX8_colds 1 = .ok (.iload_n 1, 1) := by decide +kernel
theorem dX8_colds_2 : decode cX8_colds 2 = .ok (.invokevirtual 154, 3) := by decide +kernel
theorem dX8_colds_5 : decode cX8_colds 5 = .ok (.ifCond .eq 12, 3) := by decide +kernel
theorem dX8_colds_8 : decode cX8_colds 8 = .ok (.iload_n 2, 1) := by decide +kernel
theorem dX8_colds_9 : decode cX8_colds 9 = .ok (.iconst 0, 1) := by decide +kernel
theorem dX8_colds_10 : decode cX8_colds 10 = .ok (.iconst 1, 1) := by decide +kernel
theorem dX8_colds_11 : decode cX8_colds 11 = .ok (.invokestatic 54, 3) := by decide +kernel
theorem dX8_colds_14 : decode cX8_colds 14 = .ok (.ifCond .ne 5, 3) := by decide +kernel
theorem dX8_colds_17 : decode cX8_colds 17 = .ok (.iconst (-1), 1) := by decide +kernel
theorem dX8_colds_18 : decode cX8_colds 18 = .ok (.ireturn, 1) := by decide +kernel
theorem dX8_colds_19 : decode cX8_colds 19 = .ok (.aload_n 0, 1) := by decide +kernel
theorem dX8_colds_20 : decode cX8_colds 20 = .ok (.getfield 16, 3) := by decide +kernel
theorem dX8_colds_23 : decode cX8_colds 23 = .ok (.iconst 4, 1) := by decide +kernel
theorem dX8_colds_24 : decode cX8_colds 24 = .ok (.iaload, 1) := by decide +kernel
theorem dX8_colds_25 : decode cX8_colds 25 = .ok (.iload_n 1, 1) := by decide +kernel
theorem dX8_colds_26 : decode cX8_colds 26 = .ok (.ishr, 1) := by decide +kernel
theorem dX8_colds_27 : decode cX8_colds 27 = .ok (.iconst 1, 1) := by decide +kernel
theorem dX8_colds_28 : decode cX8_colds 28 = .ok (.iand, 1) := by decide +kernel
theorem dX8_colds_29 : decode cX8_colds 29 = .ok (.iload_n 2, 1) := by decide +kernel
theorem dX8_colds_30 : decode cX8_colds 30 = .ok (.if_icmp .ne 6, 3) := by decide +kernel
theorem dX8_colds_33 : decode cX8_colds 33 = .ok (.bipush (-2), 2) := by decide +kernel
theorem dX8_colds_35 : decode cX8_colds 35 = .ok (.ireturn, 1) := by decide +kernel
theorem dX8_colds_36 : decode cX8_colds 36 = .ok (.aload_n 0, 1) := by decide +kernel
theorem dX8_colds_37 : decode cX8_colds 37 = .ok (.invokevirtual 167, 3) := by decide +kernel
theorem dX8_colds_40 : decode cX8_colds 40 = .ok (.aload_n 0, 1) := by decide +kernel
theorem dX8_colds_41 : decode cX8_colds 41 = .ok (.getfield 16, 3) := by decide +kernel
theorem dX8_colds_44 : decode cX8_colds 44 = .ok (.iconst 4, 1) := by decide +kernel
theorem dX8_colds_45 : decode cX8_colds 45 = .ok (.dup2, 1) := by decide +kernel
theorem dX8_colds_46 : decode cX8_colds 46 = .ok (.iaload, 1) := by decide +kernel
theorem dX8_colds_47 : decode cX8_colds 47 = .ok (.iconst 1, 1) := by decide +kernel
theorem dX8_colds_48 : decode cX8_colds 48 = .ok (.iload_n 1, 1) := by decide +kernel
theorem dX8_colds_49 : decode cX8_colds 49 = .ok (.ishl, 1) := by decide +kernel
theorem dX8_colds_50 : decode cX8_colds 50 = .ok (.ixor, 1) := by decide +kernel
theorem dX8_colds_51 : decode cX8_colds 51 = .ok (.iastore, 1) := by decide +kernel
theorem dX8_colds_52 : decode cX8_colds 52 = .ok (.aload_n 0, 1) := by decide +kernel
theorem dX8_colds_53 : decode cX8_colds 53 = .ok (.getfield 16, 3) := by decide +kernel
theorem dX8_colds_56 : decode cX8_colds 56 = .ok (.iconst 4, 1) := by decide +kernel
theorem dX8_colds_57 : decode cX8_colds 57 = .ok (.iaload, 1) := by decide +kernel
theorem dX8_colds_58 : decode cX8_colds 58 = .ok (.invokestatic 174, 3) := by decide +kernel
theorem dX8_colds_61 : decode cX8_colds 61 = .ok (.ireturn, 1) := by decide +kernel
theorem dX8_undo_0 : decode cX8_undo 0 = .ok (.aload_n 0, 1) := by decide +kernel
theorem dX8_undo_1 : decode cX8_undo 1 = .ok (.getfield 113, 3) := by decide +kernel
theorem dX8_undo_4 : decode cX8_undo 4 = .ok (.ifCond .ne 6, 3) := by decide +kernel
theorem dX8_undo_7 : decode cX8_undo 7 = .ok (.bipush (-2), 2) := by decide +kernel
theorem dX8_undo_9 : decode cX8_undo 9 = .ok (.ireturn, 1) := by decide +kernel
theorem dX8_undo_10 : decode cX8_undo 10 = .ok (.aload_n 0, 1) := by decide +kernel
theorem dX8_undo_11 : decode cX8_undo 11 = .ok (.dup, 1) := by decide +kernel
theorem dX8_undo_12 : decode cX8_undo 12 = .ok (.getfield 113, 3) := by decide +kernel
theorem dX8_undo_15 : decode cX8_undo 15 = .ok (.iconst 1, 1) := by decide +kernel
theorem dX8_undo_16 : decode cX8_undo 16 = .ok (.isub, 1) := by decide +kernel
theorem dX8_undo_17 : decode cX8_undo 17 = .ok (.putfield 113, 3) := by decide +kernel
theorem dX8_undo_20 : decode cX8_undo 20 = .ok (.aload_n 0, 1) := by decide +kernel
theorem dX8_undo_21 : decode cX8_undo 21 = .ok (.getfield 16, 3) := by decide +kernel
theorem dX8_undo_24 : decode cX8_undo 24 = .ok (.iconst 0, 1) := by decide +kernel
theorem dX8_undo_25 : decode cX8_undo 25 = .ok (.aload_n 0, 1) := by decide +kernel
theorem dX8_undo_26 : decode cX8_undo 26 = .ok (.getfield 19, 3) := by decide +kernel
theorem dX8_undo_29 : decode cX8_undo 29 = .ok (.bipush 11, 2) := by decide +kernel
theorem dX8_undo_31 : decode cX8_undo 31 = .ok (.aload_n 0, 1) := by decide +kernel
theorem dX8_undo_32 : decode cX8_undo 32 = .ok (.getfield 113, 3) := by decide +kernel
theorem dX8_undo_35 : decode cX8_undo 35 = .ok (.imul, 1) := by decide +kernel
theorem dX8_undo_36 : decode cX8_undo 36 = .ok (.invokestatic 119, 3) := by decide +kernel
theorem dX8_undo_39 : decode cX8_undo 39 = .ok (.aload_n 0, 1) := by decide +kernel
theorem dX8_undo_40 : decode cX8_undo 40 = .ok (.getfield 113, 3) := by decide +kernel
theorem dX8_undo_43 : decode cX8_undo 43 = .ok (.ireturn, 1) := by decide +kernel
theorem dX8_fives_0 : decode cX8_fives 0 = .ok (.iconst 1, 1) := by decide +kernel
theorem dX8_fives_1 : decode cX8_fives 1 = .ok (.istore_n 1, 1) := by decide +kernel
theorem dX8_fives_2 : decode cX8_fives 2 = .ok (.iconst 0, 1) := by decide +kernel
theorem dX8_fives_3 : decode cX8_fives 3 = .ok (.istore_n 2, 1) := by decide +kernel
theorem dX8_fives_4 : decode cX8_fives 4 = .ok (.iload_n 2, 1) := by decide +kernel
theorem dX8_fives_5 : decode cX8_fives 5 = .ok (.iload_n 0, 1) := by decide +kernel
theorem dX8_fives_6 : decode cX8_fives 6 = .ok (.if_icmp .ge 13, 3) := by decide +kernel
theorem dX8_fives_9 : decode cX8_fives 9 = .ok (.iload_n 1, 1) := by decide +kernel
theorem dX8_fives_10 : decode cX8_fives 10 = .ok (.iconst 5, 1) := by decide +kernel
theorem dX8_fives_11 : decode cX8_fives 11 = .ok (.imul, 1) := by decide +kernel
theorem dX8_fives_12 : decode cX8_fives 12 = .ok (.istore_n 1, 1) := by decide +kernel
theorem dX8_fives_13 : decode cX8_fives 13 = .ok (.iinc 2 1, 3) := by decide +kernel
theorem dX8_fives_16 : decode cX8_fives 16 = .ok (.goto (-12), 3) := by decide +kernel
theorem dX8_fives_19 : decode cX8_fives 19 = .ok (.iload_n 1, 1) := by decide +kernel
theorem dX8_fives_20 : decode cX8_fives 20 = .ok (.ireturn, 1) := by decide +kernel
theorem dX8_calmsBy_0 : decode cX8_calmsBy 0 = .ok (.iconst 1, 1) := by decide +kernel
theorem dX8_calmsBy_1 : decode cX8_calmsBy 1 = .ok (.istore 4, 2) := by decide +kernel
theorem dX8_calmsBy_3 : decode cX8_calmsBy 3 = .ok (.aload_n 0, 1) := by decide +kernel
theorem dX8_calmsBy_4 : decode cX8_calmsBy 4 = .ok (.invokevirtual 157, 3) := by decide +kernel
theorem dX8_calmsBy_7 : decode cX8_calmsBy 7 = .ok (.iconst 0, 1) := by decide +kernel
theorem dX8_calmsBy_8 : decode cX8_calmsBy 8 = .ok (.istore 5, 2) := by decide +kernel
theorem dX8_calmsBy_10 : decode cX8_calmsBy 10 = .ok (.iload 5, 2) := by decide +kernel
theorem dX8_calmsBy_12 : decode cX8_calmsBy 12 = .ok (.iload_n 3, 1) := by decide +kernel
theorem dX8_calmsBy_13 : decode cX8_calmsBy 13 = .ok (.if_icmp .ge 48, 3) := by decide +kernel
theorem dX8_calmsBy_16 : decode cX8_calmsBy 16 = .ok (.iload 4, 2) := by decide +kernel
theorem dX8_calmsBy_18 : decode cX8_calmsBy 18 = .ok (.ifCond .eq 43, 3) := by decide +kernel
theorem dX8_calmsBy_21 : decode cX8_calmsBy 21 = .ok (.iload_n 2, 1) := by decide +kernel
theorem dX8_calmsBy_22 : decode cX8_calmsBy 22 = .ok (.iload_n 3, 1) := by decide +kernel
theorem dX8_calmsBy_23 : decode cX8_calmsBy 23 = .ok (.iconst 1, 1) := by decide +kernel
theorem dX8_calmsBy_24 : decode cX8_calmsBy 24 = .ok (.isub, 1) := by decide +kernel
theorem dX8_calmsBy_25 : decode cX8_calmsBy 25 = .ok (.iload 5, 2) := by decide +kernel
theorem dX8_calmsBy_27 : decode cX8_calmsBy 27 = .ok (.isub, 1) := by decide +kernel
theorem dX8_calmsBy_28 : decode cX8_calmsBy 28 = .ok (.invokestatic 177, 3) := by decide +kernel
theorem dX8_calmsBy_31 : decode cX8_calmsBy 31 = .ok (.idiv, 1) := by decide +kernel
theorem dX8_calmsBy_32 : decode cX8_calmsBy 32 = .ok (.iconst 5, 1) := by decide +kernel
theorem dX8_calmsBy_33 : decode cX8_calmsBy 33 = .ok (.irem, 1) := by decide +kernel
theorem dX8_calmsBy_34 : decode cX8_calmsBy 34 = .ok (.istore 6, 2) := by decide +kernel
theorem dX8_calmsBy_36 : decode cX8_calmsBy 36 = .ok (.aload_n 0, 1) := by decide +kernel
theorem dX8_calmsBy_37 : decode cX8_calmsBy 37 = .ok (.iload 6, 2) := by decide +kernel
theorem dX8_calmsBy_39 : decode cX8_calmsBy 39 = .ok (.invokevirtual 180, 3) := by decide +kernel
theorem dX8_calmsBy_42 : decode cX8_calmsBy 42 = .ok (.istore 4, 2) := by decide +kernel
theorem dX8_calmsBy_44 : decode cX8_calmsBy 44 = .ok (.iload 4, 2) := by decide +kernel
theorem dX8_calmsBy_46 : decode cX8_calmsBy 46 = .ok (.ifCond .eq 9, 3) := by decide +kernel
theorem dX8_calmsBy_49 : decode cX8_calmsBy 49 = .ok (.aload_n 0, 1) := by decide +kernel
theorem dX8_calmsBy_50 : decode cX8_calmsBy 50 = .ok (.iload 6, 2) := by decide +kernel
theorem dX8_calmsBy_52 : decode cX8_calmsBy 52 = .ok (.invokevirtual 170, 3) := by decide +kernel
theorem dX8_calmsBy_55 : decode cX8_calmsBy 55 = .ok (.iinc 5 1, 3) := by decide +kernel
theorem dX8_calmsBy_58 : decode cX8_calmsBy 58 = .ok (.goto (-48), 3) := by decide +kernel
theorem dX8_calmsBy_61 : decode cX8_calmsBy 61 = .ok (.iload 4, 2) := by decide +kernel
theorem dX8_calmsBy_63 : decode cX8_calmsBy 63 = .ok (.ifCond .eq 18, 3) := by decide +kernel
theorem dX8_calmsBy_66 : decode cX8_calmsBy 66 = .ok (.iload_n 1, 1) := by decide +kernel
theorem dX8_calmsBy_67 : decode cX8_calmsBy 67 = .ok (.aload_n 0, 1) := by decide +kernel
theorem dX8_calmsBy_68 : decode cX8_calmsBy 68 = .ok (.invokevirtual 161, 3) := by decide +kernel
theorem dX8_calmsBy_71 : decode cX8_calmsBy 71 = .ok (.iconst (-1), 1) := by decide +kernel
theorem dX8_calmsBy_72 : decode cX8_calmsBy 72 = .ok (.ixor, 1) := by decide +kernel
theorem dX8_calmsBy_73 : decode cX8_calmsBy 73 = .ok (.iand, 1) := by decide +kernel
theorem dX8_calmsBy_74 : decode cX8_calmsBy 74 = .ok (.ifCond .ne 7, 3) := by decide +kernel
theorem dX8_calmsBy_77 : decode cX8_calmsBy 77 = .ok (.iconst 1, 1) := by decide +kernel
theorem dX8_calmsBy_78 : decode cX8_calmsBy 78 = .ok (.goto 4, 3) := by decide +kernel
theorem dX8_calmsBy_81 : decode cX8_calmsBy 81 = .ok (.iconst 0, 1) := by decide +kernel
theorem dX8_calmsBy_82 : decode cX8_calmsBy 82 = .ok (.ireturn, 1) := by decide +kernel
theorem dX8_plan_0 : decode cX8_plan 0 = .ok (.iload_n 1, 1) := by decide +kernel
theorem dX8_plan_1 : decode cX8_plan 1 = .ok (.iconst 0, 1) := by decide +kernel
theorem dX8_plan_2 : decode cX8_plan 2 = .ok (.iconst 1, 1) := by decide +kernel
theorem dX8_plan_3 : decode cX8_plan 3 = .ok (.aload_n 0, 1) := by decide +kernel
theorem dX8_plan_4 : decode cX8_plan 4 = .ok (.getfield 50, 3) := by decide +kernel
theorem dX8_plan_7 : decode cX8_plan 7 = .ok (.ishl, 1) := by decide +kernel
theorem dX8_plan_8 : decode cX8_plan 8 = .ok (.iconst 1, 1) := by decide +kernel
theorem dX8_plan_9 : decode cX8_plan 9 = .ok (.isub, 1) := by decide +kernel
theorem dX8_plan_10 : decode cX8_plan 10 = .ok (.invokestatic 54, 3) := by decide +kernel
theorem dX8_plan_13 : decode cX8_plan 13 = .ok (.ifCond .eq 12, 3) := by decide +kernel
theorem dX8_plan_16 : decode cX8_plan 16 = .ok (.iload_n 2, 1) := by decide +kernel
theorem dX8_plan_17 : decode cX8_plan 17 = .ok (.iconst (-1), 1) := by decide +kernel
theorem dX8_plan_18 : decode cX8_plan 18 = .ok (.iconst 4, 1) := by decide +kernel
theorem dX8_plan_19 : decode cX8_plan 19 = .ok (.invokestatic 54, 3) := by decide +kernel
theorem dX8_plan_22 : decode cX8_plan 22 = .ok (.ifCond .ne 5, 3) := by decide +kernel
theorem dX8_plan_25 : decode cX8_plan 25 = .ok (.iconst (-1), 1) := by decide +kernel
theorem dX8_plan_26 : decode cX8_plan 26 = .ok (.ireturn, 1) := by decide +kernel
theorem dX8_plan_27 : decode cX8_plan 27 = .ok (.iconst 0, 1) := by decide +kernel
theorem dX8_plan_28 : decode cX8_plan 28 = .ok (.istore_n 3, 1) := by decide +kernel
theorem dX8_plan_29 : decode cX8_plan 29 = .ok (.iload_n 3, 1) := by decide +kernel
theorem dX8_plan_30 : decode cX8_plan 30 = .ok (.iconst 5, 1) := by decide +kernel
theorem dX8_plan_31 : decode cX8_plan 31 = .ok (.if_icmp .gt 70, 3) := by decide +kernel
theorem dX8_plan_34 : decode cX8_plan 34 = .ok (.iconst 0, 1) := by decide +kernel
theorem dX8_plan_35 : decode cX8_plan 35 = .ok (.istore 4, 2) := by decide +kernel
theorem dX8_plan_37 : decode cX8_plan 37 = .ok (.iload 4, 2) := by decide +kernel
theorem dX8_plan_39 : decode cX8_plan 39 = .ok (.iload_n 3, 1) := by decide +kernel
theorem dX8_plan_40 : decode cX8_plan 40 = .ok (.invokestatic 177, 3) := by decide +kernel
theorem dX8_plan_43 : decode cX8_plan 43 = .ok (.if_icmp .ge 52, 3) := by decide +kernel
theorem dX8_plan_46 : decode cX8_plan 46 = .ok (.aload_n 0, 1) := by decide +kernel
theorem dX8_plan_47 : decode cX8_plan 47 = .ok (.iload_n 1, 1) := by decide +kernel
theorem dX8_plan_48 : decode cX8_plan 48 = .ok (.iload 4, 2) := by decide +kernel
theorem dX8_plan_50 : decode cX8_plan 50 = .ok (.iload_n 3, 1) := by decide +kernel
theorem dX8_plan_51 : decode cX8_plan 51 = .ok (.invokevirtual 183, 3) := by decide +kernel
theorem dX8_plan_54 : decode cX8_plan 54 = .ok (.ifCond .eq 35, 3) := by decide +kernel
theorem dX8_plan_57 : decode cX8_plan 57 = .ok (.iload_n 2, 1) := by decide +kernel
theorem dX8_plan_58 : decode cX8_plan 58 = .ok (.ifCond .ge 7, 3) := by decide +kernel
theorem dX8_plan_61 : decode cX8_plan 61 = .ok (.iload_n 3, 1) := by decide +kernel
theorem dX8_plan_62 : decode cX8_plan 62 = .ok (.goto 26, 3) := by decide +kernel
theorem dX8_plan_65 : decode cX8_plan 65 = .ok (.iload_n 2, 1) := by decide +kernel
theorem dX8_plan_66 : decode cX8_plan 66 = .ok (.iload_n 3, 1) := by decide +kernel
theorem dX8_plan_67 : decode cX8_plan 67 = .ok (.if_icmp .ge 19, 3) := by decide +kernel
theorem dX8_plan_70 : decode cX8_plan 70 = .ok (.iload 4, 2) := by decide +kernel
theorem dX8_plan_72 : decode cX8_plan 72 = .ok (.iload_n 3, 1) := by decide +kernel
theorem dX8_plan_73 : decode cX8_plan 73 = .ok (.iconst 1, 1) := by decide +kernel
theorem dX8_plan_74 : decode cX8_plan 74 = .ok (.isub, 1) := by decide +kernel
theorem dX8_plan_75 : decode cX8_plan 75 = .ok (.iload_n 2, 1) := by decide +kernel
theorem dX8_plan_76 : decode cX8_plan 76 = .ok (.isub, 1) := by decide +kernel
theorem dX8_plan_77 : decode cX8_plan 77 = .ok (.invokestatic 177, 3) := by decide +kernel
theorem dX8_plan_80 : decode cX8_plan 80 = .ok (.idiv, 1) := by decide +kernel
theorem dX8_plan_81 : decode cX8_plan 81 = .ok (.iconst 5, 1) := by decide +kernel
theorem dX8_plan_82 : decode cX8_plan 82 = .ok (.irem, 1) := by decide +kernel
theorem dX8_plan_83 : decode cX8_plan 83 = .ok (.goto 5, 3) := by decide +kernel
theorem dX8_plan_86 : decode cX8_plan 86 = .ok (.bipush (-9), 2) := by decide +kernel
theorem dX8_plan_88 : decode cX8_plan 88 = .ok (.ireturn, 1) := by decide +kernel
theorem dX8_plan_89 : decode cX8_plan 89 = .ok (.iinc 4 1, 3) := by decide +kernel
theorem dX8_plan_92 : decode cX8_plan 92 = .ok (.goto (-55), 3) := by decide +kernel
theorem dX8_plan_95 : decode cX8_plan 95 = .ok (.iinc 3 1, 3) := by decide +kernel
theorem dX8_plan_98 : decode cX8_plan 98 = .ok (.goto (-69), 3) := by decide +kernel
theorem dX8_plan_101 : decode cX8_plan 101 = .ok (.bipush (-9), 2) := by decide +kernel
theorem dX8_plan_103 : decode cX8_plan 103 = .ok (.ireturn, 1) := by decide +kernel
theorem dX8_mindOf_0 : decode cX8_mindOf 0 = .ok (.iconst 0, 1) := by decide +kernel
theorem dX8_mindOf_1 : decode cX8_mindOf 1 = .ok (.istore 4, 2) := by decide +kernel
theorem dX8_mindOf_3 : decode cX8_mindOf 3 = .ok (.iconst 0, 1) := by decide +kernel
theorem dX8_mindOf_4 : decode cX8_mindOf 4 = .ok (.istore 5, 2) := by decide +kernel
theorem dX8_mindOf_6 : decode cX8_mindOf 6 = .ok (.iload 5, 2) := by decide +kernel
theorem dX8_mindOf_8 : decode cX8_mindOf 8 = .ok (.aload_n 0, 1) := by decide +kernel
theorem dX8_mindOf_9 : decode cX8_mindOf 9 = .ok (.getfield 50, 3) := by decide +kernel
theorem dX8_mindOf_12 : decode cX8_mindOf 12 = .ok (.if_icmp .ge 58, 3) := by decide +kernel
theorem dX8_mindOf_15 : decode cX8_mindOf 15 = .ok (.iload 4, 2) := by decide +kernel
theorem dX8_mindOf_17 : decode cX8_mindOf 17 = .ok (.iload_n 1, 1) := by decide +kernel
theorem dX8_mindOf_18 : decode cX8_mindOf 18 = .ok (.iload 5, 2) := by decide +kernel
theorem dX8_mindOf_20 : decode cX8_mindOf 20 = .ok (.invokestatic 133, 3) := by decide +kernel
theorem dX8_mindOf_23 : decode cX8_mindOf 23 = .ok (.ifCond .eq 37, 3) := by decide +kernel
theorem dX8_mindOf_26 : decode cX8_mindOf 26 = .ok (.iload_n 3, 1) := by decide +kernel
theorem dX8_mindOf_27 : decode cX8_mindOf 27 = .ok (.iload_n 2, 1) := by decide +kernel
theorem dX8_mindOf_28 : decode cX8_mindOf 28 = .ok (.aload_n 0, 1) := by decide +kernel
theorem dX8_mindOf_29 : decode cX8_mindOf 29 = .ok (.getfield 16, 3) := by decide +kernel
theorem dX8_mindOf_32 : decode cX8_mindOf 32 = .ok (.iconst 4, 1) := by decide +kernel
theorem dX8_mindOf_33 : decode cX8_mindOf 33 = .ok (.iaload, 1) := by decide +kernel
theorem dX8_mindOf_34 : decode cX8_mindOf 34 = .ok (.iload 5, 2) := by decide +kernel
theorem dX8_mindOf_36 : decode cX8_mindOf 36 = .ok (.invokestatic 133, 3) := by decide +kernel
theorem dX8_mindOf_39 : decode cX8_mindOf 39 = .ok (.invokestatic 123, 3) := by decide +kernel
theorem dX8_mindOf_42 : decode cX8_mindOf 42 = .ok (.aload_n 0, 1) := by decide +kernel
theorem dX8_mindOf_43 : decode cX8_mindOf 43 = .ok (.getfield 7, 3) := by decide +kernel
theorem dX8_mindOf_46 : decode cX8_mindOf 46 = .ok (.iconst 4, 1) := by decide +kernel
theorem dX8_mindOf_47 : decode cX8_mindOf 47 = .ok (.iload 5, 2) := by decide +kernel
theorem dX8_mindOf_49 : decode cX8_mindOf 49 = .ok (.imul, 1) := by decide +kernel
theorem dX8_mindOf_50 : decode cX8_mindOf 50 = .ok (.iload_n 2, 1) := by decide +kernel
theorem dX8_mindOf_51 : decode cX8_mindOf 51 = .ok (.iadd, 1) := by decide +kernel
theorem dX8_mindOf_52 : decode cX8_mindOf 52 = .ok (.iaload, 1) := by decide +kernel
theorem dX8_mindOf_53 : decode cX8_mindOf 53 = .ok (.isub, 1) := by decide +kernel
theorem dX8_mindOf_54 : decode cX8_mindOf 54 = .ok (.invokestatic 130, 3) := by decide +kernel
theorem dX8_mindOf_57 : decode cX8_mindOf 57 = .ok (.goto 4, 3) := by decide +kernel
theorem dX8_mindOf_60 : decode cX8_mindOf 60 = .ok (.iconst 0, 1) := by decide +kernel
theorem dX8_mindOf_61 : decode cX8_mindOf 61 = .ok (.iadd, 1) := by decide +kernel
theorem dX8_mindOf_62 : decode cX8_mindOf 62 = .ok (.istore 4, 2) := by decide +kernel
theorem dX8_mindOf_64 : decode cX8_mindOf 64 = .ok (.iinc 5 1, 3) := by decide +kernel
theorem dX8_mindOf_67 : decode cX8_mindOf 67 = .ok (.goto (-61), 3) := by decide +kernel
theorem dX8_mindOf_70 : decode cX8_mindOf 70 = .ok (.iload 4, 2) := by decide +kernel
theorem dX8_mindOf_72 : decode cX8_mindOf 72 = .ok (.ireturn, 1) := by decide +kernel
theorem dX8_middleOf_0 : decode cX8_middleOf 0 = .ok (.iconst 0, 1) := by decide +kernel
theorem dX8_middleOf_1 : decode cX8_middleOf 1 = .ok (.istore_n 3, 1) := by decide +kernel
theorem dX8_middleOf_2 : decode cX8_middleOf 2 = .ok (.iconst 1, 1) := by decide +kernel
theorem dX8_middleOf_3 : decode cX8_middleOf 3 = .ok (.istore 4, 2) := by decide +kernel
theorem dX8_middleOf_5 : decode cX8_middleOf 5 = .ok (.iload 4, 2) := by decide +kernel
theorem dX8_middleOf_7 : decode cX8_middleOf 7 = .ok (.iconst 5, 1) := by decide +kernel
theorem dX8_middleOf_8 : decode cX8_middleOf 8 = .ok (.if_icmp .gt 34, 3) := by decide +kernel
theorem dX8_middleOf_11 : decode cX8_middleOf 11 = .ok (.aload_n 0, 1) := by decide +kernel
theorem dX8_middleOf_12 : decode cX8_middleOf 12 = .ok (.iload_n 1, 1) := by decide +kernel
theorem dX8_middleOf_13 : decode cX8_middleOf 13 = .ok (.iload_n 2, 1) := by decide +kernel
theorem dX8_middleOf_14 : decode cX8_middleOf 14 = .ok (.iload 4, 2) := by decide +kernel
theorem dX8_middleOf_16 : decode cX8_middleOf 16 = .ok (.invokevirtual 186, 3) := by decide +kernel
theorem dX8_middleOf_19 : decode cX8_middleOf 19 = .ok (.aload_n 0, 1) := by decide +kernel
theorem dX8_middleOf_20 : decode cX8_middleOf 20 = .ok (.iload_n 1, 1) := by decide +kernel
theorem dX8_middleOf_21 : decode cX8_middleOf 21 = .ok (.iload_n 2, 1) := by decide +kernel
theorem dX8_middleOf_22 : decode cX8_middleOf 22 = .ok (.iload_n 3, 1) := by decide +kernel
theorem dX8_middleOf_23 : decode cX8_middleOf 23 = .ok (.invokevirtual 186, 3) := by decide +kernel
theorem dX8_middleOf_26 : decode cX8_middleOf 26 = .ok (.if_icmp .ge 8, 3) := by decide +kernel
theorem dX8_middleOf_29 : decode cX8_middleOf 29 = .ok (.iload 4, 2) := by decide +kernel
theorem dX8_middleOf_31 : decode cX8_middleOf 31 = .ok (.goto 4, 3) := by decide +kernel
theorem dX8_middleOf_34 : decode cX8_middleOf 34 = .ok (.iload_n 3, 1) := by decide +kernel
theorem dX8_middleOf_35 : decode cX8_middleOf 35 = .ok (.istore_n 3, 1) := by decide +kernel
theorem dX8_middleOf_36 : decode cX8_middleOf 36 = .ok (.iinc 4 1, 3) := by decide +kernel
theorem dX8_middleOf_39 : decode cX8_middleOf 39 = .ok (.goto (-34), 3) := by decide +kernel
theorem dX8_middleOf_42 : decode cX8_middleOf 42 = .ok (.iload_n 3, 1) := by decide +kernel
theorem dX8_middleOf_43 : decode cX8_middleOf 43 = .ok (.ireturn, 1) := by decide +kernel
theorem dX8_leastOf_0 : decode cX8_leastOf 0 = .ok (.iconst 0, 1) := by decide +kernel
theorem dX8_leastOf_1 : decode cX8_leastOf 1 = .ok (.istore_n 2, 1) := by decide +kernel
theorem dX8_leastOf_2 : decode cX8_leastOf 2 = .ok (.iconst 0, 1) := by decide +kernel
theorem dX8_leastOf_3 : decode cX8_leastOf 3 = .ok (.istore_n 3, 1) := by decide +kernel
theorem dX8_leastOf_4 : decode cX8_leastOf 4 = .ok (.iload_n 3, 1) := by decide +kernel
theorem dX8_leastOf_5 : decode cX8_leastOf 5 = .ok (.iconst 4, 1) := by decide +kernel
theorem dX8_leastOf_6 : decode cX8_leastOf 6 = .ok (.if_icmp .ge 24, 3) := by decide +kernel
theorem dX8_leastOf_9 : decode cX8_leastOf 9 = .ok (.iload_n 2, 1) := by decide +kernel
theorem dX8_leastOf_10 : decode cX8_leastOf 10 = .ok (.aload_n 0, 1) := by decide +kernel
theorem dX8_leastOf_11 : decode cX8_leastOf 11 = .ok (.iload_n 1, 1) := by decide +kernel
theorem dX8_leastOf_12 : decode cX8_leastOf 12 = .ok (.iload_n 3, 1) := by decide +kernel
theorem dX8_leastOf_13 : decode cX8_leastOf 13 = .ok (.aload_n 0, 1) := by decide +kernel
theorem dX8_leastOf_14 : decode cX8_leastOf 14 = .ok (.iload_n 1, 1) := by decide +kernel
theorem dX8_leastOf_15 : decode cX8_leastOf 15 = .ok (.iload_n 3, 1) := by decide +kernel
theorem dX8_leastOf_16 : decode cX8_leastOf 16 = .ok (.invokevirtual 190, 3) := by decide +kernel
theorem dX8_leastOf_19 : decode cX8_leastOf 19 = .ok (.invokevirtual 186, 3) := by decide +kernel
theorem dX8_leastOf_22 : decode cX8_leastOf 22 = .ok (.iadd, 1) := by decide +kernel
theorem dX8_leastOf_23 : decode cX8_leastOf 23 = .ok (.istore_n 2, 1) := by decide +kernel
theorem dX8_leastOf_24 : decode cX8_leastOf 24 = .ok (.iinc 3 1, 3) := by decide +kernel
theorem dX8_leastOf_27 : decode cX8_leastOf 27 = .ok (.goto (-23), 3) := by decide +kernel
theorem dX8_leastOf_30 : decode cX8_leastOf 30 = .ok (.iload_n 2, 1) := by decide +kernel
theorem dX8_leastOf_31 : decode cX8_leastOf 31 = .ok (.ireturn, 1) := by decide +kernel
theorem dX8_middle_0 : decode cX8_middle 0 = .ok (.iload_n 1, 1) := by decide +kernel
theorem dX8_middle_1 : decode cX8_middle 1 = .ok (.iconst 0, 1) := by decide +kernel
theorem dX8_middle_2 : decode cX8_middle 2 = .ok (.iconst 4, 1) := by decide +kernel
theorem dX8_middle_3 : decode cX8_middle 3 = .ok (.invokestatic 54, 3) := by decide +kernel
theorem dX8_middle_6 : decode cX8_middle 6 = .ok (.ifCond .ne 5, 3) := by decide +kernel
theorem dX8_middle_9 : decode cX8_middle 9 = .ok (.iconst (-1), 1) := by decide +kernel
theorem dX8_middle_10 : decode cX8_middle 10 = .ok (.ireturn, 1) := by decide +kernel
theorem dX8_middle_11 : decode cX8_middle 11 = .ok (.iconst 1, 1) := by decide +kernel
theorem dX8_middle_12 : decode cX8_middle 12 = .ok (.aload_n 0, 1) := by decide +kernel
theorem dX8_middle_13 : decode cX8_middle 13 = .ok (.getfield 50, 3) := by decide +kernel
theorem dX8_middle_16 : decode cX8_middle 16 = .ok (.ishl, 1) := by decide +kernel
theorem dX8_middle_17 : decode cX8_middle 17 = .ok (.iconst 1, 1) := by decide +kernel
theorem dX8_middle_18 : decode cX8_middle 18 = .ok (.isub, 1) := by decide +kernel
theorem dX8_middle_19 : decode cX8_middle 19 = .ok (.istore_n 2, 1) := by decide +kernel
theorem dX8_middle_20 : decode cX8_middle 20 = .ok (.iload_n 1, 1) := by decide +kernel
theorem dX8_middle_21 : decode cX8_middle 21 = .ok (.iconst 4, 1) := by decide +kernel
theorem dX8_middle_22 : decode cX8_middle 22 = .ok (.if_icmp .ne 11, 3) := by decide +kernel
theorem dX8_middle_25 : decode cX8_middle 25 = .ok (.aload_n 0, 1) := by decide +kernel
theorem dX8_middle_26 : decode cX8_middle 26 = .ok (.iload_n 2, 1) := by decide +kernel
theorem dX8_middle_27 : decode cX8_middle 27 = .ok (.invokevirtual 193, 3) := by decide +kernel
theorem dX8_middle_30 : decode cX8_middle 30 = .ok (.goto 9, 3) := by decide +kernel
theorem dX8_middle_33 : decode cX8_middle 33 = .ok (.aload_n 0, 1) := by decide +kernel
theorem dX8_middle_34 : decode cX8_middle 34 = .ok (.iload_n 2, 1) := by decide +kernel
theorem dX8_middle_35 : decode cX8_middle 35 = .ok (.iload_n 1, 1) := by decide +kernel
theorem dX8_middle_36 : decode cX8_middle 36 = .ok (.invokevirtual 190, 3) := by decide +kernel
theorem dX8_middle_39 : decode cX8_middle 39 = .ok (.ireturn, 1) := by decide +kernel
theorem dX8_parted_0 : decode cX8_parted 0 = .ok (.iload_n 1, 1) := by decide +kernel
theorem dX8_parted_1 : decode cX8_parted 1 = .ok (.iconst 0, 1) := by decide +kernel
theorem dX8_parted_2 : decode cX8_parted 2 = .ok (.iconst 1, 1) := by decide +kernel
theorem dX8_parted_3 : decode cX8_parted 3 = .ok (.invokestatic 54, 3) := by decide +kernel
theorem dX8_parted_6 : decode cX8_parted 6 = .ok (.ifCond .ne 5, 3) := by decide +kernel
theorem dX8_parted_9 : decode cX8_parted 9 = .ok (.iconst (-1), 1) := by decide +kernel
theorem dX8_parted_10 : decode cX8_parted 10 = .ok (.ireturn, 1) := by decide +kernel
theorem dX8_parted_11 : decode cX8_parted 11 = .ok (.iconst 1, 1) := by decide +kernel
theorem dX8_parted_12 : decode cX8_parted 12 = .ok (.aload_n 0, 1) := by decide +kernel
theorem dX8_parted_13 : decode cX8_parted 13 = .ok (.getfield 50, 3) := by decide +kernel
theorem dX8_parted_16 : decode cX8_parted 16 = .ok (.ishl, 1) := by decide +kernel
theorem dX8_parted_17 : decode cX8_parted 17 = .ok (.iconst 1, 1) := by decide +kernel
theorem dX8_parted_18 : decode cX8_parted 18 = .ok (.isub, 1) := by decide +kernel
theorem dX8_parted_19 : decode cX8_parted 19 = .ok (.istore_n 2, 1) := by decide +kernel
theorem dX8_parted_20 : decode cX8_parted 20 = .ok (.iconst 0, 1) := by decide +kernel
theorem dX8_parted_21 : decode cX8_parted 21 = .ok (.istore_n 3, 1) := by decide +kernel
theorem dX8_parted_22 : decode cX8_parted 22 = .ok (.aload_n 0, 1) := by decide +kernel
theorem dX8_parted_23 : decode cX8_parted 23 = .ok (.iload_n 2, 1) := by decide +kernel
theorem dX8_parted_24 : decode cX8_parted 24 = .ok (.invokevirtual 193, 3) := by decide +kernel
theorem dX8_parted_27 : decode cX8_parted 27 = .ok (.istore 4, 2) := by decide +kernel
theorem dX8_parted_29 : decode cX8_parted 29 = .ok (.iconst 1, 1) := by decide +kernel
theorem dX8_parted_30 : decode cX8_parted 30 = .ok (.istore 5, 2) := by decide +kernel
theorem dX8_parted_32 : decode cX8_parted 32 = .ok (.iload 5, 2) := by decide +kernel
theorem dX8_parted_34 : decode cX8_parted 34 = .ok (.iload_n 2, 1) := by decide +kernel
theorem dX8_parted_35 : decode cX8_parted 35 = .ok (.if_icmp .gt 58, 3) := by decide +kernel
theorem dX8_parted_38 : decode cX8_parted 38 = .ok (.aload_n 0, 1) := by decide +kernel
theorem dX8_parted_39 : decode cX8_parted 39 = .ok (.iload 5, 2) := by decide +kernel
theorem dX8_parted_41 : decode cX8_parted 41 = .ok (.invokevirtual 193, 3) := by decide +kernel
theorem dX8_parted_44 : decode cX8_parted 44 = .ok (.aload_n 0, 1) := by decide +kernel
theorem dX8_parted_45 : decode cX8_parted 45 = .ok (.iload_n 2, 1) := by decide +kernel
theorem dX8_parted_46 : decode cX8_parted 46 = .ok (.iload 5, 2) := by decide +kernel
theorem dX8_parted_48 : decode cX8_parted 48 = .ok (.iconst (-1), 1) := by decide +kernel
theorem dX8_parted_49 : decode cX8_parted 49 = .ok (.ixor, 1) := by decide +kernel
theorem dX8_parted_50 : decode cX8_parted 50 = .ok (.iand, 1) := by decide +kernel
theorem dX8_parted_51 : decode cX8_parted 51 = .ok (.invokevirtual 193, 3) := by decide +kernel
theorem dX8_parted_54 : decode cX8_parted 54 = .ok (.iadd, 1) := by decide +kernel
theorem dX8_parted_55 : decode cX8_parted 55 = .ok (.istore 6, 2) := by decide +kernel
theorem dX8_parted_57 : decode cX8_parted 57 = .ok (.iload 6, 2) := by decide +kernel
theorem dX8_parted_59 : decode cX8_parted 59 = .ok (.iload 4, 2) := by decide +kernel
theorem dX8_parted_61 : decode cX8_parted 61 = .ok (.if_icmp .ge 8, 3) := by decide +kernel
theorem dX8_parted_64 : decode cX8_parted 64 = .ok (.iload 5, 2) := by decide +kernel
theorem dX8_parted_66 : decode cX8_parted 66 = .ok (.goto 4, 3) := by decide +kernel
theorem dX8_parted_69 : decode cX8_parted 69 = .ok (.iload_n 3, 1) := by decide +kernel
theorem dX8_parted_70 : decode cX8_parted 70 = .ok (.istore_n 3, 1) := by decide +kernel
theorem dX8_parted_71 : decode cX8_parted 71 = .ok (.iload 6, 2) := by decide +kernel
theorem dX8_parted_73 : decode cX8_parted 73 = .ok (.iload 4, 2) := by decide +kernel
theorem dX8_parted_75 : decode cX8_parted 75 = .ok (.if_icmp .ge 8, 3) := by decide +kernel
theorem dX8_parted_78 : decode cX8_parted 78 = .ok (.iload 6, 2) := by decide +kernel
theorem dX8_parted_80 : decode cX8_parted 80 = .ok (.goto 5, 3) := by decide +kernel
theorem dX8_parted_83 : decode cX8_parted 83 = .ok (.iload 4, 2) := by decide +kernel
theorem dX8_parted_85 : decode cX8_parted 85 = .ok (.istore 4, 2) := by decide +kernel
theorem dX8_parted_87 : decode cX8_parted 87 = .ok (.iinc 5 1, 3) := by decide +kernel
theorem dX8_parted_90 : decode cX8_parted 90 = .ok (.goto (-58), 3) := by decide +kernel
theorem dX8_parted_93 : decode cX8_parted 93 = .ok (.iload_n 1, 1) := by decide +kernel
theorem dX8_parted_94 : decode cX8_parted 94 = .ok (.ifCond .ne 7, 3) := by decide +kernel
theorem dX8_parted_97 : decode cX8_parted 97 = .ok (.iload_n 3, 1) := by decide +kernel
theorem dX8_parted_98 : decode cX8_parted 98 = .ok (.goto 5, 3) := by decide +kernel
theorem dX8_parted_101 : decode cX8_parted 101 = .ok (.iload 4, 2) := by decide +kernel
theorem dX8_parted_103 : decode cX8_parted 103 = .ok (.ireturn, 1) := by decide +kernel
theorem dX8_lowest_0 : decode cX8_lowest 0 = .ok (.iload_n 0, 1) := by decide +kernel
theorem dX8_lowest_1 : decode cX8_lowest 1 = .ok (.istore_n 3, 1) := by decide +kernel
theorem dX8_lowest_2 : decode cX8_lowest 2 = .ok (.iload_n 1, 1) := by decide +kernel
theorem dX8_lowest_3 : decode cX8_lowest 3 = .ok (.istore 4, 2) := by decide +kernel
theorem dX8_lowest_5 : decode cX8_lowest 5 = .ok (.iload 4, 2) := by decide +kernel
theorem dX8_lowest_7 : decode cX8_lowest 7 = .ok (.ifCond .le 19, 3) := by decide +kernel
theorem dX8_lowest_10 : decode cX8_lowest 10 = .ok (.iload_n 3, 1) := by decide +kernel
theorem dX8_lowest_11 : decode cX8_lowest 11 = .ok (.iload 4, 2) := by decide +kernel
theorem dX8_lowest_13 : decode cX8_lowest 13 = .ok (.irem, 1) := by decide +kernel
theorem dX8_lowest_14 : decode cX8_lowest 14 = .ok (.istore 5, 2) := by decide +kernel
theorem dX8_lowest_16 : decode cX8_lowest 16 = .ok (.iload 4, 2) := by decide +kernel
theorem dX8_lowest_18 : decode cX8_lowest 18 = .ok (.istore_n 3, 1) := by decide +kernel
theorem dX8_lowest_19 : decode cX8_lowest 19 = .ok (.iload 5, 2) := by decide +kernel
theorem dX8_lowest_21 : decode cX8_lowest 21 = .ok (.istore 4, 2) := by decide +kernel
theorem dX8_lowest_23 : decode cX8_lowest 23 = .ok (.goto (-18), 3) := by decide +kernel
theorem dX8_lowest_26 : decode cX8_lowest 26 = .ok (.iload_n 2, 1) := by decide +kernel
theorem dX8_lowest_27 : decode cX8_lowest 27 = .ok (.ifCond .ne 7, 3) := by decide +kernel
theorem dX8_lowest_30 : decode cX8_lowest 30 = .ok (.iload_n 0, 1) := by decide +kernel
theorem dX8_lowest_31 : decode cX8_lowest 31 = .ok (.goto 4, 3) := by decide +kernel
theorem dX8_lowest_34 : decode cX8_lowest 34 = .ok (.iload_n 1, 1) := by decide +kernel
theorem dX8_lowest_35 : decode cX8_lowest 35 = .ok (.iload_n 3, 1) := by decide +kernel
theorem dX8_lowest_36 : decode cX8_lowest 36 = .ok (.idiv, 1) := by decide +kernel
theorem dX8_lowest_37 : decode cX8_lowest 37 = .ok (.ireturn, 1) := by decide +kernel
theorem dX8_odds_0 : decode cX8_odds 0 = .ok (.iload_n 1, 1) := by decide +kernel
theorem dX8_odds_1 : decode cX8_odds 1 = .ok (.iconst 0, 1) := by decide +kernel
theorem dX8_odds_2 : decode cX8_odds 2 = .ok (.bipush 10, 2) := by decide +kernel
theorem dX8_odds_4 : decode cX8_odds 4 = .ok (.invokestatic 54, 3) := by decide +kernel
theorem dX8_odds_7 : decode cX8_odds 7 = .ok (.ifCond .eq 22, 3) := by decide +kernel
theorem dX8_odds_10 : decode cX8_odds 10 = .ok (.iload_n 2, 1) := by decide +kernel
theorem dX8_odds_11 : decode cX8_odds 11 = .ok (.iconst 0, 1) := by decide +kernel
theorem dX8_odds_12 : decode cX8_odds 12 = .ok (.bipush 6, 2) := by decide +kernel
theorem dX8_odds_14 : decode cX8_odds 14 = .ok (.invokestatic 54, 3) := by decide +kernel
theorem dX8_odds_17 : decode cX8_odds 17 = .ok (.ifCond .eq 12, 3) := by decide +kernel
theorem dX8_odds_20 : decode cX8_odds 20 = .ok (.iload_n 3, 1) := by decide +kernel
theorem dX8_odds_21 : decode cX8_odds 21 = .ok (.iconst 0, 1) := by decide +kernel
theorem dX8_odds_22 : decode cX8_odds 22 = .ok (.iconst 1, 1) := by decide +kernel
theorem dX8_odds_23 : decode cX8_odds 23 = .ok (.invokestatic 54, 3) := by decide +kernel
theorem dX8_odds_26 : decode cX8_odds 26 = .ok (.ifCond .ne 5, 3) := by decide +kernel
theorem dX8_odds_29 : decode cX8_odds 29 = .ok (.iconst (-1), 1) := by decide +kernel
theorem dX8_odds_30 : decode cX8_odds 30 = .ok (.ireturn, 1) := by decide +kernel
theorem dX8_odds_31 : decode cX8_odds 31 = .ok (.iconst 0, 1) := by decide +kernel
theorem dX8_odds_32 : decode cX8_odds 32 = .ok (.istore 4, 2) := by decide +kernel
theorem dX8_odds_34 : decode cX8_odds 34 = .ok (.iconst 1, 1) := by decide +kernel
theorem dX8_odds_35 : decode cX8_odds 35 = .ok (.istore 5, 2) := by decide +kernel
theorem dX8_odds_37 : decode cX8_odds 37 = .ok (.aload_n 0, 1) := by decide +kernel
theorem dX8_odds_38 : decode cX8_odds 38 = .ok (.invokevirtual 157, 3) := by decide +kernel
theorem dX8_odds_41 : decode cX8_odds 41 = .ok (.iconst 0, 1) := by decide +kernel
theorem dX8_odds_42 : decode cX8_odds 42 = .ok (.istore 6, 2) := by decide +kernel
theorem dX8_odds_44 : decode cX8_odds 44 = .ok (.iload 6, 2) := by decide +kernel
theorem dX8_odds_46 : decode cX8_odds 46 = .ok (.aload_n 0, 1) := by decide +kernel
theorem dX8_odds_47 : decode cX8_odds 47 = .ok (.getfield 50, 3) := by decide +kernel
theorem dX8_odds_50 : decode cX8_odds 50 = .ok (.if_icmp .ge 16, 3) := by decide +kernel
theorem dX8_odds_53 : decode cX8_odds 53 = .ok (.iload 5, 2) := by decide +kernel
theorem dX8_odds_55 : decode cX8_odds 55 = .ok (.bipush 10, 2) := by decide +kernel
theorem dX8_odds_57 : decode cX8_odds 57 = .ok (.imul, 1) := by decide +kernel
theorem dX8_odds_58 : decode cX8_odds 58 = .ok (.istore 5, 2) := by decide +kernel
theorem dX8_odds_60 : decode cX8_odds 60 = .ok (.iinc 6 1, 3) := by decide +kernel
theorem dX8_odds_63 : decode cX8_odds 63 = .ok (.goto (-19), 3) := by decide +kernel
theorem dX8_odds_66 : decode cX8_odds 66 = .ok (.iconst 0, 1) := by decide +kernel
theorem dX8_odds_67 : decode cX8_odds 67 = .ok (.istore 6, 2) := by decide +kernel
theorem dX8_odds_69 : decode cX8_odds 69 = .ok (.iload 6, 2) := by decide +kernel
theorem dX8_odds_71 : decode cX8_odds 71 = .ok (.iconst 1, 1) := by decide +kernel
theorem dX8_odds_72 : decode cX8_odds 72 = .ok (.aload_n 0, 1) := by decide +kernel
theorem dX8_odds_73 : decode cX8_odds 73 = .ok (.getfield 50, 3) := by decide +kernel
theorem dX8_odds_76 : decode cX8_odds 76 = .ok (.ishl, 1) := by decide +kernel
theorem dX8_odds_77 : decode cX8_odds 77 = .ok (.if_icmp .ge 99, 3) := by decide +kernel
theorem dX8_odds_80 : decode cX8_odds 80 = .ok (.iconst 1, 1) := by decide +kernel
theorem dX8_odds_81 : decode cX8_odds 81 = .ok (.istore 7, 2) := by decide +kernel
theorem dX8_odds_83 : decode cX8_odds 83 = .ok (.iconst 0, 1) := by decide +kernel
theorem dX8_odds_84 : decode cX8_odds 84 = .ok (.istore 8, 2) := by decide +kernel
theorem dX8_odds_86 : decode cX8_odds 86 = .ok (.iconst 0, 1) := by decide +kernel
theorem dX8_odds_87 : decode cX8_odds 87 = .ok (.istore 9, 2) := by decide +kernel
theorem dX8_odds_89 : decode cX8_odds 89 = .ok (.iload 9, 2) := by decide +kernel
theorem dX8_odds_91 : decode cX8_odds 91 = .ok (.aload_n 0, 1) := by decide +kernel
theorem dX8_odds_92 : decode cX8_odds 92 = .ok (.getfield 50, 3) := by decide +kernel
theorem dX8_odds_95 : decode cX8_odds 95 = .ok (.if_icmp .ge 58, 3) := by decide +kernel
theorem dX8_odds_98 : decode cX8_odds 98 = .ok (.iload 7, 2) := by decide +kernel
theorem dX8_odds_100 : decode cX8_odds 100 = .ok (.iload 6, 2) := by decide +kernel
theorem dX8_odds_102 : decode cX8_odds 102 = .ok (.iload 9, 2) := by decide +kernel
theorem dX8_odds_104 : decode cX8_odds 104 = .ok (.invokestatic 133, 3) := by decide +kernel
theorem dX8_odds_107 : decode cX8_odds 107 = .ok (.ifCond .eq 7, 3) := by decide +kernel
theorem dX8_odds_110 : decode cX8_odds 110 = .ok (.iload_n 1, 1) := by decide +kernel
theorem dX8_odds_111 : decode cX8_odds 111 = .ok (.goto 7, 3) := by decide +kernel
theorem dX8_odds_114 : decode cX8_odds 114 = .ok (.bipush 10, 2) := by decide +kernel
theorem dX8_odds_116 : decode cX8_odds 116 = .ok (.iload_n 1, 1) := by decide +kernel
theorem dX8_odds_117 : decode cX8_odds 117 = .ok (.isub, 1) := by decide +kernel
theorem dX8_odds_118 : decode cX8_odds 118 = .ok (.imul, 1) := by decide +kernel
theorem dX8_odds_119 : decode cX8_odds 119 = .ok (.istore 7, 2) := by decide +kernel
theorem dX8_odds_121 : decode cX8_odds 121 = .ok (.iload 8, 2) := by decide +kernel
theorem dX8_odds_123 : decode cX8_odds 123 = .ok (.aload_n 0, 1) := by decide +kernel
theorem dX8_odds_124 : decode cX8_odds 124 = .ok (.iload 9, 2) := by decide +kernel
theorem dX8_odds_126 : decode cX8_odds 126 = .ok (.iload 6, 2) := by decide +kernel
theorem dX8_odds_128 : decode cX8_odds 128 = .ok (.iload 9, 2) := by decide +kernel
theorem dX8_odds_130 : decode cX8_odds 130 = .ok (.invokestatic 133, 3) := by decide +kernel
theorem dX8_odds_133 : decode cX8_odds 133 = .ok (.invokevirtual 137, 3) := by decide +kernel
theorem dX8_odds_136 : decode cX8_odds 136 = .ok (.ifCond .ne 7, 3) := by decide +kernel
theorem dX8_odds_139 : decode cX8_odds 139 = .ok (.iconst 1, 1) := by decide +kernel
theorem dX8_odds_140 : decode cX8_odds 140 = .ok (.goto 4, 3) := by decide +kernel
theorem dX8_odds_143 : decode cX8_odds 143 = .ok (.iconst 0, 1) := by decide +kernel
theorem dX8_odds_144 : decode cX8_odds 144 = .ok (.iadd, 1) := by decide +kernel
theorem dX8_odds_145 : decode cX8_odds 145 = .ok (.istore 8, 2) := by decide +kernel
theorem dX8_odds_147 : decode cX8_odds 147 = .ok (.iinc 9 1, 3) := by decide +kernel
theorem dX8_odds_150 : decode cX8_odds 150 = .ok (.goto (-61), 3) := by decide +kernel
theorem dX8_odds_153 : decode cX8_odds 153 = .ok (.iload 4, 2) := by decide +kernel
theorem dX8_odds_155 : decode cX8_odds 155 = .ok (.iload 8, 2) := by decide +kernel
theorem dX8_odds_157 : decode cX8_odds 157 = .ok (.iload_n 2, 1) := by decide +kernel
theorem dX8_odds_158 : decode cX8_odds 158 = .ok (.if_icmp .lt 8, 3) := by decide +kernel
theorem dX8_odds_161 : decode cX8_odds 161 = .ok (.iload 7, 2) := by decide +kernel
theorem dX8_odds_163 : decode cX8_odds 163 = .ok (.goto 4, 3) := by decide +kernel
theorem dX8_odds_166 : decode cX8_odds 166 = .ok (.iconst 0, 1) := by decide +kernel
theorem dX8_odds_167 : decode cX8_odds 167 = .ok (.iadd, 1) := by decide +kernel
theorem dX8_odds_168 : decode cX8_odds 168 = .ok (.istore 4, 2) := by decide +kernel
theorem dX8_odds_170 : decode cX8_odds 170 = .ok (.iinc 6 1, 3) := by decide +kernel
theorem dX8_odds_173 : decode cX8_odds 173 = .ok (.goto (-104), 3) := by decide +kernel
theorem dX8_odds_176 : decode cX8_odds 176 = .ok (.iload 4, 2) := by decide +kernel
theorem dX8_odds_178 : decode cX8_odds 178 = .ok (.iload 5, 2) := by decide +kernel
theorem dX8_odds_180 : decode cX8_odds 180 = .ok (.iload_n 3, 1) := by decide +kernel
theorem dX8_odds_181 : decode cX8_odds 181 = .ok (.invokestatic 196, 3) := by decide +kernel
theorem dX8_odds_184 : decode cX8_odds 184 = .ok (.ireturn, 1) := by decide +kernel
theorem dX8_sees_0 : decode cX8_sees 0 = .ok (.iload_n 1, 1) := by decide +kernel
theorem dX8_sees_1 : decode cX8_sees 1 = .ok (.iconst 0, 1) := by decide +kernel
theorem dX8_sees_2 : decode cX8_sees 2 = .ok (.bipush 8, 2) := by decide +kernel
theorem dX8_sees_4 : decode cX8_sees 4 = .ok (.invokestatic 54, 3) := by decide +kernel
theorem dX8_sees_7 : decode cX8_sees 7 = .ok (.ifCond .ne 5, 3) := by decide +kernel
theorem dX8_sees_10 : decode cX8_sees 10 = .ok (.iconst (-1), 1) := by decide +kernel
theorem dX8_sees_11 : decode cX8_sees 11 = .ok (.ireturn, 1) := by decide +kernel
theorem dX8_sees_12 : decode cX8_sees 12 = .ok (.aload_n 0, 1) := by decide +kernel
theorem dX8_sees_13 : decode cX8_sees 13 = .ok (.getfield 116, 3) := by decide +kernel
theorem dX8_sees_16 : decode cX8_sees 16 = .ok (.iconst 4, 1) := by decide +kernel
theorem dX8_sees_17 : decode cX8_sees 17 = .ok (.if_icmp .ne 6, 3) := by decide +kernel
theorem dX8_sees_20 : decode cX8_sees 20 = .ok (.bipush (-3), 2) := by decide +kernel
theorem dX8_sees_22 : decode cX8_sees 22 = .ok (.ireturn, 1) := by decide +kernel
theorem dX8_sees_23 : decode cX8_sees 23 = .ok (.iconst 0, 1) := by decide +kernel
theorem dX8_sees_24 : decode cX8_sees 24 = .ok (.istore_n 2, 1) := by decide +kernel
theorem dX8_sees_25 : decode cX8_sees 25 = .ok (.iload_n 2, 1) := by decide +kernel
theorem dX8_sees_26 : decode cX8_sees 26 = .ok (.iconst 4, 1) := by decide +kernel
theorem dX8_sees_27 : decode cX8_sees 27 = .ok (.if_icmp .ge 30, 3) := by decide +kernel
theorem dX8_sees_30 : decode cX8_sees 30 = .ok (.aload_n 0, 1) := by decide +kernel
theorem dX8_sees_31 : decode cX8_sees 31 = .ok (.getfield 29, 3) := by decide +kernel
theorem dX8_sees_34 : decode cX8_sees 34 = .ok (.iconst 4, 1) := by decide +kernel
theorem dX8_sees_35 : decode cX8_sees 35 = .ok (.aload_n 0, 1) := by decide +kernel
theorem dX8_sees_36 : decode cX8_sees 36 = .ok (.getfield 116, 3) := by decide +kernel
theorem dX8_sees_39 : decode cX8_sees 39 = .ok (.imul, 1) := by decide +kernel
theorem dX8_sees_40 : decode cX8_sees 40 = .ok (.iload_n 2, 1) := by decide +kernel
theorem dX8_sees_41 : decode cX8_sees 41 = .ok (.iadd, 1) := by decide +kernel
theorem dX8_sees_42 : decode cX8_sees 42 = .ok (.aload_n 0, 1) := by decide +kernel
theorem dX8_sees_43 : decode cX8_sees 43 = .ok (.getfield 16, 3) := by decide +kernel
theorem dX8_sees_46 : decode cX8_sees 46 = .ok (.iconst 0, 1) := by decide +kernel
theorem dX8_sees_47 : decode cX8_sees 47 = .ok (.iload_n 2, 1) := by decide +kernel
theorem dX8_sees_48 : decode cX8_sees 48 = .ok (.iadd, 1) := by decide +kernel
theorem dX8_sees_49 : decode cX8_sees 49 = .ok (.iaload, 1) := by decide +kernel
theorem dX8_sees_50 : decode cX8_sees 50 = .ok (.iastore, 1) := by decide +kernel
theorem dX8_sees_51 : decode cX8_sees 51 = .ok (.iinc 2 1, 3) := by decide +kernel
theorem dX8_sees_54 : decode cX8_sees 54 = .ok (.goto (-29), 3) := by decide +kernel
theorem dX8_sees_57 : decode cX8_sees 57 = .ok (.aload_n 0, 1) := by decide +kernel
theorem dX8_sees_58 : decode cX8_sees 58 = .ok (.getfield 32, 3) := by decide +kernel
theorem dX8_sees_61 : decode cX8_sees 61 = .ok (.aload_n 0, 1) := by decide +kernel
theorem dX8_sees_62 : decode cX8_sees 62 = .ok (.getfield 116, 3) := by decide +kernel
theorem dX8_sees_65 : decode cX8_sees 65 = .ok (.iload_n 1, 1) := by decide +kernel
theorem dX8_sees_66 : decode cX8_sees 66 = .ok (.iastore, 1) := by decide +kernel
theorem dX8_sees_67 : decode cX8_sees 67 = .ok (.aload_n 0, 1) := by decide +kernel
theorem dX8_sees_68 : decode cX8_sees 68 = .ok (.dup, 1) := by decide +kernel
theorem dX8_sees_69 : decode cX8_sees 69 = .ok (.getfield 116, 3) := by decide +kernel
theorem dX8_sees_72 : decode cX8_sees 72 = .ok (.iconst 1, 1) := by decide +kernel
theorem dX8_sees_73 : decode cX8_sees 73 = .ok (.iadd, 1) := by decide +kernel
theorem dX8_sees_74 : decode cX8_sees 74 = .ok (.putfield 116, 3) := by decide +kernel
theorem dX8_sees_77 : decode cX8_sees 77 = .ok (.aload_n 0, 1) := by decide +kernel
theorem dX8_sees_78 : decode cX8_sees 78 = .ok (.getfield 116, 3) := by decide +kernel
theorem dX8_sees_81 : decode cX8_sees 81 = .ok (.ireturn, 1) := by decide +kernel
theorem dX8_forget_0 : decode cX8_forget 0 = .ok (.aload_n 0, 1) := by decide +kernel
theorem dX8_forget_1 : decode cX8_forget 1 = .ok (.getfield 116, 3) := by decide +kernel
theorem dX8_forget_4 : decode cX8_forget 4 = .ok (.istore_n 1, 1) := by decide +kernel
theorem dX8_forget_5 : decode cX8_forget 5 = .ok (.aload_n 0, 1) := by decide +kernel
theorem dX8_forget_6 : decode cX8_forget 6 = .ok (.iconst 0, 1) := by decide +kernel
theorem dX8_forget_7 : decode cX8_forget 7 = .ok (.putfield 116, 3) := by decide +kernel
theorem dX8_forget_10 : decode cX8_forget 10 = .ok (.iload_n 1, 1) := by decide +kernel
theorem dX8_forget_11 : decode cX8_forget 11 = .ok (.ireturn, 1) := by decide +kernel
theorem dX8_likeOf_0 : decode cX8_likeOf 0 = .ok (.iload_n 1, 1) := by decide +kernel
theorem dX8_likeOf_1 : decode cX8_likeOf 1 = .ok (.ifCond .ne 11, 3) := by decide +kernel
theorem dX8_likeOf_4 : decode cX8_likeOf 4 = .ok (.iload_n 0, 1) := by decide +kernel
theorem dX8_likeOf_5 : decode cX8_likeOf 5 = .ok (.sipush 216, 3) := by decide +kernel
theorem dX8_likeOf_8 : decode cX8_likeOf 8 = .ok (.idiv, 1) := by decide +kernel
theorem dX8_likeOf_9 : decode cX8_likeOf 9 = .ok (.goto 37, 3) := by decide +kernel
theorem dX8_likeOf_12 : decode cX8_likeOf 12 = .ok (.iload_n 1, 1) := by decide +kernel
theorem dX8_likeOf_13 : decode cX8_likeOf 13 = .ok (.iconst 1, 1) := by decide +kernel
theorem dX8_likeOf_14 : decode cX8_likeOf 14 = .ok (.if_icmp .ne 13, 3) := by decide +kernel
theorem dX8_likeOf_17 : decode cX8_likeOf 17 = .ok (.iload_n 0, 1) := by decide +kernel
theorem dX8_likeOf_18 : decode cX8_likeOf 18 = .ok (.bipush 36, 2) := by decide +kernel
theorem dX8_likeOf_20 : decode cX8_likeOf 20 = .ok (.idiv, 1) := by decide +kernel
theorem dX8_likeOf_21 : decode cX8_likeOf 21 = .ok (.bipush 6, 2) := by decide +kernel
theorem dX8_likeOf_23 : decode cX8_likeOf 23 = .ok (.irem, 1) := by decide +kernel
theorem dX8_likeOf_24 : decode cX8_likeOf 24 = .ok (.goto 22, 3) := by decide +kernel
theorem dX8_likeOf_27 : decode cX8_likeOf 27 = .ok (.iload_n 1, 1) := by decide +kernel
theorem dX8_likeOf_28 : decode cX8_likeOf 28 = .ok (.iconst 2, 1) := by decide +kernel
theorem dX8_likeOf_29 : decode cX8_likeOf 29 = .ok (.if_icmp .ne 13, 3) := by decide +kernel
theorem dX8_likeOf_32 : decode cX8_likeOf 32 = .ok (.iload_n 0, 1) := by decide +kernel
theorem dX8_likeOf_33 : decode cX8_likeOf 33 = .ok (.bipush 6, 2) := by decide +kernel
theorem dX8_likeOf_35 : decode cX8_likeOf 35 = .ok (.idiv, 1) := by decide +kernel
theorem dX8_likeOf_36 : decode cX8_likeOf 36 = .ok (.bipush 6, 2) := by decide +kernel
theorem dX8_likeOf_38 : decode cX8_likeOf 38 = .ok (.irem, 1) := by decide +kernel
theorem dX8_likeOf_39 : decode cX8_likeOf 39 = .ok (.goto 7, 3) := by decide +kernel
theorem dX8_likeOf_42 : decode cX8_likeOf 42 = .ok (.iload_n 0, 1) := by decide +kernel
theorem dX8_likeOf_43 : decode cX8_likeOf 43 = .ok (.bipush 6, 2) := by decide +kernel
theorem dX8_likeOf_45 : decode cX8_likeOf 45 = .ok (.irem, 1) := by decide +kernel
theorem dX8_likeOf_46 : decode cX8_likeOf 46 = .ok (.ireturn, 1) := by decide +kernel
theorem dX8_mienOf_0 : decode cX8_mienOf 0 = .ok (.iconst 0, 1) := by decide +kernel
theorem dX8_mienOf_1 : decode cX8_mienOf 1 = .ok (.istore_n 3, 1) := by decide +kernel
theorem dX8_mienOf_2 : decode cX8_mienOf 2 = .ok (.iconst 1, 1) := by decide +kernel
theorem dX8_mienOf_3 : decode cX8_mienOf 3 = .ok (.istore 4, 2) := by decide +kernel
theorem dX8_mienOf_5 : decode cX8_mienOf 5 = .ok (.iload 4, 2) := by decide +kernel
theorem dX8_mienOf_7 : decode cX8_mienOf 7 = .ok (.iconst 4, 1) := by decide +kernel
theorem dX8_mienOf_8 : decode cX8_mienOf 8 = .ok (.if_icmp .ge 49, 3) := by decide +kernel
theorem dX8_mienOf_11 : decode cX8_mienOf 11 = .ok (.aload_n 1, 1) := by decide +kernel
theorem dX8_mienOf_12 : decode cX8_mienOf 12 = .ok (.iload_n 2, 1) := by decide +kernel
theorem dX8_mienOf_13 : decode cX8_mienOf 13 = .ok (.iload 4, 2) := by decide +kernel
theorem dX8_mienOf_15 : decode cX8_mienOf 15 = .ok (.iadd, 1) := by decide +kernel
theorem dX8_mienOf_16 : decode cX8_mienOf 16 = .ok (.iaload, 1) := by decide +kernel
theorem dX8_mienOf_17 : decode cX8_mienOf 17 = .ok (.iload_n 0, 1) := by decide +kernel
theorem dX8_mienOf_18 : decode cX8_mienOf 18 = .ok (.iload 4, 2) := by decide +kernel
theorem dX8_mienOf_20 : decode cX8_mienOf 20 = .ok (.invokestatic 199, 3) := by decide +kernel
theorem dX8_mienOf_23 : decode cX8_mienOf 23 = .ok (.isub, 1) := by decide +kernel
theorem dX8_mienOf_24 : decode cX8_mienOf 24 = .ok (.invokestatic 130, 3) := by decide +kernel
theorem dX8_mienOf_27 : decode cX8_mienOf 27 = .ok (.aload_n 1, 1) := by decide +kernel
theorem dX8_mienOf_28 : decode cX8_mienOf 28 = .ok (.iload_n 2, 1) := by decide +kernel
theorem dX8_mienOf_29 : decode cX8_mienOf 29 = .ok (.iload_n 3, 1) := by decide +kernel
theorem dX8_mienOf_30 : decode cX8_mienOf 30 = .ok (.iadd, 1) := by decide +kernel
theorem dX8_mienOf_31 : decode cX8_mienOf 31 = .ok (.iaload, 1) := by decide +kernel
theorem dX8_mienOf_32 : decode cX8_mienOf 32 = .ok (.iload_n 0, 1) := by decide +kernel
theorem dX8_mienOf_33 : decode cX8_mienOf 33 = .ok (.iload_n 3, 1) := by decide +kernel
theorem dX8_mienOf_34 : decode cX8_mienOf 34 = .ok (.invokestatic 199, 3) := by decide +kernel
theorem dX8_mienOf_37 : decode cX8_mienOf 37 = .ok (.isub, 1) := by decide +kernel
theorem dX8_mienOf_38 : decode cX8_mienOf 38 = .ok (.invokestatic 130, 3) := by decide +kernel
theorem dX8_mienOf_41 : decode cX8_mienOf 41 = .ok (.if_icmp .le 8, 3) := by decide +kernel
theorem dX8_mienOf_44 : decode cX8_mienOf 44 = .ok (.iload 4, 2) := by decide +kernel
theorem dX8_mienOf_46 : decode cX8_mienOf 46 = .ok (.goto 4, 3) := by decide +kernel
theorem dX8_mienOf_49 : decode cX8_mienOf 49 = .ok (.iload_n 3, 1) := by decide +kernel
theorem dX8_mienOf_50 : decode cX8_mienOf 50 = .ok (.istore_n 3, 1) := by decide +kernel
theorem dX8_mienOf_51 : decode cX8_mienOf 51 = .ok (.iinc 4 1, 3) := by decide +kernel
theorem dX8_mienOf_54 : decode cX8_mienOf 54 = .ok (.goto (-49), 3) := by decide +kernel
theorem dX8_mienOf_57 : decode cX8_mienOf 57 = .ok (.aload_n 1, 1) := by decide +kernel
theorem dX8_mienOf_58 : decode cX8_mienOf 58 = .ok (.iload_n 2, 1) := by decide +kernel
theorem dX8_mienOf_59 : decode cX8_mienOf 59 = .ok (.iload_n 3, 1) := by decide +kernel
theorem dX8_mienOf_60 : decode cX8_mienOf 60 = .ok (.iadd, 1) := by decide +kernel
theorem dX8_mienOf_61 : decode cX8_mienOf 61 = .ok (.iaload, 1) := by decide +kernel
theorem dX8_mienOf_62 : decode cX8_mienOf 62 = .ok (.iload_n 0, 1) := by decide +kernel
theorem dX8_mienOf_63 : decode cX8_mienOf 63 = .ok (.iload_n 3, 1) := by decide +kernel
theorem dX8_mienOf_64 : decode cX8_mienOf 64 = .ok (.invokestatic 199, 3) := by decide +kernel
theorem dX8_mienOf_67 : decode cX8_mienOf 67 = .ok (.isub, 1) := by decide +kernel
theorem dX8_mienOf_68 : decode cX8_mienOf 68 = .ok (.istore 4, 2) := by decide +kernel
theorem dX8_mienOf_70 : decode cX8_mienOf 70 = .ok (.iload 4, 2) := by decide +kernel
theorem dX8_mienOf_72 : decode cX8_mienOf 72 = .ok (.ifCond .ne 7, 3) := by decide +kernel
theorem dX8_mienOf_75 : decode cX8_mienOf 75 = .ok (.iconst 0, 1) := by decide +kernel
theorem dX8_mienOf_76 : decode cX8_mienOf 76 = .ok (.goto 21, 3) := by decide +kernel
theorem dX8_mienOf_79 : decode cX8_mienOf 79 = .ok (.iload 4, 2) := by decide +kernel
theorem dX8_mienOf_81 : decode cX8_mienOf 81 = .ok (.ifCond .le 11, 3) := by decide +kernel
theorem dX8_mienOf_84 : decode cX8_mienOf 84 = .ok (.iconst 1, 1) := by decide +kernel
theorem dX8_mienOf_85 : decode cX8_mienOf 85 = .ok (.iconst 2, 1) := by decide +kernel
theorem dX8_mienOf_86 : decode cX8_mienOf 86 = .ok (.iload_n 3, 1) := by decide +kernel
theorem dX8_mienOf_87 : decode cX8_mienOf 87 = .ok (.imul, 1) := by decide +kernel
theorem dX8_mienOf_88 : decode cX8_mienOf 88 = .ok (.iadd, 1) := by decide +kernel
theorem dX8_mienOf_89 : decode cX8_mienOf 89 = .ok (.goto 8, 3) := by decide +kernel
theorem dX8_mienOf_92 : decode cX8_mienOf 92 = .ok (.iconst 2, 1) := by decide +kernel
theorem dX8_mienOf_93 : decode cX8_mienOf 93 = .ok (.iconst 2, 1) := by decide +kernel
theorem dX8_mienOf_94 : decode cX8_mienOf 94 = .ok (.iload_n 3, 1) := by decide +kernel
theorem dX8_mienOf_95 : decode cX8_mienOf 95 = .ok (.imul, 1) := by decide +kernel
theorem dX8_mienOf_96 : decode cX8_mienOf 96 = .ok (.iadd, 1) := by decide +kernel
theorem dX8_mienOf_97 : decode cX8_mienOf 97 = .ok (.ireturn, 1) := by decide +kernel
theorem dX8_isSo_0 : decode cX8_isSo 0 = .ok (.iconst 1, 1) := by decide +kernel
theorem dX8_isSo_1 : decode cX8_isSo 1 = .ok (.istore_n 2, 1) := by decide +kernel
theorem dX8_isSo_2 : decode cX8_isSo 2 = .ok (.iconst 0, 1) := by decide +kernel
theorem dX8_isSo_3 : decode cX8_isSo 3 = .ok (.istore_n 3, 1) := by decide +kernel
theorem dX8_isSo_4 : decode cX8_isSo 4 = .ok (.iload_n 3, 1) := by decide +kernel
theorem dX8_isSo_5 : decode cX8_isSo 5 = .ok (.aload_n 0, 1) := by decide +kernel
theorem dX8_isSo_6 : decode cX8_isSo 6 = .ok (.getfield 116, 3) := by decide +kernel
theorem dX8_isSo_9 : decode cX8_isSo 9 = .ok (.if_icmp .ge 39, 3) := by decide +kernel
theorem dX8_isSo_12 : decode cX8_isSo 12 = .ok (.iload_n 2, 1) := by decide +kernel
theorem dX8_isSo_13 : decode cX8_isSo 13 = .ok (.ifCond .eq 27, 3) := by decide +kernel
theorem dX8_isSo_16 : decode cX8_isSo 16 = .ok (.iload_n 1, 1) := by decide +kernel
theorem dX8_isSo_17 : decode cX8_isSo 17 = .ok (.aload_n 0, 1) := by decide +kernel
theorem dX8_isSo_18 : decode cX8_isSo 18 = .ok (.getfield 29, 3) := by decide +kernel
theorem dX8_isSo_21 : decode cX8_isSo 21 = .ok (.iconst 4, 1) := by decide +kernel
theorem dX8_isSo_22 : decode cX8_isSo 22 = .ok (.iload_n 3, 1) := by decide +kernel
theorem dX8_isSo_23 : decode cX8_isSo 23 = .ok (.imul, 1) := by decide +kernel
theorem dX8_isSo_24 : decode cX8_isSo 24 = .ok (.invokestatic 202, 3) := by decide +kernel
theorem dX8_isSo_27 : decode cX8_isSo 27 = .ok (.aload_n 0, 1) := by decide +kernel
theorem dX8_isSo_28 : decode cX8_isSo 28 = .ok (.getfield 32, 3) := by decide +kernel
theorem dX8_isSo_31 : decode cX8_isSo 31 = .ok (.iload_n 3, 1) := by decide +kernel
theorem dX8_isSo_32 : decode cX8_isSo 32 = .ok (.iaload, 1) := by decide +kernel
theorem dX8_isSo_33 : decode cX8_isSo 33 = .ok (.if_icmp .ne 7, 3) := by decide +kernel
theorem dX8_isSo_36 : decode cX8_isSo 36 = .ok (.iconst 1, 1) := by decide +kernel
theorem dX8_isSo_37 : decode cX8_isSo 37 = .ok (.goto 4, 3) := by decide +kernel
theorem dX8_isSo_40 : decode cX8_isSo 40 = .ok (.iconst 0, 1) := by decide +kernel
theorem dX8_isSo_41 : decode cX8_isSo 41 = .ok (.istore_n 2, 1) := by decide +kernel
theorem dX8_isSo_42 : decode cX8_isSo 42 = .ok (.iinc 3 1, 3) := by decide +kernel
theorem dX8_isSo_45 : decode cX8_isSo 45 = .ok (.goto (-41), 3) := by decide +kernel
theorem dX8_isSo_48 : decode cX8_isSo 48 = .ok (.iload_n 2, 1) := by decide +kernel
theorem dX8_isSo_49 : decode cX8_isSo 49 = .ok (.ireturn, 1) := by decide +kernel
theorem dX8_likings_0 : decode cX8_likings 0 = .ok (.iload_n 1, 1) := by decide +kernel
theorem dX8_likings_1 : decode cX8_likings 1 = .ok (.invokestatic 151, 3) := by decide +kernel
theorem dX8_likings_4 : decode cX8_likings 4 = .ok (.ifCond .eq 12, 3) := by decide +kernel
theorem dX8_likings_7 : decode cX8_likings 7 = .ok (.iload_n 2, 1) := by decide +kernel
theorem dX8_likings_8 : decode cX8_likings 8 = .ok (.iconst 0, 1) := by decide +kernel
theorem dX8_likings_9 : decode cX8_likings 9 = .ok (.iconst 2, 1) := by decide +kernel
theorem dX8_likings_10 : decode cX8_likings 10 = .ok (.invokestatic 54, 3) := by decide +kernel
theorem dX8_likings_13 : decode cX8_likings 13 = .ok (.ifCond .ne 5, 3) := by decide +kernel
theorem dX8_likings_16 : decode cX8_likings 16 = .ok (.iconst (-1), 1) := by decide +kernel
theorem dX8_likings_17 : decode cX8_likings 17 = .ok (.ireturn, 1) := by decide +kernel
theorem dX8_likings_18 : decode cX8_likings 18 = .ok (.iconst 0, 1) := by decide +kernel
theorem dX8_likings_19 : decode cX8_likings 19 = .ok (.istore_n 3, 1) := by decide +kernel
theorem dX8_likings_20 : decode cX8_likings 20 = .ok (.bipush (-9), 2) := by decide +kernel
theorem dX8_likings_22 : decode cX8_likings 22 = .ok (.istore 4, 2) := by decide +kernel
theorem dX8_likings_24 : decode cX8_likings 24 = .ok (.bipush (-9), 2) := by decide +kernel
theorem dX8_likings_26 : decode cX8_likings 26 = .ok (.istore 5, 2) := by decide +kernel
theorem dX8_likings_28 : decode cX8_likings 28 = .ok (.iconst 0, 1) := by decide +kernel
theorem dX8_likings_29 : decode cX8_likings 29 = .ok (.istore 6, 2) := by decide +kernel
theorem dX8_likings_31 : decode cX8_likings 31 = .ok (.iload 6, 2) := by decide +kernel
theorem dX8_likings_33 : decode cX8_likings 33 = .ok (.sipush 1296, 3) := by decide +kernel
theorem dX8_likings_36 : decode cX8_likings 36 = .ok (.if_icmp .ge 65, 3) := by decide +kernel
theorem dX8_likings_39 : decode cX8_likings 39 = .ok (.aload_n 0, 1) := by decide +kernel
theorem dX8_likings_40 : decode cX8_likings 40 = .ok (.iload 6, 2) := by decide +kernel
theorem dX8_likings_42 : decode cX8_likings 42 = .ok (.invokevirtual 206, 3) := by decide +kernel
theorem dX8_likings_45 : decode cX8_likings 45 = .ok (.ifCond .eq 50, 3) := by decide +kernel
theorem dX8_likings_48 : decode cX8_likings 48 = .ok (.iload 6, 2) := by decide +kernel
theorem dX8_likings_50 : decode cX8_likings 50 = .ok (.iload_n 1, 1) := by decide +kernel
theorem dX8_likings_51 : decode cX8_likings 51 = .ok (.invokestatic 199, 3) := by decide +kernel
theorem dX8_likings_54 : decode cX8_likings 54 = .ok (.istore 7, 2) := by decide +kernel
theorem dX8_likings_56 : decode cX8_likings 56 = .ok (.iload_n 3, 1) := by decide +kernel
theorem dX8_likings_57 : decode cX8_likings 57 = .ok (.ifCond .eq 10, 3) := by decide +kernel
theorem dX8_likings_60 : decode cX8_likings 60 = .ok (.iload 7, 2) := by decide +kernel
theorem dX8_likings_62 : decode cX8_likings 62 = .ok (.iload 4, 2) := by decide +kernel
theorem dX8_likings_64 : decode cX8_likings 64 = .ok (.if_icmp .ge 8, 3) := by decide +kernel
theorem dX8_likings_67 : decode cX8_likings 67 = .ok (.iload 7, 2) := by decide +kernel
theorem dX8_likings_69 : decode cX8_likings 69 = .ok (.goto 5, 3) := by decide +kernel
theorem dX8_likings_72 : decode cX8_likings 72 = .ok (.iload 4, 2) := by decide +kernel
theorem dX8_likings_74 : decode cX8_likings 74 = .ok (.istore 4, 2) := by decide +kernel
theorem dX8_likings_76 : decode cX8_likings 76 = .ok (.iload 7, 2) := by decide +kernel
theorem dX8_likings_78 : decode cX8_likings 78 = .ok (.iload 5, 2) := by decide +kernel
theorem dX8_likings_80 : decode cX8_likings 80 = .ok (.if_icmp .le 8, 3) := by decide +kernel
theorem dX8_likings_83 : decode cX8_likings 83 = .ok (.iload 7, 2) := by decide +kernel
theorem dX8_likings_85 : decode cX8_likings 85 = .ok (.goto 5, 3) := by decide +kernel
theorem dX8_likings_88 : decode cX8_likings 88 = .ok (.iload 5, 2) := by decide +kernel
theorem dX8_likings_90 : decode cX8_likings 90 = .ok (.istore 5, 2) := by decide +kernel
theorem dX8_likings_92 : decode cX8_likings 92 = .ok (.iinc 3 1, 3) := by decide +kernel
theorem dX8_likings_95 : decode cX8_likings 95 = .ok (.iinc 6 1, 3) := by decide +kernel
theorem dX8_likings_98 : decode cX8_likings 98 = .ok (.goto (-67), 3) := by decide +kernel
theorem dX8_likings_101 : decode cX8_likings 101 = .ok (.iload_n 2, 1) := by decide +kernel
theorem dX8_likings_102 : decode cX8_likings 102 = .ok (.ifCond .ne 7, 3) := by decide +kernel
theorem dX8_likings_105 : decode cX8_likings 105 = .ok (.iload_n 3, 1) := by decide +kernel
theorem dX8_likings_106 : decode cX8_likings 106 = .ok (.goto 15, 3) := by decide +kernel
theorem dX8_likings_109 : decode cX8_likings 109 = .ok (.iload_n 2, 1) := by decide +kernel
theorem dX8_likings_110 : decode cX8_likings 110 = .ok (.iconst 1, 1) := by decide +kernel
theorem dX8_likings_111 : decode cX8_likings 111 = .ok (.if_icmp .ne 8, 3) := by decide +kernel
theorem dX8_likings_114 : decode cX8_likings 114 = .ok (.iload 4, 2) := by decide +kernel
theorem dX8_likings_116 : decode cX8_likings 116 = .ok (.goto 5, 3) := by decide +kernel
theorem dX8_likings_119 : decode cX8_likings 119 = .ok (.iload 5, 2) := by decide +kernel
theorem dX8_likings_121 : decode cX8_likings 121 = .ok (.ireturn, 1) := by decide +kernel
theorem dX8_greatestPart_0 : decode cX8_greatestPart 0 = .ok (.iconst 0, 1) := by decide +kernel
theorem dX8_greatestPart_1 : decode cX8_greatestPart 1 = .ok (.istore_n 1, 1) := by decide +kernel
theorem dX8_greatestPart_2 : decode cX8_greatestPart 2 = .ok (.iconst 0, 1) := by decide +kernel
theorem dX8_greatestPart_3 : decode cX8_greatestPart 3 = .ok (.istore_n 2, 1) := by decide +kernel
theorem dX8_greatestPart_4 : decode cX8_greatestPart 4 = .ok (.iload_n 2, 1) := by decide +kernel
theorem dX8_greatestPart_5 : decode cX8_greatestPart 5 = .ok (.bipush 9, 2) := by decide +kernel
theorem dX8_greatestPart_7 : decode cX8_greatestPart 7 = .ok (.if_icmp .ge 16, 3) := by decide +kernel
theorem dX8_greatestPart_10 : decode cX8_greatestPart 10 = .ok (.aload_n 0, 1) := by decide +kernel
theorem dX8_greatestPart_11 : decode cX8_greatestPart 11 = .ok (.getfield 47, 3) := by decide +kernel
theorem dX8_greatestPart_14 : decode cX8_greatestPart 14 = .ok (.iload_n 2, 1) := by decide +kernel
theorem dX8_greatestPart_15 : decode cX8_greatestPart 15 = .ok (.iconst 0, 1) := by decide +kernel
theorem dX8_greatestPart_16 : decode cX8_greatestPart 16 = .ok (.iastore, 1) := by decide +kernel
theorem dX8_greatestPart_17 : decode cX8_greatestPart 17 = .ok (.iinc 2 1, 3) := by decide +kernel
theorem dX8_greatestPart_20 : decode cX8_greatestPart 20 = .ok (.goto (-16), 3) := by decide +kernel
theorem dX8_greatestPart_23 : decode cX8_greatestPart 23 = .ok (.iconst 0, 1) := by decide +kernel
theorem dX8_greatestPart_24 : decode cX8_greatestPart 24 = .ok (.istore_n 2, 1) := by decide +kernel
theorem dX8_greatestPart_25 : decode cX8_greatestPart 25 = .ok (.iload_n 2, 1) := by decide +kernel
theorem dX8_greatestPart_26 : decode cX8_greatestPart 26 = .ok (.sipush 1296, 3) := by decide +kernel
theorem dX8_greatestPart_29 : decode cX8_greatestPart 29 = .ok (.if_icmp .ge 62, 3) := by decide +kernel
theorem dX8_greatestPart_32 : decode cX8_greatestPart 32 = .ok (.iload_n 2, 1) := by decide +kernel
theorem dX8_greatestPart_33 : decode cX8_greatestPart 33 = .ok (.aload_n 0, 1) := by decide +kernel
theorem dX8_greatestPart_34 : decode cX8_greatestPart 34 = .ok (.getfield 44, 3) := by decide +kernel
theorem dX8_greatestPart_37 : decode cX8_greatestPart 37 = .ok (.iconst 0, 1) := by decide +kernel
theorem dX8_greatestPart_38 : decode cX8_greatestPart 38 = .ok (.invokestatic 202, 3) := by decide +kernel
theorem dX8_greatestPart_41 : decode cX8_greatestPart 41 = .ok (.istore_n 3, 1) := by decide +kernel
theorem dX8_greatestPart_42 : decode cX8_greatestPart 42 = .ok (.aload_n 0, 1) := by decide +kernel
theorem dX8_greatestPart_43 : decode cX8_greatestPart 43 = .ok (.getfield 47, 3) := by decide +kernel
theorem dX8_greatestPart_46 : decode cX8_greatestPart 46 = .ok (.iload_n 3, 1) := by decide +kernel
theorem dX8_greatestPart_47 : decode cX8_greatestPart 47 = .ok (.dup2, 1) := by decide +kernel
theorem dX8_greatestPart_48 : decode cX8_greatestPart 48 = .ok (.iaload, 1) := by decide +kernel
theorem dX8_greatestPart_49 : decode cX8_greatestPart 49 = .ok (.aload_n 0, 1) := by decide +kernel
theorem dX8_greatestPart_50 : decode cX8_greatestPart 50 = .ok (.iload_n 2, 1) := by decide +kernel
theorem dX8_greatestPart_51 : decode cX8_greatestPart 51 = .ok (.invokevirtual 206, 3) := by decide +kernel
theorem dX8_greatestPart_54 : decode cX8_greatestPart 54 = .ok (.ifCond .eq 7, 3) := by decide +kernel
theorem dX8_greatestPart_57 : decode cX8_greatestPart 57 = .ok (.iconst 1, 1) := by decide +kernel
theorem dX8_greatestPart_58 : decode cX8_greatestPart 58 = .ok (.goto 4, 3) := by decide +kernel
theorem dX8_greatestPart_61 : decode cX8_greatestPart 61 = .ok (.iconst 0, 1) := by decide +kernel
theorem dX8_greatestPart_62 : decode cX8_greatestPart 62 = .ok (.iadd, 1) := by decide +kernel
theorem dX8_greatestPart_63 : decode cX8_greatestPart 63 = .ok (.iastore, 1) := by decide +kernel
theorem dX8_greatestPart_64 : decode cX8_greatestPart 64 = .ok (.aload_n 0, 1) := by decide +kernel
theorem dX8_greatestPart_65 : decode cX8_greatestPart 65 = .ok (.getfield 47, 3) := by decide +kernel
theorem dX8_greatestPart_68 : decode cX8_greatestPart 68 = .ok (.iload_n 3, 1) := by decide +kernel
theorem dX8_greatestPart_69 : decode cX8_greatestPart 69 = .ok (.iaload, 1) := by decide +kernel
theorem dX8_greatestPart_70 : decode cX8_greatestPart 70 = .ok (.iload_n 1, 1) := by decide +kernel
theorem dX8_greatestPart_71 : decode cX8_greatestPart 71 = .ok (.if_icmp .le 12, 3) := by decide +kernel
theorem dX8_greatestPart_74 : decode cX8_greatestPart 74 = .ok (.aload_n 0, 1) := by decide +kernel
theorem dX8_greatestPart_75 : decode cX8_greatestPart 75 = .ok (.getfield 47, 3) := by decide +kernel
theorem dX8_greatestPart_78 : decode cX8_greatestPart 78 = .ok (.iload_n 3, 1) := by decide +kernel
theorem dX8_greatestPart_79 : decode cX8_greatestPart 79 = .ok (.iaload, 1) := by decide +kernel
theorem dX8_greatestPart_80 : decode cX8_greatestPart 80 = .ok (.goto 4, 3) := by decide +kernel
theorem dX8_greatestPart_83 : decode cX8_greatestPart 83 = .ok (.iload_n 1, 1) := by decide +kernel
theorem dX8_greatestPart_84 : decode cX8_greatestPart 84 = .ok (.istore_n 1, 1) := by decide +kernel
theorem dX8_greatestPart_85 : decode cX8_greatestPart 85 = .ok (.iinc 2 1, 3) := by decide +kernel
theorem dX8_greatestPart_88 : decode cX8_greatestPart 88 = .ok (.goto (-63), 3) := by decide +kernel
theorem dX8_greatestPart_91 : decode cX8_greatestPart 91 = .ok (.iload_n 1, 1) := by decide +kernel
theorem dX8_greatestPart_92 : decode cX8_greatestPart 92 = .ok (.ireturn, 1) := by decide +kernel
theorem dX8_ask_0 : decode cX8_ask 0 = .ok (.aload_n 0, 1) := by decide +kernel
theorem dX8_ask_1 : decode cX8_ask 1 = .ok (.iconst 0, 1) := by decide +kernel
theorem dX8_ask_2 : decode cX8_ask 2 = .ok (.iconst 0, 1) := by decide +kernel
theorem dX8_ask_3 : decode cX8_ask 3 = .ok (.invokevirtual 209, 3) := by decide +kernel
theorem dX8_ask_6 : decode cX8_ask 6 = .ok (.iconst 2, 1) := by decide +kernel
theorem dX8_ask_7 : decode cX8_ask 7 = .ok (.if_icmp .ge 6, 3) := by decide +kernel
theorem dX8_ask_10 : decode cX8_ask 10 = .ok (.bipush (-9), 2) := by decide +kernel
theorem dX8_ask_12 : decode cX8_ask 12 = .ok (.ireturn, 1) := by decide +kernel
theorem dX8_ask_13 : decode cX8_ask 13 = .ok (.iconst 0, 1) := by decide +kernel
theorem dX8_ask_14 : decode cX8_ask 14 = .ok (.istore_n 1, 1) := by decide +kernel
theorem dX8_ask_15 : decode cX8_ask 15 = .ok (.sipush 1297, 3) := by decide +kernel
theorem dX8_ask_18 : decode cX8_ask 18 = .ok (.istore_n 2, 1) := by decide +kernel
theorem dX8_ask_19 : decode cX8_ask 19 = .ok (.iconst 0, 1) := by decide +kernel
theorem dX8_ask_20 : decode cX8_ask 20 = .ok (.istore_n 3, 1) := by decide +kernel
theorem dX8_ask_21 : decode cX8_ask 21 = .ok (.iload_n 3, 1) := by decide +kernel
theorem dX8_ask_22 : decode cX8_ask 22 = .ok (.iconst 5, 1) := by decide +kernel
theorem dX8_ask_23 : decode cX8_ask 23 = .ok (.if_icmp .gt 62, 3) := by decide +kernel
theorem dX8_ask_26 : decode cX8_ask 26 = .ok (.aload_n 0, 1) := by decide +kernel
theorem dX8_ask_27 : decode cX8_ask 27 = .ok (.invokevirtual 157, 3) := by decide +kernel
theorem dX8_ask_30 : decode cX8_ask 30 = .ok (.iload_n 3, 1) := by decide +kernel
theorem dX8_ask_31 : decode cX8_ask 31 = .ok (.iconst 5, 1) := by decide +kernel
theorem dX8_ask_32 : decode cX8_ask 32 = .ok (.if_icmp .ge 16, 3) := by decide +kernel
theorem dX8_ask_35 : decode cX8_ask 35 = .ok (.aload_n 0, 1) := by decide +kernel
theorem dX8_ask_36 : decode cX8_ask 36 = .ok (.iload_n 3, 1) := by decide +kernel
theorem dX8_ask_37 : decode cX8_ask 37 = .ok (.invokevirtual 180, 3) := by decide +kernel
theorem dX8_ask_40 : decode cX8_ask 40 = .ok (.ifCond .eq 8, 3) := by decide +kernel
theorem dX8_ask_43 : decode cX8_ask 43 = .ok (.aload_n 0, 1) := by decide +kernel
theorem dX8_ask_44 : decode cX8_ask 44 = .ok (.iload_n 3, 1) := by decide +kernel
theorem dX8_ask_45 : decode cX8_ask 45 = .ok (.invokevirtual 170, 3) := by decide +kernel
theorem dX8_ask_48 : decode cX8_ask 48 = .ok (.aload_n 0, 1) := by decide +kernel
theorem dX8_ask_49 : decode cX8_ask 49 = .ok (.invokevirtual 212, 3) := by decide +kernel
theorem dX8_ask_52 : decode cX8_ask 52 = .ok (.istore 4, 2) := by decide +kernel
theorem dX8_ask_54 : decode cX8_ask 54 = .ok (.iload 4, 2) := by decide +kernel
theorem dX8_ask_56 : decode cX8_ask 56 = .ok (.iload_n 2, 1) := by decide +kernel
theorem dX8_ask_57 : decode cX8_ask 57 = .ok (.if_icmp .ge 7, 3) := by decide +kernel
theorem dX8_ask_60 : decode cX8_ask 60 = .ok (.iload_n 3, 1) := by decide +kernel
theorem dX8_ask_61 : decode cX8_ask 61 = .ok (.goto 4, 3) := by decide +kernel
theorem dX8_ask_64 : decode cX8_ask 64 = .ok (.iload_n 1, 1) := by decide +kernel
theorem dX8_ask_65 : decode cX8_ask 65 = .ok (.istore_n 1, 1) := by decide +kernel
theorem dX8_ask_66 : decode cX8_ask 66 = .ok (.iload 4, 2) := by decide +kernel
theorem dX8_ask_68 : decode cX8_ask 68 = .ok (.iload_n 2, 1) := by decide +kernel
theorem dX8_ask_69 : decode cX8_ask 69 = .ok (.if_icmp .ge 8, 3) := by decide +kernel
theorem dX8_ask_72 : decode cX8_ask 72 = .ok (.iload 4, 2) := by decide +kernel
theorem dX8_ask_74 : decode cX8_ask 74 = .ok (.goto 4, 3) := by decide +kernel
theorem dX8_ask_77 : decode cX8_ask 77 = .ok (.iload_n 2, 1) := by decide +kernel
theorem dX8_ask_78 : decode cX8_ask 78 = .ok (.istore_n 2, 1) := by decide +kernel
theorem dX8_ask_79 : decode cX8_ask 79 = .ok (.iinc 3 1, 3) := by decide +kernel
theorem dX8_ask_82 : decode cX8_ask 82 = .ok (.goto (-61), 3) := by decide +kernel
theorem dX8_ask_85 : decode cX8_ask 85 = .ok (.iload_n 1, 1) := by decide +kernel
theorem dX8_ask_86 : decode cX8_ask 86 = .ok (.ireturn, 1) := by decide +kernel
theorem dX8_rate_0 : decode cX8_rate 0 = .ok (.iload_n 1, 1) := by decide +kernel
theorem dX8_rate_1 : decode cX8_rate 1 = .ok (.iconst 0, 1) := by decide +kernel
theorem dX8_rate_2 : decode cX8_rate 2 = .ok (.iconst 5, 1) := by decide +kernel
theorem dX8_rate_3 : decode cX8_rate 3 = .ok (.invokestatic 54, 3) := by decide +kernel
theorem dX8_rate_6 : decode cX8_rate 6 = .ok (.ifCond .eq 11, 3) := by decide +kernel
theorem dX8_rate_9 : decode cX8_rate 9 = .ok (.aload_n 0, 1) := by decide +kernel
theorem dX8_rate_10 : decode cX8_rate 10 = .ok (.iload_n 2, 1) := by decide +kernel
theorem dX8_rate_11 : decode cX8_rate 11 = .ok (.invokevirtual 154, 3) := by decide +kernel
theorem dX8_rate_14 : decode cX8_rate 14 = .ok (.ifCond .ne 6, 3) := by decide +kernel
theorem dX8_rate_17 : decode cX8_rate 17 = .ok (.ldc 160, 2) := by decide +kernel
theorem dX8_rate_19 : decode cX8_rate 19 = .ok (.ireturn, 1) := by decide +kernel
theorem dX8_rate_20 : decode cX8_rate 20 = .ok (.aload_n 0, 1) := by decide +kernel
theorem dX8_rate_21 : decode cX8_rate 21 = .ok (.invokevirtual 157, 3) := by decide +kernel
theorem dX8_rate_24 : decode cX8_rate 24 = .ok (.aload_n 0, 1) := by decide +kernel
theorem dX8_rate_25 : decode cX8_rate 25 = .ok (.iload_n 2, 1) := by decide +kernel
theorem dX8_rate_26 : decode cX8_rate 26 = .ok (.invokevirtual 144, 3) := by decide +kernel
theorem dX8_rate_29 : decode cX8_rate 29 = .ok (.istore_n 3, 1) := by decide +kernel
theorem dX8_rate_30 : decode cX8_rate 30 = .ok (.iload_n 3, 1) := by decide +kernel
theorem dX8_rate_31 : decode cX8_rate 31 = .ok (.aload_n 0, 1) := by decide +kernel
theorem dX8_rate_32 : decode cX8_rate 32 = .ok (.getfield 13, 3) := by decide +kernel
theorem dX8_rate_35 : decode cX8_rate 35 = .ok (.iload_n 2, 1) := by decide +kernel
theorem dX8_rate_36 : decode cX8_rate 36 = .ok (.iaload, 1) := by decide +kernel
theorem dX8_rate_37 : decode cX8_rate 37 = .ok (.iadd, 1) := by decide +kernel
theorem dX8_rate_38 : decode cX8_rate 38 = .ok (.istore 4, 2) := by decide +kernel
theorem dX8_rate_40 : decode cX8_rate 40 = .ok (.iload_n 3, 1) := by decide +kernel
theorem dX8_rate_41 : decode cX8_rate 41 = .ok (.aload_n 0, 1) := by decide +kernel
theorem dX8_rate_42 : decode cX8_rate 42 = .ok (.iload_n 2, 1) := by decide +kernel
theorem dX8_rate_43 : decode cX8_rate 43 = .ok (.invokevirtual 141, 3) := by decide +kernel
theorem dX8_rate_46 : decode cX8_rate 46 = .ok (.isub, 1) := by decide +kernel
theorem dX8_rate_47 : decode cX8_rate 47 = .ok (.istore 5, 2) := by decide +kernel
theorem dX8_rate_49 : decode cX8_rate 49 = .ok (.iload_n 1, 1) := by decide +kernel
theorem dX8_rate_50 : decode cX8_rate 50 = .ok (.tableswitch 117 1 5 #[34, 49, 64, 81, 98], 34) := by decide +kernel
theorem dX8_rate_84 : decode cX8_rate 84 = .ok (.aload_n 0, 1) := by decide +kernel
theorem dX8_rate_85 : decode cX8_rate 85 = .ok (.dup, 1) := by decide +kernel
theorem dX8_rate_86 : decode cX8_rate 86 = .ok (.getfield 215, 3) := by decide +kernel
theorem dX8_rate_89 : decode cX8_rate 89 = .ok (.ldc2_w 219, 3) := by decide +kernel
theorem dX8_rate_92 : decode cX8_rate 92 = .ok (.ladd, 1) := by decide +kernel
theorem dX8_rate_93 : decode cX8_rate 93 = .ok (.putfield 215, 3) := by decide +kernel
theorem dX8_rate_96 : decode cX8_rate 96 = .ok (.iload 4, 2) := by decide +kernel
theorem dX8_rate_98 : decode cX8_rate 98 = .ok (.ireturn, 1) := by decide +kernel
theorem dX8_rate_99 : decode cX8_rate 99 = .ok (.aload_n 0, 1) := by decide +kernel
theorem dX8_rate_100 : decode cX8_rate 100 = .ok (.dup, 1) := by decide +kernel
theorem dX8_rate_101 : decode cX8_rate 101 = .ok (.getfield 215, 3) := by decide +kernel
theorem dX8_rate_104 : decode cX8_rate 104 = .ok (.ldc2_w 221, 3) := by decide +kernel
theorem dX8_rate_107 : decode cX8_rate 107 = .ok (.ladd, 1) := by decide +kernel
theorem dX8_rate_108 : decode cX8_rate 108 = .ok (.putfield 215, 3) := by decide +kernel
theorem dX8_rate_111 : decode cX8_rate 111 = .ok (.iload 5, 2) := by decide +kernel
theorem dX8_rate_113 : decode cX8_rate 113 = .ok (.ireturn, 1) := by decide +kernel
theorem dX8_rate_114 : decode cX8_rate 114 = .ok (.aload_n 0, 1) := by decide +kernel
theorem dX8_rate_115 : decode cX8_rate 115 = .ok (.dup, 1) := by decide +kernel
theorem dX8_rate_116 : decode cX8_rate 116 = .ok (.getfield 215, 3) := by decide +kernel
theorem dX8_rate_119 : decode cX8_rate 119 = .ok (.ldc2_w 223, 3) := by decide +kernel
theorem dX8_rate_122 : decode cX8_rate 122 = .ok (.ladd, 1) := by decide +kernel
theorem dX8_rate_123 : decode cX8_rate 123 = .ok (.putfield 215, 3) := by decide +kernel
theorem dX8_rate_126 : decode cX8_rate 126 = .ok (.iconst 2, 1) := by decide +kernel
theorem dX8_rate_127 : decode cX8_rate 127 = .ok (.iload 4, 2) := by decide +kernel
theorem dX8_rate_129 : decode cX8_rate 129 = .ok (.imul, 1) := by decide +kernel
theorem dX8_rate_130 : decode cX8_rate 130 = .ok (.ireturn, 1) := by decide +kernel
theorem dX8_rate_131 : decode cX8_rate 131 = .ok (.aload_n 0, 1) := by decide +kernel
theorem dX8_rate_132 : decode cX8_rate 132 = .ok (.dup, 1) := by decide +kernel
theorem dX8_rate_133 : decode cX8_rate 133 = .ok (.getfield 215, 3) := by decide +kernel
theorem dX8_rate_136 : decode cX8_rate 136 = .ok (.ldc2_w 225, 3) := by decide +kernel
theorem dX8_rate_139 : decode cX8_rate 139 = .ok (.ladd, 1) := by decide +kernel
theorem dX8_rate_140 : decode cX8_rate 140 = .ok (.putfield 215, 3) := by decide +kernel
theorem dX8_rate_143 : decode cX8_rate 143 = .ok (.iload 5, 2) := by decide +kernel
theorem dX8_rate_145 : decode cX8_rate 145 = .ok (.iload_n 2, 1) := by decide +kernel
theorem dX8_rate_146 : decode cX8_rate 146 = .ok (.iadd, 1) := by decide +kernel
theorem dX8_rate_147 : decode cX8_rate 147 = .ok (.ireturn, 1) := by decide +kernel
theorem dX8_rate_148 : decode cX8_rate 148 = .ok (.aload_n 0, 1) := by decide +kernel
theorem dX8_rate_149 : decode cX8_rate 149 = .ok (.dup, 1) := by decide +kernel
theorem dX8_rate_150 : decode cX8_rate 150 = .ok (.getfield 215, 3) := by decide +kernel
theorem dX8_rate_153 : decode cX8_rate 153 = .ok (.ldc2_w 227, 3) := by decide +kernel
theorem dX8_rate_156 : decode cX8_rate 156 = .ok (.ladd, 1) := by decide +kernel
theorem dX8_rate_157 : decode cX8_rate 157 = .ok (.putfield 215, 3) := by decide +kernel
theorem dX8_rate_160 : decode cX8_rate 160 = .ok (.iload_n 3, 1) := by decide +kernel
theorem dX8_rate_161 : decode cX8_rate 161 = .ok (.aload_n 0, 1) := by decide +kernel
theorem dX8_rate_162 : decode cX8_rate 162 = .ok (.invokevirtual 147, 3) := by decide +kernel
theorem dX8_rate_165 : decode cX8_rate 165 = .ok (.iadd, 1) := by decide +kernel
theorem dX8_rate_166 : decode cX8_rate 166 = .ok (.ireturn, 1) := by decide +kernel
theorem dX8_rate_167 : decode cX8_rate 167 = .ok (.aload_n 0, 1) := by decide +kernel
theorem dX8_rate_168 : decode cX8_rate 168 = .ok (.dup, 1) := by decide +kernel
theorem dX8_rate_169 : decode cX8_rate 169 = .ok (.getfield 215, 3) := by decide +kernel
theorem dX8_rate_172 : decode cX8_rate 172 = .ok (.lconst 1, 1) := by decide +kernel
theorem dX8_rate_173 : decode cX8_rate 173 = .ok (.ladd, 1) := by decide +kernel
theorem dX8_rate_174 : decode cX8_rate 174 = .ok (.putfield 215, 3) := by decide +kernel
theorem dX8_rate_177 : decode cX8_rate 177 = .ok (.iload_n 3, 1) := by decide +kernel
theorem dX8_rate_178 : decode cX8_rate 178 = .ok (.ireturn, 1) := by decide +kernel
theorem dX8_keep_0 : decode cX8_keep 0 = .ok (.iload_n 1, 1) := by decide +kernel
theorem dX8_keep_1 : decode cX8_keep 1 = .ok (.iconst 0, 1) := by decide +kernel
theorem dX8_keep_2 : decode cX8_keep 2 = .ok (.iconst 1, 1) := by decide +kernel
theorem dX8_keep_3 : decode cX8_keep 3 = .ok (.invokestatic 54, 3) := by decide +kernel
theorem dX8_keep_6 : decode cX8_keep 6 = .ok (.ifCond .ne 5, 3) := by decide +kernel
theorem dX8_keep_9 : decode cX8_keep 9 = .ok (.iconst (-1), 1) := by decide +kernel
theorem dX8_keep_10 : decode cX8_keep 10 = .ok (.ireturn, 1) := by decide +kernel
theorem dX8_keep_11 : decode cX8_keep 11 = .ok (.aload_n 0, 1) := by decide +kernel
theorem dX8_keep_12 : decode cX8_keep 12 = .ok (.invokevirtual 157, 3) := by decide +kernel
theorem dX8_keep_15 : decode cX8_keep 15 = .ok (.aload_n 0, 1) := by decide +kernel
theorem dX8_keep_16 : decode cX8_keep 16 = .ok (.getfield 22, 3) := by decide +kernel
theorem dX8_keep_19 : decode cX8_keep 19 = .ok (.bipush 11, 2) := by decide +kernel
theorem dX8_keep_21 : decode cX8_keep 21 = .ok (.iload_n 1, 1) := by decide +kernel
theorem dX8_keep_22 : decode cX8_keep 22 = .ok (.imul, 1) := by decide +kernel
theorem dX8_keep_23 : decode cX8_keep 23 = .ok (.aload_n 0, 1) := by decide +kernel
theorem dX8_keep_24 : decode cX8_keep 24 = .ok (.getfield 16, 3) := by decide +kernel
theorem dX8_keep_27 : decode cX8_keep 27 = .ok (.iconst 0, 1) := by decide +kernel
theorem dX8_keep_28 : decode cX8_keep 28 = .ok (.invokestatic 119, 3) := by decide +kernel
theorem dX8_keep_31 : decode cX8_keep 31 = .ok (.aload_n 0, 1) := by decide +kernel
theorem dX8_keep_32 : decode cX8_keep 32 = .ok (.getfield 25, 3) := by decide +kernel
theorem dX8_keep_35 : decode cX8_keep 35 = .ok (.iload_n 1, 1) := by decide +kernel
theorem dX8_keep_36 : decode cX8_keep 36 = .ok (.iconst 1, 1) := by decide +kernel
theorem dX8_keep_37 : decode cX8_keep 37 = .ok (.bastore, 1) := by decide +kernel
theorem dX8_keep_38 : decode cX8_keep 38 = .ok (.aload_n 0, 1) := by decide +kernel
theorem dX8_keep_39 : decode cX8_keep 39 = .ok (.invokevirtual 161, 3) := by decide +kernel
theorem dX8_keep_42 : decode cX8_keep 42 = .ok (.invokestatic 174, 3) := by decide +kernel
theorem dX8_keep_45 : decode cX8_keep 45 = .ok (.ireturn, 1) := by decide +kernel
theorem dX8_back_0 : decode cX8_back 0 = .ok (.iload_n 1, 1) := by decide +kernel
theorem dX8_back_1 : decode cX8_back 1 = .ok (.iconst 0, 1) := by decide +kernel
theorem dX8_back_2 : decode cX8_back 2 = .ok (.iconst 1, 1) := by decide +kernel
theorem dX8_back_3 : decode cX8_back 3 = .ok (.invokestatic 54, 3) := by decide +kernel
theorem dX8_back_6 : decode cX8_back 6 = .ok (.ifCond .ne 5, 3) := by decide +kernel
theorem dX8_back_9 : decode cX8_back 9 = .ok (.iconst (-1), 1) := by decide +kernel
theorem dX8_back_10 : decode cX8_back 10 = .ok (.ireturn, 1) := by decide +kernel
theorem dX8_back_11 : decode cX8_back 11 = .ok (.aload_n 0, 1) := by decide +kernel
theorem dX8_back_12 : decode cX8_back 12 = .ok (.getfield 25, 3) := by decide +kernel
theorem dX8_back_15 : decode cX8_back 15 = .ok (.iload_n 1, 1) := by decide +kernel
theorem dX8_back_16 : decode cX8_back 16 = .ok (.baload, 1) := by decide +kernel
theorem dX8_back_17 : decode cX8_back 17 = .ok (.ifCond .ne 6, 3) := by decide +kernel
theorem dX8_back_20 : decode cX8_back 20 = .ok (.bipush (-2), 2) := by decide +kernel
theorem dX8_back_22 : decode cX8_back 22 = .ok (.ireturn, 1) := by decide +kernel
theorem dX8_back_23 : decode cX8_back 23 = .ok (.aload_n 0, 1) := by decide +kernel
theorem dX8_back_24 : decode cX8_back 24 = .ok (.getfield 16, 3) := by decide +kernel
theorem dX8_back_27 : decode cX8_back 27 = .ok (.iconst 0, 1) := by decide +kernel
theorem dX8_back_28 : decode cX8_back 28 = .ok (.aload_n 0, 1) := by decide +kernel
theorem dX8_back_29 : decode cX8_back 29 = .ok (.getfield 22, 3) := by decide +kernel
theorem dX8_back_32 : decode cX8_back 32 = .ok (.bipush 11, 2) := by decide +kernel
theorem dX8_back_34 : decode cX8_back 34 = .ok (.iload_n 1, 1) := by decide +kernel
theorem dX8_back_35 : decode cX8_back 35 = .ok (.imul, 1) := by decide +kernel
theorem dX8_back_36 : decode cX8_back 36 = .ok (.invokestatic 119, 3) := by decide +kernel
theorem dX8_back_39 : decode cX8_back 39 = .ok (.aload_n 0, 1) := by decide +kernel
theorem dX8_back_40 : decode cX8_back 40 = .ok (.iconst 0, 1) := by decide +kernel
theorem dX8_back_41 : decode cX8_back 41 = .ok (.putfield 113, 3) := by decide +kernel
theorem dX8_back_44 : decode cX8_back 44 = .ok (.aload_n 0, 1) := by decide +kernel
theorem dX8_back_45 : decode cX8_back 45 = .ok (.invokevirtual 157, 3) := by decide +kernel
theorem dX8_back_48 : decode cX8_back 48 = .ok (.aload_n 0, 1) := by decide +kernel
theorem dX8_back_49 : decode cX8_back 49 = .ok (.invokevirtual 161, 3) := by decide +kernel
theorem dX8_back_52 : decode cX8_back 52 = .ok (.invokestatic 174, 3) := by decide +kernel
theorem dX8_back_55 : decode cX8_back 55 = .ok (.ireturn, 1) := by decide +kernel
theorem dX8_count_0 : decode cX8_count 0 = .ok (.iload_n 1, 1) := by decide +kernel
theorem dX8_count_1 : decode cX8_count 1 = .ok (.ifCond .ne 10, 3) := by decide +kernel
theorem dX8_count_4 : decode cX8_count 4 = .ok (.aload_n 0, 1) := by decide +kernel
theorem dX8_count_5 : decode cX8_count 5 = .ok (.getfield 50, 3) := by decide +kernel
theorem dX8_count_8 : decode cX8_count 8 = .ok (.goto 28, 3) := by decide +kernel
theorem dX8_count_11 : decode cX8_count 11 = .ok (.iload_n 1, 1) := by decide +kernel
theorem dX8_count_12 : decode cX8_count 12 = .ok (.iconst 1, 1) := by decide +kernel
theorem dX8_count_13 : decode cX8_count 13 = .ok (.if_icmp .ne 10, 3) := by decide +kernel
theorem dX8_count_16 : decode cX8_count 16 = .ok (.aload_n 0, 1) := by decide +kernel
theorem dX8_count_17 : decode cX8_count 17 = .ok (.getfield 116, 3) := by decide +kernel
theorem dX8_count_20 : decode cX8_count 20 = .ok (.goto 16, 3) := by decide +kernel
theorem dX8_count_23 : decode cX8_count 23 = .ok (.iload_n 1, 1) := by decide +kernel
theorem dX8_count_24 : decode cX8_count 24 = .ok (.iconst 2, 1) := by decide +kernel
theorem dX8_count_25 : decode cX8_count 25 = .ok (.if_icmp .ne 10, 3) := by decide +kernel
theorem dX8_count_28 : decode cX8_count 28 = .ok (.aload_n 0, 1) := by decide +kernel
theorem dX8_count_29 : decode cX8_count 29 = .ok (.getfield 58, 3) := by decide +kernel
theorem dX8_count_32 : decode cX8_count 32 = .ok (.goto 4, 3) := by decide +kernel
theorem dX8_count_35 : decode cX8_count 35 = .ok (.iconst (-1), 1) := by decide +kernel
theorem dX8_count_36 : decode cX8_count 36 = .ok (.ireturn, 1) := by decide +kernel
theorem dX8_trace_0 : decode cX8_trace 0 = .ok (.aload_n 0, 1) := by decide +kernel
theorem dX8_trace_1 : decode cX8_trace 1 = .ok (.getfield 215, 3) := by decide +kernel
theorem dX8_trace_4 : decode cX8_trace 4 = .ok (.lreturn, 1) := by decide +kernel
