theorem dX7_init_0 : decode cX7_init 0 = .ok (.aload_n 0, 1) := by decide +kernel
theorem dX7_init_1 : decode cX7_init 1 = .ok (.invokespecial 1, 3) := by decide +kernel
theorem dX7_init_4 : decode cX7_init 4 = .ok (.aload_n 0, 1) := by decide +kernel
theorem dX7_init_5 : decode cX7_init 5 = .ok (.new 7, 3) := by decide +kernel
theorem dX7_init_8 : decode cX7_init 8 = .ok (.dup, 1) := by decide +kernel
theorem dX7_init_9 : decode cX7_init 9 = .ok (.invokespecial 9, 3) := by decide +kernel
theorem dX7_init_12 : decode cX7_init 12 = .ok (.putfield 10, 3) := by decide +kernel
theorem dX7_init_15 : decode cX7_init 15 = .ok (.aload_n 0, 1) := by decide +kernel
theorem dX7_init_16 : decode cX7_init 16 = .ok (.new 16, 3) := by decide +kernel
theorem dX7_init_19 : decode cX7_init 19 = .ok (.dup, 1) := by decide +kernel
theorem dX7_init_20 : decode cX7_init 20 = .ok (.invokespecial 18, 3) := by decide +kernel
theorem dX7_init_23 : decode cX7_init 23 = .ok (.putfield 19, 3) := by decide +kernel
theorem dX7_init_26 : decode cX7_init 26 = .ok (.aload_n 0, 1) := by decide +kernel
theorem dX7_init_27 : decode cX7_init 27 = .ok (.new 23, 3) := by decide +kernel
theorem dX7_init_30 : decode cX7_init 30 = .ok (.dup, 1) := by decide +kernel
theorem dX7_init_31 : decode cX7_init 31 = .ok (.invokespecial 25, 3) := by decide +kernel
theorem dX7_init_34 : decode cX7_init 34 = .ok (.putfield 26, 3) := by decide +kernel
theorem dX7_init_37 : decode cX7_init 37 = .ok (.aload_n 0, 1) := by decide +kernel
theorem dX7_init_38 : decode cX7_init 38 = .ok (.new 30, 3) := by decide +kernel
theorem dX7_init_41 : decode cX7_init 41 = .ok (.dup, 1) := by decide +kernel
theorem dX7_init_42 : decode cX7_init 42 = .ok (.invokespecial 32, 3) := by decide +kernel
theorem dX7_init_45 : decode cX7_init 45 = .ok (.putfield 33, 3) := by decide +kernel
theorem dX7_init_48 : decode cX7_init 48 = .ok (.aload_n 0, 1) := by decide +kernel
theorem dX7_init_49 : decode cX7_init 49 = .ok (.iconst 2, 1) := by decide +kernel
theorem dX7_init_50 : decode cX7_init 50 = .ok (.anewarray 23, 3) := by decide +kernel
theorem dX7_init_53 : decode cX7_init 53 = .ok (.dup, 1) := by decide +kernel
theorem dX7_init_54 : decode cX7_init 54 = .ok (.iconst 0, 1) := by decide +kernel
theorem dX7_init_55 : decode cX7_init 55 = .ok (.new 23, 3) := by decide +kernel
theorem dX7_init_58 : decode cX7_init 58 = .ok (.dup, 1) := by decide +kernel
theorem dX7_init_59 : decode cX7_init 59 = .ok (.invokespecial 25, 3) := by decide +kernel
theorem dX7_init_62 : decode cX7_init 62 = .ok (.aastore, 1) := by decide +kernel
theorem dX7_init_63 : decode cX7_init 63 = .ok (.dup, 1) := by decide +kernel
theorem dX7_init_64 : decode cX7_init 64 = .ok (.iconst 1, 1) := by decide +kernel
theorem dX7_init_65 : decode cX7_init 65 = .ok (.new 23, 3) := by decide +kernel
theorem dX7_init_68 : decode cX7_init 68 = .ok (.dup, 1) := by decide +kernel
theorem dX7_init_69 : decode cX7_init 69 = .ok (.invokespecial 25, 3) := by decide +kernel
theorem dX7_init_72 : decode cX7_init 72 = .ok (.aastore, 1) := by decide +kernel
theorem dX7_init_73 : decode cX7_init 73 = .ok (.putfield 37, 3) := by decide +kernel
theorem dX7_init_76 : decode cX7_init 76 = .ok (.aload_n 0, 1) := by decide +kernel
theorem dX7_init_77 : decode cX7_init 77 = .ok (.iconst 2, 1) := by decide +kernel
theorem dX7_init_78 : decode cX7_init 78 = .ok (.newarray .boolean, 2) := by decide +kernel
theorem dX7_init_80 : decode cX7_init 80 = .ok (.putfield 41, 3) := by decide +kernel
theorem dX7_init_83 : decode cX7_init 83 = .ok (.aload_n 0, 1) := by decide +kernel
theorem dX7_init_84 : decode cX7_init 84 = .ok (.new 45, 3) := by decide +kernel
theorem dX7_init_87 : decode cX7_init 87 = .ok (.dup, 1) := by decide +kernel
theorem dX7_init_88 : decode cX7_init 88 = .ok (.invokespecial 47, 3) := by decide +kernel
theorem dX7_init_91 : decode cX7_init 91 = .ok (.putfield 48, 3) := by decide +kernel
theorem dX7_init_94 : decode cX7_init 94 = .ok (.aload_n 0, 1) := by decide +kernel
theorem dX7_init_95 : decode cX7_init 95 = .ok (.new 52, 3) := by decide +kernel
theorem dX7_init_98 : decode cX7_init 98 = .ok (.dup, 1) := by decide +kernel
theorem dX7_init_99 : decode cX7_init 99 = .ok (.invokespecial 54, 3) := by decide +kernel
theorem dX7_init_102 : decode cX7_init 102 = .ok (.putfield 55, 3) := by decide +kernel
theorem dX7_init_105 : decode cX7_init 105 = .ok (.return_, 1) := by decide +kernel
theorem dX7_type_0 : decode cX7_type 0 = .ok (.iload_n 1, 1) := by decide +kernel
theorem dX7_type_1 : decode cX7_type 1 = .ok (.ifCond .lt 10, 3) := by decide +kernel
theorem dX7_type_4 : decode cX7_type 4 = .ok (.iload_n 1, 1) := by decide +kernel
theorem dX7_type_5 : decode cX7_type 5 = .ok (.sipush 255, 3) := by decide +kernel
theorem dX7_type_8 : decode cX7_type 8 = .ok (.if_icmp .le 5, 3) := by decide +kernel
theorem dX7_type_11 : decode cX7_type 11 = .ok (.iconst (-1), 1) := by decide +kernel
theorem dX7_type_12 : decode cX7_type 12 = .ok (.ireturn, 1) := by decide +kernel
theorem dX7_type_13 : decode cX7_type 13 = .ok (.aload_n 0, 1) := by decide +kernel
theorem dX7_type_14 : decode cX7_type 14 = .ok (.getfield 10, 3) := by decide +kernel
theorem dX7_type_17 : decode cX7_type 17 = .ok (.getfield 59, 3) := by decide +kernel
theorem dX7_type_20 : decode cX7_type 20 = .ok (.bipush 120, 2) := by decide +kernel
theorem dX7_type_22 : decode cX7_type 22 = .ok (.if_icmp .lt 6, 3) := by decide +kernel
theorem dX7_type_25 : decode cX7_type 25 = .ok (.bipush (-3), 2) := by decide +kernel
theorem dX7_type_27 : decode cX7_type 27 = .ok (.ireturn, 1) := by decide +kernel
theorem dX7_type_28 : decode cX7_type 28 = .ok (.aload_n 0, 1) := by decide +kernel
theorem dX7_type_29 : decode cX7_type 29 = .ok (.getfield 10, 3) := by decide +kernel
theorem dX7_type_32 : decode cX7_type 32 = .ok (.iload_n 1, 1) := by decide +kernel
theorem dX7_type_33 : decode cX7_type 33 = .ok (.invokevirtual 63, 3) := by decide +kernel
theorem dX7_type_36 : decode cX7_type 36 = .ok (.ireturn, 1) := by decide +kernel
theorem dX7_clear_0 : decode cX7_clear 0 = .ok (.aload_n 0, 1) := by decide +kernel
theorem dX7_clear_1 : decode cX7_clear 1 = .ok (.getfield 10, 3) := by decide +kernel
theorem dX7_clear_4 : decode cX7_clear 4 = .ok (.invokevirtual 67, 3) := by decide +kernel
theorem dX7_clear_7 : decode cX7_clear 7 = .ok (.ireturn, 1) := by decide +kernel
theorem dX7_kitchen_0 : decode cX7_kitchen 0 = .ok (.aload_n 0, 1) := by decide +kernel
theorem dX7_kitchen_1 : decode cX7_kitchen 1 = .ok (.getfield 10, 3) := by decide +kernel
theorem dX7_kitchen_4 : decode cX7_kitchen 4 = .ok (.invokevirtual 71, 3) := by decide +kernel
theorem dX7_kitchen_7 : decode cX7_kitchen 7 = .ok (.istore_n 1, 1) := by decide +kernel
theorem dX7_kitchen_8 : decode cX7_kitchen 8 = .ok (.iload_n 1, 1) := by decide +kernel
theorem dX7_kitchen_9 : decode cX7_kitchen 9 = .ok (.ifCond .lt 7, 3) := by decide +kernel
theorem dX7_kitchen_12 : decode cX7_kitchen 12 = .ok (.aload_n 0, 1) := by decide +kernel
theorem dX7_kitchen_13 : decode cX7_kitchen 13 = .ok (.invokevirtual 74, 3) := by decide +kernel
theorem dX7_kitchen_16 : decode cX7_kitchen 16 = .ok (.iload_n 1, 1) := by decide +kernel
theorem dX7_kitchen_17 : decode cX7_kitchen 17 = .ok (.ireturn, 1) := by decide +kernel
theorem dX7_pot_0 : decode cX7_pot 0 = .ok (.iload_n 1, 1) := by decide +kernel
theorem dX7_pot_1 : decode cX7_pot 1 = .ok (.invokestatic 77, 3) := by decide +kernel
theorem dX7_pot_4 : decode cX7_pot 4 = .ok (.ifCond .eq 15, 3) := by decide +kernel
theorem dX7_pot_7 : decode cX7_pot 7 = .ok (.aload_n 0, 1) := by decide +kernel
theorem dX7_pot_8 : decode cX7_pot 8 = .ok (.getfield 26, 3) := by decide +kernel
theorem dX7_pot_11 : decode cX7_pot 11 = .ok (.getfield 81, 3) := by decide +kernel
theorem dX7_pot_14 : decode cX7_pot 14 = .ok (.iload_n 1, 1) := by decide +kernel
theorem dX7_pot_15 : decode cX7_pot 15 = .ok (.iaload, 1) := by decide +kernel
theorem dX7_pot_16 : decode cX7_pot 16 = .ok (.goto 4, 3) := by decide +kernel
theorem dX7_pot_19 : decode cX7_pot 19 = .ok (.iconst (-1), 1) := by decide +kernel
theorem dX7_pot_20 : decode cX7_pot 20 = .ok (.ireturn, 1) := by decide +kernel
theorem dX7_brother_0 : decode cX7_brother 0 = .ok (.aload_n 0, 1) := by decide +kernel
theorem dX7_brother_1 : decode cX7_brother 1 = .ok (.getfield 19, 3) := by decide +kernel
theorem dX7_brother_4 : decode cX7_brother 4 = .ok (.iload_n 1, 1) := by decide +kernel
theorem dX7_brother_5 : decode cX7_brother 5 = .ok (.invokevirtual 85, 3) := by decide +kernel
theorem dX7_brother_8 : decode cX7_brother 8 = .ok (.ifCond .eq 13, 3) := by decide +kernel
theorem dX7_brother_11 : decode cX7_brother 11 = .ok (.iload_n 2, 1) := by decide +kernel
theorem dX7_brother_12 : decode cX7_brother 12 = .ok (.ifCond .lt 9, 3) := by decide +kernel
theorem dX7_brother_15 : decode cX7_brother 15 = .ok (.iload_n 2, 1) := by decide +kernel
theorem dX7_brother_16 : decode cX7_brother 16 = .ok (.bipush 8, 2) := by decide +kernel
theorem dX7_brother_18 : decode cX7_brother 18 = .ok (.if_icmp .le 5, 3) := by decide +kernel
theorem dX7_brother_21 : decode cX7_brother 21 = .ok (.iconst (-1), 1) := by decide +kernel
theorem dX7_brother_22 : decode cX7_brother 22 = .ok (.ireturn, 1) := by decide +kernel
theorem dX7_brother_23 : decode cX7_brother 23 = .ok (.iload_n 2, 1) := by decide +kernel
theorem dX7_brother_24 : decode cX7_brother 24 = .ok (.iconst 4, 1) := by decide +kernel
theorem dX7_brother_25 : decode cX7_brother 25 = .ok (.if_icmp .ge 18, 3) := by decide +kernel
theorem dX7_brother_28 : decode cX7_brother 28 = .ok (.aload_n 0, 1) := by decide +kernel
theorem dX7_brother_29 : decode cX7_brother 29 = .ok (.getfield 19, 3) := by decide +kernel
theorem dX7_brother_32 : decode cX7_brother 32 = .ok (.getfield 88, 3) := by decide +kernel
theorem dX7_brother_35 : decode cX7_brother 35 = .ok (.iload_n 1, 1) := by decide +kernel
theorem dX7_brother_36 : decode cX7_brother 36 = .ok (.aaload, 1) := by decide +kernel
theorem dX7_brother_37 : decode cX7_brother 37 = .ok (.getfield 92, 3) := by decide +kernel
theorem dX7_brother_40 : decode cX7_brother 40 = .ok (.iload_n 2, 1) := by decide +kernel
theorem dX7_brother_41 : decode cX7_brother 41 = .ok (.iaload, 1) := by decide +kernel
theorem dX7_brother_42 : decode cX7_brother 42 = .ok (.ireturn, 1) := by decide +kernel
theorem dX7_brother_43 : decode cX7_brother 43 = .ok (.iload_n 2, 1) := by decide +kernel
theorem dX7_brother_44 : decode cX7_brother 44 = .ok (.tableswitch 81 4 7 #[32, 45, 55, 68], 32) := by decide +kernel
theorem dX7_brother_76 : decode cX7_brother 76 = .ok (.aload_n 0, 1) := by decide +kernel
theorem dX7_brother_77 : decode cX7_brother 77 = .ok (.getfield 19, 3) := by decide +kernel
theorem dX7_brother_80 : decode cX7_brother 80 = .ok (.getfield 88, 3) := by decide +kernel
theorem dX7_brother_83 : decode cX7_brother 83 = .ok (.iload_n 1, 1) := by decide +kernel
theorem dX7_brother_84 : decode cX7_brother 84 = .ok (.aaload, 1) := by decide +kernel
theorem dX7_brother_85 : decode cX7_brother 85 = .ok (.getfield 97, 3) := by decide +kernel
theorem dX7_brother_88 : decode cX7_brother 88 = .ok (.ireturn, 1) := by decide +kernel
theorem dX7_brother_89 : decode cX7_brother 89 = .ok (.aload_n 0, 1) := by decide +kernel
theorem dX7_brother_90 : decode cX7_brother 90 = .ok (.getfield 26, 3) := by decide +kernel
theorem dX7_brother_93 : decode cX7_brother 93 = .ok (.getfield 100, 3) := by decide +kernel
theorem dX7_brother_96 : decode cX7_brother 96 = .ok (.iload_n 1, 1) := by decide +kernel
theorem dX7_brother_97 : decode cX7_brother 97 = .ok (.iaload, 1) := by decide +kernel
theorem dX7_brother_98 : decode cX7_brother 98 = .ok (.ireturn, 1) := by decide +kernel
theorem dX7_brother_99 : decode cX7_brother 99 = .ok (.aload_n 0, 1) := by decide +kernel
theorem dX7_brother_100 : decode cX7_brother 100 = .ok (.getfield 19, 3) := by decide +kernel
theorem dX7_brother_103 : decode cX7_brother 103 = .ok (.iload_n 1, 1) := by decide +kernel
theorem dX7_brother_104 : decode cX7_brother 104 = .ok (.aload_n 0, 1) := by decide +kernel
theorem dX7_brother_105 : decode cX7_brother 105 = .ok (.getfield 26, 3) := by decide +kernel
theorem dX7_brother_108 : decode cX7_brother 108 = .ok (.invokevirtual 103, 3) := by decide +kernel
theorem dX7_brother_111 : decode cX7_brother 111 = .ok (.ireturn, 1) := by decide +kernel
theorem dX7_brother_112 : decode cX7_brother 112 = .ok (.aload_n 0, 1) := by decide +kernel
theorem dX7_brother_113 : decode cX7_brother 113 = .ok (.getfield 19, 3) := by decide +kernel
theorem dX7_brother_116 : decode cX7_brother 116 = .ok (.iload_n 1, 1) := by decide +kernel
theorem dX7_brother_117 : decode cX7_brother 117 = .ok (.aload_n 0, 1) := by decide +kernel
theorem dX7_brother_118 : decode cX7_brother 118 = .ok (.getfield 26, 3) := by decide +kernel
theorem dX7_brother_121 : decode cX7_brother 121 = .ok (.invokevirtual 107, 3) := by decide +kernel
theorem dX7_brother_124 : decode cX7_brother 124 = .ok (.ireturn, 1) := by decide +kernel
theorem dX7_brother_125 : decode cX7_brother 125 = .ok (.aload_n 0, 1) := by decide +kernel
theorem dX7_brother_126 : decode cX7_brother 126 = .ok (.getfield 26, 3) := by decide +kernel
theorem dX7_brother_129 : decode cX7_brother 129 = .ok (.getfield 110, 3) := by decide +kernel
theorem dX7_brother_132 : decode cX7_brother 132 = .ok (.iload_n 1, 1) := by decide +kernel
theorem dX7_brother_133 : decode cX7_brother 133 = .ok (.iaload, 1) := by decide +kernel
theorem dX7_brother_134 : decode cX7_brother 134 = .ok (.ireturn, 1) := by decide +kernel
theorem dX7_off_0 : decode cX7_off 0 = .ok (.aload_n 0, 1) := by decide +kernel
theorem dX7_off_1 : decode cX7_off 1 = .ok (.getfield 19, 3) := by decide +kernel
theorem dX7_off_4 : decode cX7_off 4 = .ok (.iload_n 1, 1) := by decide +kernel
theorem dX7_off_5 : decode cX7_off 5 = .ok (.invokevirtual 85, 3) := by decide +kernel
theorem dX7_off_8 : decode cX7_off 8 = .ok (.ifCond .eq 10, 3) := by decide +kernel
theorem dX7_off_11 : decode cX7_off 11 = .ok (.iload_n 2, 1) := by decide +kernel
theorem dX7_off_12 : decode cX7_off 12 = .ok (.invokestatic 77, 3) := by decide +kernel
theorem dX7_off_15 : decode cX7_off 15 = .ok (.ifCond .ne 6, 3) := by decide +kernel
theorem dX7_off_18 : decode cX7_off 18 = .ok (.ldc 113, 2) := by decide +kernel
theorem dX7_off_20 : decode cX7_off 20 = .ok (.ireturn, 1) := by decide +kernel
theorem dX7_off_21 : decode cX7_off 21 = .ok (.aload_n 0, 1) := by decide +kernel
theorem dX7_off_22 : decode cX7_off 22 = .ok (.getfield 19, 3) := by decide +kernel
theorem dX7_off_25 : decode cX7_off 25 = .ok (.getfield 88, 3) := by decide +kernel
theorem dX7_off_28 : decode cX7_off 28 = .ok (.iload_n 1, 1) := by decide +kernel
theorem dX7_off_29 : decode cX7_off 29 = .ok (.aaload, 1) := by decide +kernel
theorem dX7_off_30 : decode cX7_off 30 = .ok (.iload_n 2, 1) := by decide +kernel
theorem dX7_off_31 : decode cX7_off 31 = .ok (.aload_n 0, 1) := by decide +kernel
theorem dX7_off_32 : decode cX7_off 32 = .ok (.getfield 26, 3) := by decide +kernel
theorem dX7_off_35 : decode cX7_off 35 = .ok (.getfield 81, 3) := by decide +kernel
theorem dX7_off_38 : decode cX7_off 38 = .ok (.iload_n 2, 1) := by decide +kernel
theorem dX7_off_39 : decode cX7_off 39 = .ok (.iaload, 1) := by decide +kernel
theorem dX7_off_40 : decode cX7_off 40 = .ok (.aload_n 0, 1) := by decide +kernel
theorem dX7_off_41 : decode cX7_off 41 = .ok (.getfield 26, 3) := by decide +kernel
theorem dX7_off_44 : decode cX7_off 44 = .ok (.getfield 100, 3) := by decide +kernel
theorem dX7_off_47 : decode cX7_off 47 = .ok (.iload_n 1, 1) := by decide +kernel
theorem dX7_off_48 : decode cX7_off 48 = .ok (.iaload, 1) := by decide +kernel
theorem dX7_off_49 : decode cX7_off 49 = .ok (.invokevirtual 114, 3) := by decide +kernel
theorem dX7_off_52 : decode cX7_off 52 = .ok (.ireturn, 1) := by decide +kernel
theorem dX7_now_0 : decode cX7_now 0 = .ok (.iload_n 1, 1) := by decide +kernel
theorem dX7_now_1 : decode cX7_now 1 = .ok (.tableswitch 86 0 4 #[35, 47, 55, 66, 78], 35) := by decide +kernel
theorem dX7_now_36 : decode cX7_now 36 = .ok (.aload_n 0, 1) := by decide +kernel
theorem dX7_now_37 : decode cX7_now 37 = .ok (.getfield 19, 3) := by decide +kernel
theorem dX7_now_40 : decode cX7_now 40 = .ok (.aload_n 0, 1) := by decide +kernel
theorem dX7_now_41 : decode cX7_now 41 = .ok (.getfield 26, 3) := by decide +kernel
theorem dX7_now_44 : decode cX7_now 44 = .ok (.invokevirtual 118, 3) := by decide +kernel
theorem dX7_now_47 : decode cX7_now 47 = .ok (.ireturn, 1) := by decide +kernel
theorem dX7_now_48 : decode cX7_now 48 = .ok (.aload_n 0, 1) := by decide +kernel
theorem dX7_now_49 : decode cX7_now 49 = .ok (.getfield 26, 3) := by decide +kernel
theorem dX7_now_52 : decode cX7_now 52 = .ok (.invokevirtual 122, 3) := by decide +kernel
theorem dX7_now_55 : decode cX7_now 55 = .ok (.ireturn, 1) := by decide +kernel
theorem dX7_now_56 : decode cX7_now 56 = .ok (.aload_n 0, 1) := by decide +kernel
theorem dX7_now_57 : decode cX7_now 57 = .ok (.getfield 26, 3) := by decide +kernel
theorem dX7_now_60 : decode cX7_now 60 = .ok (.getfield 81, 3) := by decide +kernel
theorem dX7_now_63 : decode cX7_now 63 = .ok (.invokestatic 125, 3) := by decide +kernel
theorem dX7_now_66 : decode cX7_now 66 = .ok (.ireturn, 1) := by decide +kernel
theorem dX7_now_67 : decode cX7_now 67 = .ok (.aload_n 0, 1) := by decide +kernel
theorem dX7_now_68 : decode cX7_now 68 = .ok (.getfield 19, 3) := by decide +kernel
theorem dX7_now_71 : decode cX7_now 71 = .ok (.aload_n 0, 1) := by decide +kernel
theorem dX7_now_72 : decode cX7_now 72 = .ok (.getfield 26, 3) := by decide +kernel
theorem dX7_now_75 : decode cX7_now 75 = .ok (.invokevirtual 129, 3) := by decide +kernel
theorem dX7_now_78 : decode cX7_now 78 = .ok (.ireturn, 1) := by decide +kernel
theorem dX7_now_79 : decode cX7_now 79 = .ok (.aload_n 0, 1) := by decide +kernel
theorem dX7_now_80 : decode cX7_now 80 = .ok (.getfield 33, 3) := by decide +kernel
theorem dX7_now_83 : decode cX7_now 83 = .ok (.getfield 132, 3) := by decide +kernel
theorem dX7_now_86 : decode cX7_now 86 = .ok (.ireturn, 1) := by decide +kernel
theorem dX7_now_87 : decode cX7_now 87 = .ok (.iconst (-1), 1) := by decide +kernel
theorem dX7_now_88 : decode cX7_now 88 = .ok (.ireturn, 1) := by decide +kernel
theorem dX7_adds_0 : decode cX7_adds 0 = .ok (.iload_n 1, 1) := by decide +kernel
theorem dX7_adds_1 : decode cX7_adds 1 = .ok (.invokestatic 77, 3) := by decide +kernel
theorem dX7_adds_4 : decode cX7_adds 4 = .ok (.ifCond .ne 5, 3) := by decide +kernel
theorem dX7_adds_7 : decode cX7_adds 7 = .ok (.iconst (-1), 1) := by decide +kernel
theorem dX7_adds_8 : decode cX7_adds 8 = .ok (.ireturn, 1) := by decide +kernel
theorem dX7_adds_9 : decode cX7_adds 9 = .ok (.aload_n 0, 1) := by decide +kernel
theorem dX7_adds_10 : decode cX7_adds 10 = .ok (.getfield 26, 3) := by decide +kernel
theorem dX7_adds_13 : decode cX7_adds 13 = .ok (.getfield 81, 3) := by decide +kernel
theorem dX7_adds_16 : decode cX7_adds 16 = .ok (.iload_n 1, 1) := by decide +kernel
theorem dX7_adds_17 : decode cX7_adds 17 = .ok (.iaload, 1) := by decide +kernel
theorem dX7_adds_18 : decode cX7_adds 18 = .ok (.iconst 5, 1) := by decide +kernel
theorem dX7_adds_19 : decode cX7_adds 19 = .ok (.if_icmp .lt 6, 3) := by decide +kernel
theorem dX7_adds_22 : decode cX7_adds 22 = .ok (.bipush (-2), 2) := by decide +kernel
theorem dX7_adds_24 : decode cX7_adds 24 = .ok (.ireturn, 1) := by decide +kernel
theorem dX7_adds_25 : decode cX7_adds 25 = .ok (.aload_n 0, 1) := by decide +kernel
theorem dX7_adds_26 : decode cX7_adds 26 = .ok (.getfield 33, 3) := by decide +kernel
theorem dX7_adds_29 : decode cX7_adds 29 = .ok (.aload_n 0, 1) := by decide +kernel
theorem dX7_adds_30 : decode cX7_adds 30 = .ok (.getfield 26, 3) := by decide +kernel
theorem dX7_adds_33 : decode cX7_adds 33 = .ok (.invokevirtual 135, 3) := by decide +kernel
theorem dX7_adds_36 : decode cX7_adds 36 = .ok (.aload_n 0, 1) := by decide +kernel
theorem dX7_adds_37 : decode cX7_adds 37 = .ok (.getfield 26, 3) := by decide +kernel
theorem dX7_adds_40 : decode cX7_adds 40 = .ok (.getfield 81, 3) := by decide +kernel
theorem dX7_adds_43 : decode cX7_adds 43 = .ok (.iload_n 1, 1) := by decide +kernel
theorem dX7_adds_44 : decode cX7_adds 44 = .ok (.invokestatic 139, 3) := by decide +kernel
theorem dX7_adds_47 : decode cX7_adds 47 = .ok (.aload_n 0, 1) := by decide +kernel
theorem dX7_adds_48 : decode cX7_adds 48 = .ok (.getfield 26, 3) := by decide +kernel
theorem dX7_adds_51 : decode cX7_adds 51 = .ok (.getfield 81, 3) := by decide +kernel
theorem dX7_adds_54 : decode cX7_adds 54 = .ok (.iload_n 1, 1) := by decide +kernel
theorem dX7_adds_55 : decode cX7_adds 55 = .ok (.iaload, 1) := by decide +kernel
theorem dX7_adds_56 : decode cX7_adds 56 = .ok (.ireturn, 1) := by decide +kernel
theorem dX7_waters_0 : decode cX7_waters 0 = .ok (.aload_n 0, 1) := by decide +kernel
theorem dX7_waters_1 : decode cX7_waters 1 = .ok (.getfield 26, 3) := by decide +kernel
theorem dX7_waters_4 : decode cX7_waters 4 = .ok (.getfield 81, 3) := by decide +kernel
theorem dX7_waters_7 : decode cX7_waters 7 = .ok (.invokestatic 125, 3) := by decide +kernel
theorem dX7_waters_10 : decode cX7_waters 10 = .ok (.ifCond .ne 6, 3) := by decide +kernel
theorem dX7_waters_13 : decode cX7_waters 13 = .ok (.bipush (-2), 2) := by decide +kernel
theorem dX7_waters_15 : decode cX7_waters 15 = .ok (.ireturn, 1) := by decide +kernel
theorem dX7_waters_16 : decode cX7_waters 16 = .ok (.aload_n 0, 1) := by decide +kernel
theorem dX7_waters_17 : decode cX7_waters 17 = .ok (.getfield 33, 3) := by decide +kernel
theorem dX7_waters_20 : decode cX7_waters 20 = .ok (.aload_n 0, 1) := by decide +kernel
theorem dX7_waters_21 : decode cX7_waters 21 = .ok (.getfield 26, 3) := by decide +kernel
theorem dX7_waters_24 : decode cX7_waters 24 = .ok (.invokevirtual 135, 3) := by decide +kernel
theorem dX7_waters_27 : decode cX7_waters 27 = .ok (.aload_n 0, 1) := by decide +kernel
theorem dX7_waters_28 : decode cX7_waters 28 = .ok (.getfield 26, 3) := by decide +kernel
theorem dX7_waters_31 : decode cX7_waters 31 = .ok (.getfield 81, 3) := by decide +kernel
theorem dX7_waters_34 : decode cX7_waters 34 = .ok (.iconst 4, 1) := by decide +kernel
theorem dX7_waters_35 : decode cX7_waters 35 = .ok (.invokestatic 139, 3) := by decide +kernel
theorem dX7_waters_38 : decode cX7_waters 38 = .ok (.aload_n 0, 1) := by decide +kernel
theorem dX7_waters_39 : decode cX7_waters 39 = .ok (.getfield 26, 3) := by decide +kernel
theorem dX7_waters_42 : decode cX7_waters 42 = .ok (.getfield 81, 3) := by decide +kernel
theorem dX7_waters_45 : decode cX7_waters 45 = .ok (.invokestatic 125, 3) := by decide +kernel
theorem dX7_waters_48 : decode cX7_waters 48 = .ok (.ireturn, 1) := by decide +kernel
theorem dX7_sends_0 : decode cX7_sends 0 = .ok (.aload_n 0, 1) := by decide +kernel
theorem dX7_sends_1 : decode cX7_sends 1 = .ok (.getfield 19, 3) := by decide +kernel
theorem dX7_sends_4 : decode cX7_sends 4 = .ok (.iload_n 1, 1) := by decide +kernel
theorem dX7_sends_5 : decode cX7_sends 5 = .ok (.invokevirtual 85, 3) := by decide +kernel
theorem dX7_sends_8 : decode cX7_sends 8 = .ok (.ifCond .ne 5, 3) := by decide +kernel
theorem dX7_sends_11 : decode cX7_sends 11 = .ok (.iconst (-1), 1) := by decide +kernel
theorem dX7_sends_12 : decode cX7_sends 12 = .ok (.ireturn, 1) := by decide +kernel
theorem dX7_sends_13 : decode cX7_sends 13 = .ok (.aload_n 0, 1) := by decide +kernel
theorem dX7_sends_14 : decode cX7_sends 14 = .ok (.getfield 33, 3) := by decide +kernel
theorem dX7_sends_17 : decode cX7_sends 17 = .ok (.aload_n 0, 1) := by decide +kernel
theorem dX7_sends_18 : decode cX7_sends 18 = .ok (.getfield 26, 3) := by decide +kernel
theorem dX7_sends_21 : decode cX7_sends 21 = .ok (.invokevirtual 135, 3) := by decide +kernel
theorem dX7_sends_24 : decode cX7_sends 24 = .ok (.aload_n 0, 1) := by decide +kernel
theorem dX7_sends_25 : decode cX7_sends 25 = .ok (.getfield 26, 3) := by decide +kernel
theorem dX7_sends_28 : decode cX7_sends 28 = .ok (.getfield 110, 3) := by decide +kernel
theorem dX7_sends_31 : decode cX7_sends 31 = .ok (.iload_n 1, 1) := by decide +kernel
theorem dX7_sends_32 : decode cX7_sends 32 = .ok (.aload_n 0, 1) := by decide +kernel
theorem dX7_sends_33 : decode cX7_sends 33 = .ok (.getfield 19, 3) := by decide +kernel
theorem dX7_sends_36 : decode cX7_sends 36 = .ok (.iload_n 1, 1) := by decide +kernel
theorem dX7_sends_37 : decode cX7_sends 37 = .ok (.aload_n 0, 1) := by decide +kernel
theorem dX7_sends_38 : decode cX7_sends 38 = .ok (.getfield 26, 3) := by decide +kernel
theorem dX7_sends_41 : decode cX7_sends 41 = .ok (.invokevirtual 103, 3) := by decide +kernel
theorem dX7_sends_44 : decode cX7_sends 44 = .ok (.iastore, 1) := by decide +kernel
theorem dX7_sends_45 : decode cX7_sends 45 = .ok (.aload_n 0, 1) := by decide +kernel
theorem dX7_sends_46 : decode cX7_sends 46 = .ok (.getfield 26, 3) := by decide +kernel
theorem dX7_sends_49 : decode cX7_sends 49 = .ok (.getfield 110, 3) := by decide +kernel
theorem dX7_sends_52 : decode cX7_sends 52 = .ok (.iload_n 1, 1) := by decide +kernel
theorem dX7_sends_53 : decode cX7_sends 53 = .ok (.iaload, 1) := by decide +kernel
theorem dX7_sends_54 : decode cX7_sends 54 = .ok (.ireturn, 1) := by decide +kernel
theorem dX7_colds_0 : decode cX7_colds 0 = .ok (.aload_n 0, 1) := by decide +kernel
theorem dX7_colds_1 : decode cX7_colds 1 = .ok (.getfield 19, 3) := by decide +kernel
theorem dX7_colds_4 : decode cX7_colds 4 = .ok (.iload_n 1, 1) := by decide +kernel
theorem dX7_colds_5 : decode cX7_colds 5 = .ok (.invokevirtual 85, 3) := by decide +kernel
theorem dX7_colds_8 : decode cX7_colds 8 = .ok (.ifCond .eq 12, 3) := by decide +kernel
theorem dX7_colds_11 : decode cX7_colds 11 = .ok (.iload_n 2, 1) := by decide +kernel
theorem dX7_colds_12 : decode cX7_colds 12 = .ok (.ifCond .lt 8, 3) := by decide +kernel
theorem dX7_colds_15 : decode cX7_colds 15 = .ok (.iload_n 2, 1) := by decide +kernel
theorem dX7_colds_16 : decode cX7_colds 16 = .ok (.iconst 1, 1) := by decide +kernel
theorem dX7_colds_17 : decode cX7_colds 17 = .ok (.if_icmp .le 5, 3) := by decide +kernel
theorem dX7_colds_20 : decode cX7_colds 20 = .ok (.iconst (-1), 1) := by decide +kernel
theorem dX7_colds_21 : decode cX7_colds 21 = .ok (.ireturn, 1) := by decide +kernel
theorem dX7_colds_22 : decode cX7_colds 22 = .ok (.aload_n 0, 1) := by decide +kernel
theorem dX7_colds_23 : decode cX7_colds 23 = .ok (.getfield 26, 3) := by decide +kernel
theorem dX7_colds_26 : decode cX7_colds 26 = .ok (.getfield 100, 3) := by decide +kernel
theorem dX7_colds_29 : decode cX7_colds 29 = .ok (.iload_n 1, 1) := by decide +kernel
theorem dX7_colds_30 : decode cX7_colds 30 = .ok (.iaload, 1) := by decide +kernel
theorem dX7_colds_31 : decode cX7_colds 31 = .ok (.iload_n 2, 1) := by decide +kernel
theorem dX7_colds_32 : decode cX7_colds 32 = .ok (.if_icmp .ne 6, 3) := by decide +kernel
theorem dX7_colds_35 : decode cX7_colds 35 = .ok (.bipush (-2), 2) := by decide +kernel
theorem dX7_colds_37 : decode cX7_colds 37 = .ok (.ireturn, 1) := by decide +kernel
theorem dX7_colds_38 : decode cX7_colds 38 = .ok (.aload_n 0, 1) := by decide +kernel
theorem dX7_colds_39 : decode cX7_colds 39 = .ok (.getfield 33, 3) := by decide +kernel
theorem dX7_colds_42 : decode cX7_colds 42 = .ok (.aload_n 0, 1) := by decide +kernel
theorem dX7_colds_43 : decode cX7_colds 43 = .ok (.getfield 26, 3) := by decide +kernel
theorem dX7_colds_46 : decode cX7_colds 46 = .ok (.invokevirtual 135, 3) := by decide +kernel
theorem dX7_colds_49 : decode cX7_colds 49 = .ok (.aload_n 0, 1) := by decide +kernel
theorem dX7_colds_50 : decode cX7_colds 50 = .ok (.getfield 26, 3) := by decide +kernel
theorem dX7_colds_53 : decode cX7_colds 53 = .ok (.getfield 100, 3) := by decide +kernel
theorem dX7_colds_56 : decode cX7_colds 56 = .ok (.iload_n 1, 1) := by decide +kernel
theorem dX7_colds_57 : decode cX7_colds 57 = .ok (.iload_n 2, 1) := by decide +kernel
theorem dX7_colds_58 : decode cX7_colds 58 = .ok (.iastore, 1) := by decide +kernel
theorem dX7_colds_59 : decode cX7_colds 59 = .ok (.aload_n 0, 1) := by decide +kernel
theorem dX7_colds_60 : decode cX7_colds 60 = .ok (.getfield 26, 3) := by decide +kernel
theorem dX7_colds_63 : decode cX7_colds 63 = .ok (.invokevirtual 122, 3) := by decide +kernel
theorem dX7_colds_66 : decode cX7_colds 66 = .ok (.invokestatic 143, 3) := by decide +kernel
theorem dX7_colds_69 : decode cX7_colds 69 = .ok (.ireturn, 1) := by decide +kernel
theorem dX7_undo_0 : decode cX7_undo 0 = .ok (.aload_n 0, 1) := by decide +kernel
theorem dX7_undo_1 : decode cX7_undo 1 = .ok (.getfield 33, 3) := by decide +kernel
theorem dX7_undo_4 : decode cX7_undo 4 = .ok (.getfield 132, 3) := by decide +kernel
theorem dX7_undo_7 : decode cX7_undo 7 = .ok (.ifCond .gt 6, 3) := by decide +kernel
theorem dX7_undo_10 : decode cX7_undo 10 = .ok (.bipush (-2), 2) := by decide +kernel
theorem dX7_undo_12 : decode cX7_undo 12 = .ok (.ireturn, 1) := by decide +kernel
theorem dX7_undo_13 : decode cX7_undo 13 = .ok (.aload_n 0, 1) := by decide +kernel
theorem dX7_undo_14 : decode cX7_undo 14 = .ok (.getfield 33, 3) := by decide +kernel
theorem dX7_undo_17 : decode cX7_undo 17 = .ok (.aload_n 0, 1) := by decide +kernel
theorem dX7_undo_18 : decode cX7_undo 18 = .ok (.getfield 26, 3) := by decide +kernel
theorem dX7_undo_21 : decode cX7_undo 21 = .ok (.invokevirtual 148, 3) := by decide +kernel
theorem dX7_undo_24 : decode cX7_undo 24 = .ok (.ireturn, 1) := by decide +kernel
theorem dX7_plan_0 : decode cX7_plan 0 = .ok (.iload_n 1, 1) := by decide +kernel
theorem dX7_plan_1 : decode cX7_plan 1 = .ok (.ifCond .lt 24, 3) := by decide +kernel
theorem dX7_plan_4 : decode cX7_plan 4 = .ok (.iload_n 1, 1) := by decide +kernel
theorem dX7_plan_5 : decode cX7_plan 5 = .ok (.aload_n 0, 1) := by decide +kernel
theorem dX7_plan_6 : decode cX7_plan 6 = .ok (.getfield 19, 3) := by decide +kernel
theorem dX7_plan_9 : decode cX7_plan 9 = .ok (.invokevirtual 151, 3) := by decide +kernel
theorem dX7_plan_12 : decode cX7_plan 12 = .ok (.if_icmp .gt 13, 3) := by decide +kernel
theorem dX7_plan_15 : decode cX7_plan 15 = .ok (.iload_n 2, 1) := by decide +kernel
theorem dX7_plan_16 : decode cX7_plan 16 = .ok (.iconst (-1), 1) := by decide +kernel
theorem dX7_plan_17 : decode cX7_plan 17 = .ok (.if_icmp .lt 8, 3) := by decide +kernel
theorem dX7_plan_20 : decode cX7_plan 20 = .ok (.iload_n 2, 1) := by decide +kernel
theorem dX7_plan_21 : decode cX7_plan 21 = .ok (.iconst 5, 1) := by decide +kernel
theorem dX7_plan_22 : decode cX7_plan 22 = .ok (.if_icmp .lt 5, 3) := by decide +kernel
theorem dX7_plan_25 : decode cX7_plan 25 = .ok (.iconst (-1), 1) := by decide +kernel
theorem dX7_plan_26 : decode cX7_plan 26 = .ok (.ireturn, 1) := by decide +kernel
theorem dX7_plan_27 : decode cX7_plan 27 = .ok (.aload_n 0, 1) := by decide +kernel
theorem dX7_plan_28 : decode cX7_plan 28 = .ok (.getfield 55, 3) := by decide +kernel
theorem dX7_plan_31 : decode cX7_plan 31 = .ok (.aload_n 0, 1) := by decide +kernel
theorem dX7_plan_32 : decode cX7_plan 32 = .ok (.getfield 19, 3) := by decide +kernel
theorem dX7_plan_35 : decode cX7_plan 35 = .ok (.aload_n 0, 1) := by decide +kernel
theorem dX7_plan_36 : decode cX7_plan 36 = .ok (.getfield 26, 3) := by decide +kernel
theorem dX7_plan_39 : decode cX7_plan 39 = .ok (.iload_n 1, 1) := by decide +kernel
theorem dX7_plan_40 : decode cX7_plan 40 = .ok (.invokevirtual 154, 3) := by decide +kernel
theorem dX7_plan_43 : decode cX7_plan 43 = .ok (.istore_n 3, 1) := by decide +kernel
theorem dX7_plan_44 : decode cX7_plan 44 = .ok (.iload_n 2, 1) := by decide +kernel
theorem dX7_plan_45 : decode cX7_plan 45 = .ok (.ifCond .ge 5, 3) := by decide +kernel
theorem dX7_plan_48 : decode cX7_plan 48 = .ok (.iload_n 3, 1) := by decide +kernel
theorem dX7_plan_49 : decode cX7_plan 49 = .ok (.ireturn, 1) := by decide +kernel
theorem dX7_plan_50 : decode cX7_plan 50 = .ok (.iload_n 2, 1) := by decide +kernel
theorem dX7_plan_51 : decode cX7_plan 51 = .ok (.iload_n 3, 1) := by decide +kernel
theorem dX7_plan_52 : decode cX7_plan 52 = .ok (.if_icmp .ge 15, 3) := by decide +kernel
theorem dX7_plan_55 : decode cX7_plan 55 = .ok (.aload_n 0, 1) := by decide +kernel
theorem dX7_plan_56 : decode cX7_plan 56 = .ok (.getfield 55, 3) := by decide +kernel
theorem dX7_plan_59 : decode cX7_plan 59 = .ok (.getfield 158, 3) := by decide +kernel
theorem dX7_plan_62 : decode cX7_plan 62 = .ok (.iload_n 2, 1) := by decide +kernel
theorem dX7_plan_63 : decode cX7_plan 63 = .ok (.iaload, 1) := by decide +kernel
theorem dX7_plan_64 : decode cX7_plan 64 = .ok (.goto 5, 3) := by decide +kernel
theorem dX7_plan_67 : decode cX7_plan 67 = .ok (.bipush (-9), 2) := by decide +kernel
theorem dX7_plan_69 : decode cX7_plan 69 = .ok (.ireturn, 1) := by decide +kernel
theorem dX7_middle_0 : decode cX7_middle 0 = .ok (.iload_n 1, 1) := by decide +kernel
theorem dX7_middle_1 : decode cX7_middle 1 = .ok (.ifCond .lt 8, 3) := by decide +kernel
theorem dX7_middle_4 : decode cX7_middle 4 = .ok (.iload_n 1, 1) := by decide +kernel
theorem dX7_middle_5 : decode cX7_middle 5 = .ok (.iconst 4, 1) := by decide +kernel
theorem dX7_middle_6 : decode cX7_middle 6 = .ok (.if_icmp .le 5, 3) := by decide +kernel
theorem dX7_middle_9 : decode cX7_middle 9 = .ok (.iconst (-1), 1) := by decide +kernel
theorem dX7_middle_10 : decode cX7_middle 10 = .ok (.ireturn, 1) := by decide +kernel
theorem dX7_middle_11 : decode cX7_middle 11 = .ok (.aload_n 0, 1) := by decide +kernel
theorem dX7_middle_12 : decode cX7_middle 12 = .ok (.getfield 19, 3) := by decide +kernel
theorem dX7_middle_15 : decode cX7_middle 15 = .ok (.invokevirtual 151, 3) := by decide +kernel
theorem dX7_middle_18 : decode cX7_middle 18 = .ok (.istore_n 2, 1) := by decide +kernel
theorem dX7_middle_19 : decode cX7_middle 19 = .ok (.iload_n 1, 1) := by decide +kernel
theorem dX7_middle_20 : decode cX7_middle 20 = .ok (.iconst 4, 1) := by decide +kernel
theorem dX7_middle_21 : decode cX7_middle 21 = .ok (.if_icmp .ne 19, 3) := by decide +kernel
theorem dX7_middle_24 : decode cX7_middle 24 = .ok (.aload_n 0, 1) := by decide +kernel
theorem dX7_middle_25 : decode cX7_middle 25 = .ok (.getfield 19, 3) := by decide +kernel
theorem dX7_middle_28 : decode cX7_middle 28 = .ok (.iload_n 2, 1) := by decide +kernel
theorem dX7_middle_29 : decode cX7_middle 29 = .ok (.aload_n 0, 1) := by decide +kernel
theorem dX7_middle_30 : decode cX7_middle 30 = .ok (.getfield 26, 3) := by decide +kernel
theorem dX7_middle_33 : decode cX7_middle 33 = .ok (.getfield 100, 3) := by decide +kernel
theorem dX7_middle_36 : decode cX7_middle 36 = .ok (.invokevirtual 161, 3) := by decide +kernel
theorem dX7_middle_39 : decode cX7_middle 39 = .ok (.ireturn, 1) := by decide +kernel
theorem dX7_middle_40 : decode cX7_middle 40 = .ok (.aload_n 0, 1) := by decide +kernel
theorem dX7_middle_41 : decode cX7_middle 41 = .ok (.getfield 19, 3) := by decide +kernel
theorem dX7_middle_44 : decode cX7_middle 44 = .ok (.iload_n 2, 1) := by decide +kernel
theorem dX7_middle_45 : decode cX7_middle 45 = .ok (.iload_n 1, 1) := by decide +kernel
theorem dX7_middle_46 : decode cX7_middle 46 = .ok (.aload_n 0, 1) := by decide +kernel
theorem dX7_middle_47 : decode cX7_middle 47 = .ok (.getfield 26, 3) := by decide +kernel
theorem dX7_middle_50 : decode cX7_middle 50 = .ok (.getfield 100, 3) := by decide +kernel
theorem dX7_middle_53 : decode cX7_middle 53 = .ok (.invokevirtual 165, 3) := by decide +kernel
theorem dX7_middle_56 : decode cX7_middle 56 = .ok (.ireturn, 1) := by decide +kernel
theorem dX7_parted_0 : decode cX7_parted 0 = .ok (.iload_n 1, 1) := by decide +kernel
theorem dX7_parted_1 : decode cX7_parted 1 = .ok (.ifCond .lt 8, 3) := by decide +kernel
theorem dX7_parted_4 : decode cX7_parted 4 = .ok (.iload_n 1, 1) := by decide +kernel
theorem dX7_parted_5 : decode cX7_parted 5 = .ok (.iconst 1, 1) := by decide +kernel
theorem dX7_parted_6 : decode cX7_parted 6 = .ok (.if_icmp .le 5, 3) := by decide +kernel
theorem dX7_parted_9 : decode cX7_parted 9 = .ok (.iconst (-1), 1) := by decide +kernel
theorem dX7_parted_10 : decode cX7_parted 10 = .ok (.ireturn, 1) := by decide +kernel
theorem dX7_parted_11 : decode cX7_parted 11 = .ok (.aload_n 0, 1) := by decide +kernel
theorem dX7_parted_12 : decode cX7_parted 12 = .ok (.getfield 19, 3) := by decide +kernel
theorem dX7_parted_15 : decode cX7_parted 15 = .ok (.aload_n 0, 1) := by decide +kernel
theorem dX7_parted_16 : decode cX7_parted 16 = .ok (.getfield 26, 3) := by decide +kernel
theorem dX7_parted_19 : decode cX7_parted 19 = .ok (.getfield 100, 3) := by decide +kernel
theorem dX7_parted_22 : decode cX7_parted 22 = .ok (.invokevirtual 169, 3) := by decide +kernel
theorem dX7_parted_25 : decode cX7_parted 25 = .ok (.istore_n 2, 1) := by decide +kernel
theorem dX7_parted_26 : decode cX7_parted 26 = .ok (.iload_n 1, 1) := by decide +kernel
theorem dX7_parted_27 : decode cX7_parted 27 = .ok (.ifCond .ne 7, 3) := by decide +kernel
theorem dX7_parted_30 : decode cX7_parted 30 = .ok (.iload_n 2, 1) := by decide +kernel
theorem dX7_parted_31 : decode cX7_parted 31 = .ok (.goto 11, 3) := by decide +kernel
theorem dX7_parted_34 : decode cX7_parted 34 = .ok (.aload_n 0, 1) := by decide +kernel
theorem dX7_parted_35 : decode cX7_parted 35 = .ok (.getfield 19, 3) := by decide +kernel
theorem dX7_parted_38 : decode cX7_parted 38 = .ok (.iload_n 2, 1) := by decide +kernel
theorem dX7_parted_39 : decode cX7_parted 39 = .ok (.invokevirtual 172, 3) := by decide +kernel
theorem dX7_parted_42 : decode cX7_parted 42 = .ok (.ireturn, 1) := by decide +kernel
theorem dX7_odds_0 : decode cX7_odds 0 = .ok (.iload_n 1, 1) := by decide +kernel
theorem dX7_odds_1 : decode cX7_odds 1 = .ok (.ifCond .lt 28, 3) := by decide +kernel
theorem dX7_odds_4 : decode cX7_odds 4 = .ok (.iload_n 1, 1) := by decide +kernel
theorem dX7_odds_5 : decode cX7_odds 5 = .ok (.bipush 10, 2) := by decide +kernel
theorem dX7_odds_7 : decode cX7_odds 7 = .ok (.if_icmp .gt 22, 3) := by decide +kernel
theorem dX7_odds_10 : decode cX7_odds 10 = .ok (.iload_n 2, 1) := by decide +kernel
theorem dX7_odds_11 : decode cX7_odds 11 = .ok (.ifCond .lt 18, 3) := by decide +kernel
theorem dX7_odds_14 : decode cX7_odds 14 = .ok (.iload_n 2, 1) := by decide +kernel
theorem dX7_odds_15 : decode cX7_odds 15 = .ok (.bipush 6, 2) := by decide +kernel
theorem dX7_odds_17 : decode cX7_odds 17 = .ok (.if_icmp .gt 12, 3) := by decide +kernel
theorem dX7_odds_20 : decode cX7_odds 20 = .ok (.iload_n 3, 1) := by decide +kernel
theorem dX7_odds_21 : decode cX7_odds 21 = .ok (.ifCond .lt 8, 3) := by decide +kernel
theorem dX7_odds_24 : decode cX7_odds 24 = .ok (.iload_n 3, 1) := by decide +kernel
theorem dX7_odds_25 : decode cX7_odds 25 = .ok (.iconst 1, 1) := by decide +kernel
theorem dX7_odds_26 : decode cX7_odds 26 = .ok (.if_icmp .le 5, 3) := by decide +kernel
theorem dX7_odds_29 : decode cX7_odds 29 = .ok (.iconst (-1), 1) := by decide +kernel
theorem dX7_odds_30 : decode cX7_odds 30 = .ok (.ireturn, 1) := by decide +kernel
theorem dX7_odds_31 : decode cX7_odds 31 = .ok (.aload_n 0, 1) := by decide +kernel
theorem dX7_odds_32 : decode cX7_odds 32 = .ok (.getfield 19, 3) := by decide +kernel
theorem dX7_odds_35 : decode cX7_odds 35 = .ok (.aload_n 0, 1) := by decide +kernel
theorem dX7_odds_36 : decode cX7_odds 36 = .ok (.getfield 26, 3) := by decide +kernel
theorem dX7_odds_39 : decode cX7_odds 39 = .ok (.getfield 81, 3) := by decide +kernel
theorem dX7_odds_42 : decode cX7_odds 42 = .ok (.iload_n 1, 1) := by decide +kernel
theorem dX7_odds_43 : decode cX7_odds 43 = .ok (.invokevirtual 175, 3) := by decide +kernel
theorem dX7_odds_46 : decode cX7_odds 46 = .ok (.aload_n 0, 1) := by decide +kernel
theorem dX7_odds_47 : decode cX7_odds 47 = .ok (.getfield 19, 3) := by decide +kernel
theorem dX7_odds_50 : decode cX7_odds 50 = .ok (.iload_n 2, 1) := by decide +kernel
theorem dX7_odds_51 : decode cX7_odds 51 = .ok (.invokevirtual 178, 3) := by decide +kernel
theorem dX7_odds_54 : decode cX7_odds 54 = .ok (.aload_n 0, 1) := by decide +kernel
theorem dX7_odds_55 : decode cX7_odds 55 = .ok (.getfield 19, 3) := by decide +kernel
theorem dX7_odds_58 : decode cX7_odds 58 = .ok (.iconst 0, 1) := by decide +kernel
theorem dX7_odds_59 : decode cX7_odds 59 = .ok (.invokevirtual 178, 3) := by decide +kernel
theorem dX7_odds_62 : decode cX7_odds 62 = .ok (.iload_n 3, 1) := by decide +kernel
theorem dX7_odds_63 : decode cX7_odds 63 = .ok (.invokestatic 181, 3) := by decide +kernel
theorem dX7_odds_66 : decode cX7_odds 66 = .ok (.ireturn, 1) := by decide +kernel
theorem dX7_sees_0 : decode cX7_sees 0 = .ok (.iload_n 1, 1) := by decide +kernel
theorem dX7_sees_1 : decode cX7_sees 1 = .ok (.ifCond .lt 9, 3) := by decide +kernel
theorem dX7_sees_4 : decode cX7_sees 4 = .ok (.iload_n 1, 1) := by decide +kernel
theorem dX7_sees_5 : decode cX7_sees 5 = .ok (.bipush 9, 2) := by decide +kernel
theorem dX7_sees_7 : decode cX7_sees 7 = .ok (.if_icmp .lt 5, 3) := by decide +kernel
theorem dX7_sees_10 : decode cX7_sees 10 = .ok (.iconst (-1), 1) := by decide +kernel
theorem dX7_sees_11 : decode cX7_sees 11 = .ok (.ireturn, 1) := by decide +kernel
theorem dX7_sees_12 : decode cX7_sees 12 = .ok (.aload_n 0, 1) := by decide +kernel
theorem dX7_sees_13 : decode cX7_sees 13 = .ok (.getfield 48, 3) := by decide +kernel
theorem dX7_sees_16 : decode cX7_sees 16 = .ok (.getfield 184, 3) := by decide +kernel
theorem dX7_sees_19 : decode cX7_sees 19 = .ok (.iconst 4, 1) := by decide +kernel
theorem dX7_sees_20 : decode cX7_sees 20 = .ok (.if_icmp .lt 6, 3) := by decide +kernel
theorem dX7_sees_23 : decode cX7_sees 23 = .ok (.bipush (-3), 2) := by decide +kernel
theorem dX7_sees_25 : decode cX7_sees 25 = .ok (.ireturn, 1) := by decide +kernel
theorem dX7_sees_26 : decode cX7_sees 26 = .ok (.aload_n 0, 1) := by decide +kernel
theorem dX7_sees_27 : decode cX7_sees 27 = .ok (.getfield 48, 3) := by decide +kernel
theorem dX7_sees_30 : decode cX7_sees 30 = .ok (.aload_n 0, 1) := by decide +kernel
theorem dX7_sees_31 : decode cX7_sees 31 = .ok (.getfield 26, 3) := by decide +kernel
theorem dX7_sees_34 : decode cX7_sees 34 = .ok (.getfield 81, 3) := by decide +kernel
theorem dX7_sees_37 : decode cX7_sees 37 = .ok (.iload_n 1, 1) := by decide +kernel
theorem dX7_sees_38 : decode cX7_sees 38 = .ok (.invokevirtual 187, 3) := by decide +kernel
theorem dX7_sees_41 : decode cX7_sees 41 = .ok (.ireturn, 1) := by decide +kernel
theorem dX7_forget_0 : decode cX7_forget 0 = .ok (.aload_n 0, 1) := by decide +kernel
theorem dX7_forget_1 : decode cX7_forget 1 = .ok (.getfield 48, 3) := by decide +kernel
theorem dX7_forget_4 : decode cX7_forget 4 = .ok (.getfield 184, 3) := by decide +kernel
theorem dX7_forget_7 : decode cX7_forget 7 = .ok (.istore_n 1, 1) := by decide +kernel
theorem dX7_forget_8 : decode cX7_forget 8 = .ok (.aload_n 0, 1) := by decide +kernel
theorem dX7_forget_9 : decode cX7_forget 9 = .ok (.getfield 48, 3) := by decide +kernel
theorem dX7_forget_12 : decode cX7_forget 12 = .ok (.iconst 0, 1) := by decide +kernel
theorem dX7_forget_13 : decode cX7_forget 13 = .ok (.putfield 184, 3) := by decide +kernel
theorem dX7_forget_16 : decode cX7_forget 16 = .ok (.iload_n 1, 1) := by decide +kernel
theorem dX7_forget_17 : decode cX7_forget 17 = .ok (.ireturn, 1) := by decide +kernel
theorem dX7_likings_0 : decode cX7_likings 0 = .ok (.iload_n 1, 1) := by decide +kernel
theorem dX7_likings_1 : decode cX7_likings 1 = .ok (.invokestatic 77, 3) := by decide +kernel
theorem dX7_likings_4 : decode cX7_likings 4 = .ok (.ifCond .eq 12, 3) := by decide +kernel
theorem dX7_likings_7 : decode cX7_likings 7 = .ok (.iload_n 2, 1) := by decide +kernel
theorem dX7_likings_8 : decode cX7_likings 8 = .ok (.ifCond .lt 8, 3) := by decide +kernel
theorem dX7_likings_11 : decode cX7_likings 11 = .ok (.iload_n 2, 1) := by decide +kernel
theorem dX7_likings_12 : decode cX7_likings 12 = .ok (.iconst 2, 1) := by decide +kernel
theorem dX7_likings_13 : decode cX7_likings 13 = .ok (.if_icmp .le 5, 3) := by decide +kernel
theorem dX7_likings_16 : decode cX7_likings 16 = .ok (.iconst (-1), 1) := by decide +kernel
theorem dX7_likings_17 : decode cX7_likings 17 = .ok (.ireturn, 1) := by decide +kernel
theorem dX7_likings_18 : decode cX7_likings 18 = .ok (.aload_n 0, 1) := by decide +kernel
theorem dX7_likings_19 : decode cX7_likings 19 = .ok (.getfield 48, 3) := by decide +kernel
theorem dX7_likings_22 : decode cX7_likings 22 = .ok (.iload_n 1, 1) := by decide +kernel
theorem dX7_likings_23 : decode cX7_likings 23 = .ok (.invokevirtual 191, 3) := by decide +kernel
theorem dX7_likings_26 : decode cX7_likings 26 = .ok (.iload_n 2, 1) := by decide +kernel
theorem dX7_likings_27 : decode cX7_likings 27 = .ok (.ifCond .ne 11, 3) := by decide +kernel
theorem dX7_likings_30 : decode cX7_likings 30 = .ok (.aload_n 0, 1) := by decide +kernel
theorem dX7_likings_31 : decode cX7_likings 31 = .ok (.getfield 48, 3) := by decide +kernel
theorem dX7_likings_34 : decode cX7_likings 34 = .ok (.getfield 195, 3) := by decide +kernel
theorem dX7_likings_37 : decode cX7_likings 37 = .ok (.ireturn, 1) := by decide +kernel
theorem dX7_likings_38 : decode cX7_likings 38 = .ok (.aload_n 0, 1) := by decide +kernel
theorem dX7_likings_39 : decode cX7_likings 39 = .ok (.getfield 48, 3) := by decide +kernel
theorem dX7_likings_42 : decode cX7_likings 42 = .ok (.getfield 195, 3) := by decide +kernel
theorem dX7_likings_45 : decode cX7_likings 45 = .ok (.ifCond .ne 6, 3) := by decide +kernel
theorem dX7_likings_48 : decode cX7_likings 48 = .ok (.bipush (-9), 2) := by decide +kernel
theorem dX7_likings_50 : decode cX7_likings 50 = .ok (.ireturn, 1) := by decide +kernel
theorem dX7_likings_51 : decode cX7_likings 51 = .ok (.iload_n 2, 1) := by decide +kernel
theorem dX7_likings_52 : decode cX7_likings 52 = .ok (.iconst 1, 1) := by decide +kernel
theorem dX7_likings_53 : decode cX7_likings 53 = .ok (.if_icmp .ne 13, 3) := by decide +kernel
theorem dX7_likings_56 : decode cX7_likings 56 = .ok (.aload_n 0, 1) := by decide +kernel
theorem dX7_likings_57 : decode cX7_likings 57 = .ok (.getfield 48, 3) := by decide +kernel
theorem dX7_likings_60 : decode cX7_likings 60 = .ok (.getfield 198, 3) := by decide +kernel
theorem dX7_likings_63 : decode cX7_likings 63 = .ok (.goto 10, 3) := by decide +kernel
theorem dX7_likings_66 : decode cX7_likings 66 = .ok (.aload_n 0, 1) := by decide +kernel
theorem dX7_likings_67 : decode cX7_likings 67 = .ok (.getfield 48, 3) := by decide +kernel
theorem dX7_likings_70 : decode cX7_likings 70 = .ok (.getfield 201, 3) := by decide +kernel
theorem dX7_likings_73 : decode cX7_likings 73 = .ok (.ireturn, 1) := by decide +kernel
theorem dX7_ask_0 : decode cX7_ask 0 = .ok (.aload_n 0, 1) := by decide +kernel
theorem dX7_ask_1 : decode cX7_ask 1 = .ok (.getfield 48, 3) := by decide +kernel
theorem dX7_ask_4 : decode cX7_ask 4 = .ok (.aload_n 0, 1) := by decide +kernel
theorem dX7_ask_5 : decode cX7_ask 5 = .ok (.getfield 26, 3) := by decide +kernel
theorem dX7_ask_8 : decode cX7_ask 8 = .ok (.getfield 81, 3) := by decide +kernel
theorem dX7_ask_11 : decode cX7_ask 11 = .ok (.invokevirtual 204, 3) := by decide +kernel
theorem dX7_ask_14 : decode cX7_ask 14 = .ok (.ireturn, 1) := by decide +kernel
theorem dX7_rate_0 : decode cX7_rate 0 = .ok (.aload_n 0, 1) := by decide +kernel
theorem dX7_rate_1 : decode cX7_rate 1 = .ok (.getfield 19, 3) := by decide +kernel
theorem dX7_rate_4 : decode cX7_rate 4 = .ok (.iload_n 2, 1) := by decide +kernel
theorem dX7_rate_5 : decode cX7_rate 5 = .ok (.invokevirtual 85, 3) := by decide +kernel
theorem dX7_rate_8 : decode cX7_rate 8 = .ok (.ifCond .ne 6, 3) := by decide +kernel
theorem dX7_rate_11 : decode cX7_rate 11 = .ok (.ldc 113, 2) := by decide +kernel
theorem dX7_rate_13 : decode cX7_rate 13 = .ok (.ireturn, 1) := by decide +kernel
theorem dX7_rate_14 : decode cX7_rate 14 = .ok (.iload_n 1, 1) := by decide +kernel
theorem dX7_rate_15 : decode cX7_rate 15 = .ok (.tableswitch 73 0 5 #[37, 43, 49, 55, 61, 67], 37) := by decide +kernel
theorem dX7_rate_52 : decode cX7_rate 52 = .ok (.aload_n 0, 1) := by decide +kernel
theorem dX7_rate_53 : decode cX7_rate 53 = .ok (.iload_n 2, 1) := by decide +kernel
theorem dX7_rate_54 : decode cX7_rate 54 = .ok (.invokevirtual 207, 3) := by decide +kernel
theorem dX7_rate_57 : decode cX7_rate 57 = .ok (.ireturn, 1) := by decide +kernel
theorem dX7_rate_58 : decode cX7_rate 58 = .ok (.aload_n 0, 1) := by decide +kernel
theorem dX7_rate_59 : decode cX7_rate 59 = .ok (.iload_n 2, 1) := by decide +kernel
theorem dX7_rate_60 : decode cX7_rate 60 = .ok (.invokevirtual 210, 3) := by decide +kernel
theorem dX7_rate_63 : decode cX7_rate 63 = .ok (.ireturn, 1) := by decide +kernel
theorem dX7_rate_64 : decode cX7_rate 64 = .ok (.aload_n 0, 1) := by decide +kernel
theorem dX7_rate_65 : decode cX7_rate 65 = .ok (.iload_n 2, 1) := by decide +kernel
theorem dX7_rate_66 : decode cX7_rate 66 = .ok (.invokevirtual 213, 3) := by decide +kernel
theorem dX7_rate_69 : decode cX7_rate 69 = .ok (.ireturn, 1) := by decide +kernel
theorem dX7_rate_70 : decode cX7_rate 70 = .ok (.aload_n 0, 1) := by decide +kernel
theorem dX7_rate_71 : decode cX7_rate 71 = .ok (.iload_n 2, 1) := by decide +kernel
theorem dX7_rate_72 : decode cX7_rate 72 = .ok (.invokevirtual 216, 3) := by decide +kernel
theorem dX7_rate_75 : decode cX7_rate 75 = .ok (.ireturn, 1) := by decide +kernel
theorem dX7_rate_76 : decode cX7_rate 76 = .ok (.aload_n 0, 1) := by decide +kernel
theorem dX7_rate_77 : decode cX7_rate 77 = .ok (.iload_n 2, 1) := by decide +kernel
theorem dX7_rate_78 : decode cX7_rate 78 = .ok (.invokevirtual 219, 3) := by decide +kernel
theorem dX7_rate_81 : decode cX7_rate 81 = .ok (.ireturn, 1) := by decide +kernel
theorem dX7_rate_82 : decode cX7_rate 82 = .ok (.aload_n 0, 1) := by decide +kernel
theorem dX7_rate_83 : decode cX7_rate 83 = .ok (.iload_n 2, 1) := by decide +kernel
theorem dX7_rate_84 : decode cX7_rate 84 = .ok (.invokevirtual 222, 3) := by decide +kernel
theorem dX7_rate_87 : decode cX7_rate 87 = .ok (.ireturn, 1) := by decide +kernel
theorem dX7_rate_88 : decode cX7_rate 88 = .ok (.ldc 113, 2) := by decide +kernel
theorem dX7_rate_90 : decode cX7_rate 90 = .ok (.ireturn, 1) := by decide +kernel
theorem dX7_keep_0 : decode cX7_keep 0 = .ok (.iload_n 1, 1) := by decide +kernel
theorem dX7_keep_1 : decode cX7_keep 1 = .ok (.invokestatic 225, 3) := by decide +kernel
theorem dX7_keep_4 : decode cX7_keep 4 = .ok (.ifCond .ne 5, 3) := by decide +kernel
theorem dX7_keep_7 : decode cX7_keep 7 = .ok (.iconst (-1), 1) := by decide +kernel
theorem dX7_keep_8 : decode cX7_keep 8 = .ok (.ireturn, 1) := by decide +kernel
theorem dX7_keep_9 : decode cX7_keep 9 = .ok (.aload_n 0, 1) := by decide +kernel
theorem dX7_keep_10 : decode cX7_keep 10 = .ok (.getfield 37, 3) := by decide +kernel
theorem dX7_keep_13 : decode cX7_keep 13 = .ok (.iload_n 1, 1) := by decide +kernel
theorem dX7_keep_14 : decode cX7_keep 14 = .ok (.aaload, 1) := by decide +kernel
theorem dX7_keep_15 : decode cX7_keep 15 = .ok (.aload_n 0, 1) := by decide +kernel
theorem dX7_keep_16 : decode cX7_keep 16 = .ok (.getfield 26, 3) := by decide +kernel
theorem dX7_keep_19 : decode cX7_keep 19 = .ok (.invokevirtual 228, 3) := by decide +kernel
theorem dX7_keep_22 : decode cX7_keep 22 = .ok (.aload_n 0, 1) := by decide +kernel
theorem dX7_keep_23 : decode cX7_keep 23 = .ok (.getfield 41, 3) := by decide +kernel
theorem dX7_keep_26 : decode cX7_keep 26 = .ok (.iload_n 1, 1) := by decide +kernel
theorem dX7_keep_27 : decode cX7_keep 27 = .ok (.iconst 1, 1) := by decide +kernel
theorem dX7_keep_28 : decode cX7_keep 28 = .ok (.bastore, 1) := by decide +kernel
theorem dX7_keep_29 : decode cX7_keep 29 = .ok (.aload_n 0, 1) := by decide +kernel
theorem dX7_keep_30 : decode cX7_keep 30 = .ok (.getfield 19, 3) := by decide +kernel
theorem dX7_keep_33 : decode cX7_keep 33 = .ok (.aload_n 0, 1) := by decide +kernel
theorem dX7_keep_34 : decode cX7_keep 34 = .ok (.getfield 26, 3) := by decide +kernel
theorem dX7_keep_37 : decode cX7_keep 37 = .ok (.invokevirtual 231, 3) := by decide +kernel
theorem dX7_keep_40 : decode cX7_keep 40 = .ok (.ireturn, 1) := by decide +kernel
theorem dX7_back_0 : decode cX7_back 0 = .ok (.iload_n 1, 1) := by decide +kernel
theorem dX7_back_1 : decode cX7_back 1 = .ok (.invokestatic 225, 3) := by decide +kernel
theorem dX7_back_4 : decode cX7_back 4 = .ok (.ifCond .ne 5, 3) := by decide +kernel
theorem dX7_back_7 : decode cX7_back 7 = .ok (.iconst (-1), 1) := by decide +kernel
theorem dX7_back_8 : decode cX7_back 8 = .ok (.ireturn, 1) := by decide +kernel
theorem dX7_back_9 : decode cX7_back 9 = .ok (.aload_n 0, 1) := by decide +kernel
theorem dX7_back_10 : decode cX7_back 10 = .ok (.getfield 41, 3) := by decide +kernel
theorem dX7_back_13 : decode cX7_back 13 = .ok (.iload_n 1, 1) := by decide +kernel
theorem dX7_back_14 : decode cX7_back 14 = .ok (.baload, 1) := by decide +kernel
theorem dX7_back_15 : decode cX7_back 15 = .ok (.ifCond .ne 6, 3) := by decide +kernel
theorem dX7_back_18 : decode cX7_back 18 = .ok (.bipush (-2), 2) := by decide +kernel
theorem dX7_back_20 : decode cX7_back 20 = .ok (.ireturn, 1) := by decide +kernel
theorem dX7_back_21 : decode cX7_back 21 = .ok (.aload_n 0, 1) := by decide +kernel
theorem dX7_back_22 : decode cX7_back 22 = .ok (.getfield 26, 3) := by decide +kernel
theorem dX7_back_25 : decode cX7_back 25 = .ok (.aload_n 0, 1) := by decide +kernel
theorem dX7_back_26 : decode cX7_back 26 = .ok (.getfield 37, 3) := by decide +kernel
theorem dX7_back_29 : decode cX7_back 29 = .ok (.iload_n 1, 1) := by decide +kernel
theorem dX7_back_30 : decode cX7_back 30 = .ok (.aaload, 1) := by decide +kernel
theorem dX7_back_31 : decode cX7_back 31 = .ok (.invokevirtual 228, 3) := by decide +kernel
theorem dX7_back_34 : decode cX7_back 34 = .ok (.aload_n 0, 1) := by decide +kernel
theorem dX7_back_35 : decode cX7_back 35 = .ok (.getfield 33, 3) := by decide +kernel
theorem dX7_back_38 : decode cX7_back 38 = .ok (.iconst 0, 1) := by decide +kernel
theorem dX7_back_39 : decode cX7_back 39 = .ok (.putfield 132, 3) := by decide +kernel
theorem dX7_back_42 : decode cX7_back 42 = .ok (.aload_n 0, 1) := by decide +kernel
theorem dX7_back_43 : decode cX7_back 43 = .ok (.getfield 19, 3) := by decide +kernel
theorem dX7_back_46 : decode cX7_back 46 = .ok (.aload_n 0, 1) := by decide +kernel
theorem dX7_back_47 : decode cX7_back 47 = .ok (.getfield 26, 3) := by decide +kernel
theorem dX7_back_50 : decode cX7_back 50 = .ok (.invokevirtual 231, 3) := by decide +kernel
theorem dX7_back_53 : decode cX7_back 53 = .ok (.ireturn, 1) := by decide +kernel
theorem dX7_count_0 : decode cX7_count 0 = .ok (.iload_n 1, 1) := by decide +kernel
theorem dX7_count_1 : decode cX7_count 1 = .ok (.tableswitch 51 0 2 #[27, 35, 43], 27) := by decide +kernel
theorem dX7_count_28 : decode cX7_count 28 = .ok (.aload_n 0, 1) := by decide +kernel
theorem dX7_count_29 : decode cX7_count 29 = .ok (.getfield 19, 3) := by decide +kernel
theorem dX7_count_32 : decode cX7_count 32 = .ok (.getfield 234, 3) := by decide +kernel
theorem dX7_count_35 : decode cX7_count 35 = .ok (.ireturn, 1) := by decide +kernel
theorem dX7_count_36 : decode cX7_count 36 = .ok (.aload_n 0, 1) := by decide +kernel
theorem dX7_count_37 : decode cX7_count 37 = .ok (.getfield 48, 3) := by decide +kernel
theorem dX7_count_40 : decode cX7_count 40 = .ok (.getfield 184, 3) := by decide +kernel
theorem dX7_count_43 : decode cX7_count 43 = .ok (.ireturn, 1) := by decide +kernel
theorem dX7_count_44 : decode cX7_count 44 = .ok (.aload_n 0, 1) := by decide +kernel
theorem dX7_count_45 : decode cX7_count 45 = .ok (.getfield 10, 3) := by decide +kernel
theorem dX7_count_48 : decode cX7_count 48 = .ok (.getfield 59, 3) := by decide +kernel
theorem dX7_count_51 : decode cX7_count 51 = .ok (.ireturn, 1) := by decide +kernel
theorem dX7_count_52 : decode cX7_count 52 = .ok (.iconst (-1), 1) := by decide +kernel
theorem dX7_count_53 : decode cX7_count 53 = .ok (.ireturn, 1) := by decide +kernel
theorem dX7_trace_0 : decode cX7_trace 0 = .ok (.aload_n 0, 1) := by decide +kernel
theorem dX7_trace_1 : decode cX7_trace 1 = .ok (.getfield 237, 3) := by decide +kernel
theorem dX7_trace_4 : decode cX7_trace 4 = .ok (.lreturn, 1) := by decide +kernel
theorem dX7_beginAnew_0 : decode cX7_beginAnew 0 = .ok (.aload_n 0, 1) := by decide +kernel
theorem dX7_beginAnew_1 : decode cX7_beginAnew 1 = .ok (.getfield 19, 3) := by decide +kernel
theorem dX7_beginAnew_4 : decode cX7_beginAnew 4 = .ok (.aload_n 0, 1) := by decide +kernel
theorem dX7_beginAnew_5 : decode cX7_beginAnew 5 = .ok (.getfield 10, 3) := by decide +kernel
theorem dX7_beginAnew_8 : decode cX7_beginAnew 8 = .ok (.getfield 241, 3) := by decide +kernel
theorem dX7_beginAnew_11 : decode cX7_beginAnew 11 = .ok (.aload_n 0, 1) := by decide +kernel
theorem dX7_beginAnew_12 : decode cX7_beginAnew 12 = .ok (.getfield 10, 3) := by decide +kernel
theorem dX7_beginAnew_15 : decode cX7_beginAnew 15 = .ok (.getfield 244, 3) := by decide +kernel
theorem dX7_beginAnew_18 : decode cX7_beginAnew 18 = .ok (.invokevirtual 246, 3) := by decide +kernel
theorem dX7_beginAnew_21 : decode cX7_beginAnew 21 = .ok (.aload_n 0, 1) := by decide +kernel
theorem dX7_beginAnew_22 : decode cX7_beginAnew 22 = .ok (.getfield 26, 3) := by decide +kernel
theorem dX7_beginAnew_25 : decode cX7_beginAnew 25 = .ok (.aload_n 0, 1) := by decide +kernel
theorem dX7_beginAnew_26 : decode cX7_beginAnew 26 = .ok (.getfield 10, 3) := by decide +kernel
theorem dX7_beginAnew_29 : decode cX7_beginAnew 29 = .ok (.getfield 249, 3) := by decide +kernel
theorem dX7_beginAnew_32 : decode cX7_beginAnew 32 = .ok (.aload_n 0, 1) := by decide +kernel
theorem dX7_beginAnew_33 : decode cX7_beginAnew 33 = .ok (.getfield 10, 3) := by decide +kernel
theorem dX7_beginAnew_36 : decode cX7_beginAnew 36 = .ok (.getfield 241, 3) := by decide +kernel
theorem dX7_beginAnew_39 : decode cX7_beginAnew 39 = .ok (.aload_n 0, 1) := by decide +kernel
theorem dX7_beginAnew_40 : decode cX7_beginAnew 40 = .ok (.getfield 10, 3) := by decide +kernel
theorem dX7_beginAnew_43 : decode cX7_beginAnew 43 = .ok (.getfield 244, 3) := by decide +kernel
theorem dX7_beginAnew_46 : decode cX7_beginAnew 46 = .ok (.invokevirtual 250, 3) := by decide +kernel
theorem dX7_beginAnew_49 : decode cX7_beginAnew 49 = .ok (.aload_n 0, 1) := by decide +kernel
theorem dX7_beginAnew_50 : decode cX7_beginAnew 50 = .ok (.getfield 33, 3) := by decide +kernel
theorem dX7_beginAnew_53 : decode cX7_beginAnew 53 = .ok (.iconst 0, 1) := by decide +kernel
theorem dX7_beginAnew_54 : decode cX7_beginAnew 54 = .ok (.putfield 132, 3) := by decide +kernel
theorem dX7_beginAnew_57 : decode cX7_beginAnew 57 = .ok (.iconst 0, 1) := by decide +kernel
theorem dX7_beginAnew_58 : decode cX7_beginAnew 58 = .ok (.istore_n 1, 1) := by decide +kernel
theorem dX7_beginAnew_59 : decode cX7_beginAnew 59 = .ok (.iload_n 1, 1) := by decide +kernel
theorem dX7_beginAnew_60 : decode cX7_beginAnew 60 = .ok (.iconst 2, 1) := by decide +kernel
theorem dX7_beginAnew_61 : decode cX7_beginAnew 61 = .ok (.if_icmp .ge 16, 3) := by decide +kernel
theorem dX7_beginAnew_64 : decode cX7_beginAnew 64 = .ok (.aload_n 0, 1) := by decide +kernel
theorem dX7_beginAnew_65 : decode cX7_beginAnew 65 = .ok (.getfield 41, 3) := by decide +kernel
theorem dX7_beginAnew_68 : decode cX7_beginAnew 68 = .ok (.iload_n 1, 1) := by decide +kernel
theorem dX7_beginAnew_69 : decode cX7_beginAnew 69 = .ok (.iconst 0, 1) := by decide +kernel
theorem dX7_beginAnew_70 : decode cX7_beginAnew 70 = .ok (.bastore, 1) := by decide +kernel
theorem dX7_beginAnew_71 : decode cX7_beginAnew 71 = .ok (.iinc 1 1, 3) := by decide +kernel
theorem dX7_beginAnew_74 : decode cX7_beginAnew 74 = .ok (.goto (-15), 3) := by decide +kernel
theorem dX7_beginAnew_77 : decode cX7_beginAnew 77 = .ok (.aload_n 0, 1) := by decide +kernel
theorem dX7_beginAnew_78 : decode cX7_beginAnew 78 = .ok (.getfield 48, 3) := by decide +kernel
theorem dX7_beginAnew_81 : decode cX7_beginAnew 81 = .ok (.iconst 0, 1) := by decide +kernel
theorem dX7_beginAnew_82 : decode cX7_beginAnew 82 = .ok (.putfield 184, 3) := by decide +kernel
theorem dX7_beginAnew_85 : decode cX7_beginAnew 85 = .ok (.aload_n 0, 1) := by decide +kernel
theorem dX7_beginAnew_86 : decode cX7_beginAnew 86 = .ok (.getfield 10, 3) := by decide +kernel
theorem dX7_beginAnew_89 : decode cX7_beginAnew 89 = .ok (.invokevirtual 67, 3) := by decide +kernel
theorem dX7_beginAnew_92 : decode cX7_beginAnew 92 = .ok (.pop, 1) := by decide +kernel
theorem dX7_beginAnew_93 : decode cX7_beginAnew 93 = .ok (.return_, 1) := by decide +kernel
theorem dX7_asBrother_0 : decode cX7_asBrother 0 = .ok (.aload_n 0, 1) := by decide +kernel
theorem dX7_asBrother_1 : decode cX7_asBrother 1 = .ok (.dup, 1) := by decide +kernel
theorem dX7_asBrother_2 : decode cX7_asBrother 2 = .ok (.getfield 237, 3) := by decide +kernel
theorem dX7_asBrother_5 : decode cX7_asBrother 5 = .ok (.lconst 1, 1) := by decide +kernel
theorem dX7_asBrother_6 : decode cX7_asBrother 6 = .ok (.ladd, 1) := by decide +kernel
theorem dX7_asBrother_7 : decode cX7_asBrother 7 = .ok (.putfield 237, 3) := by decide +kernel
theorem dX7_asBrother_10 : decode cX7_asBrother 10 = .ok (.aload_n 0, 1) := by decide +kernel
theorem dX7_asBrother_11 : decode cX7_asBrother 11 = .ok (.getfield 19, 3) := by decide +kernel
theorem dX7_asBrother_14 : decode cX7_asBrother 14 = .ok (.iload_n 1, 1) := by decide +kernel
theorem dX7_asBrother_15 : decode cX7_asBrother 15 = .ok (.aload_n 0, 1) := by decide +kernel
theorem dX7_asBrother_16 : decode cX7_asBrother 16 = .ok (.getfield 26, 3) := by decide +kernel
theorem dX7_asBrother_19 : decode cX7_asBrother 19 = .ok (.invokevirtual 107, 3) := by decide +kernel
theorem dX7_asBrother_22 : decode cX7_asBrother 22 = .ok (.ireturn, 1) := by decide +kernel
theorem dX7_asNovice_0 : decode cX7_asNovice 0 = .ok (.aload_n 0, 1) := by decide +kernel
theorem dX7_asNovice_1 : decode cX7_asNovice 1 = .ok (.dup, 1) := by decide +kernel
theorem dX7_asNovice_2 : decode cX7_asNovice 2 = .ok (.getfield 237, 3) := by decide +kernel
theorem dX7_asNovice_5 : decode cX7_asNovice 5 = .ok (.ldc2_w 254, 3) := by decide +kernel
theorem dX7_asNovice_8 : decode cX7_asNovice 8 = .ok (.ladd, 1) := by decide +kernel
theorem dX7_asNovice_9 : decode cX7_asNovice 9 = .ok (.putfield 237, 3) := by decide +kernel
theorem dX7_asNovice_12 : decode cX7_asNovice 12 = .ok (.aload_n 0, 1) := by decide +kernel
theorem dX7_asNovice_13 : decode cX7_asNovice 13 = .ok (.iload_n 1, 1) := by decide +kernel
theorem dX7_asNovice_14 : decode cX7_asNovice 14 = .ok (.invokevirtual 207, 3) := by decide +kernel
theorem dX7_asNovice_17 : decode cX7_asNovice 17 = .ok (.aload_n 0, 1) := by decide +kernel
theorem dX7_asNovice_18 : decode cX7_asNovice 18 = .ok (.getfield 19, 3) := by decide +kernel
theorem dX7_asNovice_21 : decode cX7_asNovice 21 = .ok (.getfield 88, 3) := by decide +kernel
theorem dX7_asNovice_24 : decode cX7_asNovice 24 = .ok (.iload_n 1, 1) := by decide +kernel
theorem dX7_asNovice_25 : decode cX7_asNovice 25 = .ok (.aaload, 1) := by decide +kernel
theorem dX7_asNovice_26 : decode cX7_asNovice 26 = .ok (.getfield 97, 3) := by decide +kernel
theorem dX7_asNovice_29 : decode cX7_asNovice 29 = .ok (.iadd, 1) := by decide +kernel
theorem dX7_asNovice_30 : decode cX7_asNovice 30 = .ok (.ireturn, 1) := by decide +kernel
theorem dX7_asAbbot_0 : decode cX7_asAbbot 0 = .ok (.aload_n 0, 1) := by decide +kernel
theorem dX7_asAbbot_1 : decode cX7_asAbbot 1 = .ok (.dup, 1) := by decide +kernel
theorem dX7_asAbbot_2 : decode cX7_asAbbot 2 = .ok (.getfield 237, 3) := by decide +kernel
theorem dX7_asAbbot_5 : decode cX7_asAbbot 5 = .ok (.ldc2_w 256, 3) := by decide +kernel
theorem dX7_asAbbot_8 : decode cX7_asAbbot 8 = .ok (.ladd, 1) := by decide +kernel
theorem dX7_asAbbot_9 : decode cX7_asAbbot 9 = .ok (.putfield 237, 3) := by decide +kernel
theorem dX7_asAbbot_12 : decode cX7_asAbbot 12 = .ok (.aload_n 0, 1) := by decide +kernel
theorem dX7_asAbbot_13 : decode cX7_asAbbot 13 = .ok (.iload_n 1, 1) := by decide +kernel
theorem dX7_asAbbot_14 : decode cX7_asAbbot 14 = .ok (.invokevirtual 207, 3) := by decide +kernel
theorem dX7_asAbbot_17 : decode cX7_asAbbot 17 = .ok (.aload_n 0, 1) := by decide +kernel
theorem dX7_asAbbot_18 : decode cX7_asAbbot 18 = .ok (.getfield 19, 3) := by decide +kernel
theorem dX7_asAbbot_21 : decode cX7_asAbbot 21 = .ok (.iload_n 1, 1) := by decide +kernel
theorem dX7_asAbbot_22 : decode cX7_asAbbot 22 = .ok (.aload_n 0, 1) := by decide +kernel
theorem dX7_asAbbot_23 : decode cX7_asAbbot 23 = .ok (.getfield 26, 3) := by decide +kernel
theorem dX7_asAbbot_26 : decode cX7_asAbbot 26 = .ok (.invokevirtual 103, 3) := by decide +kernel
theorem dX7_asAbbot_29 : decode cX7_asAbbot 29 = .ok (.isub, 1) := by decide +kernel
theorem dX7_asAbbot_30 : decode cX7_asAbbot 30 = .ok (.ireturn, 1) := by decide +kernel
theorem dX7_asGiles_0 : decode cX7_asGiles 0 = .ok (.aload_n 0, 1) := by decide +kernel
theorem dX7_asGiles_1 : decode cX7_asGiles 1 = .ok (.dup, 1) := by decide +kernel
theorem dX7_asGiles_2 : decode cX7_asGiles 2 = .ok (.getfield 237, 3) := by decide +kernel
theorem dX7_asGiles_5 : decode cX7_asGiles 5 = .ok (.ldc2_w 258, 3) := by decide +kernel
theorem dX7_asGiles_8 : decode cX7_asGiles 8 = .ok (.ladd, 1) := by decide +kernel
theorem dX7_asGiles_9 : decode cX7_asGiles 9 = .ok (.putfield 237, 3) := by decide +kernel
theorem dX7_asGiles_12 : decode cX7_asGiles 12 = .ok (.iconst 2, 1) := by decide +kernel
theorem dX7_asGiles_13 : decode cX7_asGiles 13 = .ok (.aload_n 0, 1) := by decide +kernel
theorem dX7_asGiles_14 : decode cX7_asGiles 14 = .ok (.iload_n 1, 1) := by decide +kernel
theorem dX7_asGiles_15 : decode cX7_asGiles 15 = .ok (.invokevirtual 210, 3) := by decide +kernel
theorem dX7_asGiles_18 : decode cX7_asGiles 18 = .ok (.imul, 1) := by decide +kernel
theorem dX7_asGiles_19 : decode cX7_asGiles 19 = .ok (.ireturn, 1) := by decide +kernel
theorem dX7_asPrior_0 : decode cX7_asPrior 0 = .ok (.aload_n 0, 1) := by decide +kernel
theorem dX7_asPrior_1 : decode cX7_asPrior 1 = .ok (.dup, 1) := by decide +kernel
theorem dX7_asPrior_2 : decode cX7_asPrior 2 = .ok (.getfield 237, 3) := by decide +kernel
theorem dX7_asPrior_5 : decode cX7_asPrior 5 = .ok (.ldc2_w 260, 3) := by decide +kernel
theorem dX7_asPrior_8 : decode cX7_asPrior 8 = .ok (.ladd, 1) := by decide +kernel
theorem dX7_asPrior_9 : decode cX7_asPrior 9 = .ok (.putfield 237, 3) := by decide +kernel
theorem dX7_asPrior_12 : decode cX7_asPrior 12 = .ok (.aload_n 0, 1) := by decide +kernel
theorem dX7_asPrior_13 : decode cX7_asPrior 13 = .ok (.iload_n 1, 1) := by decide +kernel
theorem dX7_asPrior_14 : decode cX7_asPrior 14 = .ok (.invokevirtual 213, 3) := by decide +kernel
theorem dX7_asPrior_17 : decode cX7_asPrior 17 = .ok (.iload_n 1, 1) := by decide +kernel
theorem dX7_asPrior_18 : decode cX7_asPrior 18 = .ok (.iadd, 1) := by decide +kernel
theorem dX7_asPrior_19 : decode cX7_asPrior 19 = .ok (.ireturn, 1) := by decide +kernel
theorem dX7_asCellarer_0 : decode cX7_asCellarer 0 = .ok (.aload_n 0, 1) := by decide +kernel
theorem dX7_asCellarer_1 : decode cX7_asCellarer 1 = .ok (.dup, 1) := by decide +kernel
theorem dX7_asCellarer_2 : decode cX7_asCellarer 2 = .ok (.getfield 237, 3) := by decide +kernel
theorem dX7_asCellarer_5 : decode cX7_asCellarer 5 = .ok (.ldc2_w 262, 3) := by decide +kernel
theorem dX7_asCellarer_8 : decode cX7_asCellarer 8 = .ok (.ladd, 1) := by decide +kernel
theorem dX7_asCellarer_9 : decode cX7_asCellarer 9 = .ok (.putfield 237, 3) := by decide +kernel
theorem dX7_asCellarer_12 : decode cX7_asCellarer 12 = .ok (.aload_n 0, 1) := by decide +kernel
theorem dX7_asCellarer_13 : decode cX7_asCellarer 13 = .ok (.iload_n 1, 1) := by decide +kernel
theorem dX7_asCellarer_14 : decode cX7_asCellarer 14 = .ok (.invokevirtual 207, 3) := by decide +kernel
theorem dX7_asCellarer_17 : decode cX7_asCellarer 17 = .ok (.aload_n 0, 1) := by decide +kernel
theorem dX7_asCellarer_18 : decode cX7_asCellarer 18 = .ok (.getfield 26, 3) := by decide +kernel
theorem dX7_asCellarer_21 : decode cX7_asCellarer 21 = .ok (.getfield 81, 3) := by decide +kernel
theorem dX7_asCellarer_24 : decode cX7_asCellarer 24 = .ok (.invokestatic 125, 3) := by decide +kernel
theorem dX7_asCellarer_27 : decode cX7_asCellarer 27 = .ok (.iadd, 1) := by decide +kernel
theorem dX7_asCellarer_28 : decode cX7_asCellarer 28 = .ok (.ireturn, 1) := by decide +kernel
theorem dX7_isPart_0 : decode cX7_isPart 0 = .ok (.iload_n 0, 1) := by decide +kernel
theorem dX7_isPart_1 : decode cX7_isPart 1 = .ok (.ifCond .lt 12, 3) := by decide +kernel
theorem dX7_isPart_4 : decode cX7_isPart 4 = .ok (.iload_n 0, 1) := by decide +kernel
theorem dX7_isPart_5 : decode cX7_isPart 5 = .ok (.iconst 4, 1) := by decide +kernel
theorem dX7_isPart_6 : decode cX7_isPart 6 = .ok (.if_icmp .ge 7, 3) := by decide +kernel
theorem dX7_isPart_9 : decode cX7_isPart 9 = .ok (.iconst 1, 1) := by decide +kernel
theorem dX7_isPart_10 : decode cX7_isPart 10 = .ok (.goto 4, 3) := by decide +kernel
theorem dX7_isPart_13 : decode cX7_isPart 13 = .ok (.iconst 0, 1) := by decide +kernel
theorem dX7_isPart_14 : decode cX7_isPart 14 = .ok (.ireturn, 1) := by decide +kernel
theorem dX7_isImage_0 : decode cX7_isImage 0 = .ok (.iload_n 0, 1) := by decide +kernel
theorem dX7_isImage_1 : decode cX7_isImage 1 = .ok (.ifCond .lt 12, 3) := by decide +kernel
theorem dX7_isImage_4 : decode cX7_isImage 4 = .ok (.iload_n 0, 1) := by decide +kernel
theorem dX7_isImage_5 : decode cX7_isImage 5 = .ok (.iconst 2, 1) := by decide +kernel
theorem dX7_isImage_6 : decode cX7_isImage 6 = .ok (.if_icmp .ge 7, 3) := by decide +kernel
theorem dX7_isImage_9 : decode cX7_isImage 9 = .ok (.iconst 1, 1) := by decide +kernel
theorem dX7_isImage_10 : decode cX7_isImage 10 = .ok (.goto 4, 3) := by decide +kernel
theorem dX7_isImage_13 : decode cX7_isImage 13 = .ok (.iconst 0, 1) := by decide +kernel
theorem dX7_isImage_14 : decode cX7_isImage 14 = .ok (.ireturn, 1) := by decide +kernel
theorem dX7_total_0 : decode cX7_total 0 = .ok (.iconst 0, 1) := by decide +kernel
theorem dX7_total_1 : decode cX7_total 1 = .ok (.istore_n 1, 1) := by decide +kernel
theorem dX7_total_2 : decode cX7_total 2 = .ok (.aload_n 0, 1) := by decide +kernel
theorem dX7_total_3 : decode cX7_total 3 = .ok (.astore_n 2, 1) := by decide +kernel
theorem dX7_total_4 : decode cX7_total 4 = .ok (.aload_n 2, 1) := by decide +kernel
theorem dX7_total_5 : decode cX7_total 5 = .ok (.arraylength, 1) := by decide +kernel
theorem dX7_total_6 : decode cX7_total 6 = .ok (.istore_n 3, 1) := by decide +kernel
theorem dX7_total_7 : decode cX7_total 7 = .ok (.iconst 0, 1) := by decide +kernel
theorem dX7_total_8 : decode cX7_total 8 = .ok (.istore 4, 2) := by decide +kernel
theorem dX7_total_10 : decode cX7_total 10 = .ok (.iload 4, 2) := by decide +kernel
theorem dX7_total_12 : decode cX7_total 12 = .ok (.iload_n 3, 1) := by decide +kernel
theorem dX7_total_13 : decode cX7_total 13 = .ok (.if_icmp .ge 20, 3) := by decide +kernel
theorem dX7_total_16 : decode cX7_total 16 = .ok (.aload_n 2, 1) := by decide +kernel
theorem dX7_total_17 : decode cX7_total 17 = .ok (.iload 4, 2) := by decide +kernel
theorem dX7_total_19 : decode cX7_total 19 = .ok (.iaload, 1) := by decide +kernel
theorem dX7_total_20 : decode cX7_total 20 = .ok (.istore 5, 2) := by decide +kernel
theorem dX7_total_22 : decode cX7_total 22 = .ok (.iload_n 1, 1) := by decide +kernel
theorem dX7_total_23 : decode cX7_total 23 = .ok (.iload 5, 2) := by decide +kernel
theorem dX7_total_25 : decode cX7_total 25 = .ok (.iadd, 1) := by decide +kernel
theorem dX7_total_26 : decode cX7_total 26 = .ok (.istore_n 1, 1) := by decide +kernel
theorem dX7_total_27 : decode cX7_total 27 = .ok (.iinc 4 1, 3) := by decide +kernel
theorem dX7_total_30 : decode cX7_total 30 = .ok (.goto (-20), 3) := by decide +kernel
theorem dX7_total_33 : decode cX7_total 33 = .ok (.iload_n 1, 1) := by decide +kernel
theorem dX7_total_34 : decode cX7_total 34 = .ok (.ireturn, 1) := by decide +kernel
theorem dX7_change_0 : decode cX7_change 0 = .ok (.iload_n 1, 1) := by decide +kernel
theorem dX7_change_1 : decode cX7_change 1 = .ok (.iconst 4, 1) := by decide +kernel
theorem dX7_change_2 : decode cX7_change 2 = .ok (.if_icmp .ne 31, 3) := by decide +kernel
theorem dX7_change_5 : decode cX7_change 5 = .ok (.iconst 0, 1) := by decide +kernel
theorem dX7_change_6 : decode cX7_change 6 = .ok (.istore_n 2, 1) := by decide +kernel
theorem dX7_change_7 : decode cX7_change 7 = .ok (.iload_n 2, 1) := by decide +kernel
theorem dX7_change_8 : decode cX7_change 8 = .ok (.iconst 4, 1) := by decide +kernel
theorem dX7_change_9 : decode cX7_change 9 = .ok (.if_icmp .ge 21, 3) := by decide +kernel
theorem dX7_change_12 : decode cX7_change 12 = .ok (.aload_n 0, 1) := by decide +kernel
theorem dX7_change_13 : decode cX7_change 13 = .ok (.iload_n 2, 1) := by decide +kernel
theorem dX7_change_14 : decode cX7_change 14 = .ok (.iconst 0, 1) := by decide +kernel
theorem dX7_change_15 : decode cX7_change 15 = .ok (.aload_n 0, 1) := by decide +kernel
theorem dX7_change_16 : decode cX7_change 16 = .ok (.iload_n 2, 1) := by decide +kernel
theorem dX7_change_17 : decode cX7_change 17 = .ok (.iaload, 1) := by decide +kernel
theorem dX7_change_18 : decode cX7_change 18 = .ok (.iconst 1, 1) := by decide +kernel
theorem dX7_change_19 : decode cX7_change 19 = .ok (.isub, 1) := by decide +kernel
theorem dX7_change_20 : decode cX7_change 20 = .ok (.invokestatic 264, 3) := by decide +kernel
theorem dX7_change_23 : decode cX7_change 23 = .ok (.iastore, 1) := by decide +kernel
theorem dX7_change_24 : decode cX7_change 24 = .ok (.iinc 2 1, 3) := by decide +kernel
theorem dX7_change_27 : decode cX7_change 27 = .ok (.goto (-20), 3) := by decide +kernel
theorem dX7_change_30 : decode cX7_change 30 = .ok (.goto 22, 3) := by decide +kernel
theorem dX7_change_33 : decode cX7_change 33 = .ok (.iload_n 1, 1) := by decide +kernel
theorem dX7_change_34 : decode cX7_change 34 = .ok (.invokestatic 77, 3) := by decide +kernel
theorem dX7_change_37 : decode cX7_change 37 = .ok (.ifCond .eq 15, 3) := by decide +kernel
theorem dX7_change_40 : decode cX7_change 40 = .ok (.aload_n 0, 1) := by decide +kernel
theorem dX7_change_41 : decode cX7_change 41 = .ok (.iload_n 1, 1) := by decide +kernel
theorem dX7_change_42 : decode cX7_change 42 = .ok (.iconst 5, 1) := by decide +kernel
theorem dX7_change_43 : decode cX7_change 43 = .ok (.aload_n 0, 1) := by decide +kernel
theorem dX7_change_44 : decode cX7_change 44 = .ok (.iload_n 1, 1) := by decide +kernel
theorem dX7_change_45 : decode cX7_change 45 = .ok (.iaload, 1) := by decide +kernel
theorem dX7_change_46 : decode cX7_change 46 = .ok (.iconst 1, 1) := by decide +kernel
theorem dX7_change_47 : decode cX7_change 47 = .ok (.iadd, 1) := by decide +kernel
theorem dX7_change_48 : decode cX7_change 48 = .ok (.invokestatic 270, 3) := by decide +kernel
theorem dX7_change_51 : decode cX7_change 51 = .ok (.iastore, 1) := by decide +kernel
theorem dX7_change_52 : decode cX7_change 52 = .ok (.return_, 1) := by decide +kernel
theorem dX7_numberOf_0 : decode cX7_numberOf 0 = .ok (.iconst 0, 1) := by decide +kernel
theorem dX7_numberOf_1 : decode cX7_numberOf 1 = .ok (.istore_n 1, 1) := by decide +kernel
theorem dX7_numberOf_2 : decode cX7_numberOf 2 = .ok (.iconst 0, 1) := by decide +kernel
theorem dX7_numberOf_3 : decode cX7_numberOf 3 = .ok (.istore_n 2, 1) := by decide +kernel
theorem dX7_numberOf_4 : decode cX7_numberOf 4 = .ok (.iload_n 2, 1) := by decide +kernel
theorem dX7_numberOf_5 : decode cX7_numberOf 5 = .ok (.iconst 4, 1) := by decide +kernel
theorem dX7_numberOf_6 : decode cX7_numberOf 6 = .ok (.if_icmp .ge 18, 3) := by decide +kernel
theorem dX7_numberOf_9 : decode cX7_numberOf 9 = .ok (.iload_n 1, 1) := by decide +kernel
theorem dX7_numberOf_10 : decode cX7_numberOf 10 = .ok (.bipush 6, 2) := by decide +kernel
theorem dX7_numberOf_12 : decode cX7_numberOf 12 = .ok (.imul, 1) := by decide +kernel
theorem dX7_numberOf_13 : decode cX7_numberOf 13 = .ok (.aload_n 0, 1) := by decide +kernel
theorem dX7_numberOf_14 : decode cX7_numberOf 14 = .ok (.iload_n 2, 1) := by decide +kernel
theorem dX7_numberOf_15 : decode cX7_numberOf 15 = .ok (.iaload, 1) := by decide +kernel
theorem dX7_numberOf_16 : decode cX7_numberOf 16 = .ok (.iadd, 1) := by decide +kernel
theorem dX7_numberOf_17 : decode cX7_numberOf 17 = .ok (.istore_n 1, 1) := by decide +kernel
theorem dX7_numberOf_18 : decode cX7_numberOf 18 = .ok (.iinc 2 1, 3) := by decide +kernel
theorem dX7_numberOf_21 : decode cX7_numberOf 21 = .ok (.goto (-17), 3) := by decide +kernel
theorem dX7_numberOf_24 : decode cX7_numberOf 24 = .ok (.iload_n 1, 1) := by decide +kernel
theorem dX7_numberOf_25 : decode cX7_numberOf 25 = .ok (.ireturn, 1) := by decide +kernel
theorem dX7_rowOf_0 : decode cX7_rowOf 0 = .ok (.iload_n 0, 1) := by decide +kernel
theorem dX7_rowOf_1 : decode cX7_rowOf 1 = .ok (.istore_n 2, 1) := by decide +kernel
theorem dX7_rowOf_2 : decode cX7_rowOf 2 = .ok (.iconst 3, 1) := by decide +kernel
theorem dX7_rowOf_3 : decode cX7_rowOf 3 = .ok (.istore_n 3, 1) := by decide +kernel
theorem dX7_rowOf_4 : decode cX7_rowOf 4 = .ok (.iload_n 3, 1) := by decide +kernel
theorem dX7_rowOf_5 : decode cX7_rowOf 5 = .ok (.ifCond .lt 21, 3) := by decide +kernel
theorem dX7_rowOf_8 : decode cX7_rowOf 8 = .ok (.aload_n 1, 1) := by decide +kernel
theorem dX7_rowOf_9 : decode cX7_rowOf 9 = .ok (.iload_n 3, 1) := by decide +kernel
theorem dX7_rowOf_10 : decode cX7_rowOf 10 = .ok (.iload_n 2, 1) := by decide +kernel
theorem dX7_rowOf_11 : decode cX7_rowOf 11 = .ok (.bipush 6, 2) := by decide +kernel
theorem dX7_rowOf_13 : decode cX7_rowOf 13 = .ok (.irem, 1) := by decide +kernel
theorem dX7_rowOf_14 : decode cX7_rowOf 14 = .ok (.iastore, 1) := by decide +kernel
theorem dX7_rowOf_15 : decode cX7_rowOf 15 = .ok (.iload_n 2, 1) := by decide +kernel
theorem dX7_rowOf_16 : decode cX7_rowOf 16 = .ok (.bipush 6, 2) := by decide +kernel
theorem dX7_rowOf_18 : decode cX7_rowOf 18 = .ok (.idiv, 1) := by decide +kernel
theorem dX7_rowOf_19 : decode cX7_rowOf 19 = .ok (.istore_n 2, 1) := by decide +kernel
theorem dX7_rowOf_20 : decode cX7_rowOf 20 = .ok (.iinc 3 (-1), 3) := by decide +kernel
theorem dX7_rowOf_23 : decode cX7_rowOf 23 = .ok (.goto (-19), 3) := by decide +kernel
theorem dX7_rowOf_26 : decode cX7_rowOf 26 = .ok (.return_, 1) := by decide +kernel
theorem dX7_inLeastTerms_0 : decode cX7_inLeastTerms 0 = .ok (.iload_n 0, 1) := by decide +kernel
theorem dX7_inLeastTerms_1 : decode cX7_inLeastTerms 1 = .ok (.istore_n 3, 1) := by decide +kernel
theorem dX7_inLeastTerms_2 : decode cX7_inLeastTerms 2 = .ok (.iload_n 1, 1) := by decide +kernel
theorem dX7_inLeastTerms_3 : decode cX7_inLeastTerms 3 = .ok (.istore 4, 2) := by decide +kernel
theorem dX7_inLeastTerms_5 : decode cX7_inLeastTerms 5 = .ok (.iconst 0, 1) := by decide +kernel
theorem dX7_inLeastTerms_6 : decode cX7_inLeastTerms 6 = .ok (.istore 5, 2) := by decide +kernel
theorem dX7_inLeastTerms_8 : decode cX7_inLeastTerms 8 = .ok (.iload 5, 2) := by decide +kernel
theorem dX7_inLeastTerms_10 : decode cX7_inLeastTerms 10 = .ok (.bipush 6, 2) := by decide +kernel
theorem dX7_inLeastTerms_12 : decode cX7_inLeastTerms 12 = .ok (.if_icmp .ge 32, 3) := by decide +kernel
theorem dX7_inLeastTerms_15 : decode cX7_inLeastTerms 15 = .ok (.iload_n 3, 1) := by decide +kernel
theorem dX7_inLeastTerms_16 : decode cX7_inLeastTerms 16 = .ok (.iconst 2, 1) := by decide +kernel
theorem dX7_inLeastTerms_17 : decode cX7_inLeastTerms 17 = .ok (.irem, 1) := by decide +kernel
theorem dX7_inLeastTerms_18 : decode cX7_inLeastTerms 18 = .ok (.ifCond .ne 26, 3) := by decide +kernel
theorem dX7_inLeastTerms_21 : decode cX7_inLeastTerms 21 = .ok (.iload 4, 2) := by decide +kernel
theorem dX7_inLeastTerms_23 : decode cX7_inLeastTerms 23 = .ok (.iconst 2, 1) := by decide +kernel
theorem dX7_inLeastTerms_24 : decode cX7_inLeastTerms 24 = .ok (.irem, 1) := by decide +kernel
theorem dX7_inLeastTerms_25 : decode cX7_inLeastTerms 25 = .ok (.ifCond .ne 19, 3) := by decide +kernel
theorem dX7_inLeastTerms_28 : decode cX7_inLeastTerms 28 = .ok (.iload_n 3, 1) := by decide +kernel
theorem dX7_inLeastTerms_29 : decode cX7_inLeastTerms 29 = .ok (.iconst 2, 1) := by decide +kernel
theorem dX7_inLeastTerms_30 : decode cX7_inLeastTerms 30 = .ok (.idiv, 1) := by decide +kernel
theorem dX7_inLeastTerms_31 : decode cX7_inLeastTerms 31 = .ok (.istore_n 3, 1) := by decide +kernel
theorem dX7_inLeastTerms_32 : decode cX7_inLeastTerms 32 = .ok (.iload 4, 2) := by decide +kernel
theorem dX7_inLeastTerms_34 : decode cX7_inLeastTerms 34 = .ok (.iconst 2, 1) := by decide +kernel
theorem dX7_inLeastTerms_35 : decode cX7_inLeastTerms 35 = .ok (.idiv, 1) := by decide +kernel
theorem dX7_inLeastTerms_36 : decode cX7_inLeastTerms 36 = .ok (.istore 4, 2) := by decide +kernel
theorem dX7_inLeastTerms_38 : decode cX7_inLeastTerms 38 = .ok (.iinc 5 1, 3) := by decide +kernel
theorem dX7_inLeastTerms_41 : decode cX7_inLeastTerms 41 = .ok (.goto (-33), 3) := by decide +kernel
theorem dX7_inLeastTerms_44 : decode cX7_inLeastTerms 44 = .ok (.iconst 0, 1) := by decide +kernel
theorem dX7_inLeastTerms_45 : decode cX7_inLeastTerms 45 = .ok (.istore 5, 2) := by decide +kernel
theorem dX7_inLeastTerms_47 : decode cX7_inLeastTerms 47 = .ok (.iload 5, 2) := by decide +kernel
theorem dX7_inLeastTerms_49 : decode cX7_inLeastTerms 49 = .ok (.bipush 6, 2) := by decide +kernel
theorem dX7_inLeastTerms_51 : decode cX7_inLeastTerms 51 = .ok (.if_icmp .ge 32, 3) := by decide +kernel
theorem dX7_inLeastTerms_54 : decode cX7_inLeastTerms 54 = .ok (.iload_n 3, 1) := by decide +kernel
theorem dX7_inLeastTerms_55 : decode cX7_inLeastTerms 55 = .ok (.iconst 5, 1) := by decide +kernel
theorem dX7_inLeastTerms_56 : decode cX7_inLeastTerms 56 = .ok (.irem, 1) := by decide +kernel
theorem dX7_inLeastTerms_57 : decode cX7_inLeastTerms 57 = .ok (.ifCond .ne 26, 3) := by decide +kernel
theorem dX7_inLeastTerms_60 : decode cX7_inLeastTerms 60 = .ok (.iload 4, 2) := by decide +kernel
theorem dX7_inLeastTerms_62 : decode cX7_inLeastTerms 62 = .ok (.iconst 5, 1) := by decide +kernel
theorem dX7_inLeastTerms_63 : decode cX7_inLeastTerms 63 = .ok (.irem, 1) := by decide +kernel
theorem dX7_inLeastTerms_64 : decode cX7_inLeastTerms 64 = .ok (.ifCond .ne 19, 3) := by decide +kernel
theorem dX7_inLeastTerms_67 : decode cX7_inLeastTerms 67 = .ok (.iload_n 3, 1) := by decide +kernel
theorem dX7_inLeastTerms_68 : decode cX7_inLeastTerms 68 = .ok (.iconst 5, 1) := by decide +kernel
theorem dX7_inLeastTerms_69 : decode cX7_inLeastTerms 69 = .ok (.idiv, 1) := by decide +kernel
theorem dX7_inLeastTerms_70 : decode cX7_inLeastTerms 70 = .ok (.istore_n 3, 1) := by decide +kernel
theorem dX7_inLeastTerms_71 : decode cX7_inLeastTerms 71 = .ok (.iload 4, 2) := by decide +kernel
theorem dX7_inLeastTerms_73 : decode cX7_inLeastTerms 73 = .ok (.iconst 5, 1) := by decide +kernel
theorem dX7_inLeastTerms_74 : decode cX7_inLeastTerms 74 = .ok (.idiv, 1) := by decide +kernel
theorem dX7_inLeastTerms_75 : decode cX7_inLeastTerms 75 = .ok (.istore 4, 2) := by decide +kernel
theorem dX7_inLeastTerms_77 : decode cX7_inLeastTerms 77 = .ok (.iinc 5 1, 3) := by decide +kernel
theorem dX7_inLeastTerms_80 : decode cX7_inLeastTerms 80 = .ok (.goto (-33), 3) := by decide +kernel
theorem dX7_inLeastTerms_83 : decode cX7_inLeastTerms 83 = .ok (.iload_n 2, 1) := by decide +kernel
theorem dX7_inLeastTerms_84 : decode cX7_inLeastTerms 84 = .ok (.ifCond .ne 7, 3) := by decide +kernel
theorem dX7_inLeastTerms_87 : decode cX7_inLeastTerms 87 = .ok (.iload_n 3, 1) := by decide +kernel
theorem dX7_inLeastTerms_88 : decode cX7_inLeastTerms 88 = .ok (.goto 5, 3) := by decide +kernel
theorem dX7_inLeastTerms_91 : decode cX7_inLeastTerms 91 = .ok (.iload 4, 2) := by decide +kernel
theorem dX7_inLeastTerms_93 : decode cX7_inLeastTerms 93 = .ok (.ireturn, 1) := by decide +kernel
