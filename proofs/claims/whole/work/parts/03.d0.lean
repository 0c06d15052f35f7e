theorem dX0_init_0 : decode cX0_init 0 = .ok (.aload_n 0, 1) := by decide +kernel
theorem dX0_init_1 : decode cX0_init 1 = .ok (.invokespecial 3, 3) := by decide +kernel
theorem dX0_init_4 : decode cX0_init 4 = .ok (.aload_n 0, 1) := by decide +kernel
theorem dX0_init_5 : decode cX0_init 5 = .ok (.bipush 6, 2) := by decide +kernel
theorem dX0_init_7 : decode cX0_init 7 = .ok (.anewarray 9, 3) := by decide +kernel
theorem dX0_init_10 : decode cX0_init 10 = .ok (.putfield 11, 3) := by decide +kernel
theorem dX0_init_13 : decode cX0_init 13 = .ok (.aload_n 0, 1) := by decide +kernel
theorem dX0_init_14 : decode cX0_init 14 = .ok (.bipush 64, 2) := by decide +kernel
theorem dX0_init_16 : decode cX0_init 16 = .ok (.newarray .int, 2) := by decide +kernel
theorem dX0_init_18 : decode cX0_init 18 = .ok (.putfield 17, 3) := by decide +kernel
theorem dX0_init_21 : decode cX0_init 21 = .ok (.aload_n 0, 1) := by decide +kernel
theorem dX0_init_22 : decode cX0_init 22 = .ok (.bipush 7, 2) := by decide +kernel
theorem dX0_init_24 : decode cX0_init 24 = .ok (.newarray .int, 2) := by decide +kernel
theorem dX0_init_26 : decode cX0_init 26 = .ok (.putfield 21, 3) := by decide +kernel
theorem dX0_init_29 : decode cX0_init 29 = .ok (.iconst 0, 1) := by decide +kernel
theorem dX0_init_30 : decode cX0_init 30 = .ok (.istore_n 1, 1) := by decide +kernel
theorem dX0_init_31 : decode cX0_init 31 = .ok (.iload_n 1, 1) := by decide +kernel
theorem dX0_init_32 : decode cX0_init 32 = .ok (.bipush 6, 2) := by decide +kernel
theorem dX0_init_34 : decode cX0_init 34 = .ok (.if_icmp .ge 22, 3) := by decide +kernel
theorem dX0_init_37 : decode cX0_init 37 = .ok (.aload_n 0, 1) := by decide +kernel
theorem dX0_init_38 : decode cX0_init 38 = .ok (.getfield 11, 3) := by decide +kernel
theorem dX0_init_41 : decode cX0_init 41 = .ok (.iload_n 1, 1) := by decide +kernel
theorem dX0_init_42 : decode cX0_init 42 = .ok (.new 9, 3) := by decide +kernel
theorem dX0_init_45 : decode cX0_init 45 = .ok (.dup, 1) := by decide +kernel
theorem dX0_init_46 : decode cX0_init 46 = .ok (.invokespecial 24, 3) := by decide +kernel
theorem dX0_init_49 : decode cX0_init 49 = .ok (.aastore, 1) := by decide +kernel
theorem dX0_init_50 : decode cX0_init 50 = .ok (.iinc 1 1, 3) := by decide +kernel
theorem dX0_init_53 : decode cX0_init 53 = .ok (.goto (-22), 3) := by decide +kernel
theorem dX0_init_56 : decode cX0_init 56 = .ok (.return_, 1) := by decide +kernel
theorem dX0_become_0 : decode cX0_become 0 = .ok (.aload_n 0, 1) := by decide +kernel
theorem dX0_become_1 : decode cX0_become 1 = .ok (.iload_n 2, 1) := by decide +kernel
theorem dX0_become_2 : decode cX0_become 2 = .ok (.bipush 6, 2) := by decide +kernel
theorem dX0_become_4 : decode cX0_become 4 = .ok (.invokestatic 25, 3) := by decide +kernel
theorem dX0_become_7 : decode cX0_become 7 = .ok (.putfield 31, 3) := by decide +kernel
theorem dX0_become_10 : decode cX0_become 10 = .ok (.iconst 0, 1) := by decide +kernel
theorem dX0_become_11 : decode cX0_become 11 = .ok (.istore_n 3, 1) := by decide +kernel
theorem dX0_become_12 : decode cX0_become 12 = .ok (.iload_n 3, 1) := by decide +kernel
theorem dX0_become_13 : decode cX0_become 13 = .ok (.aload_n 0, 1) := by decide +kernel
theorem dX0_become_14 : decode cX0_become 14 = .ok (.getfield 31, 3) := by decide +kernel
theorem dX0_become_17 : decode cX0_become 17 = .ok (.if_icmp .ge 41, 3) := by decide +kernel
theorem dX0_become_20 : decode cX0_become 20 = .ok (.aload_n 1, 1) := by decide +kernel
theorem dX0_become_21 : decode cX0_become 21 = .ok (.iload_n 3, 1) := by decide +kernel
theorem dX0_become_22 : decode cX0_become 22 = .ok (.aaload, 1) := by decide +kernel
theorem dX0_become_23 : decode cX0_become 23 = .ok (.iconst 0, 1) := by decide +kernel
theorem dX0_become_24 : decode cX0_become 24 = .ok (.aload_n 0, 1) := by decide +kernel
theorem dX0_become_25 : decode cX0_become 25 = .ok (.getfield 11, 3) := by decide +kernel
theorem dX0_become_28 : decode cX0_become 28 = .ok (.iload_n 3, 1) := by decide +kernel
theorem dX0_become_29 : decode cX0_become 29 = .ok (.aaload, 1) := by decide +kernel
theorem dX0_become_30 : decode cX0_become 30 = .ok (.getfield 35, 3) := by decide +kernel
theorem dX0_become_33 : decode cX0_become 33 = .ok (.iconst 0, 1) := by decide +kernel
theorem dX0_become_34 : decode cX0_become 34 = .ok (.iconst 4, 1) := by decide +kernel
theorem dX0_become_35 : decode cX0_become 35 = .ok (.invokestatic 38, 3) := by decide +kernel
theorem dX0_become_38 : decode cX0_become 38 = .ok (.aload_n 0, 1) := by decide +kernel
theorem dX0_become_39 : decode cX0_become 39 = .ok (.getfield 11, 3) := by decide +kernel
theorem dX0_become_42 : decode cX0_become 42 = .ok (.iload_n 3, 1) := by decide +kernel
theorem dX0_become_43 : decode cX0_become 43 = .ok (.aaload, 1) := by decide +kernel
theorem dX0_become_44 : decode cX0_become 44 = .ok (.aload_n 1, 1) := by decide +kernel
theorem dX0_become_45 : decode cX0_become 45 = .ok (.iload_n 3, 1) := by decide +kernel
theorem dX0_become_46 : decode cX0_become 46 = .ok (.aaload, 1) := by decide +kernel
theorem dX0_become_47 : decode cX0_become 47 = .ok (.iconst 4, 1) := by decide +kernel
theorem dX0_become_48 : decode cX0_become 48 = .ok (.iaload, 1) := by decide +kernel
theorem dX0_become_49 : decode cX0_become 49 = .ok (.putfield 44, 3) := by decide +kernel
theorem dX0_become_52 : decode cX0_become 52 = .ok (.iinc 3 1, 3) := by decide +kernel
theorem dX0_become_55 : decode cX0_become 55 = .ok (.goto (-43), 3) := by decide +kernel
theorem dX0_become_58 : decode cX0_become 58 = .ok (.return_, 1) := by decide +kernel
theorem dX0_has_0 : decode cX0_has 0 = .ok (.iload_n 1, 1) := by decide +kernel
theorem dX0_has_1 : decode cX0_has 1 = .ok (.ifCond .lt 15, 3) := by decide +kernel
theorem dX0_has_4 : decode cX0_has 4 = .ok (.iload_n 1, 1) := by decide +kernel
theorem dX0_has_5 : decode cX0_has 5 = .ok (.aload_n 0, 1) := by decide +kernel
theorem dX0_has_6 : decode cX0_has 6 = .ok (.getfield 31, 3) := by decide +kernel
theorem dX0_has_9 : decode cX0_has 9 = .ok (.if_icmp .ge 7, 3) := by decide +kernel
theorem dX0_has_12 : decode cX0_has 12 = .ok (.iconst 1, 1) := by decide +kernel
theorem dX0_has_13 : decode cX0_has 13 = .ok (.goto 4, 3) := by decide +kernel
theorem dX0_has_16 : decode cX0_has 16 = .ok (.iconst 0, 1) := by decide +kernel
theorem dX0_has_17 : decode cX0_has 17 = .ok (.ireturn, 1) := by decide +kernel
theorem dX0_everyone_0 : decode cX0_everyone 0 = .ok (.iconst 1, 1) := by decide +kernel
theorem dX0_everyone_1 : decode cX0_everyone 1 = .ok (.aload_n 0, 1) := by decide +kernel
theorem dX0_everyone_2 : decode cX0_everyone 2 = .ok (.getfield 31, 3) := by decide +kernel
theorem dX0_everyone_5 : decode cX0_everyone 5 = .ok (.ishl, 1) := by decide +kernel
theorem dX0_everyone_6 : decode cX0_everyone 6 = .ok (.iconst 1, 1) := by decide +kernel
theorem dX0_everyone_7 : decode cX0_everyone 7 = .ok (.isub, 1) := by decide +kernel
theorem dX0_everyone_8 : decode cX0_everyone 8 = .ok (.ireturn, 1) := by decide +kernel
theorem dX0_mienOf_0 : decode cX0_mienOf 0 = .ok (.aload_n 0, 1) := by decide +kernel
theorem dX0_mienOf_1 : decode cX0_mienOf 1 = .ok (.getfield 11, 3) := by decide +kernel
theorem dX0_mienOf_4 : decode cX0_mienOf 4 = .ok (.iload_n 1, 1) := by decide +kernel
theorem dX0_mienOf_5 : decode cX0_mienOf 5 = .ok (.aaload, 1) := by decide +kernel
theorem dX0_mienOf_6 : decode cX0_mienOf 6 = .ok (.aload_n 2, 1) := by decide +kernel
theorem dX0_mienOf_7 : decode cX0_mienOf 7 = .ok (.getfield 47, 3) := by decide +kernel
theorem dX0_mienOf_10 : decode cX0_mienOf 10 = .ok (.aload_n 2, 1) := by decide +kernel
theorem dX0_mienOf_11 : decode cX0_mienOf 11 = .ok (.getfield 52, 3) := by decide +kernel
theorem dX0_mienOf_14 : decode cX0_mienOf 14 = .ok (.iload_n 1, 1) := by decide +kernel
theorem dX0_mienOf_15 : decode cX0_mienOf 15 = .ok (.iaload, 1) := by decide +kernel
theorem dX0_mienOf_16 : decode cX0_mienOf 16 = .ok (.invokevirtual 55, 3) := by decide +kernel
theorem dX0_mienOf_19 : decode cX0_mienOf 19 = .ok (.ireturn, 1) := by decide +kernel
theorem dX0_mindOf_0 : decode cX0_mindOf 0 = .ok (.aload_n 0, 1) := by decide +kernel
theorem dX0_mindOf_1 : decode cX0_mindOf 1 = .ok (.getfield 11, 3) := by decide +kernel
theorem dX0_mindOf_4 : decode cX0_mindOf 4 = .ok (.iload_n 1, 1) := by decide +kernel
theorem dX0_mindOf_5 : decode cX0_mindOf 5 = .ok (.aaload, 1) := by decide +kernel
theorem dX0_mindOf_6 : decode cX0_mindOf 6 = .ok (.aload_n 2, 1) := by decide +kernel
theorem dX0_mindOf_7 : decode cX0_mindOf 7 = .ok (.getfield 47, 3) := by decide +kernel
theorem dX0_mindOf_10 : decode cX0_mindOf 10 = .ok (.aload_n 2, 1) := by decide +kernel
theorem dX0_mindOf_11 : decode cX0_mindOf 11 = .ok (.getfield 52, 3) := by decide +kernel
theorem dX0_mindOf_14 : decode cX0_mindOf 14 = .ok (.iload_n 1, 1) := by decide +kernel
theorem dX0_mindOf_15 : decode cX0_mindOf 15 = .ok (.iaload, 1) := by decide +kernel
theorem dX0_mindOf_16 : decode cX0_mindOf 16 = .ok (.invokevirtual 59, 3) := by decide +kernel
theorem dX0_mindOf_19 : decode cX0_mindOf 19 = .ok (.ireturn, 1) := by decide +kernel
theorem dX0_mindOfAll_0 : decode cX0_mindOfAll 0 = .ok (.iconst 0, 1) := by decide +kernel
theorem dX0_mindOfAll_1 : decode cX0_mindOfAll 1 = .ok (.istore_n 2, 1) := by decide +kernel
theorem dX0_mindOfAll_2 : decode cX0_mindOfAll 2 = .ok (.iconst 0, 1) := by decide +kernel
theorem dX0_mindOfAll_3 : decode cX0_mindOfAll 3 = .ok (.istore_n 3, 1) := by decide +kernel
theorem dX0_mindOfAll_4 : decode cX0_mindOfAll 4 = .ok (.iload_n 3, 1) := by decide +kernel
theorem dX0_mindOfAll_5 : decode cX0_mindOfAll 5 = .ok (.aload_n 0, 1) := by decide +kernel
theorem dX0_mindOfAll_6 : decode cX0_mindOfAll 6 = .ok (.getfield 31, 3) := by decide +kernel
theorem dX0_mindOfAll_9 : decode cX0_mindOfAll 9 = .ok (.if_icmp .ge 18, 3) := by decide +kernel
theorem dX0_mindOfAll_12 : decode cX0_mindOfAll 12 = .ok (.iload_n 2, 1) := by decide +kernel
theorem dX0_mindOfAll_13 : decode cX0_mindOfAll 13 = .ok (.aload_n 0, 1) := by decide +kernel
theorem dX0_mindOfAll_14 : decode cX0_mindOfAll 14 = .ok (.iload_n 3, 1) := by decide +kernel
theorem dX0_mindOfAll_15 : decode cX0_mindOfAll 15 = .ok (.aload_n 1, 1) := by decide +kernel
theorem dX0_mindOfAll_16 : decode cX0_mindOfAll 16 = .ok (.invokevirtual 62, 3) := by decide +kernel
theorem dX0_mindOfAll_19 : decode cX0_mindOfAll 19 = .ok (.iadd, 1) := by decide +kernel
theorem dX0_mindOfAll_20 : decode cX0_mindOfAll 20 = .ok (.istore_n 2, 1) := by decide +kernel
theorem dX0_mindOfAll_21 : decode cX0_mindOfAll 21 = .ok (.iinc 3 1, 3) := by decide +kernel
theorem dX0_mindOfAll_24 : decode cX0_mindOfAll 24 = .ok (.goto (-20), 3) := by decide +kernel
theorem dX0_mindOfAll_27 : decode cX0_mindOfAll 27 = .ok (.iload_n 2, 1) := by decide +kernel
theorem dX0_mindOfAll_28 : decode cX0_mindOfAll 28 = .ok (.ireturn, 1) := by decide +kernel
theorem dX0_calmSet_0 : decode cX0_calmSet 0 = .ok (.iconst 0, 1) := by decide +kernel
theorem dX0_calmSet_1 : decode cX0_calmSet 1 = .ok (.istore_n 2, 1) := by decide +kernel
theorem dX0_calmSet_2 : decode cX0_calmSet 2 = .ok (.iconst 0, 1) := by decide +kernel
theorem dX0_calmSet_3 : decode cX0_calmSet 3 = .ok (.istore_n 3, 1) := by decide +kernel
theorem dX0_calmSet_4 : decode cX0_calmSet 4 = .ok (.iload_n 3, 1) := by decide +kernel
theorem dX0_calmSet_5 : decode cX0_calmSet 5 = .ok (.aload_n 0, 1) := by decide +kernel
theorem dX0_calmSet_6 : decode cX0_calmSet 6 = .ok (.getfield 31, 3) := by decide +kernel
theorem dX0_calmSet_9 : decode cX0_calmSet 9 = .ok (.if_icmp .ge 24, 3) := by decide +kernel
theorem dX0_calmSet_12 : decode cX0_calmSet 12 = .ok (.aload_n 0, 1) := by decide +kernel
theorem dX0_calmSet_13 : decode cX0_calmSet 13 = .ok (.iload_n 3, 1) := by decide +kernel
theorem dX0_calmSet_14 : decode cX0_calmSet 14 = .ok (.aload_n 1, 1) := by decide +kernel
theorem dX0_calmSet_15 : decode cX0_calmSet 15 = .ok (.invokevirtual 66, 3) := by decide +kernel
theorem dX0_calmSet_18 : decode cX0_calmSet 18 = .ok (.ifCond .ne 9, 3) := by decide +kernel
theorem dX0_calmSet_21 : decode cX0_calmSet 21 = .ok (.iload_n 2, 1) := by decide +kernel
theorem dX0_calmSet_22 : decode cX0_calmSet 22 = .ok (.iconst 1, 1) := by decide +kernel
theorem dX0_calmSet_23 : decode cX0_calmSet 23 = .ok (.iload_n 3, 1) := by decide +kernel
theorem dX0_calmSet_24 : decode cX0_calmSet 24 = .ok (.ishl, 1) := by decide +kernel
theorem dX0_calmSet_25 : decode cX0_calmSet 25 = .ok (.ior, 1) := by decide +kernel
theorem dX0_calmSet_26 : decode cX0_calmSet 26 = .ok (.istore_n 2, 1) := by decide +kernel
theorem dX0_calmSet_27 : decode cX0_calmSet 27 = .ok (.iinc 3 1, 3) := by decide +kernel
theorem dX0_calmSet_30 : decode cX0_calmSet 30 = .ok (.goto (-26), 3) := by decide +kernel
theorem dX0_calmSet_33 : decode cX0_calmSet 33 = .ok (.iload_n 2, 1) := by decide +kernel
theorem dX0_calmSet_34 : decode cX0_calmSet 34 = .ok (.ireturn, 1) := by decide +kernel
theorem dX0_howManyCalm_0 : decode cX0_howManyCalm 0 = .ok (.aload_n 0, 1) := by decide +kernel
theorem dX0_howManyCalm_1 : decode cX0_howManyCalm 1 = .ok (.aload_n 1, 1) := by decide +kernel
theorem dX0_howManyCalm_2 : decode cX0_howManyCalm 2 = .ok (.invokevirtual 69, 3) := by decide +kernel
theorem dX0_howManyCalm_5 : decode cX0_howManyCalm 5 = .ok (.invokestatic 73, 3) := by decide +kernel
theorem dX0_howManyCalm_8 : decode cX0_howManyCalm 8 = .ok (.ireturn, 1) := by decide +kernel
theorem dX0_areCalm_0 : decode cX0_areCalm 0 = .ok (.iconst 0, 1) := by decide +kernel
theorem dX0_areCalm_1 : decode cX0_areCalm 1 = .ok (.istore_n 3, 1) := by decide +kernel
theorem dX0_areCalm_2 : decode cX0_areCalm 2 = .ok (.iload_n 3, 1) := by decide +kernel
theorem dX0_areCalm_3 : decode cX0_areCalm 3 = .ok (.aload_n 0, 1) := by decide +kernel
theorem dX0_areCalm_4 : decode cX0_areCalm 4 = .ok (.getfield 31, 3) := by decide +kernel
theorem dX0_areCalm_7 : decode cX0_areCalm 7 = .ok (.if_icmp .ge 29, 3) := by decide +kernel
theorem dX0_areCalm_10 : decode cX0_areCalm 10 = .ok (.iload_n 1, 1) := by decide +kernel
theorem dX0_areCalm_11 : decode cX0_areCalm 11 = .ok (.iload_n 3, 1) := by decide +kernel
theorem dX0_areCalm_12 : decode cX0_areCalm 12 = .ok (.ishr, 1) := by decide +kernel
theorem dX0_areCalm_13 : decode cX0_areCalm 13 = .ok (.iconst 1, 1) := by decide +kernel
theorem dX0_areCalm_14 : decode cX0_areCalm 14 = .ok (.iand, 1) := by decide +kernel
theorem dX0_areCalm_15 : decode cX0_areCalm 15 = .ok (.iconst 1, 1) := by decide +kernel
theorem dX0_areCalm_16 : decode cX0_areCalm 16 = .ok (.if_icmp .ne 14, 3) := by decide +kernel
theorem dX0_areCalm_19 : decode cX0_areCalm 19 = .ok (.aload_n 0, 1) := by decide +kernel
theorem dX0_areCalm_20 : decode cX0_areCalm 20 = .ok (.iload_n 3, 1) := by decide +kernel
theorem dX0_areCalm_21 : decode cX0_areCalm 21 = .ok (.aload_n 2, 1) := by decide +kernel
theorem dX0_areCalm_22 : decode cX0_areCalm 22 = .ok (.invokevirtual 66, 3) := by decide +kernel
theorem dX0_areCalm_25 : decode cX0_areCalm 25 = .ok (.ifCond .eq 5, 3) := by decide +kernel
theorem dX0_areCalm_28 : decode cX0_areCalm 28 = .ok (.iconst 0, 1) := by decide +kernel
theorem dX0_areCalm_29 : decode cX0_areCalm 29 = .ok (.ireturn, 1) := by decide +kernel
theorem dX0_areCalm_30 : decode cX0_areCalm 30 = .ok (.iinc 3 1, 3) := by decide +kernel
theorem dX0_areCalm_33 : decode cX0_areCalm 33 = .ok (.goto (-31), 3) := by decide +kernel
theorem dX0_areCalm_36 : decode cX0_areCalm 36 = .ok (.iconst 1, 1) := by decide +kernel
theorem dX0_areCalm_37 : decode cX0_areCalm 37 = .ok (.ireturn, 1) := by decide +kernel
theorem dX0_mindPart_0 : decode cX0_mindPart 0 = .ok (.iconst 0, 1) := by decide +kernel
theorem dX0_mindPart_1 : decode cX0_mindPart 1 = .ok (.istore 5, 2) := by decide +kernel
theorem dX0_mindPart_3 : decode cX0_mindPart 3 = .ok (.iconst 0, 1) := by decide +kernel
theorem dX0_mindPart_4 : decode cX0_mindPart 4 = .ok (.istore 6, 2) := by decide +kernel
theorem dX0_mindPart_6 : decode cX0_mindPart 6 = .ok (.iload 6, 2) := by decide +kernel
theorem dX0_mindPart_8 : decode cX0_mindPart 8 = .ok (.aload_n 0, 1) := by decide +kernel
theorem dX0_mindPart_9 : decode cX0_mindPart 9 = .ok (.getfield 31, 3) := by decide +kernel
theorem dX0_mindPart_12 : decode cX0_mindPart 12 = .ok (.if_icmp .ge 44, 3) := by decide +kernel
theorem dX0_mindPart_15 : decode cX0_mindPart 15 = .ok (.iload_n 1, 1) := by decide +kernel
theorem dX0_mindPart_16 : decode cX0_mindPart 16 = .ok (.iload 6, 2) := by decide +kernel
theorem dX0_mindPart_18 : decode cX0_mindPart 18 = .ok (.ishr, 1) := by decide +kernel
theorem dX0_mindPart_19 : decode cX0_mindPart 19 = .ok (.iconst 1, 1) := by decide +kernel
theorem dX0_mindPart_20 : decode cX0_mindPart 20 = .ok (.iand, 1) := by decide +kernel
theorem dX0_mindPart_21 : decode cX0_mindPart 21 = .ok (.iconst 1, 1) := by decide +kernel
theorem dX0_mindPart_22 : decode cX0_mindPart 22 = .ok (.if_icmp .ne 28, 3) := by decide +kernel
theorem dX0_mindPart_25 : decode cX0_mindPart 25 = .ok (.iload 5, 2) := by decide +kernel
theorem dX0_mindPart_27 : decode cX0_mindPart 27 = .ok (.aload_n 0, 1) := by decide +kernel
theorem dX0_mindPart_28 : decode cX0_mindPart 28 = .ok (.getfield 11, 3) := by decide +kernel
theorem dX0_mindPart_31 : decode cX0_mindPart 31 = .ok (.iload 6, 2) := by decide +kernel
theorem dX0_mindPart_33 : decode cX0_mindPart 33 = .ok (.aaload, 1) := by decide +kernel
theorem dX0_mindPart_34 : decode cX0_mindPart 34 = .ok (.iload_n 2, 1) := by decide +kernel
theorem dX0_mindPart_35 : decode cX0_mindPart 35 = .ok (.iload_n 3, 1) := by decide +kernel
theorem dX0_mindPart_36 : decode cX0_mindPart 36 = .ok (.aload 4, 2) := by decide +kernel
theorem dX0_mindPart_38 : decode cX0_mindPart 38 = .ok (.iload 6, 2) := by decide +kernel
theorem dX0_mindPart_40 : decode cX0_mindPart 40 = .ok (.iaload, 1) := by decide +kernel
theorem dX0_mindPart_41 : decode cX0_mindPart 41 = .ok (.invokevirtual 79, 3) := by decide +kernel
theorem dX0_mindPart_44 : decode cX0_mindPart 44 = .ok (.invokestatic 83, 3) := by decide +kernel
theorem dX0_mindPart_47 : decode cX0_mindPart 47 = .ok (.iadd, 1) := by decide +kernel
theorem dX0_mindPart_48 : decode cX0_mindPart 48 = .ok (.istore 5, 2) := by decide +kernel
theorem dX0_mindPart_50 : decode cX0_mindPart 50 = .ok (.iinc 6 1, 3) := by decide +kernel
theorem dX0_mindPart_53 : decode cX0_mindPart 53 = .ok (.goto (-47), 3) := by decide +kernel
theorem dX0_mindPart_56 : decode cX0_mindPart 56 = .ok (.iload 5, 2) := by decide +kernel
theorem dX0_mindPart_58 : decode cX0_mindPart 58 = .ok (.ireturn, 1) := by decide +kernel
theorem dX0_bestAmount_0 : decode cX0_bestAmount 0 = .ok (.iconst 0, 1) := by decide +kernel
theorem dX0_bestAmount_1 : decode cX0_bestAmount 1 = .ok (.istore 4, 2) := by decide +kernel
theorem dX0_bestAmount_3 : decode cX0_bestAmount 3 = .ok (.aload_n 0, 1) := by decide +kernel
theorem dX0_bestAmount_4 : decode cX0_bestAmount 4 = .ok (.iload_n 1, 1) := by decide +kernel
theorem dX0_bestAmount_5 : decode cX0_bestAmount 5 = .ok (.iload_n 2, 1) := by decide +kernel
theorem dX0_bestAmount_6 : decode cX0_bestAmount 6 = .ok (.iconst 0, 1) := by decide +kernel
theorem dX0_bestAmount_7 : decode cX0_bestAmount 7 = .ok (.aload_n 3, 1) := by decide +kernel
theorem dX0_bestAmount_8 : decode cX0_bestAmount 8 = .ok (.invokevirtual 86, 3) := by decide +kernel
theorem dX0_bestAmount_11 : decode cX0_bestAmount 11 = .ok (.istore 5, 2) := by decide +kernel
theorem dX0_bestAmount_13 : decode cX0_bestAmount 13 = .ok (.iconst 1, 1) := by decide +kernel
theorem dX0_bestAmount_14 : decode cX0_bestAmount 14 = .ok (.istore 6, 2) := by decide +kernel
theorem dX0_bestAmount_16 : decode cX0_bestAmount 16 = .ok (.iload 6, 2) := by decide +kernel
theorem dX0_bestAmount_18 : decode cX0_bestAmount 18 = .ok (.iconst 5, 1) := by decide +kernel
theorem dX0_bestAmount_19 : decode cX0_bestAmount 19 = .ok (.if_icmp .gt 35, 3) := by decide +kernel
theorem dX0_bestAmount_22 : decode cX0_bestAmount 22 = .ok (.aload_n 0, 1) := by decide +kernel
theorem dX0_bestAmount_23 : decode cX0_bestAmount 23 = .ok (.iload_n 1, 1) := by decide +kernel
theorem dX0_bestAmount_24 : decode cX0_bestAmount 24 = .ok (.iload_n 2, 1) := by decide +kernel
theorem dX0_bestAmount_25 : decode cX0_bestAmount 25 = .ok (.iload 6, 2) := by decide +kernel
theorem dX0_bestAmount_27 : decode cX0_bestAmount 27 = .ok (.aload_n 3, 1) := by decide +kernel
theorem dX0_bestAmount_28 : decode cX0_bestAmount 28 = .ok (.invokevirtual 86, 3) := by decide +kernel
theorem dX0_bestAmount_31 : decode cX0_bestAmount 31 = .ok (.istore 7, 2) := by decide +kernel
theorem dX0_bestAmount_33 : decode cX0_bestAmount 33 = .ok (.iload 7, 2) := by decide +kernel
theorem dX0_bestAmount_35 : decode cX0_bestAmount 35 = .ok (.iload 5, 2) := by decide +kernel
theorem dX0_bestAmount_37 : decode cX0_bestAmount 37 = .ok (.if_icmp .ge 11, 3) := by decide +kernel
theorem dX0_bestAmount_40 : decode cX0_bestAmount 40 = .ok (.iload 7, 2) := by decide +kernel
theorem dX0_bestAmount_42 : decode cX0_bestAmount 42 = .ok (.istore 5, 2) := by decide +kernel
theorem dX0_bestAmount_44 : decode cX0_bestAmount 44 = .ok (.iload 6, 2) := by decide +kernel
theorem dX0_bestAmount_46 : decode cX0_bestAmount 46 = .ok (.istore 4, 2) := by decide +kernel
theorem dX0_bestAmount_48 : decode cX0_bestAmount 48 = .ok (.iinc 6 1, 3) := by decide +kernel
theorem dX0_bestAmount_51 : decode cX0_bestAmount 51 = .ok (.goto (-35), 3) := by decide +kernel
theorem dX0_bestAmount_54 : decode cX0_bestAmount 54 = .ok (.iload 4, 2) := by decide +kernel
theorem dX0_bestAmount_56 : decode cX0_bestAmount 56 = .ok (.ireturn, 1) := by decide +kernel
theorem dX0_leastMind_0 : decode cX0_leastMind 0 = .ok (.iconst 0, 1) := by decide +kernel
theorem dX0_leastMind_1 : decode cX0_leastMind 1 = .ok (.istore_n 3, 1) := by decide +kernel
theorem dX0_leastMind_2 : decode cX0_leastMind 2 = .ok (.iconst 0, 1) := by decide +kernel
theorem dX0_leastMind_3 : decode cX0_leastMind 3 = .ok (.istore 4, 2) := by decide +kernel
theorem dX0_leastMind_5 : decode cX0_leastMind 5 = .ok (.iload 4, 2) := by decide +kernel
theorem dX0_leastMind_7 : decode cX0_leastMind 7 = .ok (.iconst 4, 1) := by decide +kernel
theorem dX0_leastMind_8 : decode cX0_leastMind 8 = .ok (.if_icmp .ge 28, 3) := by decide +kernel
theorem dX0_leastMind_11 : decode cX0_leastMind 11 = .ok (.iload_n 3, 1) := by decide +kernel
theorem dX0_leastMind_12 : decode cX0_leastMind 12 = .ok (.aload_n 0, 1) := by decide +kernel
theorem dX0_leastMind_13 : decode cX0_leastMind 13 = .ok (.iload_n 1, 1) := by decide +kernel
theorem dX0_leastMind_14 : decode cX0_leastMind 14 = .ok (.iload 4, 2) := by decide +kernel
theorem dX0_leastMind_16 : decode cX0_leastMind 16 = .ok (.aload_n 0, 1) := by decide +kernel
theorem dX0_leastMind_17 : decode cX0_leastMind 17 = .ok (.iload_n 1, 1) := by decide +kernel
theorem dX0_leastMind_18 : decode cX0_leastMind 18 = .ok (.iload 4, 2) := by decide +kernel
theorem dX0_leastMind_20 : decode cX0_leastMind 20 = .ok (.aload_n 2, 1) := by decide +kernel
theorem dX0_leastMind_21 : decode cX0_leastMind 21 = .ok (.invokevirtual 90, 3) := by decide +kernel
theorem dX0_leastMind_24 : decode cX0_leastMind 24 = .ok (.aload_n 2, 1) := by decide +kernel
theorem dX0_leastMind_25 : decode cX0_leastMind 25 = .ok (.invokevirtual 86, 3) := by decide +kernel
theorem dX0_leastMind_28 : decode cX0_leastMind 28 = .ok (.iadd, 1) := by decide +kernel
theorem dX0_leastMind_29 : decode cX0_leastMind 29 = .ok (.istore_n 3, 1) := by decide +kernel
theorem dX0_leastMind_30 : decode cX0_leastMind 30 = .ok (.iinc 4 1, 3) := by decide +kernel
theorem dX0_leastMind_33 : decode cX0_leastMind 33 = .ok (.goto (-28), 3) := by decide +kernel
theorem dX0_leastMind_36 : decode cX0_leastMind 36 = .ok (.iload_n 3, 1) := by decide +kernel
theorem dX0_leastMind_37 : decode cX0_leastMind 37 = .ok (.ireturn, 1) := by decide +kernel
theorem dX0_bestParting_0 : decode cX0_bestParting 0 = .ok (.aload_n 0, 1) := by decide +kernel
theorem dX0_bestParting_1 : decode cX0_bestParting 1 = .ok (.invokevirtual 94, 3) := by decide +kernel
theorem dX0_bestParting_4 : decode cX0_bestParting 4 = .ok (.istore_n 2, 1) := by decide +kernel
theorem dX0_bestParting_5 : decode cX0_bestParting 5 = .ok (.iconst 0, 1) := by decide +kernel
theorem dX0_bestParting_6 : decode cX0_bestParting 6 = .ok (.istore_n 3, 1) := by decide +kernel
theorem dX0_bestParting_7 : decode cX0_bestParting 7 = .ok (.iload_n 3, 1) := by decide +kernel
theorem dX0_bestParting_8 : decode cX0_bestParting 8 = .ok (.iload_n 2, 1) := by decide +kernel
theorem dX0_bestParting_9 : decode cX0_bestParting 9 = .ok (.if_icmp .gt 21, 3) := by decide +kernel
theorem dX0_bestParting_12 : decode cX0_bestParting 12 = .ok (.aload_n 0, 1) := by decide +kernel
theorem dX0_bestParting_13 : decode cX0_bestParting 13 = .ok (.getfield 17, 3) := by decide +kernel
theorem dX0_bestParting_16 : decode cX0_bestParting 16 = .ok (.iload_n 3, 1) := by decide +kernel
theorem dX0_bestParting_17 : decode cX0_bestParting 17 = .ok (.aload_n 0, 1) := by decide +kernel
theorem dX0_bestParting_18 : decode cX0_bestParting 18 = .ok (.iload_n 3, 1) := by decide +kernel
theorem dX0_bestParting_19 : decode cX0_bestParting 19 = .ok (.aload_n 1, 1) := by decide +kernel
theorem dX0_bestParting_20 : decode cX0_bestParting 20 = .ok (.invokevirtual 98, 3) := by decide +kernel
theorem dX0_bestParting_23 : decode cX0_bestParting 23 = .ok (.iastore, 1) := by decide +kernel
theorem dX0_bestParting_24 : decode cX0_bestParting 24 = .ok (.iinc 3 1, 3) := by decide +kernel
theorem dX0_bestParting_27 : decode cX0_bestParting 27 = .ok (.goto (-20), 3) := by decide +kernel
theorem dX0_bestParting_30 : decode cX0_bestParting 30 = .ok (.iconst 0, 1) := by decide +kernel
theorem dX0_bestParting_31 : decode cX0_bestParting 31 = .ok (.istore_n 3, 1) := by decide +kernel
theorem dX0_bestParting_32 : decode cX0_bestParting 32 = .ok (.iconst 1, 1) := by decide +kernel
theorem dX0_bestParting_33 : decode cX0_bestParting 33 = .ok (.istore 4, 2) := by decide +kernel
theorem dX0_bestParting_35 : decode cX0_bestParting 35 = .ok (.iload 4, 2) := by decide +kernel
theorem dX0_bestParting_37 : decode cX0_bestParting 37 = .ok (.iload_n 2, 1) := by decide +kernel
theorem dX0_bestParting_38 : decode cX0_bestParting 38 = .ok (.if_icmp .gt 26, 3) := by decide +kernel
theorem dX0_bestParting_41 : decode cX0_bestParting 41 = .ok (.aload_n 0, 1) := by decide +kernel
theorem dX0_bestParting_42 : decode cX0_bestParting 42 = .ok (.iload 4, 2) := by decide +kernel
theorem dX0_bestParting_44 : decode cX0_bestParting 44 = .ok (.invokevirtual 102, 3) := by decide +kernel
theorem dX0_bestParting_47 : decode cX0_bestParting 47 = .ok (.aload_n 0, 1) := by decide +kernel
theorem dX0_bestParting_48 : decode cX0_bestParting 48 = .ok (.iload_n 3, 1) := by decide +kernel
theorem dX0_bestParting_49 : decode cX0_bestParting 49 = .ok (.invokevirtual 102, 3) := by decide +kernel
theorem dX0_bestParting_52 : decode cX0_bestParting 52 = .ok (.if_icmp .ge 6, 3) := by decide +kernel
theorem dX0_bestParting_55 : decode cX0_bestParting 55 = .ok (.iload 4, 2) := by decide +kernel
theorem dX0_bestParting_57 : decode cX0_bestParting 57 = .ok (.istore_n 3, 1) := by decide +kernel
theorem dX0_bestParting_58 : decode cX0_bestParting 58 = .ok (.iinc 4 1, 3) := by decide +kernel
theorem dX0_bestParting_61 : decode cX0_bestParting 61 = .ok (.goto (-26), 3) := by decide +kernel
theorem dX0_bestParting_64 : decode cX0_bestParting 64 = .ok (.iload_n 3, 1) := by decide +kernel
theorem dX0_bestParting_65 : decode cX0_bestParting 65 = .ok (.ireturn, 1) := by decide +kernel
theorem dX0_partedMind_0 : decode cX0_partedMind 0 = .ok (.aload_n 0, 1) := by decide +kernel
theorem dX0_partedMind_1 : decode cX0_partedMind 1 = .ok (.getfield 17, 3) := by decide +kernel
theorem dX0_partedMind_4 : decode cX0_partedMind 4 = .ok (.iload_n 1, 1) := by decide +kernel
theorem dX0_partedMind_5 : decode cX0_partedMind 5 = .ok (.iaload, 1) := by decide +kernel
theorem dX0_partedMind_6 : decode cX0_partedMind 6 = .ok (.aload_n 0, 1) := by decide +kernel
theorem dX0_partedMind_7 : decode cX0_partedMind 7 = .ok (.getfield 17, 3) := by decide +kernel
theorem dX0_partedMind_10 : decode cX0_partedMind 10 = .ok (.aload_n 0, 1) := by decide +kernel
theorem dX0_partedMind_11 : decode cX0_partedMind 11 = .ok (.invokevirtual 94, 3) := by decide +kernel
theorem dX0_partedMind_14 : decode cX0_partedMind 14 = .ok (.iload_n 1, 1) := by decide +kernel
theorem dX0_partedMind_15 : decode cX0_partedMind 15 = .ok (.isub, 1) := by decide +kernel
theorem dX0_partedMind_16 : decode cX0_partedMind 16 = .ok (.iaload, 1) := by decide +kernel
theorem dX0_partedMind_17 : decode cX0_partedMind 17 = .ok (.iadd, 1) := by decide +kernel
theorem dX0_partedMind_18 : decode cX0_partedMind 18 = .ok (.ireturn, 1) := by decide +kernel
theorem dX0_countWays_0 : decode cX0_countWays 0 = .ok (.aload_n 0, 1) := by decide +kernel
theorem dX0_countWays_1 : decode cX0_countWays 1 = .ok (.getfield 21, 3) := by decide +kernel
theorem dX0_countWays_4 : decode cX0_countWays 4 = .ok (.iconst 0, 1) := by decide +kernel
theorem dX0_countWays_5 : decode cX0_countWays 5 = .ok (.invokestatic 105, 3) := by decide +kernel
theorem dX0_countWays_8 : decode cX0_countWays 8 = .ok (.aload_n 0, 1) := by decide +kernel
theorem dX0_countWays_9 : decode cX0_countWays 9 = .ok (.getfield 21, 3) := by decide +kernel
theorem dX0_countWays_12 : decode cX0_countWays 12 = .ok (.iconst 0, 1) := by decide +kernel
theorem dX0_countWays_13 : decode cX0_countWays 13 = .ok (.iconst 1, 1) := by decide +kernel
theorem dX0_countWays_14 : decode cX0_countWays 14 = .ok (.iastore, 1) := by decide +kernel
theorem dX0_countWays_15 : decode cX0_countWays 15 = .ok (.iconst 0, 1) := by decide +kernel
theorem dX0_countWays_16 : decode cX0_countWays 16 = .ok (.istore_n 3, 1) := by decide +kernel
theorem dX0_countWays_17 : decode cX0_countWays 17 = .ok (.iload_n 3, 1) := by decide +kernel
theorem dX0_countWays_18 : decode cX0_countWays 18 = .ok (.aload_n 0, 1) := by decide +kernel
theorem dX0_countWays_19 : decode cX0_countWays 19 = .ok (.getfield 31, 3) := by decide +kernel
theorem dX0_countWays_22 : decode cX0_countWays 22 = .ok (.if_icmp .ge 120, 3) := by decide +kernel
theorem dX0_countWays_25 : decode cX0_countWays 25 = .ok (.aload_n 0, 1) := by decide +kernel
theorem dX0_countWays_26 : decode cX0_countWays 26 = .ok (.getfield 11, 3) := by decide +kernel
theorem dX0_countWays_29 : decode cX0_countWays 29 = .ok (.iload_n 3, 1) := by decide +kernel
theorem dX0_countWays_30 : decode cX0_countWays 30 = .ok (.aaload, 1) := by decide +kernel
theorem dX0_countWays_31 : decode cX0_countWays 31 = .ok (.aload_n 1, 1) := by decide +kernel
theorem dX0_countWays_32 : decode cX0_countWays 32 = .ok (.iconst 1, 1) := by decide +kernel
theorem dX0_countWays_33 : decode cX0_countWays 33 = .ok (.invokevirtual 55, 3) := by decide +kernel
theorem dX0_countWays_36 : decode cX0_countWays 36 = .ok (.ifCond .ne 7, 3) := by decide +kernel
theorem dX0_countWays_39 : decode cX0_countWays 39 = .ok (.iload_n 2, 1) := by decide +kernel
theorem dX0_countWays_40 : decode cX0_countWays 40 = .ok (.goto 4, 3) := by decide +kernel
theorem dX0_countWays_43 : decode cX0_countWays 43 = .ok (.iconst 0, 1) := by decide +kernel
theorem dX0_countWays_44 : decode cX0_countWays 44 = .ok (.istore 4, 2) := by decide +kernel
theorem dX0_countWays_46 : decode cX0_countWays 46 = .ok (.iload 4, 2) := by decide +kernel
theorem dX0_countWays_48 : decode cX0_countWays 48 = .ok (.aload_n 0, 1) := by decide +kernel
theorem dX0_countWays_49 : decode cX0_countWays 49 = .ok (.getfield 11, 3) := by decide +kernel
theorem dX0_countWays_52 : decode cX0_countWays 52 = .ok (.iload_n 3, 1) := by decide +kernel
theorem dX0_countWays_53 : decode cX0_countWays 53 = .ok (.aaload, 1) := by decide +kernel
theorem dX0_countWays_54 : decode cX0_countWays 54 = .ok (.aload_n 1, 1) := by decide +kernel
theorem dX0_countWays_55 : decode cX0_countWays 55 = .ok (.iconst 0, 1) := by decide +kernel
theorem dX0_countWays_56 : decode cX0_countWays 56 = .ok (.invokevirtual 55, 3) := by decide +kernel
theorem dX0_countWays_59 : decode cX0_countWays 59 = .ok (.ifCond .ne 10, 3) := by decide +kernel
theorem dX0_countWays_62 : decode cX0_countWays 62 = .ok (.bipush 10, 2) := by decide +kernel
theorem dX0_countWays_64 : decode cX0_countWays 64 = .ok (.iload_n 2, 1) := by decide +kernel
theorem dX0_countWays_65 : decode cX0_countWays 65 = .ok (.isub, 1) := by decide +kernel
theorem dX0_countWays_66 : decode cX0_countWays 66 = .ok (.goto 4, 3) := by decide +kernel
theorem dX0_countWays_69 : decode cX0_countWays 69 = .ok (.iconst 0, 1) := by decide +kernel
theorem dX0_countWays_70 : decode cX0_countWays 70 = .ok (.iadd, 1) := by decide +kernel
theorem dX0_countWays_71 : decode cX0_countWays 71 = .ok (.istore 4, 2) := by decide +kernel
theorem dX0_countWays_73 : decode cX0_countWays 73 = .ok (.iload_n 3, 1) := by decide +kernel
theorem dX0_countWays_74 : decode cX0_countWays 74 = .ok (.iconst 1, 1) := by decide +kernel
theorem dX0_countWays_75 : decode cX0_countWays 75 = .ok (.iadd, 1) := by decide +kernel
theorem dX0_countWays_76 : decode cX0_countWays 76 = .ok (.istore 5, 2) := by decide +kernel
theorem dX0_countWays_78 : decode cX0_countWays 78 = .ok (.iload 5, 2) := by decide +kernel
theorem dX0_countWays_80 : decode cX0_countWays 80 = .ok (.ifCond .le 42, 3) := by decide +kernel
theorem dX0_countWays_83 : decode cX0_countWays 83 = .ok (.aload_n 0, 1) := by decide +kernel
theorem dX0_countWays_84 : decode cX0_countWays 84 = .ok (.getfield 21, 3) := by decide +kernel
theorem dX0_countWays_87 : decode cX0_countWays 87 = .ok (.iload 5, 2) := by decide +kernel
theorem dX0_countWays_89 : decode cX0_countWays 89 = .ok (.aload_n 0, 1) := by decide +kernel
theorem dX0_countWays_90 : decode cX0_countWays 90 = .ok (.getfield 21, 3) := by decide +kernel
theorem dX0_countWays_93 : decode cX0_countWays 93 = .ok (.iload 5, 2) := by decide +kernel
theorem dX0_countWays_95 : decode cX0_countWays 95 = .ok (.iaload, 1) := by decide +kernel
theorem dX0_countWays_96 : decode cX0_countWays 96 = .ok (.bipush 10, 2) := by decide +kernel
theorem dX0_countWays_98 : decode cX0_countWays 98 = .ok (.iload 4, 2) := by decide +kernel
theorem dX0_countWays_100 : decode cX0_countWays 100 = .ok (.isub, 1) := by decide +kernel
theorem dX0_countWays_101 : decode cX0_countWays 101 = .ok (.imul, 1) := by decide +kernel
theorem dX0_countWays_102 : decode cX0_countWays 102 = .ok (.aload_n 0, 1) := by decide +kernel
theorem dX0_countWays_103 : decode cX0_countWays 103 = .ok (.getfield 21, 3) := by decide +kernel
theorem dX0_countWays_106 : decode cX0_countWays 106 = .ok (.iload 5, 2) := by decide +kernel
theorem dX0_countWays_108 : decode cX0_countWays 108 = .ok (.iconst 1, 1) := by decide +kernel
theorem dX0_countWays_109 : decode cX0_countWays 109 = .ok (.isub, 1) := by decide +kernel
theorem dX0_countWays_110 : decode cX0_countWays 110 = .ok (.iaload, 1) := by decide +kernel
theorem dX0_countWays_111 : decode cX0_countWays 111 = .ok (.iload 4, 2) := by decide +kernel
theorem dX0_countWays_113 : decode cX0_countWays 113 = .ok (.imul, 1) := by decide +kernel
theorem dX0_countWays_114 : decode cX0_countWays 114 = .ok (.iadd, 1) := by decide +kernel
theorem dX0_countWays_115 : decode cX0_countWays 115 = .ok (.iastore, 1) := by decide +kernel
theorem dX0_countWays_116 : decode cX0_countWays 116 = .ok (.iinc 5 (-1), 3) := by decide +kernel
theorem dX0_countWays_119 : decode cX0_countWays 119 = .ok (.goto (-41), 3) := by decide +kernel
theorem dX0_countWays_122 : decode cX0_countWays 122 = .ok (.aload_n 0, 1) := by decide +kernel
theorem dX0_countWays_123 : decode cX0_countWays 123 = .ok (.getfield 21, 3) := by decide +kernel
theorem dX0_countWays_126 : decode cX0_countWays 126 = .ok (.iconst 0, 1) := by decide +kernel
theorem dX0_countWays_127 : decode cX0_countWays 127 = .ok (.dup2, 1) := by decide +kernel
theorem dX0_countWays_128 : decode cX0_countWays 128 = .ok (.iaload, 1) := by decide +kernel
theorem dX0_countWays_129 : decode cX0_countWays 129 = .ok (.bipush 10, 2) := by decide +kernel
theorem dX0_countWays_131 : decode cX0_countWays 131 = .ok (.iload 4, 2) := by decide +kernel
theorem dX0_countWays_133 : decode cX0_countWays 133 = .ok (.isub, 1) := by decide +kernel
theorem dX0_countWays_134 : decode cX0_countWays 134 = .ok (.imul, 1) := by decide +kernel
theorem dX0_countWays_135 : decode cX0_countWays 135 = .ok (.iastore, 1) := by decide +kernel
theorem dX0_countWays_136 : decode cX0_countWays 136 = .ok (.iinc 3 1, 3) := by decide +kernel
theorem dX0_countWays_139 : decode cX0_countWays 139 = .ok (.goto (-122), 3) := by decide +kernel
theorem dX0_countWays_142 : decode cX0_countWays 142 = .ok (.return_, 1) := by decide +kernel
theorem dX0_waysFrom_0 : decode cX0_waysFrom 0 = .ok (.iconst 0, 1) := by decide +kernel
theorem dX0_waysFrom_1 : decode cX0_waysFrom 1 = .ok (.istore_n 2, 1) := by decide +kernel
theorem dX0_waysFrom_2 : decode cX0_waysFrom 2 = .ok (.iload_n 1, 1) := by decide +kernel
theorem dX0_waysFrom_3 : decode cX0_waysFrom 3 = .ok (.istore_n 3, 1) := by decide +kernel
theorem dX0_waysFrom_4 : decode cX0_waysFrom 4 = .ok (.iload_n 3, 1) := by decide +kernel
theorem dX0_waysFrom_5 : decode cX0_waysFrom 5 = .ok (.bipush 6, 2) := by decide +kernel
theorem dX0_waysFrom_7 : decode cX0_waysFrom 7 = .ok (.if_icmp .gt 18, 3) := by decide +kernel
theorem dX0_waysFrom_10 : decode cX0_waysFrom 10 = .ok (.iload_n 2, 1) := by decide +kernel
theorem dX0_waysFrom_11 : decode cX0_waysFrom 11 = .ok (.aload_n 0, 1) := by decide +kernel
theorem dX0_waysFrom_12 : decode cX0_waysFrom 12 = .ok (.getfield 21, 3) := by decide +kernel
theorem dX0_waysFrom_15 : decode cX0_waysFrom 15 = .ok (.iload_n 3, 1) := by decide +kernel
theorem dX0_waysFrom_16 : decode cX0_waysFrom 16 = .ok (.iaload, 1) := by decide +kernel
theorem dX0_waysFrom_17 : decode cX0_waysFrom 17 = .ok (.iadd, 1) := by decide +kernel
theorem dX0_waysFrom_18 : decode cX0_waysFrom 18 = .ok (.istore_n 2, 1) := by decide +kernel
theorem dX0_waysFrom_19 : decode cX0_waysFrom 19 = .ok (.iinc 3 1, 3) := by decide +kernel
theorem dX0_waysFrom_22 : decode cX0_waysFrom 22 = .ok (.goto (-18), 3) := by decide +kernel
theorem dX0_waysFrom_25 : decode cX0_waysFrom 25 = .ok (.iload_n 2, 1) := by decide +kernel
theorem dX0_waysFrom_26 : decode cX0_waysFrom 26 = .ok (.ireturn, 1) := by decide +kernel
theorem dX1_init_0 : decode cX1_init 0 = .ok (.aload_n 0, 1) := by decide +kernel
theorem dX1_init_1 : decode cX1_init 1 = .ok (.invokespecial 3, 3) := by decide +kernel
theorem dX1_init_4 : decode cX1_init 4 = .ok (.aload_n 0, 1) := by decide +kernel
theorem dX1_init_5 : decode cX1_init 5 = .ok (.bipush 10, 2) := by decide +kernel
theorem dX1_init_7 : decode cX1_init 7 = .ok (.anewarray 9, 3) := by decide +kernel
theorem dX1_init_10 : decode cX1_init 10 = .ok (.putfield 11, 3) := by decide +kernel
theorem dX1_init_13 : decode cX1_init 13 = .ok (.iconst 0, 1) := by decide +kernel
theorem dX1_init_14 : decode cX1_init 14 = .ok (.istore_n 1, 1) := by decide +kernel
theorem dX1_init_15 : decode cX1_init 15 = .ok (.iload_n 1, 1) := by decide +kernel
theorem dX1_init_16 : decode cX1_init 16 = .ok (.bipush 10, 2) := by decide +kernel
theorem dX1_init_18 : decode cX1_init 18 = .ok (.if_icmp .ge 22, 3) := by decide +kernel
theorem dX1_init_21 : decode cX1_init 21 = .ok (.aload_n 0, 1) := by decide +kernel
theorem dX1_init_22 : decode cX1_init 22 = .ok (.getfield 11, 3) := by decide +kernel
theorem dX1_init_25 : decode cX1_init 25 = .ok (.iload_n 1, 1) := by decide +kernel
theorem dX1_init_26 : decode cX1_init 26 = .ok (.new 9, 3) := by decide +kernel
theorem dX1_init_29 : decode cX1_init 29 = .ok (.dup, 1) := by decide +kernel
theorem dX1_init_30 : decode cX1_init 30 = .ok (.invokespecial 17, 3) := by decide +kernel
theorem dX1_init_33 : decode cX1_init 33 = .ok (.aastore, 1) := by decide +kernel
theorem dX1_init_34 : decode cX1_init 34 = .ok (.iinc 1 1, 3) := by decide +kernel
theorem dX1_init_37 : decode cX1_init 37 = .ok (.goto (-22), 3) := by decide +kernel
theorem dX1_init_40 : decode cX1_init 40 = .ok (.return_, 1) := by decide +kernel
theorem dX1_remember_0 : decode cX1_remember 0 = .ok (.aload_n 0, 1) := by decide +kernel
theorem dX1_remember_1 : decode cX1_remember 1 = .ok (.getfield 11, 3) := by decide +kernel
theorem dX1_remember_4 : decode cX1_remember 4 = .ok (.aload_n 0, 1) := by decide +kernel
theorem dX1_remember_5 : decode cX1_remember 5 = .ok (.getfield 18, 3) := by decide +kernel
theorem dX1_remember_8 : decode cX1_remember 8 = .ok (.aaload, 1) := by decide +kernel
theorem dX1_remember_9 : decode cX1_remember 9 = .ok (.aload_n 1, 1) := by decide +kernel
theorem dX1_remember_10 : decode cX1_remember 10 = .ok (.invokevirtual 22, 3) := by decide +kernel
theorem dX1_remember_13 : decode cX1_remember 13 = .ok (.aload_n 0, 1) := by decide +kernel
theorem dX1_remember_14 : decode cX1_remember 14 = .ok (.aload_n 0, 1) := by decide +kernel
theorem dX1_remember_15 : decode cX1_remember 15 = .ok (.getfield 18, 3) := by decide +kernel
theorem dX1_remember_18 : decode cX1_remember 18 = .ok (.iconst 1, 1) := by decide +kernel
theorem dX1_remember_19 : decode cX1_remember 19 = .ok (.iadd, 1) := by decide +kernel
theorem dX1_remember_20 : decode cX1_remember 20 = .ok (.bipush 10, 2) := by decide +kernel
theorem dX1_remember_22 : decode cX1_remember 22 = .ok (.if_icmp .ge 12, 3) := by decide +kernel
theorem dX1_remember_25 : decode cX1_remember 25 = .ok (.aload_n 0, 1) := by decide +kernel
theorem dX1_remember_26 : decode cX1_remember 26 = .ok (.getfield 18, 3) := by decide +kernel
theorem dX1_remember_29 : decode cX1_remember 29 = .ok (.iconst 1, 1) := by decide +kernel
theorem dX1_remember_30 : decode cX1_remember 30 = .ok (.iadd, 1) := by decide +kernel
theorem dX1_remember_31 : decode cX1_remember 31 = .ok (.goto 4, 3) := by decide +kernel
theorem dX1_remember_34 : decode cX1_remember 34 = .ok (.iconst 0, 1) := by decide +kernel
theorem dX1_remember_35 : decode cX1_remember 35 = .ok (.putfield 18, 3) := by decide +kernel
theorem dX1_remember_38 : decode cX1_remember 38 = .ok (.aload_n 0, 1) := by decide +kernel
theorem dX1_remember_39 : decode cX1_remember 39 = .ok (.bipush 10, 2) := by decide +kernel
theorem dX1_remember_41 : decode cX1_remember 41 = .ok (.aload_n 0, 1) := by decide +kernel
theorem dX1_remember_42 : decode cX1_remember 42 = .ok (.getfield 26, 3) := by decide +kernel
theorem dX1_remember_45 : decode cX1_remember 45 = .ok (.iconst 1, 1) := by decide +kernel
theorem dX1_remember_46 : decode cX1_remember 46 = .ok (.iadd, 1) := by decide +kernel
theorem dX1_remember_47 : decode cX1_remember 47 = .ok (.invokestatic 29, 3) := by decide +kernel
theorem dX1_remember_50 : decode cX1_remember 50 = .ok (.putfield 26, 3) := by decide +kernel
theorem dX1_remember_53 : decode cX1_remember 53 = .ok (.return_, 1) := by decide +kernel
theorem dX1_bringBack_0 : decode cX1_bringBack 0 = .ok (.aload_n 0, 1) := by decide +kernel
theorem dX1_bringBack_1 : decode cX1_bringBack 1 = .ok (.aload_n 0, 1) := by decide +kernel
theorem dX1_bringBack_2 : decode cX1_bringBack 2 = .ok (.getfield 18, 3) := by decide +kernel
theorem dX1_bringBack_5 : decode cX1_bringBack 5 = .ok (.ifCond .le 12, 3) := by decide +kernel
theorem dX1_bringBack_8 : decode cX1_bringBack 8 = .ok (.aload_n 0, 1) := by decide +kernel
theorem dX1_bringBack_9 : decode cX1_bringBack 9 = .ok (.getfield 18, 3) := by decide +kernel
theorem dX1_bringBack_12 : decode cX1_bringBack 12 = .ok (.iconst 1, 1) := by decide +kernel
theorem dX1_bringBack_13 : decode cX1_bringBack 13 = .ok (.isub, 1) := by decide +kernel
theorem dX1_bringBack_14 : decode cX1_bringBack 14 = .ok (.goto 5, 3) := by decide +kernel
theorem dX1_bringBack_17 : decode cX1_bringBack 17 = .ok (.bipush 9, 2) := by decide +kernel
theorem dX1_bringBack_19 : decode cX1_bringBack 19 = .ok (.putfield 18, 3) := by decide +kernel
theorem dX1_bringBack_22 : decode cX1_bringBack 22 = .ok (.aload_n 0, 1) := by decide +kernel
theorem dX1_bringBack_23 : decode cX1_bringBack 23 = .ok (.dup, 1) := by decide +kernel
theorem dX1_bringBack_24 : decode cX1_bringBack 24 = .ok (.getfield 26, 3) := by decide +kernel
theorem dX1_bringBack_27 : decode cX1_bringBack 27 = .ok (.iconst 1, 1) := by decide +kernel
theorem dX1_bringBack_28 : decode cX1_bringBack 28 = .ok (.isub, 1) := by decide +kernel
theorem dX1_bringBack_29 : decode cX1_bringBack 29 = .ok (.putfield 26, 3) := by decide +kernel
theorem dX1_bringBack_32 : decode cX1_bringBack 32 = .ok (.aload_n 1, 1) := by decide +kernel
theorem dX1_bringBack_33 : decode cX1_bringBack 33 = .ok (.aload_n 0, 1) := by decide +kernel
theorem dX1_bringBack_34 : decode cX1_bringBack 34 = .ok (.getfield 11, 3) := by decide +kernel
theorem dX1_bringBack_37 : decode cX1_bringBack 37 = .ok (.aload_n 0, 1) := by decide +kernel
theorem dX1_bringBack_38 : decode cX1_bringBack 38 = .ok (.getfield 18, 3) := by decide +kernel
theorem dX1_bringBack_41 : decode cX1_bringBack 41 = .ok (.aaload, 1) := by decide +kernel
theorem dX1_bringBack_42 : decode cX1_bringBack 42 = .ok (.invokevirtual 22, 3) := by decide +kernel
theorem dX1_bringBack_45 : decode cX1_bringBack 45 = .ok (.aload_n 0, 1) := by decide +kernel
theorem dX1_bringBack_46 : decode cX1_bringBack 46 = .ok (.getfield 26, 3) := by decide +kernel
theorem dX1_bringBack_49 : decode cX1_bringBack 49 = .ok (.ireturn, 1) := by decide +kernel
theorem dX2_init_0 : decode cX2_init 0 = .ok (.aload_n 0, 1) := by decide +kernel
theorem dX2_init_1 : decode cX2_init 1 = .ok (.invokespecial 3, 3) := by decide +kernel
theorem dX2_init_4 : decode cX2_init 4 = .ok (.aload_n 0, 1) := by decide +kernel
theorem dX2_init_5 : decode cX2_init 5 = .ok (.iconst 5, 1) := by decide +kernel
theorem dX2_init_6 : decode cX2_init 6 = .ok (.newarray .int, 2) := by decide +kernel
theorem dX2_init_8 : decode cX2_init 8 = .ok (.putfield 9, 3) := by decide +kernel
theorem dX2_init_11 : decode cX2_init 11 = .ok (.aload_n 0, 1) := by decide +kernel
theorem dX2_init_12 : decode cX2_init 12 = .ok (.sipush 1296, 3) := by decide +kernel
theorem dX2_init_15 : decode cX2_init 15 = .ok (.newarray .int, 2) := by decide +kernel
theorem dX2_init_17 : decode cX2_init 17 = .ok (.putfield 15, 3) := by decide +kernel
theorem dX2_init_20 : decode cX2_init 20 = .ok (.aload_n 0, 1) := by decide +kernel
theorem dX2_init_21 : decode cX2_init 21 = .ok (.sipush 1296, 3) := by decide +kernel
theorem dX2_init_24 : decode cX2_init 24 = .ok (.newarray .int, 2) := by decide +kernel
theorem dX2_init_26 : decode cX2_init 26 = .ok (.putfield 18, 3) := by decide +kernel
theorem dX2_init_29 : decode cX2_init 29 = .ok (.aload_n 0, 1) := by decide +kernel
theorem dX2_init_30 : decode cX2_init 30 = .ok (.sipush 1296, 3) := by decide +kernel
theorem dX2_init_33 : decode cX2_init 33 = .ok (.newarray .int, 2) := by decide +kernel
theorem dX2_init_35 : decode cX2_init 35 = .ok (.putfield 21, 3) := by decide +kernel
theorem dX2_init_38 : decode cX2_init 38 = .ok (.aload_n 0, 1) := by decide +kernel
theorem dX2_init_39 : decode cX2_init 39 = .ok (.sipush 1296, 3) := by decide +kernel
theorem dX2_init_42 : decode cX2_init 42 = .ok (.newarray .int, 2) := by decide +kernel
theorem dX2_init_44 : decode cX2_init 44 = .ok (.putfield 24, 3) := by decide +kernel
theorem dX2_init_47 : decode cX2_init 47 = .ok (.aload_n 0, 1) := by decide +kernel
theorem dX2_init_48 : decode cX2_init 48 = .ok (.sipush 1296, 3) := by decide +kernel
theorem dX2_init_51 : decode cX2_init 51 = .ok (.newarray .boolean, 2) := by decide +kernel
theorem dX2_init_53 : decode cX2_init 53 = .ok (.putfield 27, 3) := by decide +kernel
theorem dX2_init_56 : decode cX2_init 56 = .ok (.aload_n 0, 1) := by decide +kernel
theorem dX2_init_57 : decode cX2_init 57 = .ok (.new 31, 3) := by decide +kernel
theorem dX2_init_60 : decode cX2_init 60 = .ok (.dup, 1) := by decide +kernel
theorem dX2_init_61 : decode cX2_init 61 = .ok (.invokespecial 33, 3) := by decide +kernel
theorem dX2_init_64 : decode cX2_init 64 = .ok (.putfield 34, 3) := by decide +kernel
theorem dX2_init_67 : decode cX2_init 67 = .ok (.return_, 1) := by decide +kernel
theorem dX2_search_0 : decode cX2_search 0 = .ok (.aload_n 0, 1) := by decide +kernel
theorem dX2_search_1 : decode cX2_search 1 = .ok (.invokevirtual 38, 3) := by decide +kernel
theorem dX2_search_4 : decode cX2_search 4 = .ok (.aload_n 0, 1) := by decide +kernel
theorem dX2_search_5 : decode cX2_search 5 = .ok (.getfield 34, 3) := by decide +kernel
theorem dX2_search_8 : decode cX2_search 8 = .ok (.aload_n 2, 1) := by decide +kernel
theorem dX2_search_9 : decode cX2_search 9 = .ok (.invokevirtual 41, 3) := by decide +kernel
theorem dX2_search_12 : decode cX2_search 12 = .ok (.aload_n 0, 1) := by decide +kernel
theorem dX2_search_13 : decode cX2_search 13 = .ok (.iconst 0, 1) := by decide +kernel
theorem dX2_search_14 : decode cX2_search 14 = .ok (.iconst 0, 1) := by decide +kernel
theorem dX2_search_15 : decode cX2_search 15 = .ok (.bipush (-9), 2) := by decide +kernel
theorem dX2_search_17 : decode cX2_search 17 = .ok (.invokevirtual 45, 3) := by decide +kernel
theorem dX2_search_20 : decode cX2_search 20 = .ok (.iconst 0, 1) := by decide +kernel
theorem dX2_search_21 : decode cX2_search 21 = .ok (.istore 4, 2) := by decide +kernel
theorem dX2_search_23 : decode cX2_search 23 = .ok (.iload 4, 2) := by decide +kernel
theorem dX2_search_25 : decode cX2_search 25 = .ok (.aload_n 0, 1) := by decide +kernel
theorem dX2_search_26 : decode cX2_search 26 = .ok (.getfield 49, 3) := by decide +kernel
theorem dX2_search_29 : decode cX2_search 29 = .ok (.if_icmp .ge 77, 3) := by decide +kernel
theorem dX2_search_32 : decode cX2_search 32 = .ok (.iload 4, 2) := by decide +kernel
theorem dX2_search_34 : decode cX2_search 34 = .ok (.sipush 1296, 3) := by decide +kernel
theorem dX2_search_37 : decode cX2_search 37 = .ok (.if_icmp .ge 69, 3) := by decide +kernel
theorem dX2_search_40 : decode cX2_search 40 = .ok (.aload_n 0, 1) := by decide +kernel
theorem dX2_search_41 : decode cX2_search 41 = .ok (.getfield 15, 3) := by decide +kernel
theorem dX2_search_44 : decode cX2_search 44 = .ok (.iload 4, 2) := by decide +kernel
theorem dX2_search_46 : decode cX2_search 46 = .ok (.iaload, 1) := by decide +kernel
theorem dX2_search_47 : decode cX2_search 47 = .ok (.aload_n 0, 1) := by decide +kernel
theorem dX2_search_48 : decode cX2_search 48 = .ok (.getfield 34, 3) := by decide +kernel
theorem dX2_search_51 : decode cX2_search 51 = .ok (.getfield 53, 3) := by decide +kernel
theorem dX2_search_54 : decode cX2_search 54 = .ok (.invokestatic 56, 3) := by decide +kernel
theorem dX2_search_57 : decode cX2_search 57 = .ok (.aload_n 1, 1) := by decide +kernel
theorem dX2_search_58 : decode cX2_search 58 = .ok (.iload_n 3, 1) := by decide +kernel
theorem dX2_search_59 : decode cX2_search 59 = .ok (.aload_n 0, 1) := by decide +kernel
theorem dX2_search_60 : decode cX2_search 60 = .ok (.getfield 34, 3) := by decide +kernel
theorem dX2_search_63 : decode cX2_search 63 = .ok (.invokevirtual 60, 3) := by decide +kernel
theorem dX2_search_66 : decode cX2_search 66 = .ok (.ifCond .eq 17, 3) := by decide +kernel
theorem dX2_search_69 : decode cX2_search 69 = .ok (.aload_n 0, 1) := by decide +kernel
theorem dX2_search_70 : decode cX2_search 70 = .ok (.iload 4, 2) := by decide +kernel
theorem dX2_search_72 : decode cX2_search 72 = .ok (.invokevirtual 66, 3) := by decide +kernel
theorem dX2_search_75 : decode cX2_search 75 = .ok (.aload_n 0, 1) := by decide +kernel
theorem dX2_search_76 : decode cX2_search 76 = .ok (.getfield 18, 3) := by decide +kernel
theorem dX2_search_79 : decode cX2_search 79 = .ok (.iload 4, 2) := by decide +kernel
theorem dX2_search_81 : decode cX2_search 81 = .ok (.iaload, 1) := by decide +kernel
theorem dX2_search_82 : decode cX2_search 82 = .ok (.ireturn, 1) := by decide +kernel
theorem dX2_search_83 : decode cX2_search 83 = .ok (.aload_n 0, 1) := by decide +kernel
theorem dX2_search_84 : decode cX2_search 84 = .ok (.getfield 18, 3) := by decide +kernel
theorem dX2_search_87 : decode cX2_search 87 = .ok (.iload 4, 2) := by decide +kernel
theorem dX2_search_89 : decode cX2_search 89 = .ok (.iaload, 1) := by decide +kernel
theorem dX2_search_90 : decode cX2_search 90 = .ok (.iconst 5, 1) := by decide +kernel
theorem dX2_search_91 : decode cX2_search 91 = .ok (.if_icmp .ge 9, 3) := by decide +kernel
theorem dX2_search_94 : decode cX2_search 94 = .ok (.aload_n 0, 1) := by decide +kernel
theorem dX2_search_95 : decode cX2_search 95 = .ok (.iload 4, 2) := by decide +kernel
theorem dX2_search_97 : decode cX2_search 97 = .ok (.invokevirtual 70, 3) := by decide +kernel
theorem dX2_search_100 : decode cX2_search 100 = .ok (.iinc 4 1, 3) := by decide +kernel
theorem dX2_search_103 : decode cX2_search 103 = .ok (.goto (-80), 3) := by decide +kernel
theorem dX2_search_106 : decode cX2_search 106 = .ok (.bipush (-9), 2) := by decide +kernel
theorem dX2_search_108 : decode cX2_search 108 = .ok (.ireturn, 1) := by decide +kernel
theorem dX2_forgetReached_0 : decode cX2_forgetReached 0 = .ok (.iconst 0, 1) := by decide +kernel
theorem dX2_forgetReached_1 : decode cX2_forgetReached 1 = .ok (.istore_n 1, 1) := by decide +kernel
theorem dX2_forgetReached_2 : decode cX2_forgetReached 2 = .ok (.iload_n 1, 1) := by decide +kernel
theorem dX2_forgetReached_3 : decode cX2_forgetReached 3 = .ok (.aload_n 0, 1) := by decide +kernel
theorem dX2_forgetReached_4 : decode cX2_forgetReached 4 = .ok (.getfield 49, 3) := by decide +kernel
theorem dX2_forgetReached_7 : decode cX2_forgetReached 7 = .ok (.if_icmp .ge 28, 3) := by decide +kernel
theorem dX2_forgetReached_10 : decode cX2_forgetReached 10 = .ok (.iload_n 1, 1) := by decide +kernel
theorem dX2_forgetReached_11 : decode cX2_forgetReached 11 = .ok (.sipush 1296, 3) := by decide +kernel
theorem dX2_forgetReached_14 : decode cX2_forgetReached 14 = .ok (.if_icmp .ge 21, 3) := by decide +kernel
theorem dX2_forgetReached_17 : decode cX2_forgetReached 17 = .ok (.aload_n 0, 1) := by decide +kernel
theorem dX2_forgetReached_18 : decode cX2_forgetReached 18 = .ok (.getfield 27, 3) := by decide +kernel
theorem dX2_forgetReached_21 : decode cX2_forgetReached 21 = .ok (.aload_n 0, 1) := by decide +kernel
theorem dX2_forgetReached_22 : decode cX2_forgetReached 22 = .ok (.getfield 15, 3) := by decide +kernel
theorem dX2_forgetReached_25 : decode cX2_forgetReached 25 = .ok (.iload_n 1, 1) := by decide +kernel
theorem dX2_forgetReached_26 : decode cX2_forgetReached 26 = .ok (.iaload, 1) := by decide +kernel
theorem dX2_forgetReached_27 : decode cX2_forgetReached 27 = .ok (.iconst 0, 1) := by decide +kernel
theorem dX2_forgetReached_28 : decode cX2_forgetReached 28 = .ok (.bastore, 1) := by decide +kernel
theorem dX2_forgetReached_29 : decode cX2_forgetReached 29 = .ok (.iinc 1 1, 3) := by decide +kernel
theorem dX2_forgetReached_32 : decode cX2_forgetReached 32 = .ok (.goto (-30), 3) := by decide +kernel
theorem dX2_forgetReached_35 : decode cX2_forgetReached 35 = .ok (.aload_n 0, 1) := by decide +kernel
theorem dX2_forgetReached_36 : decode cX2_forgetReached 36 = .ok (.iconst 0, 1) := by decide +kernel
theorem dX2_forgetReached_37 : decode cX2_forgetReached 37 = .ok (.putfield 49, 3) := by decide +kernel
theorem dX2_forgetReached_40 : decode cX2_forgetReached 40 = .ok (.return_, 1) := by decide +kernel
theorem dX2_goOnFrom_0 : decode cX2_goOnFrom 0 = .ok (.iconst 0, 1) := by decide +kernel
theorem dX2_goOnFrom_1 : decode cX2_goOnFrom 1 = .ok (.istore_n 2, 1) := by decide +kernel
theorem dX2_goOnFrom_2 : decode cX2_goOnFrom 2 = .ok (.iload_n 2, 1) := by decide +kernel
theorem dX2_goOnFrom_3 : decode cX2_goOnFrom 3 = .ok (.iconst 5, 1) := by decide +kernel
theorem dX2_goOnFrom_4 : decode cX2_goOnFrom 4 = .ok (.if_icmp .ge 50, 3) := by decide +kernel
theorem dX2_goOnFrom_7 : decode cX2_goOnFrom 7 = .ok (.aload_n 0, 1) := by decide +kernel
theorem dX2_goOnFrom_8 : decode cX2_goOnFrom 8 = .ok (.getfield 15, 3) := by decide +kernel
theorem dX2_goOnFrom_11 : decode cX2_goOnFrom 11 = .ok (.iload_n 1, 1) := by decide +kernel
theorem dX2_goOnFrom_12 : decode cX2_goOnFrom 12 = .ok (.iaload, 1) := by decide +kernel
theorem dX2_goOnFrom_13 : decode cX2_goOnFrom 13 = .ok (.aload_n 0, 1) := by decide +kernel
theorem dX2_goOnFrom_14 : decode cX2_goOnFrom 14 = .ok (.getfield 34, 3) := by decide +kernel
theorem dX2_goOnFrom_17 : decode cX2_goOnFrom 17 = .ok (.getfield 53, 3) := by decide +kernel
theorem dX2_goOnFrom_20 : decode cX2_goOnFrom 20 = .ok (.invokestatic 56, 3) := by decide +kernel
theorem dX2_goOnFrom_23 : decode cX2_goOnFrom 23 = .ok (.aload_n 0, 1) := by decide +kernel
theorem dX2_goOnFrom_24 : decode cX2_goOnFrom 24 = .ok (.getfield 34, 3) := by decide +kernel
theorem dX2_goOnFrom_27 : decode cX2_goOnFrom 27 = .ok (.getfield 53, 3) := by decide +kernel
theorem dX2_goOnFrom_30 : decode cX2_goOnFrom 30 = .ok (.iload_n 2, 1) := by decide +kernel
theorem dX2_goOnFrom_31 : decode cX2_goOnFrom 31 = .ok (.invokestatic 73, 3) := by decide +kernel
theorem dX2_goOnFrom_34 : decode cX2_goOnFrom 34 = .ok (.aload_n 0, 1) := by decide +kernel
theorem dX2_goOnFrom_35 : decode cX2_goOnFrom 35 = .ok (.aload_n 0, 1) := by decide +kernel
theorem dX2_goOnFrom_36 : decode cX2_goOnFrom 36 = .ok (.getfield 18, 3) := by decide +kernel
theorem dX2_goOnFrom_39 : decode cX2_goOnFrom 39 = .ok (.iload_n 1, 1) := by decide +kernel
theorem dX2_goOnFrom_40 : decode cX2_goOnFrom 40 = .ok (.iaload, 1) := by decide +kernel
theorem dX2_goOnFrom_41 : decode cX2_goOnFrom 41 = .ok (.iconst 1, 1) := by decide +kernel
theorem dX2_goOnFrom_42 : decode cX2_goOnFrom 42 = .ok (.iadd, 1) := by decide +kernel
theorem dX2_goOnFrom_43 : decode cX2_goOnFrom 43 = .ok (.iload_n 1, 1) := by decide +kernel
theorem dX2_goOnFrom_44 : decode cX2_goOnFrom 44 = .ok (.iload_n 2, 1) := by decide +kernel
theorem dX2_goOnFrom_45 : decode cX2_goOnFrom 45 = .ok (.invokevirtual 45, 3) := by decide +kernel
theorem dX2_goOnFrom_48 : decode cX2_goOnFrom 48 = .ok (.iinc 2 1, 3) := by decide +kernel
theorem dX2_goOnFrom_51 : decode cX2_goOnFrom 51 = .ok (.goto (-49), 3) := by decide +kernel
theorem dX2_goOnFrom_54 : decode cX2_goOnFrom 54 = .ok (.return_, 1) := by decide +kernel
theorem dX2_reach_0 : decode cX2_reach 0 = .ok (.aload_n 0, 1) := by decide +kernel
theorem dX2_reach_1 : decode cX2_reach 1 = .ok (.getfield 34, 3) := by decide +kernel
theorem dX2_reach_4 : decode cX2_reach 4 = .ok (.getfield 53, 3) := by decide +kernel
theorem dX2_reach_7 : decode cX2_reach 7 = .ok (.invokestatic 77, 3) := by decide +kernel
theorem dX2_reach_10 : decode cX2_reach 10 = .ok (.istore 4, 2) := by decide +kernel
theorem dX2_reach_12 : decode cX2_reach 12 = .ok (.iload 4, 2) := by decide +kernel
theorem dX2_reach_14 : decode cX2_reach 14 = .ok (.ifCond .lt 31, 3) := by decide +kernel
theorem dX2_reach_17 : decode cX2_reach 17 = .ok (.iload 4, 2) := by decide +kernel
theorem dX2_reach_19 : decode cX2_reach 19 = .ok (.sipush 1296, 3) := by decide +kernel
theorem dX2_reach_22 : decode cX2_reach 22 = .ok (.if_icmp .ge 23, 3) := by decide +kernel
theorem dX2_reach_25 : decode cX2_reach 25 = .ok (.aload_n 0, 1) := by decide +kernel
theorem dX2_reach_26 : decode cX2_reach 26 = .ok (.getfield 49, 3) := by decide +kernel
theorem dX2_reach_29 : decode cX2_reach 29 = .ok (.sipush 1296, 3) := by decide +kernel
theorem dX2_reach_32 : decode cX2_reach 32 = .ok (.if_icmp .ge 13, 3) := by decide +kernel
theorem dX2_reach_35 : decode cX2_reach 35 = .ok (.aload_n 0, 1) := by decide +kernel
theorem dX2_reach_36 : decode cX2_reach 36 = .ok (.getfield 27, 3) := by decide +kernel
theorem dX2_reach_39 : decode cX2_reach 39 = .ok (.iload 4, 2) := by decide +kernel
theorem dX2_reach_41 : decode cX2_reach 41 = .ok (.baload, 1) := by decide +kernel
theorem dX2_reach_42 : decode cX2_reach 42 = .ok (.ifCond .eq 4, 3) := by decide +kernel
theorem dX2_reach_45 : decode cX2_reach 45 = .ok (.return_, 1) := by decide +kernel
theorem dX2_reach_46 : decode cX2_reach 46 = .ok (.aload_n 0, 1) := by decide +kernel
theorem dX2_reach_47 : decode cX2_reach 47 = .ok (.getfield 27, 3) := by decide +kernel
theorem dX2_reach_50 : decode cX2_reach 50 = .ok (.iload 4, 2) := by decide +kernel
theorem dX2_reach_52 : decode cX2_reach 52 = .ok (.iconst 1, 1) := by decide +kernel
theorem dX2_reach_53 : decode cX2_reach 53 = .ok (.bastore, 1) := by decide +kernel
theorem dX2_reach_54 : decode cX2_reach 54 = .ok (.aload_n 0, 1) := by decide +kernel
theorem dX2_reach_55 : decode cX2_reach 55 = .ok (.getfield 15, 3) := by decide +kernel
theorem dX2_reach_58 : decode cX2_reach 58 = .ok (.aload_n 0, 1) := by decide +kernel
theorem dX2_reach_59 : decode cX2_reach 59 = .ok (.getfield 49, 3) := by decide +kernel
theorem dX2_reach_62 : decode cX2_reach 62 = .ok (.iload 4, 2) := by decide +kernel
theorem dX2_reach_64 : decode cX2_reach 64 = .ok (.iastore, 1) := by decide +kernel
theorem dX2_reach_65 : decode cX2_reach 65 = .ok (.aload_n 0, 1) := by decide +kernel
theorem dX2_reach_66 : decode cX2_reach 66 = .ok (.getfield 18, 3) := by decide +kernel
theorem dX2_reach_69 : decode cX2_reach 69 = .ok (.aload_n 0, 1) := by decide +kernel
theorem dX2_reach_70 : decode cX2_reach 70 = .ok (.getfield 49, 3) := by decide +kernel
theorem dX2_reach_73 : decode cX2_reach 73 = .ok (.iload_n 1, 1) := by decide +kernel
theorem dX2_reach_74 : decode cX2_reach 74 = .ok (.iastore, 1) := by decide +kernel
theorem dX2_reach_75 : decode cX2_reach 75 = .ok (.aload_n 0, 1) := by decide +kernel
theorem dX2_reach_76 : decode cX2_reach 76 = .ok (.getfield 21, 3) := by decide +kernel
theorem dX2_reach_79 : decode cX2_reach 79 = .ok (.aload_n 0, 1) := by decide +kernel
theorem dX2_reach_80 : decode cX2_reach 80 = .ok (.getfield 49, 3) := by decide +kernel
theorem dX2_reach_83 : decode cX2_reach 83 = .ok (.iload_n 2, 1) := by decide +kernel
theorem dX2_reach_84 : decode cX2_reach 84 = .ok (.iastore, 1) := by decide +kernel
theorem dX2_reach_85 : decode cX2_reach 85 = .ok (.aload_n 0, 1) := by decide +kernel
theorem dX2_reach_86 : decode cX2_reach 86 = .ok (.getfield 24, 3) := by decide +kernel
theorem dX2_reach_89 : decode cX2_reach 89 = .ok (.aload_n 0, 1) := by decide +kernel
theorem dX2_reach_90 : decode cX2_reach 90 = .ok (.getfield 49, 3) := by decide +kernel
theorem dX2_reach_93 : decode cX2_reach 93 = .ok (.iload_n 3, 1) := by decide +kernel
theorem dX2_reach_94 : decode cX2_reach 94 = .ok (.iastore, 1) := by decide +kernel
theorem dX2_reach_95 : decode cX2_reach 95 = .ok (.aload_n 0, 1) := by decide +kernel
theorem dX2_reach_96 : decode cX2_reach 96 = .ok (.dup, 1) := by decide +kernel
theorem dX2_reach_97 : decode cX2_reach 97 = .ok (.getfield 49, 3) := by decide +kernel
theorem dX2_reach_100 : decode cX2_reach 100 = .ok (.iconst 1, 1) := by decide +kernel
theorem dX2_reach_101 : decode cX2_reach 101 = .ok (.iadd, 1) := by decide +kernel
theorem dX2_reach_102 : decode cX2_reach 102 = .ok (.putfield 49, 3) := by decide +kernel
theorem dX2_reach_105 : decode cX2_reach 105 = .ok (.return_, 1) := by decide +kernel
theorem dX2_tellRow_0 : decode cX2_tellRow 0 = .ok (.iload_n 1, 1) := by decide +kernel
theorem dX2_tellRow_1 : decode cX2_tellRow 1 = .ok (.istore_n 2, 1) := by decide +kernel
theorem dX2_tellRow_2 : decode cX2_tellRow 2 = .ok (.aload_n 0, 1) := by decide +kernel
theorem dX2_tellRow_3 : decode cX2_tellRow 3 = .ok (.getfield 18, 3) := by decide +kernel
theorem dX2_tellRow_6 : decode cX2_tellRow 6 = .ok (.iload_n 1, 1) := by decide +kernel
theorem dX2_tellRow_7 : decode cX2_tellRow 7 = .ok (.iaload, 1) := by decide +kernel
theorem dX2_tellRow_8 : decode cX2_tellRow 8 = .ok (.iconst 5, 1) := by decide +kernel
theorem dX2_tellRow_9 : decode cX2_tellRow 9 = .ok (.invokestatic 81, 3) := by decide +kernel
theorem dX2_tellRow_12 : decode cX2_tellRow 12 = .ok (.iconst 1, 1) := by decide +kernel
theorem dX2_tellRow_13 : decode cX2_tellRow 13 = .ok (.isub, 1) := by decide +kernel
theorem dX2_tellRow_14 : decode cX2_tellRow 14 = .ok (.istore_n 3, 1) := by decide +kernel
theorem dX2_tellRow_15 : decode cX2_tellRow 15 = .ok (.iload_n 3, 1) := by decide +kernel
theorem dX2_tellRow_16 : decode cX2_tellRow 16 = .ok (.ifCond .lt 28, 3) := by decide +kernel
theorem dX2_tellRow_19 : decode cX2_tellRow 19 = .ok (.aload_n 0, 1) := by decide +kernel
theorem dX2_tellRow_20 : decode cX2_tellRow 20 = .ok (.getfield 9, 3) := by decide +kernel
theorem dX2_tellRow_23 : decode cX2_tellRow 23 = .ok (.iload_n 3, 1) := by decide +kernel
theorem dX2_tellRow_24 : decode cX2_tellRow 24 = .ok (.aload_n 0, 1) := by decide +kernel
theorem dX2_tellRow_25 : decode cX2_tellRow 25 = .ok (.getfield 24, 3) := by decide +kernel
theorem dX2_tellRow_28 : decode cX2_tellRow 28 = .ok (.iload_n 2, 1) := by decide +kernel
theorem dX2_tellRow_29 : decode cX2_tellRow 29 = .ok (.iaload, 1) := by decide +kernel
theorem dX2_tellRow_30 : decode cX2_tellRow 30 = .ok (.iastore, 1) := by decide +kernel
theorem dX2_tellRow_31 : decode cX2_tellRow 31 = .ok (.aload_n 0, 1) := by decide +kernel
theorem dX2_tellRow_32 : decode cX2_tellRow 32 = .ok (.getfield 21, 3) := by decide +kernel
theorem dX2_tellRow_35 : decode cX2_tellRow 35 = .ok (.iload_n 2, 1) := by decide +kernel
theorem dX2_tellRow_36 : decode cX2_tellRow 36 = .ok (.iaload, 1) := by decide +kernel
theorem dX2_tellRow_37 : decode cX2_tellRow 37 = .ok (.istore_n 2, 1) := by decide +kernel
theorem dX2_tellRow_38 : decode cX2_tellRow 38 = .ok (.iinc 3 (-1), 3) := by decide +kernel
theorem dX2_tellRow_41 : decode cX2_tellRow 41 = .ok (.goto (-26), 3) := by decide +kernel
theorem dX2_tellRow_44 : decode cX2_tellRow 44 = .ok (.return_, 1) := by decide +kernel
theorem dX3_init_0 : decode cX3_init 0 = .ok (.aload_n 0, 1) := by decide +kernel
theorem dX3_init_1 : decode cX3_init 1 = .ok (.invokespecial 3, 3) := by decide +kernel
theorem dX3_init_4 : decode cX3_init 4 = .ok (.aload_n 0, 1) := by decide +kernel
theorem dX3_init_5 : decode cX3_init 5 = .ok (.iconst 4, 1) := by decide +kernel
theorem dX3_init_6 : decode cX3_init 6 = .ok (.newarray .int, 2) := by decide +kernel
theorem dX3_init_8 : decode cX3_init 8 = .ok (.putfield 9, 3) := by decide +kernel
theorem dX3_init_11 : decode cX3_init 11 = .ok (.aload_n 0, 1) := by decide +kernel
theorem dX3_init_12 : decode cX3_init 12 = .ok (.bipush 6, 2) := by decide +kernel
theorem dX3_init_14 : decode cX3_init 14 = .ok (.newarray .int, 2) := by decide +kernel
theorem dX3_init_16 : decode cX3_init 16 = .ok (.putfield 15, 3) := by decide +kernel
theorem dX3_init_19 : decode cX3_init 19 = .ok (.aload_n 0, 1) := by decide +kernel
theorem dX3_init_20 : decode cX3_init 20 = .ok (.bipush 6, 2) := by decide +kernel
theorem dX3_init_22 : decode cX3_init 22 = .ok (.newarray .int, 2) := by decide +kernel
theorem dX3_init_24 : decode cX3_init 24 = .ok (.putfield 18, 3) := by decide +kernel
theorem dX3_init_27 : decode cX3_init 27 = .ok (.return_, 1) := by decide +kernel
theorem dX3_become_0 : decode cX3_become 0 = .ok (.aload_n 1, 1) := by decide +kernel
theorem dX3_become_1 : decode cX3_become 1 = .ok (.getfield 9, 3) := by decide +kernel
theorem dX3_become_4 : decode cX3_become 4 = .ok (.iconst 0, 1) := by decide +kernel
theorem dX3_become_5 : decode cX3_become 5 = .ok (.aload_n 0, 1) := by decide +kernel
theorem dX3_become_6 : decode cX3_become 6 = .ok (.getfield 9, 3) := by decide +kernel
theorem dX3_become_9 : decode cX3_become 9 = .ok (.iconst 0, 1) := by decide +kernel
theorem dX3_become_10 : decode cX3_become 10 = .ok (.iconst 4, 1) := by decide +kernel
theorem dX3_become_11 : decode cX3_become 11 = .ok (.invokestatic 21, 3) := by decide +kernel
theorem dX3_become_14 : decode cX3_become 14 = .ok (.aload_n 1, 1) := by decide +kernel
theorem dX3_become_15 : decode cX3_become 15 = .ok (.getfield 15, 3) := by decide +kernel
theorem dX3_become_18 : decode cX3_become 18 = .ok (.iconst 0, 1) := by decide +kernel
theorem dX3_become_19 : decode cX3_become 19 = .ok (.aload_n 0, 1) := by decide +kernel
theorem dX3_become_20 : decode cX3_become 20 = .ok (.getfield 15, 3) := by decide +kernel
theorem dX3_become_23 : decode cX3_become 23 = .ok (.iconst 0, 1) := by decide +kernel
theorem dX3_become_24 : decode cX3_become 24 = .ok (.bipush 6, 2) := by decide +kernel
theorem dX3_become_26 : decode cX3_become 26 = .ok (.invokestatic 21, 3) := by decide +kernel
theorem dX3_become_29 : decode cX3_become 29 = .ok (.aload_n 1, 1) := by decide +kernel
theorem dX3_become_30 : decode cX3_become 30 = .ok (.getfield 18, 3) := by decide +kernel
theorem dX3_become_33 : decode cX3_become 33 = .ok (.iconst 0, 1) := by decide +kernel
theorem dX3_become_34 : decode cX3_become 34 = .ok (.aload_n 0, 1) := by decide +kernel
theorem dX3_become_35 : decode cX3_become 35 = .ok (.getfield 18, 3) := by decide +kernel
theorem dX3_become_38 : decode cX3_become 38 = .ok (.iconst 0, 1) := by decide +kernel
theorem dX3_become_39 : decode cX3_become 39 = .ok (.bipush 6, 2) := by decide +kernel
theorem dX3_become_41 : decode cX3_become 41 = .ok (.invokestatic 21, 3) := by decide +kernel
theorem dX3_become_44 : decode cX3_become 44 = .ok (.return_, 1) := by decide +kernel
theorem dX3_begin_0 : decode cX3_begin 0 = .ok (.aload_n 1, 1) := by decide +kernel
theorem dX3_begin_1 : decode cX3_begin 1 = .ok (.iconst 0, 1) := by decide +kernel
theorem dX3_begin_2 : decode cX3_begin 2 = .ok (.aload_n 0, 1) := by decide +kernel
theorem dX3_begin_3 : decode cX3_begin 3 = .ok (.getfield 9, 3) := by decide +kernel
theorem dX3_begin_6 : decode cX3_begin 6 = .ok (.iconst 0, 1) := by decide +kernel
theorem dX3_begin_7 : decode cX3_begin 7 = .ok (.iconst 4, 1) := by decide +kernel
theorem dX3_begin_8 : decode cX3_begin 8 = .ok (.invokestatic 21, 3) := by decide +kernel
theorem dX3_begin_11 : decode cX3_begin 11 = .ok (.iconst 0, 1) := by decide +kernel
theorem dX3_begin_12 : decode cX3_begin 12 = .ok (.istore 4, 2) := by decide +kernel
theorem dX3_begin_14 : decode cX3_begin 14 = .ok (.iload 4, 2) := by decide +kernel
theorem dX3_begin_16 : decode cX3_begin 16 = .ok (.bipush 6, 2) := by decide +kernel
theorem dX3_begin_18 : decode cX3_begin 18 = .ok (.if_icmp .ge 41, 3) := by decide +kernel
theorem dX3_begin_21 : decode cX3_begin 21 = .ok (.aload_n 0, 1) := by decide +kernel
theorem dX3_begin_22 : decode cX3_begin 22 = .ok (.getfield 15, 3) := by decide +kernel
theorem dX3_begin_25 : decode cX3_begin 25 = .ok (.iload 4, 2) := by decide +kernel
theorem dX3_begin_27 : decode cX3_begin 27 = .ok (.iload 4, 2) := by decide +kernel
theorem dX3_begin_29 : decode cX3_begin 29 = .ok (.iload_n 3, 1) := by decide +kernel
theorem dX3_begin_30 : decode cX3_begin 30 = .ok (.if_icmp .ge 12, 3) := by decide +kernel
theorem dX3_begin_33 : decode cX3_begin 33 = .ok (.aload_n 2, 1) := by decide +kernel
theorem dX3_begin_34 : decode cX3_begin 34 = .ok (.iload 4, 2) := by decide +kernel
theorem dX3_begin_36 : decode cX3_begin 36 = .ok (.aaload, 1) := by decide +kernel
theorem dX3_begin_37 : decode cX3_begin 37 = .ok (.iconst 5, 1) := by decide +kernel
theorem dX3_begin_38 : decode cX3_begin 38 = .ok (.iaload, 1) := by decide +kernel
theorem dX3_begin_39 : decode cX3_begin 39 = .ok (.goto 4, 3) := by decide +kernel
theorem dX3_begin_42 : decode cX3_begin 42 = .ok (.iconst 0, 1) := by decide +kernel
theorem dX3_begin_43 : decode cX3_begin 43 = .ok (.iastore, 1) := by decide +kernel
theorem dX3_begin_44 : decode cX3_begin 44 = .ok (.aload_n 0, 1) := by decide +kernel
theorem dX3_begin_45 : decode cX3_begin 45 = .ok (.getfield 18, 3) := by decide +kernel
theorem dX3_begin_48 : decode cX3_begin 48 = .ok (.iload 4, 2) := by decide +kernel
theorem dX3_begin_50 : decode cX3_begin 50 = .ok (.bipush (-9), 2) := by decide +kernel
theorem dX3_begin_52 : decode cX3_begin 52 = .ok (.iastore, 1) := by decide +kernel
theorem dX3_begin_53 : decode cX3_begin 53 = .ok (.iinc 4 1, 3) := by decide +kernel
theorem dX3_begin_56 : decode cX3_begin 56 = .ok (.goto (-42), 3) := by decide +kernel
theorem dX3_begin_59 : decode cX3_begin 59 = .ok (.return_, 1) := by decide +kernel
theorem dX3_coldSet_0 : decode cX3_coldSet 0 = .ok (.iconst 0, 1) := by decide +kernel
theorem dX3_coldSet_1 : decode cX3_coldSet 1 = .ok (.istore_n 1, 1) := by decide +kernel
theorem dX3_coldSet_2 : decode cX3_coldSet 2 = .ok (.iconst 0, 1) := by decide +kernel
theorem dX3_coldSet_3 : decode cX3_coldSet 3 = .ok (.istore_n 2, 1) := by decide +kernel
theorem dX3_coldSet_4 : decode cX3_coldSet 4 = .ok (.iload_n 2, 1) := by decide +kernel
theorem dX3_coldSet_5 : decode cX3_coldSet 5 = .ok (.bipush 6, 2) := by decide +kernel
theorem dX3_coldSet_7 : decode cX3_coldSet 7 = .ok (.if_icmp .ge 20, 3) := by decide +kernel
theorem dX3_coldSet_10 : decode cX3_coldSet 10 = .ok (.iload_n 1, 1) := by decide +kernel
theorem dX3_coldSet_11 : decode cX3_coldSet 11 = .ok (.aload_n 0, 1) := by decide +kernel
theorem dX3_coldSet_12 : decode cX3_coldSet 12 = .ok (.getfield 15, 3) := by decide +kernel
theorem dX3_coldSet_15 : decode cX3_coldSet 15 = .ok (.iload_n 2, 1) := by decide +kernel
theorem dX3_coldSet_16 : decode cX3_coldSet 16 = .ok (.iaload, 1) := by decide +kernel
theorem dX3_coldSet_17 : decode cX3_coldSet 17 = .ok (.iload_n 2, 1) := by decide +kernel
theorem dX3_coldSet_18 : decode cX3_coldSet 18 = .ok (.ishl, 1) := by decide +kernel
theorem dX3_coldSet_19 : decode cX3_coldSet 19 = .ok (.ior, 1) := by decide +kernel
theorem dX3_coldSet_20 : decode cX3_coldSet 20 = .ok (.istore_n 1, 1) := by decide +kernel
theorem dX3_coldSet_21 : decode cX3_coldSet 21 = .ok (.iinc 2 1, 3) := by decide +kernel
theorem dX3_coldSet_24 : decode cX3_coldSet 24 = .ok (.goto (-20), 3) := by decide +kernel
theorem dX3_coldSet_27 : decode cX3_coldSet 27 = .ok (.iload_n 1, 1) := by decide +kernel
theorem dX3_coldSet_28 : decode cX3_coldSet 28 = .ok (.ireturn, 1) := by decide +kernel
theorem dX4_init_0 : decode cX4_init 0 = .ok (.aload_n 0, 1) := by decide +kernel
theorem dX4_init_1 : decode cX4_init 1 = .ok (.invokespecial 3, 3) := by decide +kernel
theorem dX4_init_4 : decode cX4_init 4 = .ok (.aload_n 0, 1) := by decide +kernel
theorem dX4_init_5 : decode cX4_init 5 = .ok (.iconst 4, 1) := by decide +kernel
theorem dX4_init_6 : decode cX4_init 6 = .ok (.newarray .int, 2) := by decide +kernel
theorem dX4_init_8 : decode cX4_init 8 = .ok (.putfield 9, 3) := by decide +kernel
theorem dX4_init_11 : decode cX4_init 11 = .ok (.aload_n 0, 1) := by decide +kernel
theorem dX4_init_12 : decode cX4_init 12 = .ok (.iconst 4, 1) := by decide +kernel
theorem dX4_init_13 : decode cX4_init 13 = .ok (.iconst 4, 1) := by decide +kernel
theorem dX4_init_14 : decode cX4_init 14 = .ok (.multianewarray 15 2, 4) := by decide +kernel
theorem dX4_init_18 : decode cX4_init 18 = .ok (.putfield 17, 3) := by decide +kernel
theorem dX4_init_21 : decode cX4_init 21 = .ok (.aload_n 0, 1) := by decide +kernel
theorem dX4_init_22 : decode cX4_init 22 = .ok (.new 20, 3) := by decide +kernel
theorem dX4_init_25 : decode cX4_init 25 = .ok (.dup, 1) := by decide +kernel
theorem dX4_init_26 : decode cX4_init 26 = .ok (.invokespecial 22, 3) := by decide +kernel
theorem dX4_init_29 : decode cX4_init 29 = .ok (.putfield 23, 3) := by decide +kernel
theorem dX4_init_32 : decode cX4_init 32 = .ok (.aload_n 0, 1) := by decide +kernel
theorem dX4_init_33 : decode cX4_init 33 = .ok (.bipush 6, 2) := by decide +kernel
theorem dX4_init_35 : decode cX4_init 35 = .ok (.iconst 4, 1) := by decide +kernel
theorem dX4_init_36 : decode cX4_init 36 = .ok (.multianewarray 15 2, 4) := by decide +kernel
theorem dX4_init_40 : decode cX4_init 40 = .ok (.putfield 27, 3) := by decide +kernel
theorem dX4_init_43 : decode cX4_init 43 = .ok (.aload_n 0, 1) := by decide +kernel
theorem dX4_init_44 : decode cX4_init 44 = .ok (.bipush 6, 2) := by decide +kernel
theorem dX4_init_46 : decode cX4_init 46 = .ok (.bipush 9, 2) := by decide +kernel
theorem dX4_init_48 : decode cX4_init 48 = .ok (.multianewarray 15 2, 4) := by decide +kernel
theorem dX4_init_52 : decode cX4_init 52 = .ok (.putfield 30, 3) := by decide +kernel
theorem dX4_init_55 : decode cX4_init 55 = .ok (.return_, 1) := by decide +kernel
theorem dX4_notice_0 : decode cX4_notice 0 = .ok (.aload_n 0, 1) := by decide +kernel
theorem dX4_notice_1 : decode cX4_notice 1 = .ok (.getfield 33, 3) := by decide +kernel
theorem dX4_notice_4 : decode cX4_notice 4 = .ok (.iconst 4, 1) := by decide +kernel
theorem dX4_notice_5 : decode cX4_notice 5 = .ok (.if_icmp .ge 39, 3) := by decide +kernel
theorem dX4_notice_8 : decode cX4_notice 8 = .ok (.aload_n 1, 1) := by decide +kernel
theorem dX4_notice_9 : decode cX4_notice 9 = .ok (.iconst 0, 1) := by decide +kernel
theorem dX4_notice_10 : decode cX4_notice 10 = .ok (.aload_n 0, 1) := by decide +kernel
theorem dX4_notice_11 : decode cX4_notice 11 = .ok (.getfield 17, 3) := by decide +kernel
theorem dX4_notice_14 : decode cX4_notice 14 = .ok (.aload_n 0, 1) := by decide +kernel
theorem dX4_notice_15 : decode cX4_notice 15 = .ok (.getfield 33, 3) := by decide +kernel
theorem dX4_notice_18 : decode cX4_notice 18 = .ok (.aaload, 1) := by decide +kernel
theorem dX4_notice_19 : decode cX4_notice 19 = .ok (.iconst 0, 1) := by decide +kernel
theorem dX4_notice_20 : decode cX4_notice 20 = .ok (.iconst 4, 1) := by decide +kernel
theorem dX4_notice_21 : decode cX4_notice 21 = .ok (.invokestatic 37, 3) := by decide +kernel
theorem dX4_notice_24 : decode cX4_notice 24 = .ok (.aload_n 0, 1) := by decide +kernel
theorem dX4_notice_25 : decode cX4_notice 25 = .ok (.getfield 9, 3) := by decide +kernel
theorem dX4_notice_28 : decode cX4_notice 28 = .ok (.aload_n 0, 1) := by decide +kernel
theorem dX4_notice_29 : decode cX4_notice 29 = .ok (.getfield 33, 3) := by decide +kernel
theorem dX4_notice_32 : decode cX4_notice 32 = .ok (.iload_n 2, 1) := by decide +kernel
theorem dX4_notice_33 : decode cX4_notice 33 = .ok (.iastore, 1) := by decide +kernel
theorem dX4_notice_34 : decode cX4_notice 34 = .ok (.aload_n 0, 1) := by decide +kernel
theorem dX4_notice_35 : decode cX4_notice 35 = .ok (.dup, 1) := by decide +kernel
theorem dX4_notice_36 : decode cX4_notice 36 = .ok (.getfield 33, 3) := by decide +kernel
theorem dX4_notice_39 : decode cX4_notice 39 = .ok (.iconst 1, 1) := by decide +kernel
theorem dX4_notice_40 : decode cX4_notice 40 = .ok (.iadd, 1) := by decide +kernel
theorem dX4_notice_41 : decode cX4_notice 41 = .ok (.putfield 33, 3) := by decide +kernel
theorem dX4_notice_44 : decode cX4_notice 44 = .ok (.aload_n 0, 1) := by decide +kernel
theorem dX4_notice_45 : decode cX4_notice 45 = .ok (.getfield 33, 3) := by decide +kernel
theorem dX4_notice_48 : decode cX4_notice 48 = .ok (.ireturn, 1) := by decide +kernel
theorem dX4_fits_0 : decode cX4_fits 0 = .ok (.iload_n 1, 1) := by decide +kernel
theorem dX4_fits_1 : decode cX4_fits 1 = .ok (.aload_n 0, 1) := by decide +kernel
theorem dX4_fits_2 : decode cX4_fits 2 = .ok (.getfield 23, 3) := by decide +kernel
theorem dX4_fits_5 : decode cX4_fits 5 = .ok (.getfield 43, 3) := by decide +kernel
theorem dX4_fits_8 : decode cX4_fits 8 = .ok (.invokestatic 46, 3) := by decide +kernel
theorem dX4_fits_11 : decode cX4_fits 11 = .ok (.iconst 0, 1) := by decide +kernel
theorem dX4_fits_12 : decode cX4_fits 12 = .ok (.istore_n 2, 1) := by decide +kernel
theorem dX4_fits_13 : decode cX4_fits 13 = .ok (.iload_n 2, 1) := by decide +kernel
theorem dX4_fits_14 : decode cX4_fits 14 = .ok (.aload_n 0, 1) := by decide +kernel
theorem dX4_fits_15 : decode cX4_fits 15 = .ok (.getfield 33, 3) := by decide +kernel
theorem dX4_fits_18 : decode cX4_fits 18 = .ok (.if_icmp .ge 39, 3) := by decide +kernel
theorem dX4_fits_21 : decode cX4_fits 21 = .ok (.iload_n 2, 1) := by decide +kernel
theorem dX4_fits_22 : decode cX4_fits 22 = .ok (.iconst 4, 1) := by decide +kernel
theorem dX4_fits_23 : decode cX4_fits 23 = .ok (.if_icmp .ge 34, 3) := by decide +kernel
theorem dX4_fits_26 : decode cX4_fits 26 = .ok (.aload_n 0, 1) := by decide +kernel
theorem dX4_fits_27 : decode cX4_fits 27 = .ok (.getfield 23, 3) := by decide +kernel
theorem dX4_fits_30 : decode cX4_fits 30 = .ok (.aload_n 0, 1) := by decide +kernel
theorem dX4_fits_31 : decode cX4_fits 31 = .ok (.getfield 17, 3) := by decide +kernel
theorem dX4_fits_34 : decode cX4_fits 34 = .ok (.iload_n 2, 1) := by decide +kernel
theorem dX4_fits_35 : decode cX4_fits 35 = .ok (.aaload, 1) := by decide +kernel
theorem dX4_fits_36 : decode cX4_fits 36 = .ok (.iconst 0, 1) := by decide +kernel
theorem dX4_fits_37 : decode cX4_fits 37 = .ok (.invokevirtual 50, 3) := by decide +kernel
theorem dX4_fits_40 : decode cX4_fits 40 = .ok (.aload_n 0, 1) := by decide +kernel
theorem dX4_fits_41 : decode cX4_fits 41 = .ok (.getfield 9, 3) := by decide +kernel
theorem dX4_fits_44 : decode cX4_fits 44 = .ok (.iload_n 2, 1) := by decide +kernel
theorem dX4_fits_45 : decode cX4_fits 45 = .ok (.iaload, 1) := by decide +kernel
theorem dX4_fits_46 : decode cX4_fits 46 = .ok (.if_icmp .eq 5, 3) := by decide +kernel
theorem dX4_fits_49 : decode cX4_fits 49 = .ok (.iconst 0, 1) := by decide +kernel
theorem dX4_fits_50 : decode cX4_fits 50 = .ok (.ireturn, 1) := by decide +kernel
theorem dX4_fits_51 : decode cX4_fits 51 = .ok (.iinc 2 1, 3) := by decide +kernel
theorem dX4_fits_54 : decode cX4_fits 54 = .ok (.goto (-41), 3) := by decide +kernel
theorem dX4_fits_57 : decode cX4_fits 57 = .ok (.iconst 1, 1) := by decide +kernel
theorem dX4_fits_58 : decode cX4_fits 58 = .ok (.ireturn, 1) := by decide +kernel
theorem dX4_gather_0 : decode cX4_gather 0 = .ok (.aload_n 0, 1) := by decide +kernel
theorem dX4_gather_1 : decode cX4_gather 1 = .ok (.iconst 0, 1) := by decide +kernel
theorem dX4_gather_2 : decode cX4_gather 2 = .ok (.putfield 54, 3) := by decide +kernel
theorem dX4_gather_5 : decode cX4_gather 5 = .ok (.aload_n 0, 1) := by decide +kernel
theorem dX4_gather_6 : decode cX4_gather 6 = .ok (.iconst 5, 1) := by decide +kernel
theorem dX4_gather_7 : decode cX4_gather 7 = .ok (.putfield 57, 3) := by decide +kernel
theorem dX4_gather_10 : decode cX4_gather 10 = .ok (.aload_n 0, 1) := by decide +kernel
theorem dX4_gather_11 : decode cX4_gather 11 = .ok (.iconst 0, 1) := by decide +kernel
theorem dX4_gather_12 : decode cX4_gather 12 = .ok (.putfield 60, 3) := by decide +kernel
theorem dX4_gather_15 : decode cX4_gather 15 = .ok (.iconst 0, 1) := by decide +kernel
theorem dX4_gather_16 : decode cX4_gather 16 = .ok (.istore_n 2, 1) := by decide +kernel
theorem dX4_gather_17 : decode cX4_gather 17 = .ok (.iload_n 2, 1) := by decide +kernel
theorem dX4_gather_18 : decode cX4_gather 18 = .ok (.sipush 1296, 3) := by decide +kernel
theorem dX4_gather_21 : decode cX4_gather 21 = .ok (.if_icmp .ge 67, 3) := by decide +kernel
theorem dX4_gather_24 : decode cX4_gather 24 = .ok (.aload_n 0, 1) := by decide +kernel
theorem dX4_gather_25 : decode cX4_gather 25 = .ok (.iload_n 2, 1) := by decide +kernel
theorem dX4_gather_26 : decode cX4_gather 26 = .ok (.invokevirtual 63, 3) := by decide +kernel
theorem dX4_gather_29 : decode cX4_gather 29 = .ok (.ifCond .eq 53, 3) := by decide +kernel
theorem dX4_gather_32 : decode cX4_gather 32 = .ok (.aload_n 0, 1) := by decide +kernel
theorem dX4_gather_33 : decode cX4_gather 33 = .ok (.dup, 1) := by decide +kernel
theorem dX4_gather_34 : decode cX4_gather 34 = .ok (.getfield 54, 3) := by decide +kernel
theorem dX4_gather_37 : decode cX4_gather 37 = .ok (.iconst 1, 1) := by decide +kernel
theorem dX4_gather_38 : decode cX4_gather 38 = .ok (.iadd, 1) := by decide +kernel
theorem dX4_gather_39 : decode cX4_gather 39 = .ok (.putfield 54, 3) := by decide +kernel
theorem dX4_gather_42 : decode cX4_gather 42 = .ok (.aload_n 0, 1) := by decide +kernel
theorem dX4_gather_43 : decode cX4_gather 43 = .ok (.aload_n 0, 1) := by decide +kernel
theorem dX4_gather_44 : decode cX4_gather 44 = .ok (.getfield 57, 3) := by decide +kernel
theorem dX4_gather_47 : decode cX4_gather 47 = .ok (.aload_n 0, 1) := by decide +kernel
theorem dX4_gather_48 : decode cX4_gather 48 = .ok (.getfield 23, 3) := by decide +kernel
theorem dX4_gather_51 : decode cX4_gather 51 = .ok (.getfield 43, 3) := by decide +kernel
theorem dX4_gather_54 : decode cX4_gather 54 = .ok (.iload_n 1, 1) := by decide +kernel
theorem dX4_gather_55 : decode cX4_gather 55 = .ok (.iaload, 1) := by decide +kernel
theorem dX4_gather_56 : decode cX4_gather 56 = .ok (.invokestatic 67, 3) := by decide +kernel
theorem dX4_gather_59 : decode cX4_gather 59 = .ok (.putfield 57, 3) := by decide +kernel
theorem dX4_gather_62 : decode cX4_gather 62 = .ok (.aload_n 0, 1) := by decide +kernel
theorem dX4_gather_63 : decode cX4_gather 63 = .ok (.aload_n 0, 1) := by decide +kernel
theorem dX4_gather_64 : decode cX4_gather 64 = .ok (.getfield 60, 3) := by decide +kernel
theorem dX4_gather_67 : decode cX4_gather 67 = .ok (.aload_n 0, 1) := by decide +kernel
theorem dX4_gather_68 : decode cX4_gather 68 = .ok (.getfield 23, 3) := by decide +kernel
theorem dX4_gather_71 : decode cX4_gather 71 = .ok (.getfield 43, 3) := by decide +kernel
theorem dX4_gather_74 : decode cX4_gather 74 = .ok (.iload_n 1, 1) := by decide +kernel
theorem dX4_gather_75 : decode cX4_gather 75 = .ok (.iaload, 1) := by decide +kernel
theorem dX4_gather_76 : decode cX4_gather 76 = .ok (.invokestatic 73, 3) := by decide +kernel
theorem dX4_gather_79 : decode cX4_gather 79 = .ok (.putfield 60, 3) := by decide +kernel
theorem dX4_gather_82 : decode cX4_gather 82 = .ok (.iinc 2 1, 3) := by decide +kernel
theorem dX4_gather_85 : decode cX4_gather 85 = .ok (.goto (-68), 3) := by decide +kernel
theorem dX4_gather_88 : decode cX4_gather 88 = .ok (.return_, 1) := by decide +kernel
theorem dX4_bestQuestion_0 : decode cX4_bestQuestion 0 = .ok (.aload_n 0, 1) := by decide +kernel
theorem dX4_bestQuestion_1 : decode cX4_bestQuestion 1 = .ok (.aload_n 1, 1) := by decide +kernel
theorem dX4_bestQuestion_2 : decode cX4_bestQuestion 2 = .ok (.invokevirtual 76, 3) := by decide +kernel
theorem dX4_bestQuestion_5 : decode cX4_bestQuestion 5 = .ok (.aload_n 0, 1) := by decide +kernel
theorem dX4_bestQuestion_6 : decode cX4_bestQuestion 6 = .ok (.iconst 0, 1) := by decide +kernel
theorem dX4_bestQuestion_7 : decode cX4_bestQuestion 7 = .ok (.putfield 54, 3) := by decide +kernel
theorem dX4_bestQuestion_10 : decode cX4_bestQuestion 10 = .ok (.iconst 0, 1) := by decide +kernel
theorem dX4_bestQuestion_11 : decode cX4_bestQuestion 11 = .ok (.istore_n 2, 1) := by decide +kernel
theorem dX4_bestQuestion_12 : decode cX4_bestQuestion 12 = .ok (.iload_n 2, 1) := by decide +kernel
theorem dX4_bestQuestion_13 : decode cX4_bestQuestion 13 = .ok (.sipush 1296, 3) := by decide +kernel
theorem dX4_bestQuestion_16 : decode cX4_bestQuestion 16 = .ok (.if_icmp .ge 31, 3) := by decide +kernel
theorem dX4_bestQuestion_19 : decode cX4_bestQuestion 19 = .ok (.aload_n 0, 1) := by decide +kernel
theorem dX4_bestQuestion_20 : decode cX4_bestQuestion 20 = .ok (.iload_n 2, 1) := by decide +kernel
theorem dX4_bestQuestion_21 : decode cX4_bestQuestion 21 = .ok (.invokevirtual 63, 3) := by decide +kernel
theorem dX4_bestQuestion_24 : decode cX4_bestQuestion 24 = .ok (.ifCond .eq 17, 3) := by decide +kernel
theorem dX4_bestQuestion_27 : decode cX4_bestQuestion 27 = .ok (.aload_n 0, 1) := by decide +kernel
theorem dX4_bestQuestion_28 : decode cX4_bestQuestion 28 = .ok (.dup, 1) := by decide +kernel
theorem dX4_bestQuestion_29 : decode cX4_bestQuestion 29 = .ok (.getfield 54, 3) := by decide +kernel
theorem dX4_bestQuestion_32 : decode cX4_bestQuestion 32 = .ok (.iconst 1, 1) := by decide +kernel
theorem dX4_bestQuestion_33 : decode cX4_bestQuestion 33 = .ok (.iadd, 1) := by decide +kernel
theorem dX4_bestQuestion_34 : decode cX4_bestQuestion 34 = .ok (.putfield 54, 3) := by decide +kernel
theorem dX4_bestQuestion_37 : decode cX4_bestQuestion 37 = .ok (.aload_n 0, 1) := by decide +kernel
theorem dX4_bestQuestion_38 : decode cX4_bestQuestion 38 = .ok (.invokevirtual 80, 3) := by decide +kernel
theorem dX4_bestQuestion_41 : decode cX4_bestQuestion 41 = .ok (.iinc 2 1, 3) := by decide +kernel
theorem dX4_bestQuestion_44 : decode cX4_bestQuestion 44 = .ok (.goto (-32), 3) := by decide +kernel
theorem dX4_bestQuestion_47 : decode cX4_bestQuestion 47 = .ok (.aload_n 0, 1) := by decide +kernel
theorem dX4_bestQuestion_48 : decode cX4_bestQuestion 48 = .ok (.getfield 54, 3) := by decide +kernel
theorem dX4_bestQuestion_51 : decode cX4_bestQuestion 51 = .ok (.iconst 1, 1) := by decide +kernel
theorem dX4_bestQuestion_52 : decode cX4_bestQuestion 52 = .ok (.if_icmp .gt 8, 3) := by decide +kernel
theorem dX4_bestQuestion_55 : decode cX4_bestQuestion 55 = .ok (.bipush (-9), 2) := by decide +kernel
theorem dX4_bestQuestion_57 : decode cX4_bestQuestion 57 = .ok (.goto 7, 3) := by decide +kernel
theorem dX4_bestQuestion_60 : decode cX4_bestQuestion 60 = .ok (.aload_n 0, 1) := by decide +kernel
theorem dX4_bestQuestion_61 : decode cX4_bestQuestion 61 = .ok (.invokevirtual 83, 3) := by decide +kernel
theorem dX4_bestQuestion_64 : decode cX4_bestQuestion 64 = .ok (.ireturn, 1) := by decide +kernel
theorem dX4_foresee_0 : decode cX4_foresee 0 = .ok (.iconst 0, 1) := by decide +kernel
theorem dX4_foresee_1 : decode cX4_foresee 1 = .ok (.istore_n 2, 1) := by decide +kernel
theorem dX4_foresee_2 : decode cX4_foresee 2 = .ok (.iload_n 2, 1) := by decide +kernel
theorem dX4_foresee_3 : decode cX4_foresee 3 = .ok (.iconst 5, 1) := by decide +kernel
theorem dX4_foresee_4 : decode cX4_foresee 4 = .ok (.if_icmp .gt 42, 3) := by decide +kernel
theorem dX4_foresee_7 : decode cX4_foresee 7 = .ok (.aload_n 1, 1) := by decide +kernel
theorem dX4_foresee_8 : decode cX4_foresee 8 = .ok (.iconst 0, 1) := by decide +kernel
theorem dX4_foresee_9 : decode cX4_foresee 9 = .ok (.aload_n 0, 1) := by decide +kernel
theorem dX4_foresee_10 : decode cX4_foresee 10 = .ok (.getfield 27, 3) := by decide +kernel
theorem dX4_foresee_13 : decode cX4_foresee 13 = .ok (.iload_n 2, 1) := by decide +kernel
theorem dX4_foresee_14 : decode cX4_foresee 14 = .ok (.aaload, 1) := by decide +kernel
theorem dX4_foresee_15 : decode cX4_foresee 15 = .ok (.iconst 0, 1) := by decide +kernel
theorem dX4_foresee_16 : decode cX4_foresee 16 = .ok (.iconst 4, 1) := by decide +kernel
theorem dX4_foresee_17 : decode cX4_foresee 17 = .ok (.invokestatic 37, 3) := by decide +kernel
theorem dX4_foresee_20 : decode cX4_foresee 20 = .ok (.aload_n 0, 1) := by decide +kernel
theorem dX4_foresee_21 : decode cX4_foresee 21 = .ok (.getfield 27, 3) := by decide +kernel
theorem dX4_foresee_24 : decode cX4_foresee 24 = .ok (.iload_n 2, 1) := by decide +kernel
theorem dX4_foresee_25 : decode cX4_foresee 25 = .ok (.aaload, 1) := by decide +kernel
theorem dX4_foresee_26 : decode cX4_foresee 26 = .ok (.iload_n 2, 1) := by decide +kernel
theorem dX4_foresee_27 : decode cX4_foresee 27 = .ok (.invokestatic 87, 3) := by decide +kernel
theorem dX4_foresee_30 : decode cX4_foresee 30 = .ok (.aload_n 0, 1) := by decide +kernel
theorem dX4_foresee_31 : decode cX4_foresee 31 = .ok (.getfield 30, 3) := by decide +kernel
theorem dX4_foresee_34 : decode cX4_foresee 34 = .ok (.iload_n 2, 1) := by decide +kernel
theorem dX4_foresee_35 : decode cX4_foresee 35 = .ok (.aaload, 1) := by decide +kernel
theorem dX4_foresee_36 : decode cX4_foresee 36 = .ok (.iconst 0, 1) := by decide +kernel
theorem dX4_foresee_37 : decode cX4_foresee 37 = .ok (.invokestatic 91, 3) := by decide +kernel
theorem dX4_foresee_40 : decode cX4_foresee 40 = .ok (.iinc 2 1, 3) := by decide +kernel
theorem dX4_foresee_43 : decode cX4_foresee 43 = .ok (.goto (-41), 3) := by decide +kernel
theorem dX4_foresee_46 : decode cX4_foresee 46 = .ok (.return_, 1) := by decide +kernel
theorem dX4_tallyGuess_0 : decode cX4_tallyGuess 0 = .ok (.iconst 0, 1) := by decide +kernel
theorem dX4_tallyGuess_1 : decode cX4_tallyGuess 1 = .ok (.istore_n 1, 1) := by decide +kernel
theorem dX4_tallyGuess_2 : decode cX4_tallyGuess 2 = .ok (.iload_n 1, 1) := by decide +kernel
theorem dX4_tallyGuess_3 : decode cX4_tallyGuess 3 = .ok (.iconst 5, 1) := by decide +kernel
theorem dX4_tallyGuess_4 : decode cX4_tallyGuess 4 = .ok (.if_icmp .gt 34, 3) := by decide +kernel
theorem dX4_tallyGuess_7 : decode cX4_tallyGuess 7 = .ok (.aload_n 0, 1) := by decide +kernel
theorem dX4_tallyGuess_8 : decode cX4_tallyGuess 8 = .ok (.getfield 30, 3) := by decide +kernel
theorem dX4_tallyGuess_11 : decode cX4_tallyGuess 11 = .ok (.iload_n 1, 1) := by decide +kernel
theorem dX4_tallyGuess_12 : decode cX4_tallyGuess 12 = .ok (.aaload, 1) := by decide +kernel
theorem dX4_tallyGuess_13 : decode cX4_tallyGuess 13 = .ok (.aload_n 0, 1) := by decide +kernel
theorem dX4_tallyGuess_14 : decode cX4_tallyGuess 14 = .ok (.getfield 23, 3) := by decide +kernel
theorem dX4_tallyGuess_17 : decode cX4_tallyGuess 17 = .ok (.aload_n 0, 1) := by decide +kernel
theorem dX4_tallyGuess_18 : decode cX4_tallyGuess 18 = .ok (.getfield 27, 3) := by decide +kernel
theorem dX4_tallyGuess_21 : decode cX4_tallyGuess 21 = .ok (.iload_n 1, 1) := by decide +kernel
theorem dX4_tallyGuess_22 : decode cX4_tallyGuess 22 = .ok (.aaload, 1) := by decide +kernel
theorem dX4_tallyGuess_23 : decode cX4_tallyGuess 23 = .ok (.iconst 0, 1) := by decide +kernel
theorem dX4_tallyGuess_24 : decode cX4_tallyGuess 24 = .ok (.invokevirtual 50, 3) := by decide +kernel
theorem dX4_tallyGuess_27 : decode cX4_tallyGuess 27 = .ok (.dup2, 1) := by decide +kernel
theorem dX4_tallyGuess_28 : decode cX4_tallyGuess 28 = .ok (.iaload, 1) := by decide +kernel
theorem dX4_tallyGuess_29 : decode cX4_tallyGuess 29 = .ok (.iconst 1, 1) := by decide +kernel
theorem dX4_tallyGuess_30 : decode cX4_tallyGuess 30 = .ok (.iadd, 1) := by decide +kernel
theorem dX4_tallyGuess_31 : decode cX4_tallyGuess 31 = .ok (.iastore, 1) := by decide +kernel
theorem dX4_tallyGuess_32 : decode cX4_tallyGuess 32 = .ok (.iinc 1 1, 3) := by decide +kernel
theorem dX4_tallyGuess_35 : decode cX4_tallyGuess 35 = .ok (.goto (-33), 3) := by decide +kernel
theorem dX4_tallyGuess_38 : decode cX4_tallyGuess 38 = .ok (.return_, 1) := by decide +kernel
theorem dX4_mostTelling_0 : decode cX4_mostTelling 0 = .ok (.iconst 0, 1) := by decide +kernel
theorem dX4_mostTelling_1 : decode cX4_mostTelling 1 = .ok (.istore_n 1, 1) := by decide +kernel
theorem dX4_mostTelling_2 : decode cX4_mostTelling 2 = .ok (.iconst 1, 1) := by decide +kernel
theorem dX4_mostTelling_3 : decode cX4_mostTelling 3 = .ok (.istore_n 2, 1) := by decide +kernel
theorem dX4_mostTelling_4 : decode cX4_mostTelling 4 = .ok (.iload_n 2, 1) := by decide +kernel
theorem dX4_mostTelling_5 : decode cX4_mostTelling 5 = .ok (.iconst 5, 1) := by decide +kernel
theorem dX4_mostTelling_6 : decode cX4_mostTelling 6 = .ok (.if_icmp .gt 32, 3) := by decide +kernel
theorem dX4_mostTelling_9 : decode cX4_mostTelling 9 = .ok (.aload_n 0, 1) := by decide +kernel
theorem dX4_mostTelling_10 : decode cX4_mostTelling 10 = .ok (.getfield 30, 3) := by decide +kernel
theorem dX4_mostTelling_13 : decode cX4_mostTelling 13 = .ok (.iload_n 2, 1) := by decide +kernel
theorem dX4_mostTelling_14 : decode cX4_mostTelling 14 = .ok (.aaload, 1) := by decide +kernel
theorem dX4_mostTelling_15 : decode cX4_mostTelling 15 = .ok (.invokestatic 96, 3) := by decide +kernel
theorem dX4_mostTelling_18 : decode cX4_mostTelling 18 = .ok (.aload_n 0, 1) := by decide +kernel
theorem dX4_mostTelling_19 : decode cX4_mostTelling 19 = .ok (.getfield 30, 3) := by decide +kernel
theorem dX4_mostTelling_22 : decode cX4_mostTelling 22 = .ok (.iload_n 1, 1) := by decide +kernel
theorem dX4_mostTelling_23 : decode cX4_mostTelling 23 = .ok (.aaload, 1) := by decide +kernel
theorem dX4_mostTelling_24 : decode cX4_mostTelling 24 = .ok (.invokestatic 96, 3) := by decide +kernel
theorem dX4_mostTelling_27 : decode cX4_mostTelling 27 = .ok (.if_icmp .ge 5, 3) := by decide +kernel
theorem dX4_mostTelling_30 : decode cX4_mostTelling 30 = .ok (.iload_n 2, 1) := by decide +kernel
theorem dX4_mostTelling_31 : decode cX4_mostTelling 31 = .ok (.istore_n 1, 1) := by decide +kernel
theorem dX4_mostTelling_32 : decode cX4_mostTelling 32 = .ok (.iinc 2 1, 3) := by decide +kernel
theorem dX4_mostTelling_35 : decode cX4_mostTelling 35 = .ok (.goto (-31), 3) := by decide +kernel
theorem dX4_mostTelling_38 : decode cX4_mostTelling 38 = .ok (.iload_n 1, 1) := by decide +kernel
theorem dX4_mostTelling_39 : decode cX4_mostTelling 39 = .ok (.ireturn, 1) := by decide +kernel
theorem dX4_greatestOf_0 : decode cX4_greatestOf 0 = .ok (.iconst 0, 1) := by decide +kernel
theorem dX4_greatestOf_1 : decode cX4_greatestOf 1 = .ok (.istore_n 1, 1) := by decide +kernel
theorem dX4_greatestOf_2 : decode cX4_greatestOf 2 = .ok (.aload_n 0, 1) := by decide +kernel
theorem dX4_greatestOf_3 : decode cX4_greatestOf 3 = .ok (.astore_n 2, 1) := by decide +kernel
theorem dX4_greatestOf_4 : decode cX4_greatestOf 4 = .ok (.aload_n 2, 1) := by decide +kernel
theorem dX4_greatestOf_5 : decode cX4_greatestOf 5 = .ok (.arraylength, 1) := by decide +kernel
theorem dX4_greatestOf_6 : decode cX4_greatestOf 6 = .ok (.istore_n 3, 1) := by decide +kernel
theorem dX4_greatestOf_7 : decode cX4_greatestOf 7 = .ok (.iconst 0, 1) := by decide +kernel
theorem dX4_greatestOf_8 : decode cX4_greatestOf 8 = .ok (.istore 4, 2) := by decide +kernel
theorem dX4_greatestOf_10 : decode cX4_greatestOf 10 = .ok (.iload 4, 2) := by decide +kernel
theorem dX4_greatestOf_12 : decode cX4_greatestOf 12 = .ok (.iload_n 3, 1) := by decide +kernel
theorem dX4_greatestOf_13 : decode cX4_greatestOf 13 = .ok (.if_icmp .ge 22, 3) := by decide +kernel
theorem dX4_greatestOf_16 : decode cX4_greatestOf 16 = .ok (.aload_n 2, 1) := by decide +kernel
theorem dX4_greatestOf_17 : decode cX4_greatestOf 17 = .ok (.iload 4, 2) := by decide +kernel
theorem dX4_greatestOf_19 : decode cX4_greatestOf 19 = .ok (.iaload, 1) := by decide +kernel
theorem dX4_greatestOf_20 : decode cX4_greatestOf 20 = .ok (.istore 5, 2) := by decide +kernel
theorem dX4_greatestOf_22 : decode cX4_greatestOf 22 = .ok (.iload_n 1, 1) := by decide +kernel
theorem dX4_greatestOf_23 : decode cX4_greatestOf 23 = .ok (.iload 5, 2) := by decide +kernel
theorem dX4_greatestOf_25 : decode cX4_greatestOf 25 = .ok (.invokestatic 73, 3) := by decide +kernel
theorem dX4_greatestOf_28 : decode cX4_greatestOf 28 = .ok (.istore_n 1, 1) := by decide +kernel
theorem dX4_greatestOf_29 : decode cX4_greatestOf 29 = .ok (.iinc 4 1, 3) := by decide +kernel
theorem dX4_greatestOf_32 : decode cX4_greatestOf 32 = .ok (.goto (-22), 3) := by decide +kernel
theorem dX4_greatestOf_35 : decode cX4_greatestOf 35 = .ok (.iload_n 1, 1) := by decide +kernel
theorem dX4_greatestOf_36 : decode cX4_greatestOf 36 = .ok (.ireturn, 1) := by decide +kernel
theorem dX5_init_0 : decode cX5_init 0 = .ok (.aload_n 0, 1) := by decide +kernel
theorem dX5_init_1 : decode cX5_init 1 = .ok (.invokespecial 3, 3) := by decide +kernel
theorem dX5_init_4 : decode cX5_init 4 = .ok (.aload_n 0, 1) := by decide +kernel
theorem dX5_init_5 : decode cX5_init 5 = .ok (.iconst 4, 1) := by decide +kernel
theorem dX5_init_6 : decode cX5_init 6 = .ok (.newarray .int, 2) := by decide +kernel
theorem dX5_init_8 : decode cX5_init 8 = .ok (.putfield 9, 3) := by decide +kernel
theorem dX5_init_11 : decode cX5_init 11 = .ok (.return_, 1) := by decide +kernel
theorem dX5_offBy_0 : decode cX5_offBy 0 = .ok (.iload_n 1, 1) := by decide +kernel
theorem dX5_offBy_1 : decode cX5_offBy 1 = .ok (.iconst 3, 1) := by decide +kernel
theorem dX5_offBy_2 : decode cX5_offBy 2 = .ok (.if_icmp .ne 14, 3) := by decide +kernel
theorem dX5_offBy_5 : decode cX5_offBy 5 = .ok (.iload_n 3, 1) := by decide +kernel
theorem dX5_offBy_6 : decode cX5_offBy 6 = .ok (.iconst 1, 1) := by decide +kernel
theorem dX5_offBy_7 : decode cX5_offBy 7 = .ok (.if_icmp .ne 9, 3) := by decide +kernel
theorem dX5_offBy_10 : decode cX5_offBy 10 = .ok (.iload_n 2, 1) := by decide +kernel
theorem dX5_offBy_11 : decode cX5_offBy 11 = .ok (.iconst 2, 1) := by decide +kernel
theorem dX5_offBy_12 : decode cX5_offBy 12 = .ok (.idiv, 1) := by decide +kernel
theorem dX5_offBy_13 : decode cX5_offBy 13 = .ok (.goto 4, 3) := by decide +kernel
theorem dX5_offBy_16 : decode cX5_offBy 16 = .ok (.iload_n 2, 1) := by decide +kernel
theorem dX5_offBy_17 : decode cX5_offBy 17 = .ok (.istore 4, 2) := by decide +kernel
theorem dX5_offBy_19 : decode cX5_offBy 19 = .ok (.iload 4, 2) := by decide +kernel
theorem dX5_offBy_21 : decode cX5_offBy 21 = .ok (.aload_n 0, 1) := by decide +kernel
theorem dX5_offBy_22 : decode cX5_offBy 22 = .ok (.getfield 9, 3) := by decide +kernel
theorem dX5_offBy_25 : decode cX5_offBy 25 = .ok (.iload_n 1, 1) := by decide +kernel
theorem dX5_offBy_26 : decode cX5_offBy 26 = .ok (.iaload, 1) := by decide +kernel
theorem dX5_offBy_27 : decode cX5_offBy 27 = .ok (.isub, 1) := by decide +kernel
theorem dX5_offBy_28 : decode cX5_offBy 28 = .ok (.ireturn, 1) := by decide +kernel
theorem dX5_mien_0 : decode cX5_mien 0 = .ok (.aload_n 0, 1) := by decide +kernel
theorem dX5_mien_1 : decode cX5_mien 1 = .ok (.getfield 15, 3) := by decide +kernel
theorem dX5_mien_4 : decode cX5_mien 4 = .ok (.istore_n 3, 1) := by decide +kernel
theorem dX5_mien_5 : decode cX5_mien 5 = .ok (.iconst 0, 1) := by decide +kernel
theorem dX5_mien_6 : decode cX5_mien 6 = .ok (.istore 4, 2) := by decide +kernel
theorem dX5_mien_8 : decode cX5_mien 8 = .ok (.iconst 0, 1) := by decide +kernel
theorem dX5_mien_9 : decode cX5_mien 9 = .ok (.istore 5, 2) := by decide +kernel
theorem dX5_mien_11 : decode cX5_mien 11 = .ok (.iload 5, 2) := by decide +kernel
theorem dX5_mien_13 : decode cX5_mien 13 = .ok (.iconst 4, 1) := by decide +kernel
theorem dX5_mien_14 : decode cX5_mien 14 = .ok (.if_icmp .ge 54, 3) := by decide +kernel
theorem dX5_mien_17 : decode cX5_mien 17 = .ok (.aload_n 0, 1) := by decide +kernel
theorem dX5_mien_18 : decode cX5_mien 18 = .ok (.iload 5, 2) := by decide +kernel
theorem dX5_mien_20 : decode cX5_mien 20 = .ok (.aload_n 1, 1) := by decide +kernel
theorem dX5_mien_21 : decode cX5_mien 21 = .ok (.iload 5, 2) := by decide +kernel
theorem dX5_mien_23 : decode cX5_mien 23 = .ok (.iaload, 1) := by decide +kernel
theorem dX5_mien_24 : decode cX5_mien 24 = .ok (.iload_n 2, 1) := by decide +kernel
theorem dX5_mien_25 : decode cX5_mien 25 = .ok (.invokevirtual 19, 3) := by decide +kernel
theorem dX5_mien_28 : decode cX5_mien 28 = .ok (.istore 6, 2) := by decide +kernel
theorem dX5_mien_30 : decode cX5_mien 30 = .ok (.iload 6, 2) := by decide +kernel
theorem dX5_mien_32 : decode cX5_mien 32 = .ok (.invokestatic 23, 3) := by decide +kernel
theorem dX5_mien_35 : decode cX5_mien 35 = .ok (.iload_n 3, 1) := by decide +kernel
theorem dX5_mien_36 : decode cX5_mien 36 = .ok (.if_icmp .le 26, 3) := by decide +kernel
theorem dX5_mien_39 : decode cX5_mien 39 = .ok (.iload 6, 2) := by decide +kernel
theorem dX5_mien_41 : decode cX5_mien 41 = .ok (.invokestatic 23, 3) := by decide +kernel
theorem dX5_mien_44 : decode cX5_mien 44 = .ok (.istore_n 3, 1) := by decide +kernel
theorem dX5_mien_45 : decode cX5_mien 45 = .ok (.iconst 2, 1) := by decide +kernel
theorem dX5_mien_46 : decode cX5_mien 46 = .ok (.iload 5, 2) := by decide +kernel
theorem dX5_mien_48 : decode cX5_mien 48 = .ok (.imul, 1) := by decide +kernel
theorem dX5_mien_49 : decode cX5_mien 49 = .ok (.iload 6, 2) := by decide +kernel
theorem dX5_mien_51 : decode cX5_mien 51 = .ok (.ifCond .le 7, 3) := by decide +kernel
theorem dX5_mien_54 : decode cX5_mien 54 = .ok (.iconst 1, 1) := by decide +kernel
theorem dX5_mien_55 : decode cX5_mien 55 = .ok (.goto 4, 3) := by decide +kernel
theorem dX5_mien_58 : decode cX5_mien 58 = .ok (.iconst 2, 1) := by decide +kernel
theorem dX5_mien_59 : decode cX5_mien 59 = .ok (.iadd, 1) := by decide +kernel
theorem dX5_mien_60 : decode cX5_mien 60 = .ok (.istore 4, 2) := by decide +kernel
theorem dX5_mien_62 : decode cX5_mien 62 = .ok (.iinc 5 1, 3) := by decide +kernel
theorem dX5_mien_65 : decode cX5_mien 65 = .ok (.goto (-54), 3) := by decide +kernel
theorem dX5_mien_68 : decode cX5_mien 68 = .ok (.iload 4, 2) := by decide +kernel
theorem dX5_mien_70 : decode cX5_mien 70 = .ok (.ireturn, 1) := by decide +kernel
theorem dX5_mind_0 : decode cX5_mind 0 = .ok (.iconst 0, 1) := by decide +kernel
theorem dX5_mind_1 : decode cX5_mind 1 = .ok (.istore_n 3, 1) := by decide +kernel
theorem dX5_mind_2 : decode cX5_mind 2 = .ok (.iconst 0, 1) := by decide +kernel
theorem dX5_mind_3 : decode cX5_mind 3 = .ok (.istore 4, 2) := by decide +kernel
theorem dX5_mind_5 : decode cX5_mind 5 = .ok (.iload 4, 2) := by decide +kernel
theorem dX5_mind_7 : decode cX5_mind 7 = .ok (.iconst 4, 1) := by decide +kernel
theorem dX5_mind_8 : decode cX5_mind 8 = .ok (.if_icmp .ge 26, 3) := by decide +kernel
theorem dX5_mind_11 : decode cX5_mind 11 = .ok (.iload_n 3, 1) := by decide +kernel
theorem dX5_mind_12 : decode cX5_mind 12 = .ok (.aload_n 0, 1) := by decide +kernel
theorem dX5_mind_13 : decode cX5_mind 13 = .ok (.iload 4, 2) := by decide +kernel
theorem dX5_mind_15 : decode cX5_mind 15 = .ok (.aload_n 1, 1) := by decide +kernel
theorem dX5_mind_16 : decode cX5_mind 16 = .ok (.iload 4, 2) := by decide +kernel
theorem dX5_mind_18 : decode cX5_mind 18 = .ok (.iaload, 1) := by decide +kernel
theorem dX5_mind_19 : decode cX5_mind 19 = .ok (.iload_n 2, 1) := by decide +kernel
theorem dX5_mind_20 : decode cX5_mind 20 = .ok (.invokevirtual 19, 3) := by decide +kernel
theorem dX5_mind_23 : decode cX5_mind 23 = .ok (.invokestatic 23, 3) := by decide +kernel
theorem dX5_mind_26 : decode cX5_mind 26 = .ok (.iadd, 1) := by decide +kernel
theorem dX5_mind_27 : decode cX5_mind 27 = .ok (.istore_n 3, 1) := by decide +kernel
theorem dX5_mind_28 : decode cX5_mind 28 = .ok (.iinc 4 1, 3) := by decide +kernel
theorem dX5_mind_31 : decode cX5_mind 31 = .ok (.goto (-26), 3) := by decide +kernel
theorem dX5_mind_34 : decode cX5_mind 34 = .ok (.iload_n 3, 1) := by decide +kernel
theorem dX5_mind_35 : decode cX5_mind 35 = .ok (.ireturn, 1) := by decide +kernel
theorem dX6_init_0 : decode cX6_init 0 = .ok (.aload_n 0, 1) := by decide +kernel
theorem dX6_init_1 : decode cX6_init 1 = .ok (.invokespecial 3, 3) := by decide +kernel
theorem dX6_init_4 : decode cX6_init 4 = .ok (.aload_n 0, 1) := by decide +kernel
theorem dX6_init_5 : decode cX6_init 5 = .ok (.bipush 120, 2) := by decide +kernel
theorem dX6_init_7 : decode cX6_init 7 = .ok (.newarray .int, 2) := by decide +kernel
theorem dX6_init_9 : decode cX6_init 9 = .ok (.putfield 9, 3) := by decide +kernel
theorem dX6_init_12 : decode cX6_init 12 = .ok (.aload_n 0, 1) := by decide +kernel
theorem dX6_init_13 : decode cX6_init 13 = .ok (.bipush 6, 2) := by decide +kernel
theorem dX6_init_15 : decode cX6_init 15 = .ok (.getstatic 15, 3) := by decide +kernel
theorem dX6_init_18 : decode cX6_init 18 = .ok (.arraylength, 1) := by decide +kernel
theorem dX6_init_19 : decode cX6_init 19 = .ok (.multianewarray 18 2, 4) := by decide +kernel
theorem dX6_init_23 : decode cX6_init 23 = .ok (.putfield 20, 3) := by decide +kernel
theorem dX6_init_26 : decode cX6_init 26 = .ok (.aload_n 0, 1) := by decide +kernel
theorem dX6_init_27 : decode cX6_init 27 = .ok (.iconst 4, 1) := by decide +kernel
theorem dX6_init_28 : decode cX6_init 28 = .ok (.newarray .int, 2) := by decide +kernel
theorem dX6_init_30 : decode cX6_init 30 = .ok (.putfield 23, 3) := by decide +kernel
theorem dX6_init_33 : decode cX6_init 33 = .ok (.return_, 1) := by decide +kernel
theorem dX6_append_0 : decode cX6_append 0 = .ok (.aload_n 0, 1) := by decide +kernel
theorem dX6_append_1 : decode cX6_append 1 = .ok (.getfield 26, 3) := by decide +kernel
theorem dX6_append_4 : decode cX6_append 4 = .ok (.bipush 120, 2) := by decide +kernel
theorem dX6_append_6 : decode cX6_append 6 = .ok (.if_icmp .ge 23, 3) := by decide +kernel
theorem dX6_append_9 : decode cX6_append 9 = .ok (.aload_n 0, 1) := by decide +kernel
theorem dX6_append_10 : decode cX6_append 10 = .ok (.getfield 9, 3) := by decide +kernel
theorem dX6_append_13 : decode cX6_append 13 = .ok (.aload_n 0, 1) := by decide +kernel
theorem dX6_append_14 : decode cX6_append 14 = .ok (.getfield 26, 3) := by decide +kernel
theorem dX6_append_17 : decode cX6_append 17 = .ok (.iload_n 1, 1) := by decide +kernel
theorem dX6_append_18 : decode cX6_append 18 = .ok (.iastore, 1) := by decide +kernel
theorem dX6_append_19 : decode cX6_append 19 = .ok (.aload_n 0, 1) := by decide +kernel
theorem dX6_append_20 : decode cX6_append 20 = .ok (.dup, 1) := by decide +kernel
theorem dX6_append_21 : decode cX6_append 21 = .ok (.getfield 26, 3) := by decide +kernel
theorem dX6_append_24 : decode cX6_append 24 = .ok (.iconst 1, 1) := by decide +kernel
theorem dX6_append_25 : decode cX6_append 25 = .ok (.iadd, 1) := by decide +kernel
theorem dX6_append_26 : decode cX6_append 26 = .ok (.putfield 26, 3) := by decide +kernel
theorem dX6_append_29 : decode cX6_append 29 = .ok (.aload_n 0, 1) := by decide +kernel
theorem dX6_append_30 : decode cX6_append 30 = .ok (.getfield 26, 3) := by decide +kernel
theorem dX6_append_33 : decode cX6_append 33 = .ok (.ireturn, 1) := by decide +kernel
theorem dX6_empty_0 : decode cX6_empty 0 = .ok (.aload_n 0, 1) := by decide +kernel
theorem dX6_empty_1 : decode cX6_empty 1 = .ok (.getfield 26, 3) := by decide +kernel
theorem dX6_empty_4 : decode cX6_empty 4 = .ok (.istore_n 1, 1) := by decide +kernel
theorem dX6_empty_5 : decode cX6_empty 5 = .ok (.aload_n 0, 1) := by decide +kernel
theorem dX6_empty_6 : decode cX6_empty 6 = .ok (.iconst 0, 1) := by decide +kernel
theorem dX6_empty_7 : decode cX6_empty 7 = .ok (.putfield 26, 3) := by decide +kernel
theorem dX6_empty_10 : decode cX6_empty 10 = .ok (.iload_n 1, 1) := by decide +kernel
theorem dX6_empty_11 : decode cX6_empty 11 = .ok (.ireturn, 1) := by decide +kernel
theorem dX6_read_0 : decode cX6_read 0 = .ok (.aload_n 0, 1) := by decide +kernel
theorem dX6_read_1 : decode cX6_read 1 = .ok (.iconst 0, 1) := by decide +kernel
theorem dX6_read_2 : decode cX6_read 2 = .ok (.putfield 30, 3) := by decide +kernel
theorem dX6_read_5 : decode cX6_read 5 = .ok (.aload_n 0, 1) := by decide +kernel
theorem dX6_read_6 : decode cX6_read 6 = .ok (.iconst 0, 1) := by decide +kernel
theorem dX6_read_7 : decode cX6_read 7 = .ok (.putfield 33, 3) := by decide +kernel
theorem dX6_read_10 : decode cX6_read 10 = .ok (.aload_n 0, 1) := by decide +kernel
theorem dX6_read_11 : decode cX6_read 11 = .ok (.iconst 0, 1) := by decide +kernel
theorem dX6_read_12 : decode cX6_read 12 = .ok (.putfield 36, 3) := by decide +kernel
theorem dX6_read_15 : decode cX6_read 15 = .ok (.aload_n 0, 1) := by decide +kernel
theorem dX6_read_16 : decode cX6_read 16 = .ok (.getfield 23, 3) := by decide +kernel
theorem dX6_read_19 : decode cX6_read 19 = .ok (.iconst 0, 1) := by decide +kernel
theorem dX6_read_20 : decode cX6_read 20 = .ok (.invokestatic 40, 3) := by decide +kernel
theorem dX6_read_23 : decode cX6_read 23 = .ok (.iconst 0, 1) := by decide +kernel
theorem dX6_read_24 : decode cX6_read 24 = .ok (.istore_n 1, 1) := by decide +kernel
theorem dX6_read_25 : decode cX6_read 25 = .ok (.iload_n 1, 1) := by decide +kernel
theorem dX6_read_26 : decode cX6_read 26 = .ok (.bipush 120, 2) := by decide +kernel
theorem dX6_read_28 : decode cX6_read 28 = .ok (.if_icmp .gt 41, 3) := by decide +kernel
theorem dX6_read_31 : decode cX6_read 31 = .ok (.aload_n 0, 1) := by decide +kernel
theorem dX6_read_32 : decode cX6_read 32 = .ok (.invokevirtual 46, 3) := by decide +kernel
theorem dX6_read_35 : decode cX6_read 35 = .ok (.aload_n 0, 1) := by decide +kernel
theorem dX6_read_36 : decode cX6_read 36 = .ok (.getfield 30, 3) := by decide +kernel
theorem dX6_read_39 : decode cX6_read 39 = .ok (.aload_n 0, 1) := by decide +kernel
theorem dX6_read_40 : decode cX6_read 40 = .ok (.getfield 26, 3) := by decide +kernel
theorem dX6_read_43 : decode cX6_read 43 = .ok (.if_icmp .lt 5, 3) := by decide +kernel
theorem dX6_read_46 : decode cX6_read 46 = .ok (.iload_n 1, 1) := by decide +kernel
theorem dX6_read_47 : decode cX6_read 47 = .ok (.ireturn, 1) := by decide +kernel
theorem dX6_read_48 : decode cX6_read 48 = .ok (.aload_n 0, 1) := by decide +kernel
theorem dX6_read_49 : decode cX6_read 49 = .ok (.invokevirtual 49, 3) := by decide +kernel
theorem dX6_read_52 : decode cX6_read 52 = .ok (.ifCond .ne 11, 3) := by decide +kernel
theorem dX6_read_55 : decode cX6_read 55 = .ok (.bipush (-10), 2) := by decide +kernel
theorem dX6_read_57 : decode cX6_read 57 = .ok (.aload_n 0, 1) := by decide +kernel
theorem dX6_read_58 : decode cX6_read 58 = .ok (.getfield 30, 3) := by decide +kernel
theorem dX6_read_61 : decode cX6_read 61 = .ok (.isub, 1) := by decide +kernel
theorem dX6_read_62 : decode cX6_read 62 = .ok (.ireturn, 1) := by decide +kernel
theorem dX6_read_63 : decode cX6_read 63 = .ok (.iinc 1 1, 3) := by decide +kernel
theorem dX6_read_66 : decode cX6_read 66 = .ok (.goto (-41), 3) := by decide +kernel
theorem dX6_read_69 : decode cX6_read 69 = .ok (.bipush (-10), 2) := by decide +kernel
theorem dX6_read_71 : decode cX6_read 71 = .ok (.aload_n 0, 1) := by decide +kernel
theorem dX6_read_72 : decode cX6_read 72 = .ok (.getfield 30, 3) := by decide +kernel
theorem dX6_read_75 : decode cX6_read 75 = .ok (.isub, 1) := by decide +kernel
theorem dX6_read_76 : decode cX6_read 76 = .ok (.ireturn, 1) := by decide +kernel
theorem dX6_readItem_0 : decode cX6_readItem 0 = .ok (.aload_n 0, 1) := by decide +kernel
theorem dX6_readItem_1 : decode cX6_readItem 1 = .ok (.aload_n 0, 1) := by decide +kernel
theorem dX6_readItem_2 : decode cX6_readItem 2 = .ok (.getfield 30, 3) := by decide +kernel
theorem dX6_readItem_5 : decode cX6_readItem 5 = .ok (.bipush 98, 2) := by decide +kernel
theorem dX6_readItem_7 : decode cX6_readItem 7 = .ok (.invokevirtual 53, 3) := by decide +kernel
theorem dX6_readItem_10 : decode cX6_readItem 10 = .ok (.ifCond .eq 48, 3) := by decide +kernel
theorem dX6_readItem_13 : decode cX6_readItem 13 = .ok (.aload_n 0, 1) := by decide +kernel
theorem dX6_readItem_14 : decode cX6_readItem 14 = .ok (.getfield 33, 3) := by decide +kernel
theorem dX6_readItem_17 : decode cX6_readItem 17 = .ok (.bipush 6, 2) := by decide +kernel
theorem dX6_readItem_19 : decode cX6_readItem 19 = .ok (.if_icmp .ge 39, 3) := by decide +kernel
theorem dX6_readItem_22 : decode cX6_readItem 22 = .ok (.aload_n 0, 1) := by decide +kernel
theorem dX6_readItem_23 : decode cX6_readItem 23 = .ok (.dup, 1) := by decide +kernel
theorem dX6_readItem_24 : decode cX6_readItem 24 = .ok (.getfield 30, 3) := by decide +kernel
theorem dX6_readItem_27 : decode cX6_readItem 27 = .ok (.iconst 1, 1) := by decide +kernel
theorem dX6_readItem_28 : decode cX6_readItem 28 = .ok (.iadd, 1) := by decide +kernel
theorem dX6_readItem_29 : decode cX6_readItem 29 = .ok (.putfield 30, 3) := by decide +kernel
theorem dX6_readItem_32 : decode cX6_readItem 32 = .ok (.aload_n 0, 1) := by decide +kernel
theorem dX6_readItem_33 : decode cX6_readItem 33 = .ok (.dup, 1) := by decide +kernel
theorem dX6_readItem_34 : decode cX6_readItem 34 = .ok (.getfield 33, 3) := by decide +kernel
theorem dX6_readItem_37 : decode cX6_readItem 37 = .ok (.iconst 1, 1) := by decide +kernel
theorem dX6_readItem_38 : decode cX6_readItem 38 = .ok (.iadd, 1) := by decide +kernel
theorem dX6_readItem_39 : decode cX6_readItem 39 = .ok (.putfield 33, 3) := by decide +kernel
theorem dX6_readItem_42 : decode cX6_readItem 42 = .ok (.aload_n 0, 1) := by decide +kernel
theorem dX6_readItem_43 : decode cX6_readItem 43 = .ok (.aload_n 0, 1) := by decide +kernel
theorem dX6_readItem_44 : decode cX6_readItem 44 = .ok (.getfield 20, 3) := by decide +kernel
theorem dX6_readItem_47 : decode cX6_readItem 47 = .ok (.aload_n 0, 1) := by decide +kernel
theorem dX6_readItem_48 : decode cX6_readItem 48 = .ok (.getfield 33, 3) := by decide +kernel
theorem dX6_readItem_51 : decode cX6_readItem 51 = .ok (.iconst 1, 1) := by decide +kernel
theorem dX6_readItem_52 : decode cX6_readItem 52 = .ok (.isub, 1) := by decide +kernel
theorem dX6_readItem_53 : decode cX6_readItem 53 = .ok (.aaload, 1) := by decide +kernel
theorem dX6_readItem_54 : decode cX6_readItem 54 = .ok (.invokevirtual 57, 3) := by decide +kernel
theorem dX6_readItem_57 : decode cX6_readItem 57 = .ok (.ireturn, 1) := by decide +kernel
theorem dX6_readItem_58 : decode cX6_readItem 58 = .ok (.aload_n 0, 1) := by decide +kernel
theorem dX6_readItem_59 : decode cX6_readItem 59 = .ok (.aload_n 0, 1) := by decide +kernel
theorem dX6_readItem_60 : decode cX6_readItem 60 = .ok (.getfield 30, 3) := by decide +kernel
theorem dX6_readItem_63 : decode cX6_readItem 63 = .ok (.bipush 112, 2) := by decide +kernel
theorem dX6_readItem_65 : decode cX6_readItem 65 = .ok (.invokevirtual 53, 3) := by decide +kernel
theorem dX6_readItem_68 : decode cX6_readItem 68 = .ok (.ifCond .eq 34, 3) := by decide +kernel
theorem dX6_readItem_71 : decode cX6_readItem 71 = .ok (.aload_n 0, 1) := by decide +kernel
theorem dX6_readItem_72 : decode cX6_readItem 72 = .ok (.getfield 36, 3) := by decide +kernel
theorem dX6_readItem_75 : decode cX6_readItem 75 = .ok (.ifCond .ne 27, 3) := by decide +kernel
theorem dX6_readItem_78 : decode cX6_readItem 78 = .ok (.aload_n 0, 1) := by decide +kernel
theorem dX6_readItem_79 : decode cX6_readItem 79 = .ok (.dup, 1) := by decide +kernel
theorem dX6_readItem_80 : decode cX6_readItem 80 = .ok (.getfield 30, 3) := by decide +kernel
theorem dX6_readItem_83 : decode cX6_readItem 83 = .ok (.iconst 1, 1) := by decide +kernel
theorem dX6_readItem_84 : decode cX6_readItem 84 = .ok (.iadd, 1) := by decide +kernel
theorem dX6_readItem_85 : decode cX6_readItem 85 = .ok (.putfield 30, 3) := by decide +kernel
theorem dX6_readItem_88 : decode cX6_readItem 88 = .ok (.aload_n 0, 1) := by decide +kernel
theorem dX6_readItem_89 : decode cX6_readItem 89 = .ok (.iconst 1, 1) := by decide +kernel
theorem dX6_readItem_90 : decode cX6_readItem 90 = .ok (.putfield 36, 3) := by decide +kernel
theorem dX6_readItem_93 : decode cX6_readItem 93 = .ok (.aload_n 0, 1) := by decide +kernel
theorem dX6_readItem_94 : decode cX6_readItem 94 = .ok (.aload_n 0, 1) := by decide +kernel
theorem dX6_readItem_95 : decode cX6_readItem 95 = .ok (.getfield 23, 3) := by decide +kernel
theorem dX6_readItem_98 : decode cX6_readItem 98 = .ok (.invokevirtual 57, 3) := by decide +kernel
theorem dX6_readItem_101 : decode cX6_readItem 101 = .ok (.ireturn, 1) := by decide +kernel
theorem dX6_readItem_102 : decode cX6_readItem 102 = .ok (.iconst 0, 1) := by decide +kernel
theorem dX6_readItem_103 : decode cX6_readItem 103 = .ok (.ireturn, 1) := by decide +kernel
theorem dX6_readRow_0 : decode cX6_readRow 0 = .ok (.iconst 0, 1) := by decide +kernel
theorem dX6_readRow_1 : decode cX6_readRow 1 = .ok (.istore_n 2, 1) := by decide +kernel
theorem dX6_readRow_2 : decode cX6_readRow 2 = .ok (.iload_n 2, 1) := by decide +kernel
theorem dX6_readRow_3 : decode cX6_readRow 3 = .ok (.aload_n 1, 1) := by decide +kernel
theorem dX6_readRow_4 : decode cX6_readRow 4 = .ok (.arraylength, 1) := by decide +kernel
theorem dX6_readRow_5 : decode cX6_readRow 5 = .ok (.if_icmp .ge 72, 3) := by decide +kernel
theorem dX6_readRow_8 : decode cX6_readRow 8 = .ok (.iload_n 2, 1) := by decide +kernel
theorem dX6_readRow_9 : decode cX6_readRow 9 = .ok (.getstatic 15, 3) := by decide +kernel
theorem dX6_readRow_12 : decode cX6_readRow 12 = .ok (.arraylength, 1) := by decide +kernel
theorem dX6_readRow_13 : decode cX6_readRow 13 = .ok (.if_icmp .ge 64, 3) := by decide +kernel
theorem dX6_readRow_16 : decode cX6_readRow 16 = .ok (.aload_n 0, 1) := by decide +kernel
theorem dX6_readRow_17 : decode cX6_readRow 17 = .ok (.invokevirtual 46, 3) := by decide +kernel
theorem dX6_readRow_20 : decode cX6_readRow 20 = .ok (.aload_n 0, 1) := by decide +kernel
theorem dX6_readRow_21 : decode cX6_readRow 21 = .ok (.aload_n 0, 1) := by decide +kernel
theorem dX6_readRow_22 : decode cX6_readRow 22 = .ok (.getfield 30, 3) := by decide +kernel
theorem dX6_readRow_25 : decode cX6_readRow 25 = .ok (.invokevirtual 61, 3) := by decide +kernel
theorem dX6_readRow_28 : decode cX6_readRow 28 = .ok (.istore_n 3, 1) := by decide +kernel
theorem dX6_readRow_29 : decode cX6_readRow 29 = .ok (.iload_n 3, 1) := by decide +kernel
theorem dX6_readRow_30 : decode cX6_readRow 30 = .ok (.ifCond .lt 25, 3) := by decide +kernel
theorem dX6_readRow_33 : decode cX6_readRow 33 = .ok (.iload_n 3, 1) := by decide +kernel
theorem dX6_readRow_34 : decode cX6_readRow 34 = .ok (.getstatic 15, 3) := by decide +kernel
theorem dX6_readRow_37 : decode cX6_readRow 37 = .ok (.iload_n 2, 1) := by decide +kernel
theorem dX6_readRow_38 : decode cX6_readRow 38 = .ok (.iaload, 1) := by decide +kernel
theorem dX6_readRow_39 : decode cX6_readRow 39 = .ok (.if_icmp .gt 16, 3) := by decide +kernel
theorem dX6_readRow_42 : decode cX6_readRow 42 = .ok (.aload_n 0, 1) := by decide +kernel
theorem dX6_readRow_43 : decode cX6_readRow 43 = .ok (.aload_n 0, 1) := by decide +kernel
theorem dX6_readRow_44 : decode cX6_readRow 44 = .ok (.getfield 30, 3) := by decide +kernel
theorem dX6_readRow_47 : decode cX6_readRow 47 = .ok (.iconst 1, 1) := by decide +kernel
theorem dX6_readRow_48 : decode cX6_readRow 48 = .ok (.iadd, 1) := by decide +kernel
theorem dX6_readRow_49 : decode cX6_readRow 49 = .ok (.invokevirtual 61, 3) := by decide +kernel
theorem dX6_readRow_52 : decode cX6_readRow 52 = .ok (.ifCond .lt 5, 3) := by decide +kernel
theorem dX6_readRow_55 : decode cX6_readRow 55 = .ok (.iconst 0, 1) := by decide +kernel
theorem dX6_readRow_56 : decode cX6_readRow 56 = .ok (.ireturn, 1) := by decide +kernel
theorem dX6_readRow_57 : decode cX6_readRow 57 = .ok (.aload_n 1, 1) := by decide +kernel
theorem dX6_readRow_58 : decode cX6_readRow 58 = .ok (.iload_n 2, 1) := by decide +kernel
theorem dX6_readRow_59 : decode cX6_readRow 59 = .ok (.iload_n 3, 1) := by decide +kernel
theorem dX6_readRow_60 : decode cX6_readRow 60 = .ok (.iastore, 1) := by decide +kernel
theorem dX6_readRow_61 : decode cX6_readRow 61 = .ok (.aload_n 0, 1) := by decide +kernel
theorem dX6_readRow_62 : decode cX6_readRow 62 = .ok (.dup, 1) := by decide +kernel
theorem dX6_readRow_63 : decode cX6_readRow 63 = .ok (.getfield 30, 3) := by decide +kernel
theorem dX6_readRow_66 : decode cX6_readRow 66 = .ok (.iconst 1, 1) := by decide +kernel
theorem dX6_readRow_67 : decode cX6_readRow 67 = .ok (.iadd, 1) := by decide +kernel
theorem dX6_readRow_68 : decode cX6_readRow 68 = .ok (.putfield 30, 3) := by decide +kernel
theorem dX6_readRow_71 : decode cX6_readRow 71 = .ok (.iinc 2 1, 3) := by decide +kernel
theorem dX6_readRow_74 : decode cX6_readRow 74 = .ok (.goto (-72), 3) := by decide +kernel
theorem dX6_readRow_77 : decode cX6_readRow 77 = .ok (.aload_n 0, 1) := by decide +kernel
theorem dX6_readRow_78 : decode cX6_readRow 78 = .ok (.invokevirtual 46, 3) := by decide +kernel
theorem dX6_readRow_81 : decode cX6_readRow 81 = .ok (.aload_n 0, 1) := by decide +kernel
theorem dX6_readRow_82 : decode cX6_readRow 82 = .ok (.aload_n 0, 1) := by decide +kernel
theorem dX6_readRow_83 : decode cX6_readRow 83 = .ok (.getfield 30, 3) := by decide +kernel
theorem dX6_readRow_86 : decode cX6_readRow 86 = .ok (.bipush 59, 2) := by decide +kernel
theorem dX6_readRow_88 : decode cX6_readRow 88 = .ok (.invokevirtual 53, 3) := by decide +kernel
theorem dX6_readRow_91 : decode cX6_readRow 91 = .ok (.ifCond .ne 5, 3) := by decide +kernel
theorem dX6_readRow_94 : decode cX6_readRow 94 = .ok (.iconst 0, 1) := by decide +kernel
theorem dX6_readRow_95 : decode cX6_readRow 95 = .ok (.ireturn, 1) := by decide +kernel
theorem dX6_readRow_96 : decode cX6_readRow 96 = .ok (.aload_n 0, 1) := by decide +kernel
theorem dX6_readRow_97 : decode cX6_readRow 97 = .ok (.dup, 1) := by decide +kernel
theorem dX6_readRow_98 : decode cX6_readRow 98 = .ok (.getfield 30, 3) := by decide +kernel
theorem dX6_readRow_101 : decode cX6_readRow 101 = .ok (.iconst 1, 1) := by decide +kernel
theorem dX6_readRow_102 : decode cX6_readRow 102 = .ok (.iadd, 1) := by decide +kernel
theorem dX6_readRow_103 : decode cX6_readRow 103 = .ok (.putfield 30, 3) := by decide +kernel
theorem dX6_readRow_106 : decode cX6_readRow 106 = .ok (.iconst 1, 1) := by decide +kernel
theorem dX6_readRow_107 : decode cX6_readRow 107 = .ok (.ireturn, 1) := by decide +kernel
theorem dX6_skipBlanks_0 : decode cX6_skipBlanks 0 = .ok (.aload_n 0, 1) := by decide +kernel
theorem dX6_skipBlanks_1 : decode cX6_skipBlanks 1 = .ok (.getfield 30, 3) := by decide +kernel
theorem dX6_skipBlanks_4 : decode cX6_skipBlanks 4 = .ok (.aload_n 0, 1) := by decide +kernel
theorem dX6_skipBlanks_5 : decode cX6_skipBlanks 5 = .ok (.getfield 26, 3) := by decide +kernel
theorem dX6_skipBlanks_8 : decode cX6_skipBlanks 8 = .ok (.if_icmp .ge 29, 3) := by decide +kernel
theorem dX6_skipBlanks_11 : decode cX6_skipBlanks 11 = .ok (.aload_n 0, 1) := by decide +kernel
theorem dX6_skipBlanks_12 : decode cX6_skipBlanks 12 = .ok (.aload_n 0, 1) := by decide +kernel
theorem dX6_skipBlanks_13 : decode cX6_skipBlanks 13 = .ok (.getfield 30, 3) := by decide +kernel
theorem dX6_skipBlanks_16 : decode cX6_skipBlanks 16 = .ok (.bipush 32, 2) := by decide +kernel
theorem dX6_skipBlanks_18 : decode cX6_skipBlanks 18 = .ok (.invokevirtual 53, 3) := by decide +kernel
theorem dX6_skipBlanks_21 : decode cX6_skipBlanks 21 = .ok (.ifCond .eq 16, 3) := by decide +kernel
theorem dX6_skipBlanks_24 : decode cX6_skipBlanks 24 = .ok (.aload_n 0, 1) := by decide +kernel
theorem dX6_skipBlanks_25 : decode cX6_skipBlanks 25 = .ok (.dup, 1) := by decide +kernel
theorem dX6_skipBlanks_26 : decode cX6_skipBlanks 26 = .ok (.getfield 30, 3) := by decide +kernel
theorem dX6_skipBlanks_29 : decode cX6_skipBlanks 29 = .ok (.iconst 1, 1) := by decide +kernel
theorem dX6_skipBlanks_30 : decode cX6_skipBlanks 30 = .ok (.iadd, 1) := by decide +kernel
theorem dX6_skipBlanks_31 : decode cX6_skipBlanks 31 = .ok (.putfield 30, 3) := by decide +kernel
theorem dX6_skipBlanks_34 : decode cX6_skipBlanks 34 = .ok (.goto (-34), 3) := by decide +kernel
theorem dX6_skipBlanks_37 : decode cX6_skipBlanks 37 = .ok (.return_, 1) := by decide +kernel
theorem dX6_isAt_0 : decode cX6_isAt 0 = .ok (.iload_n 1, 1) := by decide +kernel
theorem dX6_isAt_1 : decode cX6_isAt 1 = .ok (.ifCond .lt 31, 3) := by decide +kernel
theorem dX6_isAt_4 : decode cX6_isAt 4 = .ok (.iload_n 1, 1) := by decide +kernel
theorem dX6_isAt_5 : decode cX6_isAt 5 = .ok (.aload_n 0, 1) := by decide +kernel
theorem dX6_isAt_6 : decode cX6_isAt 6 = .ok (.getfield 26, 3) := by decide +kernel
theorem dX6_isAt_9 : decode cX6_isAt 9 = .ok (.if_icmp .ge 23, 3) := by decide +kernel
theorem dX6_isAt_12 : decode cX6_isAt 12 = .ok (.iload_n 1, 1) := by decide +kernel
theorem dX6_isAt_13 : decode cX6_isAt 13 = .ok (.bipush 120, 2) := by decide +kernel
theorem dX6_isAt_15 : decode cX6_isAt 15 = .ok (.if_icmp .ge 17, 3) := by decide +kernel
theorem dX6_isAt_18 : decode cX6_isAt 18 = .ok (.aload_n 0, 1) := by decide +kernel
theorem dX6_isAt_19 : decode cX6_isAt 19 = .ok (.getfield 9, 3) := by decide +kernel
theorem dX6_isAt_22 : decode cX6_isAt 22 = .ok (.iload_n 1, 1) := by decide +kernel
theorem dX6_isAt_23 : decode cX6_isAt 23 = .ok (.iaload, 1) := by decide +kernel
theorem dX6_isAt_24 : decode cX6_isAt 24 = .ok (.iload_n 2, 1) := by decide +kernel
theorem dX6_isAt_25 : decode cX6_isAt 25 = .ok (.if_icmp .ne 7, 3) := by decide +kernel
theorem dX6_isAt_28 : decode cX6_isAt 28 = .ok (.iconst 1, 1) := by decide +kernel
theorem dX6_isAt_29 : decode cX6_isAt 29 = .ok (.goto 4, 3) := by decide +kernel
theorem dX6_isAt_32 : decode cX6_isAt 32 = .ok (.iconst 0, 1) := by decide +kernel
theorem dX6_isAt_33 : decode cX6_isAt 33 = .ok (.ireturn, 1) := by decide +kernel
theorem dX6_digitAt_0 : decode cX6_digitAt 0 = .ok (.iload_n 1, 1) := by decide +kernel
theorem dX6_digitAt_1 : decode cX6_digitAt 1 = .ok (.ifCond .lt 39, 3) := by decide +kernel
theorem dX6_digitAt_4 : decode cX6_digitAt 4 = .ok (.iload_n 1, 1) := by decide +kernel
theorem dX6_digitAt_5 : decode cX6_digitAt 5 = .ok (.aload_n 0, 1) := by decide +kernel
theorem dX6_digitAt_6 : decode cX6_digitAt 6 = .ok (.getfield 26, 3) := by decide +kernel
theorem dX6_digitAt_9 : decode cX6_digitAt 9 = .ok (.if_icmp .ge 31, 3) := by decide +kernel
theorem dX6_digitAt_12 : decode cX6_digitAt 12 = .ok (.iload_n 1, 1) := by decide +kernel
theorem dX6_digitAt_13 : decode cX6_digitAt 13 = .ok (.bipush 120, 2) := by decide +kernel
theorem dX6_digitAt_15 : decode cX6_digitAt 15 = .ok (.if_icmp .ge 25, 3) := by decide +kernel
theorem dX6_digitAt_18 : decode cX6_digitAt 18 = .ok (.aload_n 0, 1) := by decide +kernel
theorem dX6_digitAt_19 : decode cX6_digitAt 19 = .ok (.getfield 9, 3) := by decide +kernel
theorem dX6_digitAt_22 : decode cX6_digitAt 22 = .ok (.iload_n 1, 1) := by decide +kernel
theorem dX6_digitAt_23 : decode cX6_digitAt 23 = .ok (.iaload, 1) := by decide +kernel
theorem dX6_digitAt_24 : decode cX6_digitAt 24 = .ok (.bipush 48, 2) := by decide +kernel
theorem dX6_digitAt_26 : decode cX6_digitAt 26 = .ok (.if_icmp .lt 14, 3) := by decide +kernel
theorem dX6_digitAt_29 : decode cX6_digitAt 29 = .ok (.aload_n 0, 1) := by decide +kernel
theorem dX6_digitAt_30 : decode cX6_digitAt 30 = .ok (.getfield 9, 3) := by decide +kernel
theorem dX6_digitAt_33 : decode cX6_digitAt 33 = .ok (.iload_n 1, 1) := by decide +kernel
theorem dX6_digitAt_34 : decode cX6_digitAt 34 = .ok (.iaload, 1) := by decide +kernel
theorem dX6_digitAt_35 : decode cX6_digitAt 35 = .ok (.bipush 57, 2) := by decide +kernel
theorem dX6_digitAt_37 : decode cX6_digitAt 37 = .ok (.if_icmp .le 5, 3) := by decide +kernel
theorem dX6_digitAt_40 : decode cX6_digitAt 40 = .ok (.iconst (-1), 1) := by decide +kernel
theorem dX6_digitAt_41 : decode cX6_digitAt 41 = .ok (.ireturn, 1) := by decide +kernel
theorem dX6_digitAt_42 : decode cX6_digitAt 42 = .ok (.aload_n 0, 1) := by decide +kernel
theorem dX6_digitAt_43 : decode cX6_digitAt 43 = .ok (.getfield 9, 3) := by decide +kernel
theorem dX6_digitAt_46 : decode cX6_digitAt 46 = .ok (.iload_n 1, 1) := by decide +kernel
theorem dX6_digitAt_47 : decode cX6_digitAt 47 = .ok (.iaload, 1) := by decide +kernel
theorem dX6_digitAt_48 : decode cX6_digitAt 48 = .ok (.bipush 48, 2) := by decide +kernel
theorem dX6_digitAt_50 : decode cX6_digitAt 50 = .ok (.isub, 1) := by decide +kernel
theorem dX6_digitAt_51 : decode cX6_digitAt 51 = .ok (.ireturn, 1) := by decide +kernel
