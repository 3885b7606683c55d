theorem d_C_addFault_0 : decode prog_3_method_5_code 0 = .ok (.aload_n 0, 1) := by decide +kernel
theorem d_C_addFault_1 : decode prog_3_method_5_code 1 = .ok (.getfield 22, 3) := by decide +kernel
theorem d_C_addFault_4 : decode prog_3_method_5_code 4 = .ok (.bipush 12, 2) := by decide +kernel
theorem d_C_addFault_6 : decode prog_3_method_5_code 6 = .ok (.if_icmp .lt 6, 3) := by decide +kernel
theorem d_C_addFault_9 : decode prog_3_method_5_code 9 = .ok (.bipush (-4), 2) := by decide +kernel
theorem d_C_addFault_11 : decode prog_3_method_5_code 11 = .ok (.ireturn, 1) := by decide +kernel
theorem d_C_addFault_12 : decode prog_3_method_5_code 12 = .ok (.aload_n 0, 1) := by decide +kernel
theorem d_C_addFault_13 : decode prog_3_method_5_code 13 = .ok (.dup, 1) := by decide +kernel
theorem d_C_addFault_14 : decode prog_3_method_5_code 14 = .ok (.getfield 22, 3) := by decide +kernel
theorem d_C_addFault_17 : decode prog_3_method_5_code 17 = .ok (.iconst 1, 1) := by decide +kernel
theorem d_C_addFault_18 : decode prog_3_method_5_code 18 = .ok (.iadd, 1) := by decide +kernel
theorem d_C_addFault_19 : decode prog_3_method_5_code 19 = .ok (.putfield 22, 3) := by decide +kernel
theorem d_C_addFault_22 : decode prog_3_method_5_code 22 = .ok (.aload_n 0, 1) := by decide +kernel
theorem d_C_addFault_23 : decode prog_3_method_5_code 23 = .ok (.dup, 1) := by decide +kernel
theorem d_C_addFault_24 : decode prog_3_method_5_code 24 = .ok (.getfield 26, 3) := by decide +kernel
theorem d_C_addFault_27 : decode prog_3_method_5_code 27 = .ok (.iconst 1, 1) := by decide +kernel
theorem d_C_addFault_28 : decode prog_3_method_5_code 28 = .ok (.iadd, 1) := by decide +kernel
theorem d_C_addFault_29 : decode prog_3_method_5_code 29 = .ok (.putfield 26, 3) := by decide +kernel
theorem d_C_addFault_32 : decode prog_3_method_5_code 32 = .ok (.aload_n 0, 1) := by decide +kernel
theorem d_C_addFault_33 : decode prog_3_method_5_code 33 = .ok (.getfield 9, 3) := by decide +kernel
theorem d_C_addFault_36 : decode prog_3_method_5_code 36 = .ok (.aload_n 0, 1) := by decide +kernel
theorem d_C_addFault_37 : decode prog_3_method_5_code 37 = .ok (.getfield 22, 3) := by decide +kernel
theorem d_C_addFault_40 : decode prog_3_method_5_code 40 = .ok (.lload_n 1, 1) := by decide +kernel
theorem d_C_addFault_41 : decode prog_3_method_5_code 41 = .ok (.ldc2_w 33, 3) := by decide +kernel
theorem d_C_addFault_44 : decode prog_3_method_5_code 44 = .ok (.lmul, 1) := by decide +kernel
theorem d_C_addFault_45 : decode prog_3_method_5_code 45 = .ok (.lastore, 1) := by decide +kernel
theorem d_C_addFault_46 : decode prog_3_method_5_code 46 = .ok (.aload_n 0, 1) := by decide +kernel
theorem d_C_addFault_47 : decode prog_3_method_5_code 47 = .ok (.getfield 22, 3) := by decide +kernel
theorem d_C_addFault_50 : decode prog_3_method_5_code 50 = .ok (.ireturn, 1) := by decide +kernel
theorem d_T_knows_0 : decode prog_5_method_2_code 0 = .ok (.iload_n 1, 1) := by decide +kernel
theorem d_T_knows_1 : decode prog_5_method_2_code 1 = .ok (.iconst 1, 1) := by decide +kernel
theorem d_T_knows_2 : decode prog_5_method_2_code 2 = .ok (.if_icmp .lt 20, 3) := by decide +kernel
theorem d_T_knows_5 : decode prog_5_method_2_code 5 = .ok (.iload_n 1, 1) := by decide +kernel
theorem d_T_knows_6 : decode prog_5_method_2_code 6 = .ok (.aload_n 0, 1) := by decide +kernel
theorem d_T_knows_7 : decode prog_5_method_2_code 7 = .ok (.getfield 23, 3) := by decide +kernel
theorem d_T_knows_10 : decode prog_5_method_2_code 10 = .ok (.if_icmp .gt 12, 3) := by decide +kernel
theorem d_T_knows_13 : decode prog_5_method_2_code 13 = .ok (.iload_n 1, 1) := by decide +kernel
theorem d_T_knows_14 : decode prog_5_method_2_code 14 = .ok (.iconst 5, 1) := by decide +kernel
theorem d_T_knows_15 : decode prog_5_method_2_code 15 = .ok (.if_icmp .gt 7, 3) := by decide +kernel
theorem d_T_knows_18 : decode prog_5_method_2_code 18 = .ok (.iconst 1, 1) := by decide +kernel
theorem d_T_knows_19 : decode prog_5_method_2_code 19 = .ok (.goto 4, 3) := by decide +kernel
theorem d_T_knows_22 : decode prog_5_method_2_code 22 = .ok (.iconst 0, 1) := by decide +kernel
theorem d_T_knows_23 : decode prog_5_method_2_code 23 = .ok (.ireturn, 1) := by decide +kernel
theorem d_C_knows_0 : decode prog_3_method_2_code 0 = .ok (.iload_n 1, 1) := by decide +kernel
theorem d_C_knows_1 : decode prog_3_method_2_code 1 = .ok (.iconst 1, 1) := by decide +kernel
theorem d_C_knows_2 : decode prog_3_method_2_code 2 = .ok (.if_icmp .lt 21, 3) := by decide +kernel
theorem d_C_knows_5 : decode prog_3_method_2_code 5 = .ok (.iload_n 1, 1) := by decide +kernel
theorem d_C_knows_6 : decode prog_3_method_2_code 6 = .ok (.aload_n 0, 1) := by decide +kernel
theorem d_C_knows_7 : decode prog_3_method_2_code 7 = .ok (.getfield 22, 3) := by decide +kernel
theorem d_C_knows_10 : decode prog_3_method_2_code 10 = .ok (.if_icmp .gt 13, 3) := by decide +kernel
theorem d_C_knows_13 : decode prog_3_method_2_code 13 = .ok (.iload_n 1, 1) := by decide +kernel
theorem d_C_knows_14 : decode prog_3_method_2_code 14 = .ok (.bipush 12, 2) := by decide +kernel
theorem d_C_knows_16 : decode prog_3_method_2_code 16 = .ok (.if_icmp .gt 7, 3) := by decide +kernel
theorem d_C_knows_19 : decode prog_3_method_2_code 19 = .ok (.iconst 1, 1) := by decide +kernel
theorem d_C_knows_20 : decode prog_3_method_2_code 20 = .ok (.goto 4, 3) := by decide +kernel
theorem d_C_knows_23 : decode prog_3_method_2_code 23 = .ok (.iconst 0, 1) := by decide +kernel
theorem d_C_knows_24 : decode prog_3_method_2_code 24 = .ok (.ireturn, 1) := by decide +kernel
theorem d_G_isAnswer_0 : decode prog_1_method_15_code 0 = .ok (.iload_n 0, 1) := by decide +kernel
theorem d_G_isAnswer_1 : decode prog_1_method_15_code 1 = .ok (.ifCond .lt 12, 3) := by decide +kernel
theorem d_G_isAnswer_4 : decode prog_1_method_15_code 4 = .ok (.iload_n 0, 1) := by decide +kernel
theorem d_G_isAnswer_5 : decode prog_1_method_15_code 5 = .ok (.iconst 3, 1) := by decide +kernel
theorem d_G_isAnswer_6 : decode prog_1_method_15_code 6 = .ok (.if_icmp .ge 7, 3) := by decide +kernel
theorem d_G_isAnswer_9 : decode prog_1_method_15_code 9 = .ok (.iconst 1, 1) := by decide +kernel
theorem d_G_isAnswer_10 : decode prog_1_method_15_code 10 = .ok (.goto 4, 3) := by decide +kernel
theorem d_G_isAnswer_13 : decode prog_1_method_15_code 13 = .ok (.iconst 0, 1) := by decide +kernel
theorem d_G_isAnswer_14 : decode prog_1_method_15_code 14 = .ok (.ireturn, 1) := by decide +kernel
theorem d_T_hasPlace_0 : decode prog_5_method_14_code 0 = .ok (.aload_n 0, 1) := by decide +kernel
theorem d_T_hasPlace_1 : decode prog_5_method_14_code 1 = .ok (.iload_n 1, 1) := by decide +kernel
theorem d_T_hasPlace_2 : decode prog_5_method_14_code 2 = .ok (.invokevirtual 33, 3) := by decide +kernel
theorem d_T_hasPlace_5 : decode prog_5_method_14_code 5 = .ok (.ifCond .eq 18, 3) := by decide +kernel
theorem d_T_hasPlace_8 : decode prog_5_method_14_code 8 = .ok (.iload_n 2, 1) := by decide +kernel
theorem d_T_hasPlace_9 : decode prog_5_method_14_code 9 = .ok (.iconst 1, 1) := by decide +kernel
theorem d_T_hasPlace_10 : decode prog_5_method_14_code 10 = .ok (.if_icmp .lt 13, 3) := by decide +kernel
theorem d_T_hasPlace_13 : decode prog_5_method_14_code 13 = .ok (.iload_n 2, 1) := by decide +kernel
theorem d_T_hasPlace_14 : decode prog_5_method_14_code 14 = .ok (.bipush 12, 2) := by decide +kernel
theorem d_T_hasPlace_16 : decode prog_5_method_14_code 16 = .ok (.if_icmp .gt 7, 3) := by decide +kernel
theorem d_T_hasPlace_19 : decode prog_5_method_14_code 19 = .ok (.iconst 1, 1) := by decide +kernel
theorem d_T_hasPlace_20 : decode prog_5_method_14_code 20 = .ok (.goto 4, 3) := by decide +kernel
theorem d_T_hasPlace_23 : decode prog_5_method_14_code 23 = .ok (.iconst 0, 1) := by decide +kernel
theorem d_T_hasPlace_24 : decode prog_5_method_14_code 24 = .ok (.ireturn, 1) := by decide +kernel
theorem d_T_twelfths_0 : decode prog_5_method_5_code 0 = .ok (.aload_n 0, 1) := by decide +kernel
theorem d_T_twelfths_1 : decode prog_5_method_5_code 1 = .ok (.iload_n 1, 1) := by decide +kernel
theorem d_T_twelfths_2 : decode prog_5_method_5_code 2 = .ok (.iload_n 2, 1) := by decide +kernel
theorem d_T_twelfths_3 : decode prog_5_method_5_code 3 = .ok (.invokevirtual 37, 3) := by decide +kernel
theorem d_T_twelfths_6 : decode prog_5_method_5_code 6 = .ok (.ifCond .ne 5, 3) := by decide +kernel
theorem d_T_twelfths_9 : decode prog_5_method_5_code 9 = .ok (.iconst 0, 1) := by decide +kernel
theorem d_T_twelfths_10 : decode prog_5_method_5_code 10 = .ok (.ireturn, 1) := by decide +kernel
theorem d_T_twelfths_11 : decode prog_5_method_5_code 11 = .ok (.aload_n 0, 1) := by decide +kernel
theorem d_T_twelfths_12 : decode prog_5_method_5_code 12 = .ok (.getfield 20, 3) := by decide +kernel
theorem d_T_twelfths_15 : decode prog_5_method_5_code 15 = .ok (.iload_n 1, 1) := by decide +kernel
theorem d_T_twelfths_16 : decode prog_5_method_5_code 16 = .ok (.aaload, 1) := by decide +kernel
theorem d_T_twelfths_17 : decode prog_5_method_5_code 17 = .ok (.iload_n 2, 1) := by decide +kernel
theorem d_T_twelfths_18 : decode prog_5_method_5_code 18 = .ok (.iaload, 1) := by decide +kernel
theorem d_T_twelfths_19 : decode prog_5_method_5_code 19 = .ok (.iconst 4, 1) := by decide +kernel
theorem d_T_twelfths_20 : decode prog_5_method_5_code 20 = .ok (.iload_n 3, 1) := by decide +kernel
theorem d_T_twelfths_21 : decode prog_5_method_5_code 21 = .ok (.imul, 1) := by decide +kernel
theorem d_T_twelfths_22 : decode prog_5_method_5_code 22 = .ok (.ishr, 1) := by decide +kernel
theorem d_T_twelfths_23 : decode prog_5_method_5_code 23 = .ok (.bipush 15, 2) := by decide +kernel
theorem d_T_twelfths_25 : decode prog_5_method_5_code 25 = .ok (.iand, 1) := by decide +kernel
theorem d_T_twelfths_26 : decode prog_5_method_5_code 26 = .ok (.ireturn, 1) := by decide +kernel
theorem d_G_bit_0 : decode prog_1_method_17_code 0 = .ok (.iconst 1, 1) := by decide +kernel
theorem d_G_bit_1 : decode prog_1_method_17_code 1 = .ok (.iload_n 0, 1) := by decide +kernel
theorem d_G_bit_2 : decode prog_1_method_17_code 2 = .ok (.ishl, 1) := by decide +kernel
theorem d_G_bit_3 : decode prog_1_method_17_code 3 = .ok (.ireturn, 1) := by decide +kernel
theorem d_G_holds_0 : decode prog_1_method_18_code 0 = .ok (.iload_n 0, 1) := by decide +kernel
theorem d_G_holds_1 : decode prog_1_method_18_code 1 = .ok (.iload_n 1, 1) := by decide +kernel
theorem d_G_holds_2 : decode prog_1_method_18_code 2 = .ok (.invokestatic 102, 3) := by decide +kernel
theorem d_G_holds_5 : decode prog_1_method_18_code 5 = .ok (.iand, 1) := by decide +kernel
theorem d_G_holds_6 : decode prog_1_method_18_code 6 = .ok (.ifCond .eq 7, 3) := by decide +kernel
theorem d_G_holds_9 : decode prog_1_method_18_code 9 = .ok (.iconst 1, 1) := by decide +kernel
theorem d_G_holds_10 : decode prog_1_method_18_code 10 = .ok (.goto 4, 3) := by decide +kernel
theorem d_G_holds_13 : decode prog_1_method_18_code 13 = .ok (.iconst 0, 1) := by decide +kernel
theorem d_G_holds_14 : decode prog_1_method_18_code 14 = .ok (.ireturn, 1) := by decide +kernel
theorem d_C_isFault_0 : decode prog_3_method_3_code 0 = .ok (.aload_n 0, 1) := by decide +kernel
theorem d_C_isFault_1 : decode prog_3_method_3_code 1 = .ok (.iload_n 1, 1) := by decide +kernel
theorem d_C_isFault_2 : decode prog_3_method_3_code 2 = .ok (.invokevirtual 29, 3) := by decide +kernel
theorem d_C_isFault_5 : decode prog_3_method_3_code 5 = .ok (.ifCond .eq 16, 3) := by decide +kernel
theorem d_C_isFault_8 : decode prog_3_method_3_code 8 = .ok (.aload_n 0, 1) := by decide +kernel
theorem d_C_isFault_9 : decode prog_3_method_3_code 9 = .ok (.getfield 15, 3) := by decide +kernel
theorem d_C_isFault_12 : decode prog_3_method_3_code 12 = .ok (.iload_n 1, 1) := by decide +kernel
theorem d_C_isFault_13 : decode prog_3_method_3_code 13 = .ok (.iaload, 1) := by decide +kernel
theorem d_C_isFault_14 : decode prog_3_method_3_code 14 = .ok (.ifCond .ne 7, 3) := by decide +kernel
theorem d_C_isFault_17 : decode prog_3_method_3_code 17 = .ok (.iconst 1, 1) := by decide +kernel
theorem d_C_isFault_18 : decode prog_3_method_3_code 18 = .ok (.goto 4, 3) := by decide +kernel
theorem d_C_isFault_21 : decode prog_3_method_3_code 21 = .ok (.iconst 0, 1) := by decide +kernel
theorem d_C_isFault_22 : decode prog_3_method_3_code 22 = .ok (.ireturn, 1) := by decide +kernel
theorem d_C_hasPair_0 : decode prog_3_method_4_code 0 = .ok (.iconst 1, 1) := by decide +kernel
theorem d_C_hasPair_1 : decode prog_3_method_4_code 1 = .ok (.istore_n 2, 1) := by decide +kernel
theorem d_C_hasPair_2 : decode prog_3_method_4_code 2 = .ok (.iload_n 2, 1) := by decide +kernel
theorem d_C_hasPair_3 : decode prog_3_method_4_code 3 = .ok (.bipush 12, 2) := by decide +kernel
theorem d_C_hasPair_5 : decode prog_3_method_4_code 5 = .ok (.if_icmp .gt 21, 3) := by decide +kernel
theorem d_C_hasPair_8 : decode prog_3_method_4_code 8 = .ok (.aload_n 0, 1) := by decide +kernel
theorem d_C_hasPair_9 : decode prog_3_method_4_code 9 = .ok (.getfield 15, 3) := by decide +kernel
theorem d_C_hasPair_12 : decode prog_3_method_4_code 12 = .ok (.iload_n 2, 1) := by decide +kernel
theorem d_C_hasPair_13 : decode prog_3_method_4_code 13 = .ok (.iaload, 1) := by decide +kernel
theorem d_C_hasPair_14 : decode prog_3_method_4_code 14 = .ok (.iload_n 1, 1) := by decide +kernel
theorem d_C_hasPair_15 : decode prog_3_method_4_code 15 = .ok (.if_icmp .ne 5, 3) := by decide +kernel
theorem d_C_hasPair_18 : decode prog_3_method_4_code 18 = .ok (.iconst 1, 1) := by decide +kernel
theorem d_C_hasPair_19 : decode prog_3_method_4_code 19 = .ok (.ireturn, 1) := by decide +kernel
theorem d_C_hasPair_20 : decode prog_3_method_4_code 20 = .ok (.iinc 2 1, 3) := by decide +kernel
theorem d_C_hasPair_23 : decode prog_3_method_4_code 23 = .ok (.goto (-21), 3) := by decide +kernel
theorem d_C_hasPair_26 : decode prog_3_method_4_code 26 = .ok (.iconst 0, 1) := by decide +kernel
theorem d_C_hasPair_27 : decode prog_3_method_4_code 27 = .ok (.ireturn, 1) := by decide +kernel
