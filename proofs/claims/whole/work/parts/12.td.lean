theorem d_T_add_0 : decode prog_5_method_3_code 0 = .ok (.aload_n 0, 1) := by decide +kernel
theorem d_T_add_1 : decode prog_5_method_3_code 1 = .ok (.getfield 23, 3) := by decide +kernel
theorem d_T_add_4 : decode prog_5_method_3_code 4 = .ok (.iconst 5, 1) := by decide +kernel
theorem d_T_add_5 : decode prog_5_method_3_code 5 = .ok (.if_icmp .lt 6, 3) := by decide +kernel
theorem d_T_add_8 : decode prog_5_method_3_code 8 = .ok (.bipush (-4), 2) := by decide +kernel
theorem d_T_add_10 : decode prog_5_method_3_code 10 = .ok (.ireturn, 1) := by decide +kernel
theorem d_T_add_11 : decode prog_5_method_3_code 11 = .ok (.aload_n 0, 1) := by decide +kernel
theorem d_T_add_12 : decode prog_5_method_3_code 12 = .ok (.dup, 1) := by decide +kernel
theorem d_T_add_13 : decode prog_5_method_3_code 13 = .ok (.getfield 23, 3) := by decide +kernel
theorem d_T_add_16 : decode prog_5_method_3_code 16 = .ok (.iconst 1, 1) := by decide +kernel
theorem d_T_add_17 : decode prog_5_method_3_code 17 = .ok (.iadd, 1) := by decide +kernel
theorem d_T_add_18 : decode prog_5_method_3_code 18 = .ok (.putfield 23, 3) := by decide +kernel
theorem d_T_add_21 : decode prog_5_method_3_code 21 = .ok (.aload_n 0, 1) := by decide +kernel
theorem d_T_add_22 : decode prog_5_method_3_code 22 = .ok (.getfield 9, 3) := by decide +kernel
theorem d_T_add_25 : decode prog_5_method_3_code 25 = .ok (.aload_n 0, 1) := by decide +kernel
theorem d_T_add_26 : decode prog_5_method_3_code 26 = .ok (.getfield 23, 3) := by decide +kernel
theorem d_T_add_29 : decode prog_5_method_3_code 29 = .ok (.iload_n 1, 1) := by decide +kernel
theorem d_T_add_30 : decode prog_5_method_3_code 30 = .ok (.iastore, 1) := by decide +kernel
theorem d_T_add_31 : decode prog_5_method_3_code 31 = .ok (.aload_n 0, 1) := by decide +kernel
theorem d_T_add_32 : decode prog_5_method_3_code 32 = .ok (.getfield 23, 3) := by decide +kernel
theorem d_T_add_35 : decode prog_5_method_3_code 35 = .ok (.ireturn, 1) := by decide +kernel
theorem d_T_knows_0 : decode prog_5_method_2_code 0 = .ok (.iload_n 1, 1) := by decide +kernel
theorem d_T_knows_1 : decode prog_5_method_2_code 1 = .ok (.iconst 1, 1) := by decide +kernel
theorem d_T_knows_2 : decode prog_5_method_2_code 2 = .ok (.if_icmp .lt 20, 3) := by decide +kernel
theorem d_T_knows_5 : decode prog_5_method_2_code 5 = .ok (.iload_n 1, 1) := by decide +kernel
theorem d_T_knows_6 : decode prog_5_method_2_code 6 = .ok (.aload_n 0, 1) := by decide +kernel
theorem d_T_knows_7 : decode prog_5_method_2_code 7 = .ok (.getfield 23, 3) := by decide +kernel
theorem d_T_knows_10 : decode prog_5_method_2_code 10 = .ok (.if_icmp .gt 12, 3) := by decide +kernel
theorem d_T_knows_13 : decode prog_5_method_2_code 13 = .ok (.iload_n 1, 1) := by decide +kernel
theorem d_T_knows_14 : decode prog_5_method_2_code 14 = .ok (.iconst 5, 1) := by decide +kernel
theorem d_T_knows_15 : decode prog_5_method_2_code 15 = .ok (.if_icmp .gt 7, 3) := by decide +kernel
theorem d_T_knows_18 : decode prog_5_method_2_code 18 = .ok (.iconst 1, 1) := by decide +kernel
theorem d_T_knows_19 : decode prog_5_method_2_code 19 = .ok (.goto 4, 3) := by decide +kernel
theorem d_T_knows_22 : decode prog_5_method_2_code 22 = .ok (.iconst 0, 1) := by decide +kernel
theorem d_T_knows_23 : decode prog_5_method_2_code 23 = .ok (.ireturn, 1) := by decide +kernel
theorem d_T_hasPlace_0 : decode prog_5_method_14_code 0 = .ok (.aload_n 0, 1) := by decide +kernel
theorem d_T_hasPlace_1 : decode prog_5_method_14_code 1 = .ok (.iload_n 1, 1) := by decide +kernel
theorem d_T_hasPlace_2 : decode prog_5_method_14_code 2 = .ok (.invokevirtual 33, 3) := by decide +kernel
theorem d_T_hasPlace_5 : decode prog_5_method_14_code 5 = .ok (.ifCond .eq 18, 3) := by decide +kernel
theorem d_T_hasPlace_8 : decode prog_5_method_14_code 8 = .ok (.iload_n 2, 1) := by decide +kernel
theorem d_T_hasPlace_9 : decode prog_5_method_14_code 9 = .ok (.iconst 1, 1) := by decide +kernel
theorem d_T_hasPlace_10 : decode prog_5_method_14_code 10 = .ok (.if_icmp .lt 13, 3) := by decide +kernel
theorem d_T_hasPlace_13 : decode prog_5_method_14_code 13 = .ok (.iload_n 2, 1) := by decide +kernel
theorem d_T_hasPlace_14 : decode prog_5_method_14_code 14 = .ok (.bipush 12, 2) := by decide +kernel
theorem d_T_hasPlace_16 : decode prog_5_method_14_code 16 = .ok (.if_icmp .gt 7, 3) := by decide +kernel
theorem d_T_hasPlace_19 : decode prog_5_method_14_code 19 = .ok (.iconst 1, 1) := by decide +kernel
theorem d_T_hasPlace_20 : decode prog_5_method_14_code 20 = .ok (.goto 4, 3) := by decide +kernel
theorem d_T_hasPlace_23 : decode prog_5_method_14_code 23 = .ok (.iconst 0, 1) := by decide +kernel
theorem d_T_hasPlace_24 : decode prog_5_method_14_code 24 = .ok (.ireturn, 1) := by decide +kernel
theorem d_T_twelfths_0 : decode prog_5_method_5_code 0 = .ok (.aload_n 0, 1) := by decide +kernel
theorem d_T_twelfths_1 : decode prog_5_method_5_code 1 = .ok (.iload_n 1, 1) := by decide +kernel
theorem d_T_twelfths_2 : decode prog_5_method_5_code 2 = .ok (.iload_n 2, 1) := by decide +kernel
theorem d_T_twelfths_3 : decode prog_5_method_5_code 3 = .ok (.invokevirtual 37, 3) := by decide +kernel
theorem d_T_twelfths_6 : decode prog_5_method_5_code 6 = .ok (.ifCond .ne 5, 3) := by decide +kernel
theorem d_T_twelfths_9 : decode prog_5_method_5_code 9 = .ok (.iconst 0, 1) := by decide +kernel
theorem d_T_twelfths_10 : decode prog_5_method_5_code 10 = .ok (.ireturn, 1) := by decide +kernel
theorem d_T_twelfths_11 : decode prog_5_method_5_code 11 = .ok (.aload_n 0, 1) := by decide +kernel
theorem d_T_twelfths_12 : decode prog_5_method_5_code 12 = .ok (.getfield 20, 3) := by decide +kernel
theorem d_T_twelfths_15 : decode prog_5_method_5_code 15 = .ok (.iload_n 1, 1) := by decide +kernel
theorem d_T_twelfths_16 : decode prog_5_method_5_code 16 = .ok (.aaload, 1) := by decide +kernel
theorem d_T_twelfths_17 : decode prog_5_method_5_code 17 = .ok (.iload_n 2, 1) := by decide +kernel
theorem d_T_twelfths_18 : decode prog_5_method_5_code 18 = .ok (.iaload, 1) := by decide +kernel
theorem d_T_twelfths_19 : decode prog_5_method_5_code 19 = .ok (.iconst 4, 1) := by decide +kernel
theorem d_T_twelfths_20 : decode prog_5_method_5_code 20 = .ok (.iload_n 3, 1) := by decide +kernel
theorem d_T_twelfths_21 : decode prog_5_method_5_code 21 = .ok (.imul, 1) := by decide +kernel
theorem d_T_twelfths_22 : decode prog_5_method_5_code 22 = .ok (.ishr, 1) := by decide +kernel
theorem d_T_twelfths_23 : decode prog_5_method_5_code 23 = .ok (.bipush 15, 2) := by decide +kernel
theorem d_T_twelfths_25 : decode prog_5_method_5_code 25 = .ok (.iand, 1) := by decide +kernel
theorem d_T_twelfths_26 : decode prog_5_method_5_code 26 = .ok (.ireturn, 1) := by decide +kernel
theorem d_T_together_0 : decode prog_5_method_7_code 0 = .ok (.iconst 0, 1) := by decide +kernel
theorem d_T_together_1 : decode prog_5_method_7_code 1 = .ok (.istore_n 3, 1) := by decide +kernel
theorem d_T_together_2 : decode prog_5_method_7_code 2 = .ok (.iconst 0, 1) := by decide +kernel
theorem d_T_together_3 : decode prog_5_method_7_code 3 = .ok (.istore 4, 2) := by decide +kernel
theorem d_T_together_5 : decode prog_5_method_7_code 5 = .ok (.iload 4, 2) := by decide +kernel
theorem d_T_together_7 : decode prog_5_method_7_code 7 = .ok (.iconst 3, 1) := by decide +kernel
theorem d_T_together_8 : decode prog_5_method_7_code 8 = .ok (.if_icmp .ge 20, 3) := by decide +kernel
theorem d_T_together_11 : decode prog_5_method_7_code 11 = .ok (.iload_n 3, 1) := by decide +kernel
theorem d_T_together_12 : decode prog_5_method_7_code 12 = .ok (.aload_n 0, 1) := by decide +kernel
theorem d_T_together_13 : decode prog_5_method_7_code 13 = .ok (.iload_n 1, 1) := by decide +kernel
theorem d_T_together_14 : decode prog_5_method_7_code 14 = .ok (.iload_n 2, 1) := by decide +kernel
theorem d_T_together_15 : decode prog_5_method_7_code 15 = .ok (.iload 4, 2) := by decide +kernel
theorem d_T_together_17 : decode prog_5_method_7_code 17 = .ok (.invokevirtual 41, 3) := by decide +kernel
theorem d_T_together_20 : decode prog_5_method_7_code 20 = .ok (.iadd, 1) := by decide +kernel
theorem d_T_together_21 : decode prog_5_method_7_code 21 = .ok (.istore_n 3, 1) := by decide +kernel
theorem d_T_together_22 : decode prog_5_method_7_code 22 = .ok (.iinc 4 1, 3) := by decide +kernel
theorem d_T_together_25 : decode prog_5_method_7_code 25 = .ok (.goto (-20), 3) := by decide +kernel
theorem d_T_together_28 : decode prog_5_method_7_code 28 = .ok (.iload_n 3, 1) := by decide +kernel
theorem d_T_together_29 : decode prog_5_method_7_code 29 = .ok (.ireturn, 1) := by decide +kernel
theorem d_T_setTwelfths_0 : decode prog_5_method_6_code 0 = .ok (.aload_n 0, 1) := by decide +kernel
theorem d_T_setTwelfths_1 : decode prog_5_method_6_code 1 = .ok (.iload_n 1, 1) := by decide +kernel
theorem d_T_setTwelfths_2 : decode prog_5_method_6_code 2 = .ok (.iload_n 2, 1) := by decide +kernel
theorem d_T_setTwelfths_3 : decode prog_5_method_6_code 3 = .ok (.invokevirtual 37, 3) := by decide +kernel
theorem d_T_setTwelfths_6 : decode prog_5_method_6_code 6 = .ok (.ifCond .ne 4, 3) := by decide +kernel
theorem d_T_setTwelfths_9 : decode prog_5_method_6_code 9 = .ok (.return_, 1) := by decide +kernel
theorem d_T_setTwelfths_10 : decode prog_5_method_6_code 10 = .ok (.aload_n 0, 1) := by decide +kernel
theorem d_T_setTwelfths_11 : decode prog_5_method_6_code 11 = .ok (.getfield 20, 3) := by decide +kernel
theorem d_T_setTwelfths_14 : decode prog_5_method_6_code 14 = .ok (.iload_n 1, 1) := by decide +kernel
theorem d_T_setTwelfths_15 : decode prog_5_method_6_code 15 = .ok (.aaload, 1) := by decide +kernel
theorem d_T_setTwelfths_16 : decode prog_5_method_6_code 16 = .ok (.iload_n 2, 1) := by decide +kernel
theorem d_T_setTwelfths_17 : decode prog_5_method_6_code 17 = .ok (.iaload, 1) := by decide +kernel
theorem d_T_setTwelfths_18 : decode prog_5_method_6_code 18 = .ok (.bipush 15, 2) := by decide +kernel
theorem d_T_setTwelfths_20 : decode prog_5_method_6_code 20 = .ok (.iconst 4, 1) := by decide +kernel
theorem d_T_setTwelfths_21 : decode prog_5_method_6_code 21 = .ok (.iload_n 3, 1) := by decide +kernel
theorem d_T_setTwelfths_22 : decode prog_5_method_6_code 22 = .ok (.imul, 1) := by decide +kernel
theorem d_T_setTwelfths_23 : decode prog_5_method_6_code 23 = .ok (.ishl, 1) := by decide +kernel
theorem d_T_setTwelfths_24 : decode prog_5_method_6_code 24 = .ok (.iconst (-1), 1) := by decide +kernel
theorem d_T_setTwelfths_25 : decode prog_5_method_6_code 25 = .ok (.ixor, 1) := by decide +kernel
theorem d_T_setTwelfths_26 : decode prog_5_method_6_code 26 = .ok (.iand, 1) := by decide +kernel
theorem d_T_setTwelfths_27 : decode prog_5_method_6_code 27 = .ok (.istore 5, 2) := by decide +kernel
theorem d_T_setTwelfths_29 : decode prog_5_method_6_code 29 = .ok (.aload_n 0, 1) := by decide +kernel
theorem d_T_setTwelfths_30 : decode prog_5_method_6_code 30 = .ok (.getfield 20, 3) := by decide +kernel
theorem d_T_setTwelfths_33 : decode prog_5_method_6_code 33 = .ok (.iload_n 1, 1) := by decide +kernel
theorem d_T_setTwelfths_34 : decode prog_5_method_6_code 34 = .ok (.aaload, 1) := by decide +kernel
theorem d_T_setTwelfths_35 : decode prog_5_method_6_code 35 = .ok (.iload_n 2, 1) := by decide +kernel
theorem d_T_setTwelfths_36 : decode prog_5_method_6_code 36 = .ok (.iload 5, 2) := by decide +kernel
theorem d_T_setTwelfths_38 : decode prog_5_method_6_code 38 = .ok (.iload 4, 2) := by decide +kernel
theorem d_T_setTwelfths_40 : decode prog_5_method_6_code 40 = .ok (.iconst 4, 1) := by decide +kernel
theorem d_T_setTwelfths_41 : decode prog_5_method_6_code 41 = .ok (.iload_n 3, 1) := by decide +kernel
theorem d_T_setTwelfths_42 : decode prog_5_method_6_code 42 = .ok (.imul, 1) := by decide +kernel
theorem d_T_setTwelfths_43 : decode prog_5_method_6_code 43 = .ok (.ishl, 1) := by decide +kernel
theorem d_T_setTwelfths_44 : decode prog_5_method_6_code 44 = .ok (.ior, 1) := by decide +kernel
theorem d_T_setTwelfths_45 : decode prog_5_method_6_code 45 = .ok (.iastore, 1) := by decide +kernel
theorem d_T_setTwelfths_46 : decode prog_5_method_6_code 46 = .ok (.return_, 1) := by decide +kernel
theorem d_T_allNeededBy_0 : decode prog_5_method_9_code 0 = .ok (.aload_n 0, 1) := by decide +kernel
theorem d_T_allNeededBy_1 : decode prog_5_method_9_code 1 = .ok (.iload_n 1, 1) := by decide +kernel
theorem d_T_allNeededBy_2 : decode prog_5_method_9_code 2 = .ok (.invokevirtual 33, 3) := by decide +kernel
theorem d_T_allNeededBy_5 : decode prog_5_method_9_code 5 = .ok (.ifCond .eq 12, 3) := by decide +kernel
theorem d_T_allNeededBy_8 : decode prog_5_method_9_code 8 = .ok (.aload_n 0, 1) := by decide +kernel
theorem d_T_allNeededBy_9 : decode prog_5_method_9_code 9 = .ok (.getfield 15, 3) := by decide +kernel
theorem d_T_allNeededBy_12 : decode prog_5_method_9_code 12 = .ok (.iload_n 1, 1) := by decide +kernel
theorem d_T_allNeededBy_13 : decode prog_5_method_9_code 13 = .ok (.iaload, 1) := by decide +kernel
theorem d_T_allNeededBy_14 : decode prog_5_method_9_code 14 = .ok (.goto 4, 3) := by decide +kernel
theorem d_T_allNeededBy_17 : decode prog_5_method_9_code 17 = .ok (.iconst 0, 1) := by decide +kernel
theorem d_T_allNeededBy_18 : decode prog_5_method_9_code 18 = .ok (.istore_n 2, 1) := by decide +kernel
theorem d_T_allNeededBy_19 : decode prog_5_method_9_code 19 = .ok (.iconst 0, 1) := by decide +kernel
theorem d_T_allNeededBy_20 : decode prog_5_method_9_code 20 = .ok (.istore_n 3, 1) := by decide +kernel
theorem d_T_allNeededBy_21 : decode prog_5_method_9_code 21 = .ok (.iload_n 3, 1) := by decide +kernel
theorem d_T_allNeededBy_22 : decode prog_5_method_9_code 22 = .ok (.iconst 5, 1) := by decide +kernel
theorem d_T_allNeededBy_23 : decode prog_5_method_9_code 23 = .ok (.if_icmp .ge 47, 3) := by decide +kernel
theorem d_T_allNeededBy_26 : decode prog_5_method_9_code 26 = .ok (.iconst 1, 1) := by decide +kernel
theorem d_T_allNeededBy_27 : decode prog_5_method_9_code 27 = .ok (.istore 4, 2) := by decide +kernel
theorem d_T_allNeededBy_29 : decode prog_5_method_9_code 29 = .ok (.iload 4, 2) := by decide +kernel
theorem d_T_allNeededBy_31 : decode prog_5_method_9_code 31 = .ok (.iconst 5, 1) := by decide +kernel
theorem d_T_allNeededBy_32 : decode prog_5_method_9_code 32 = .ok (.if_icmp .gt 32, 3) := by decide +kernel
theorem d_T_allNeededBy_35 : decode prog_5_method_9_code 35 = .ok (.iload_n 2, 1) := by decide +kernel
theorem d_T_allNeededBy_36 : decode prog_5_method_9_code 36 = .ok (.iload_n 2, 1) := by decide +kernel
theorem d_T_allNeededBy_37 : decode prog_5_method_9_code 37 = .ok (.iload 4, 2) := by decide +kernel
theorem d_T_allNeededBy_39 : decode prog_5_method_9_code 39 = .ok (.invokestatic 54, 3) := by decide +kernel
theorem d_T_allNeededBy_42 : decode prog_5_method_9_code 42 = .ok (.ifCond .eq 13, 3) := by decide +kernel
theorem d_T_allNeededBy_45 : decode prog_5_method_9_code 45 = .ok (.aload_n 0, 1) := by decide +kernel
theorem d_T_allNeededBy_46 : decode prog_5_method_9_code 46 = .ok (.getfield 15, 3) := by decide +kernel
theorem d_T_allNeededBy_49 : decode prog_5_method_9_code 49 = .ok (.iload 4, 2) := by decide +kernel
theorem d_T_allNeededBy_51 : decode prog_5_method_9_code 51 = .ok (.iaload, 1) := by decide +kernel
theorem d_T_allNeededBy_52 : decode prog_5_method_9_code 52 = .ok (.goto 4, 3) := by decide +kernel
theorem d_T_allNeededBy_55 : decode prog_5_method_9_code 55 = .ok (.iconst 0, 1) := by decide +kernel
theorem d_T_allNeededBy_56 : decode prog_5_method_9_code 56 = .ok (.ior, 1) := by decide +kernel
theorem d_T_allNeededBy_57 : decode prog_5_method_9_code 57 = .ok (.istore_n 2, 1) := by decide +kernel
theorem d_T_allNeededBy_58 : decode prog_5_method_9_code 58 = .ok (.iinc 4 1, 3) := by decide +kernel
theorem d_T_allNeededBy_61 : decode prog_5_method_9_code 61 = .ok (.goto (-32), 3) := by decide +kernel
theorem d_T_allNeededBy_64 : decode prog_5_method_9_code 64 = .ok (.iinc 3 1, 3) := by decide +kernel
theorem d_T_allNeededBy_67 : decode prog_5_method_9_code 67 = .ok (.goto (-46), 3) := by decide +kernel
theorem d_T_allNeededBy_70 : decode prog_5_method_9_code 70 = .ok (.iload_n 2, 1) := by decide +kernel
theorem d_T_allNeededBy_71 : decode prog_5_method_9_code 71 = .ok (.ireturn, 1) := by decide +kernel
theorem d_T_addNeed_0 : decode prog_5_method_8_code 0 = .ok (.aload_n 0, 1) := by decide +kernel
theorem d_T_addNeed_1 : decode prog_5_method_8_code 1 = .ok (.iload_n 1, 1) := by decide +kernel
theorem d_T_addNeed_2 : decode prog_5_method_8_code 2 = .ok (.invokevirtual 33, 3) := by decide +kernel
theorem d_T_addNeed_5 : decode prog_5_method_8_code 5 = .ok (.ifCond .ne 5, 3) := by decide +kernel
theorem d_T_addNeed_8 : decode prog_5_method_8_code 8 = .ok (.iconst (-1), 1) := by decide +kernel
theorem d_T_addNeed_9 : decode prog_5_method_8_code 9 = .ok (.ireturn, 1) := by decide +kernel
theorem d_T_addNeed_10 : decode prog_5_method_8_code 10 = .ok (.aload_n 0, 1) := by decide +kernel
theorem d_T_addNeed_11 : decode prog_5_method_8_code 11 = .ok (.getfield 15, 3) := by decide +kernel
theorem d_T_addNeed_14 : decode prog_5_method_8_code 14 = .ok (.iload_n 1, 1) := by decide +kernel
theorem d_T_addNeed_15 : decode prog_5_method_8_code 15 = .ok (.dup2, 1) := by decide +kernel
theorem d_T_addNeed_16 : decode prog_5_method_8_code 16 = .ok (.iaload, 1) := by decide +kernel
theorem d_T_addNeed_17 : decode prog_5_method_8_code 17 = .ok (.iload_n 2, 1) := by decide +kernel
theorem d_T_addNeed_18 : decode prog_5_method_8_code 18 = .ok (.invokestatic 45, 3) := by decide +kernel
theorem d_T_addNeed_21 : decode prog_5_method_8_code 21 = .ok (.ior, 1) := by decide +kernel
theorem d_T_addNeed_22 : decode prog_5_method_8_code 22 = .ok (.iastore, 1) := by decide +kernel
theorem d_T_addNeed_23 : decode prog_5_method_8_code 23 = .ok (.aload_n 0, 1) := by decide +kernel
theorem d_T_addNeed_24 : decode prog_5_method_8_code 24 = .ok (.getfield 15, 3) := by decide +kernel
theorem d_T_addNeed_27 : decode prog_5_method_8_code 27 = .ok (.iload_n 1, 1) := by decide +kernel
theorem d_T_addNeed_28 : decode prog_5_method_8_code 28 = .ok (.iaload, 1) := by decide +kernel
theorem d_T_addNeed_29 : decode prog_5_method_8_code 29 = .ok (.invokestatic 49, 3) := by decide +kernel
theorem d_T_addNeed_32 : decode prog_5_method_8_code 32 = .ok (.ireturn, 1) := by decide +kernel
theorem d_T_isOpen_0 : decode prog_5_method_11_code 0 = .ok (.aload_n 0, 1) := by decide +kernel
theorem d_T_isOpen_1 : decode prog_5_method_11_code 1 = .ok (.iload_n 1, 1) := by decide +kernel
theorem d_T_isOpen_2 : decode prog_5_method_11_code 2 = .ok (.invokevirtual 33, 3) := by decide +kernel
theorem d_T_isOpen_5 : decode prog_5_method_11_code 5 = .ok (.ifCond .eq 12, 3) := by decide +kernel
theorem d_T_isOpen_8 : decode prog_5_method_11_code 8 = .ok (.iload_n 2, 1) := by decide +kernel
theorem d_T_isOpen_9 : decode prog_5_method_11_code 9 = .ok (.iload_n 1, 1) := by decide +kernel
theorem d_T_isOpen_10 : decode prog_5_method_11_code 10 = .ok (.invokestatic 57, 3) := by decide +kernel
theorem d_T_isOpen_13 : decode prog_5_method_11_code 13 = .ok (.iconst (-1), 1) := by decide +kernel
theorem d_T_isOpen_14 : decode prog_5_method_11_code 14 = .ok (.if_icmp .eq 5, 3) := by decide +kernel
theorem d_T_isOpen_17 : decode prog_5_method_11_code 17 = .ok (.iconst 0, 1) := by decide +kernel
theorem d_T_isOpen_18 : decode prog_5_method_11_code 18 = .ok (.ireturn, 1) := by decide +kernel
theorem d_T_isOpen_19 : decode prog_5_method_11_code 19 = .ok (.iconst 1, 1) := by decide +kernel
theorem d_T_isOpen_20 : decode prog_5_method_11_code 20 = .ok (.istore_n 3, 1) := by decide +kernel
theorem d_T_isOpen_21 : decode prog_5_method_11_code 21 = .ok (.iload_n 3, 1) := by decide +kernel
theorem d_T_isOpen_22 : decode prog_5_method_11_code 22 = .ok (.iconst 5, 1) := by decide +kernel
theorem d_T_isOpen_23 : decode prog_5_method_11_code 23 = .ok (.if_icmp .gt 33, 3) := by decide +kernel
theorem d_T_isOpen_26 : decode prog_5_method_11_code 26 = .ok (.aload_n 0, 1) := by decide +kernel
theorem d_T_isOpen_27 : decode prog_5_method_11_code 27 = .ok (.getfield 15, 3) := by decide +kernel
theorem d_T_isOpen_30 : decode prog_5_method_11_code 30 = .ok (.iload_n 1, 1) := by decide +kernel
theorem d_T_isOpen_31 : decode prog_5_method_11_code 31 = .ok (.iaload, 1) := by decide +kernel
theorem d_T_isOpen_32 : decode prog_5_method_11_code 32 = .ok (.iload_n 3, 1) := by decide +kernel
theorem d_T_isOpen_33 : decode prog_5_method_11_code 33 = .ok (.invokestatic 54, 3) := by decide +kernel
theorem d_T_isOpen_36 : decode prog_5_method_11_code 36 = .ok (.ifCond .eq 14, 3) := by decide +kernel
theorem d_T_isOpen_39 : decode prog_5_method_11_code 39 = .ok (.iload_n 2, 1) := by decide +kernel
theorem d_T_isOpen_40 : decode prog_5_method_11_code 40 = .ok (.iload_n 3, 1) := by decide +kernel
theorem d_T_isOpen_41 : decode prog_5_method_11_code 41 = .ok (.invokestatic 57, 3) := by decide +kernel
theorem d_T_isOpen_44 : decode prog_5_method_11_code 44 = .ok (.iconst (-1), 1) := by decide +kernel
theorem d_T_isOpen_45 : decode prog_5_method_11_code 45 = .ok (.if_icmp .ne 5, 3) := by decide +kernel
theorem d_T_isOpen_48 : decode prog_5_method_11_code 48 = .ok (.iconst 0, 1) := by decide +kernel
theorem d_T_isOpen_49 : decode prog_5_method_11_code 49 = .ok (.ireturn, 1) := by decide +kernel
theorem d_T_isOpen_50 : decode prog_5_method_11_code 50 = .ok (.iinc 3 1, 3) := by decide +kernel
theorem d_T_isOpen_53 : decode prog_5_method_11_code 53 = .ok (.goto (-32), 3) := by decide +kernel
theorem d_T_isOpen_56 : decode prog_5_method_11_code 56 = .ok (.iconst 1, 1) := by decide +kernel
theorem d_T_isOpen_57 : decode prog_5_method_11_code 57 = .ok (.ireturn, 1) := by decide +kernel
theorem d_T_canAnswer_0 : decode prog_5_method_12_code 0 = .ok (.iconst 1, 1) := by decide +kernel
theorem d_T_canAnswer_1 : decode prog_5_method_12_code 1 = .ok (.istore 4, 2) := by decide +kernel
theorem d_T_canAnswer_3 : decode prog_5_method_12_code 3 = .ok (.iload 4, 2) := by decide +kernel
theorem d_T_canAnswer_5 : decode prog_5_method_12_code 5 = .ok (.iload_n 3, 1) := by decide +kernel
theorem d_T_canAnswer_6 : decode prog_5_method_12_code 6 = .ok (.if_icmp .gt 22, 3) := by decide +kernel
theorem d_T_canAnswer_9 : decode prog_5_method_12_code 9 = .ok (.aload_n 0, 1) := by decide +kernel
theorem d_T_canAnswer_10 : decode prog_5_method_12_code 10 = .ok (.iload_n 1, 1) := by decide +kernel
theorem d_T_canAnswer_11 : decode prog_5_method_12_code 11 = .ok (.iload 4, 2) := by decide +kernel
theorem d_T_canAnswer_13 : decode prog_5_method_12_code 13 = .ok (.iload_n 2, 1) := by decide +kernel
theorem d_T_canAnswer_14 : decode prog_5_method_12_code 14 = .ok (.invokevirtual 41, 3) := by decide +kernel
theorem d_T_canAnswer_17 : decode prog_5_method_12_code 17 = .ok (.ifCond .le 5, 3) := by decide +kernel
theorem d_T_canAnswer_20 : decode prog_5_method_12_code 20 = .ok (.iconst 1, 1) := by decide +kernel
theorem d_T_canAnswer_21 : decode prog_5_method_12_code 21 = .ok (.ireturn, 1) := by decide +kernel
theorem d_T_canAnswer_22 : decode prog_5_method_12_code 22 = .ok (.iinc 4 1, 3) := by decide +kernel
theorem d_T_canAnswer_25 : decode prog_5_method_12_code 25 = .ok (.goto (-22), 3) := by decide +kernel
theorem d_T_canAnswer_28 : decode prog_5_method_12_code 28 = .ok (.iconst 0, 1) := by decide +kernel
theorem d_T_canAnswer_29 : decode prog_5_method_12_code 29 = .ok (.ireturn, 1) := by decide +kernel
theorem d_T_price_0 : decode prog_5_method_4_code 0 = .ok (.aload_n 0, 1) := by decide +kernel
theorem d_T_price_1 : decode prog_5_method_4_code 1 = .ok (.iload_n 1, 1) := by decide +kernel
theorem d_T_price_2 : decode prog_5_method_4_code 2 = .ok (.invokevirtual 33, 3) := by decide +kernel
theorem d_T_price_5 : decode prog_5_method_4_code 5 = .ok (.ifCond .eq 12, 3) := by decide +kernel
theorem d_T_price_8 : decode prog_5_method_4_code 8 = .ok (.aload_n 0, 1) := by decide +kernel
theorem d_T_price_9 : decode prog_5_method_4_code 9 = .ok (.getfield 9, 3) := by decide +kernel
theorem d_T_price_12 : decode prog_5_method_4_code 12 = .ok (.iload_n 1, 1) := by decide +kernel
theorem d_T_price_13 : decode prog_5_method_4_code 13 = .ok (.iaload, 1) := by decide +kernel
theorem d_T_price_14 : decode prog_5_method_4_code 14 = .ok (.goto 4, 3) := by decide +kernel
theorem d_T_price_17 : decode prog_5_method_4_code 17 = .ok (.iconst 0, 1) := by decide +kernel
theorem d_T_price_18 : decode prog_5_method_4_code 18 = .ok (.ireturn, 1) := by decide +kernel
theorem d_T_unanswered_0 : decode prog_5_method_10_code 0 = .ok (.iconst 0, 1) := by decide +kernel
theorem d_T_unanswered_1 : decode prog_5_method_10_code 1 = .ok (.istore_n 2, 1) := by decide +kernel
theorem d_T_unanswered_2 : decode prog_5_method_10_code 2 = .ok (.iconst 1, 1) := by decide +kernel
theorem d_T_unanswered_3 : decode prog_5_method_10_code 3 = .ok (.istore_n 3, 1) := by decide +kernel
theorem d_T_unanswered_4 : decode prog_5_method_10_code 4 = .ok (.iload_n 3, 1) := by decide +kernel
theorem d_T_unanswered_5 : decode prog_5_method_10_code 5 = .ok (.aload_n 0, 1) := by decide +kernel
theorem d_T_unanswered_6 : decode prog_5_method_10_code 6 = .ok (.getfield 23, 3) := by decide +kernel
theorem d_T_unanswered_9 : decode prog_5_method_10_code 9 = .ok (.if_icmp .gt 26, 3) := by decide +kernel
theorem d_T_unanswered_12 : decode prog_5_method_10_code 12 = .ok (.iload_n 2, 1) := by decide +kernel
theorem d_T_unanswered_13 : decode prog_5_method_10_code 13 = .ok (.iload_n 1, 1) := by decide +kernel
theorem d_T_unanswered_14 : decode prog_5_method_10_code 14 = .ok (.iload_n 3, 1) := by decide +kernel
theorem d_T_unanswered_15 : decode prog_5_method_10_code 15 = .ok (.invokestatic 57, 3) := by decide +kernel
theorem d_T_unanswered_18 : decode prog_5_method_10_code 18 = .ok (.iconst (-1), 1) := by decide +kernel
theorem d_T_unanswered_19 : decode prog_5_method_10_code 19 = .ok (.if_icmp .ne 7, 3) := by decide +kernel
theorem d_T_unanswered_22 : decode prog_5_method_10_code 22 = .ok (.iconst 1, 1) := by decide +kernel
theorem d_T_unanswered_23 : decode prog_5_method_10_code 23 = .ok (.goto 4, 3) := by decide +kernel
theorem d_T_unanswered_26 : decode prog_5_method_10_code 26 = .ok (.iconst 0, 1) := by decide +kernel
theorem d_T_unanswered_27 : decode prog_5_method_10_code 27 = .ok (.iadd, 1) := by decide +kernel
theorem d_T_unanswered_28 : decode prog_5_method_10_code 28 = .ok (.istore_n 2, 1) := by decide +kernel
theorem d_T_unanswered_29 : decode prog_5_method_10_code 29 = .ok (.iinc 3 1, 3) := by decide +kernel
theorem d_T_unanswered_32 : decode prog_5_method_10_code 32 = .ok (.goto (-28), 3) := by decide +kernel
theorem d_T_unanswered_35 : decode prog_5_method_10_code 35 = .ok (.iload_n 2, 1) := by decide +kernel
theorem d_T_unanswered_36 : decode prog_5_method_10_code 36 = .ok (.ireturn, 1) := by decide +kernel
theorem d_T_tellsApart_0 : decode prog_5_method_13_code 0 = .ok (.aload_n 0, 1) := by decide +kernel
theorem d_T_tellsApart_1 : decode prog_5_method_13_code 1 = .ok (.iload_n 1, 1) := by decide +kernel
theorem d_T_tellsApart_2 : decode prog_5_method_13_code 2 = .ok (.invokevirtual 33, 3) := by decide +kernel
theorem d_T_tellsApart_5 : decode prog_5_method_13_code 5 = .ok (.ifCond .ne 5, 3) := by decide +kernel
theorem d_T_tellsApart_8 : decode prog_5_method_13_code 8 = .ok (.iconst 0, 1) := by decide +kernel
theorem d_T_tellsApart_9 : decode prog_5_method_13_code 9 = .ok (.ireturn, 1) := by decide +kernel
theorem d_T_tellsApart_10 : decode prog_5_method_13_code 10 = .ok (.iconst 0, 1) := by decide +kernel
theorem d_T_tellsApart_11 : decode prog_5_method_13_code 11 = .ok (.istore_n 3, 1) := by decide +kernel
theorem d_T_tellsApart_12 : decode prog_5_method_13_code 12 = .ok (.iconst 1, 1) := by decide +kernel
theorem d_T_tellsApart_13 : decode prog_5_method_13_code 13 = .ok (.istore 4, 2) := by decide +kernel
theorem d_T_tellsApart_15 : decode prog_5_method_13_code 15 = .ok (.iload 4, 2) := by decide +kernel
theorem d_T_tellsApart_17 : decode prog_5_method_13_code 17 = .ok (.bipush 12, 2) := by decide +kernel
theorem d_T_tellsApart_19 : decode prog_5_method_13_code 19 = .ok (.if_icmp .gt 53, 3) := by decide +kernel
theorem d_T_tellsApart_22 : decode prog_5_method_13_code 22 = .ok (.iload_n 2, 1) := by decide +kernel
theorem d_T_tellsApart_23 : decode prog_5_method_13_code 23 = .ok (.iload 4, 2) := by decide +kernel
theorem d_T_tellsApart_25 : decode prog_5_method_13_code 25 = .ok (.invokestatic 54, 3) := by decide +kernel
theorem d_T_tellsApart_28 : decode prog_5_method_13_code 28 = .ok (.ifCond .ne 6, 3) := by decide +kernel
theorem d_T_tellsApart_31 : decode prog_5_method_13_code 31 = .ok (.goto 35, 3) := by decide +kernel
theorem d_T_tellsApart_34 : decode prog_5_method_13_code 34 = .ok (.iload_n 3, 1) := by decide +kernel
theorem d_T_tellsApart_35 : decode prog_5_method_13_code 35 = .ok (.ifCond .ne 9, 3) := by decide +kernel
theorem d_T_tellsApart_38 : decode prog_5_method_13_code 38 = .ok (.iload 4, 2) := by decide +kernel
theorem d_T_tellsApart_40 : decode prog_5_method_13_code 40 = .ok (.istore_n 3, 1) := by decide +kernel
theorem d_T_tellsApart_41 : decode prog_5_method_13_code 41 = .ok (.goto 25, 3) := by decide +kernel
theorem d_T_tellsApart_44 : decode prog_5_method_13_code 44 = .ok (.aload_n 0, 1) := by decide +kernel
theorem d_T_tellsApart_45 : decode prog_5_method_13_code 45 = .ok (.getfield 20, 3) := by decide +kernel
theorem d_T_tellsApart_48 : decode prog_5_method_13_code 48 = .ok (.iload_n 1, 1) := by decide +kernel
theorem d_T_tellsApart_49 : decode prog_5_method_13_code 49 = .ok (.aaload, 1) := by decide +kernel
theorem d_T_tellsApart_50 : decode prog_5_method_13_code 50 = .ok (.iload 4, 2) := by decide +kernel
theorem d_T_tellsApart_52 : decode prog_5_method_13_code 52 = .ok (.iaload, 1) := by decide +kernel
theorem d_T_tellsApart_53 : decode prog_5_method_13_code 53 = .ok (.aload_n 0, 1) := by decide +kernel
theorem d_T_tellsApart_54 : decode prog_5_method_13_code 54 = .ok (.getfield 20, 3) := by decide +kernel
theorem d_T_tellsApart_57 : decode prog_5_method_13_code 57 = .ok (.iload_n 1, 1) := by decide +kernel
theorem d_T_tellsApart_58 : decode prog_5_method_13_code 58 = .ok (.aaload, 1) := by decide +kernel
theorem d_T_tellsApart_59 : decode prog_5_method_13_code 59 = .ok (.iload_n 3, 1) := by decide +kernel
theorem d_T_tellsApart_60 : decode prog_5_method_13_code 60 = .ok (.iaload, 1) := by decide +kernel
theorem d_T_tellsApart_61 : decode prog_5_method_13_code 61 = .ok (.if_icmp .eq 5, 3) := by decide +kernel
theorem d_T_tellsApart_64 : decode prog_5_method_13_code 64 = .ok (.iconst 1, 1) := by decide +kernel
theorem d_T_tellsApart_65 : decode prog_5_method_13_code 65 = .ok (.ireturn, 1) := by decide +kernel
theorem d_T_tellsApart_66 : decode prog_5_method_13_code 66 = .ok (.iinc 4 1, 3) := by decide +kernel
theorem d_T_tellsApart_69 : decode prog_5_method_13_code 69 = .ok (.goto (-54), 3) := by decide +kernel
theorem d_T_tellsApart_72 : decode prog_5_method_13_code 72 = .ok (.iconst 0, 1) := by decide +kernel
theorem d_T_tellsApart_73 : decode prog_5_method_13_code 73 = .ok (.ireturn, 1) := by decide +kernel
