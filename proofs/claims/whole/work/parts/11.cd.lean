theorem d_C_addFault_0 : decode prog_3_method_5_code 0 = .ok (.aload_n 0, 1) := by decide +kernel
theorem d_C_addFault_1 : decode prog_3_method_5_code 1 = .ok (.getfield 22, 3) := by decide +kernel
theorem d_C_addFault_4 : decode prog_3_method_5_code 4 = .ok (.bipush 12, 2) := by decide +kernel
theorem d_C_addFault_6 : decode prog_3_method_5_code 6 = .ok (.if_icmp .lt 6, 3) := by decide +kernel
theorem d_C_addFault_9 : decode prog_3_method_5_code 9 = .ok (.bipush (-4), 2) := by decide +kernel
theorem d_C_addFault_11 : decode prog_3_method_5_code 11 = .ok (.ireturn, 1) := by decide +kernel
theorem d_C_addFault_12 : decode prog_3_method_5_code 12 = .ok (.aload_n 0, 1) := by decide +kernel
theorem d_C_addFault_13 : decode prog_3_method_5_code 13 = .ok (.dup, 1) := by decide +kernel
theorem d_C_addFault_14 : decode prog_3_method_5_code 14 = .ok (.getfield 22, 3) := by decide +kernel
theorem d_C_addFault_17 : decode prog_3_method_5_code 17 = .ok (.iconst 1, 1) := by decide +kernel
theorem d_C_addFault_18 : decode prog_3_method_5_code 18 = .ok (.iadd, 1) := by decide +kernel
theorem d_C_addFault_19 : decode prog_3_method_5_code 19 = .ok (.putfield 22, 3) := by decide +kernel
theorem d_C_addFault_22 : decode prog_3_method_5_code 22 = .ok (.aload_n 0, 1) := by decide +kernel
theorem d_C_addFault_23 : decode prog_3_method_5_code 23 = .ok (.dup, 1) := by decide +kernel
theorem d_C_addFault_24 : decode prog_3_method_5_code 24 = .ok (.getfield 26, 3) := by decide +kernel
theorem d_C_addFault_27 : decode prog_3_method_5_code 27 = .ok (.iconst 1, 1) := by decide +kernel
theorem d_C_addFault_28 : decode prog_3_method_5_code 28 = .ok (.iadd, 1) := by decide +kernel
theorem d_C_addFault_29 : decode prog_3_method_5_code 29 = .ok (.putfield 26, 3) := by decide +kernel
theorem d_C_addFault_32 : decode prog_3_method_5_code 32 = .ok (.aload_n 0, 1) := by decide +kernel
theorem d_C_addFault_33 : decode prog_3_method_5_code 33 = .ok (.getfield 9, 3) := by decide +kernel
theorem d_C_addFault_36 : decode prog_3_method_5_code 36 = .ok (.aload_n 0, 1) := by decide +kernel
theorem d_C_addFault_37 : decode prog_3_method_5_code 37 = .ok (.getfield 22, 3) := by decide +kernel
theorem d_C_addFault_40 : decode prog_3_method_5_code 40 = .ok (.lload_n 1, 1) := by decide +kernel
theorem d_C_addFault_41 : decode prog_3_method_5_code 41 = .ok (.ldc2_w 33, 3) := by decide +kernel
theorem d_C_addFault_44 : decode prog_3_method_5_code 44 = .ok (.lmul, 1) := by decide +kernel
theorem d_C_addFault_45 : decode prog_3_method_5_code 45 = .ok (.lastore, 1) := by decide +kernel
theorem d_C_addFault_46 : decode prog_3_method_5_code 46 = .ok (.aload_n 0, 1) := by decide +kernel
theorem d_C_addFault_47 : decode prog_3_method_5_code 47 = .ok (.getfield 22, 3) := by decide +kernel
theorem d_C_addFault_50 : decode prog_3_method_5_code 50 = .ok (.ireturn, 1) := by decide +kernel
theorem d_C_knows_0 : decode prog_3_method_2_code 0 = .ok (.iload_n 1, 1) := by decide +kernel
theorem d_C_knows_1 : decode prog_3_method_2_code 1 = .ok (.iconst 1, 1) := by decide +kernel
theorem d_C_knows_2 : decode prog_3_method_2_code 2 = .ok (.if_icmp .lt 21, 3) := by decide +kernel
theorem d_C_knows_5 : decode prog_3_method_2_code 5 = .ok (.iload_n 1, 1) := by decide +kernel
theorem d_C_knows_6 : decode prog_3_method_2_code 6 = .ok (.aload_n 0, 1) := by decide +kernel
theorem d_C_knows_7 : decode prog_3_method_2_code 7 = .ok (.getfield 22, 3) := by decide +kernel
theorem d_C_knows_10 : decode prog_3_method_2_code 10 = .ok (.if_icmp .gt 13, 3) := by decide +kernel
theorem d_C_knows_13 : decode prog_3_method_2_code 13 = .ok (.iload_n 1, 1) := by decide +kernel
theorem d_C_knows_14 : decode prog_3_method_2_code 14 = .ok (.bipush 12, 2) := by decide +kernel
theorem d_C_knows_16 : decode prog_3_method_2_code 16 = .ok (.if_icmp .gt 7, 3) := by decide +kernel
theorem d_C_knows_19 : decode prog_3_method_2_code 19 = .ok (.iconst 1, 1) := by decide +kernel
theorem d_C_knows_20 : decode prog_3_method_2_code 20 = .ok (.goto 4, 3) := by decide +kernel
theorem d_C_knows_23 : decode prog_3_method_2_code 23 = .ok (.iconst 0, 1) := by decide +kernel
theorem d_C_knows_24 : decode prog_3_method_2_code 24 = .ok (.ireturn, 1) := by decide +kernel
theorem d_C_prior_0 : decode prog_3_method_8_code 0 = .ok (.aload_n 0, 1) := by decide +kernel
theorem d_C_prior_1 : decode prog_3_method_8_code 1 = .ok (.iload_n 1, 1) := by decide +kernel
theorem d_C_prior_2 : decode prog_3_method_8_code 2 = .ok (.invokevirtual 29, 3) := by decide +kernel
theorem d_C_prior_5 : decode prog_3_method_8_code 5 = .ok (.ifCond .ne 5, 3) := by decide +kernel
theorem d_C_prior_8 : decode prog_3_method_8_code 8 = .ok (.lconst 0, 1) := by decide +kernel
theorem d_C_prior_9 : decode prog_3_method_8_code 9 = .ok (.lreturn, 1) := by decide +kernel
theorem d_C_prior_10 : decode prog_3_method_8_code 10 = .ok (.aload_n 0, 1) := by decide +kernel
theorem d_C_prior_11 : decode prog_3_method_8_code 11 = .ok (.getfield 9, 3) := by decide +kernel
theorem d_C_prior_14 : decode prog_3_method_8_code 14 = .ok (.iload_n 1, 1) := by decide +kernel
theorem d_C_prior_15 : decode prog_3_method_8_code 15 = .ok (.laload, 1) := by decide +kernel
theorem d_C_prior_16 : decode prog_3_method_8_code 16 = .ok (.aload_n 0, 1) := by decide +kernel
theorem d_C_prior_17 : decode prog_3_method_8_code 17 = .ok (.getfield 19, 3) := by decide +kernel
theorem d_C_prior_20 : decode prog_3_method_8_code 20 = .ok (.iload_n 1, 1) := by decide +kernel
theorem d_C_prior_21 : decode prog_3_method_8_code 21 = .ok (.iaload, 1) := by decide +kernel
theorem d_C_prior_22 : decode prog_3_method_8_code 22 = .ok (.iconst 5, 1) := by decide +kernel
theorem d_C_prior_23 : decode prog_3_method_8_code 23 = .ok (.invokestatic 39, 3) := by decide +kernel
theorem d_C_prior_26 : decode prog_3_method_8_code 26 = .ok (.iconst 1, 1) := by decide +kernel
theorem d_C_prior_27 : decode prog_3_method_8_code 27 = .ok (.iadd, 1) := by decide +kernel
theorem d_C_prior_28 : decode prog_3_method_8_code 28 = .ok (.i2l, 1) := by decide +kernel
theorem d_C_prior_29 : decode prog_3_method_8_code 29 = .ok (.lmul, 1) := by decide +kernel
theorem d_C_prior_30 : decode prog_3_method_8_code 30 = .ok (.lreturn, 1) := by decide +kernel
theorem d_C_isFault_0 : decode prog_3_method_3_code 0 = .ok (.aload_n 0, 1) := by decide +kernel
theorem d_C_isFault_1 : decode prog_3_method_3_code 1 = .ok (.iload_n 1, 1) := by decide +kernel
theorem d_C_isFault_2 : decode prog_3_method_3_code 2 = .ok (.invokevirtual 29, 3) := by decide +kernel
theorem d_C_isFault_5 : decode prog_3_method_3_code 5 = .ok (.ifCond .eq 16, 3) := by decide +kernel
theorem d_C_isFault_8 : decode prog_3_method_3_code 8 = .ok (.aload_n 0, 1) := by decide +kernel
theorem d_C_isFault_9 : decode prog_3_method_3_code 9 = .ok (.getfield 15, 3) := by decide +kernel
theorem d_C_isFault_12 : decode prog_3_method_3_code 12 = .ok (.iload_n 1, 1) := by decide +kernel
theorem d_C_isFault_13 : decode prog_3_method_3_code 13 = .ok (.iaload, 1) := by decide +kernel
theorem d_C_isFault_14 : decode prog_3_method_3_code 14 = .ok (.ifCond .ne 7, 3) := by decide +kernel
theorem d_C_isFault_17 : decode prog_3_method_3_code 17 = .ok (.iconst 1, 1) := by decide +kernel
theorem d_C_isFault_18 : decode prog_3_method_3_code 18 = .ok (.goto 4, 3) := by decide +kernel
theorem d_C_isFault_21 : decode prog_3_method_3_code 21 = .ok (.iconst 0, 1) := by decide +kernel
theorem d_C_isFault_22 : decode prog_3_method_3_code 22 = .ok (.ireturn, 1) := by decide +kernel
theorem d_C_hasPair_0 : decode prog_3_method_4_code 0 = .ok (.iconst 1, 1) := by decide +kernel
theorem d_C_hasPair_1 : decode prog_3_method_4_code 1 = .ok (.istore_n 2, 1) := by decide +kernel
theorem d_C_hasPair_2 : decode prog_3_method_4_code 2 = .ok (.iload_n 2, 1) := by decide +kernel
theorem d_C_hasPair_3 : decode prog_3_method_4_code 3 = .ok (.bipush 12, 2) := by decide +kernel
theorem d_C_hasPair_5 : decode prog_3_method_4_code 5 = .ok (.if_icmp .gt 21, 3) := by decide +kernel
theorem d_C_hasPair_8 : decode prog_3_method_4_code 8 = .ok (.aload_n 0, 1) := by decide +kernel
theorem d_C_hasPair_9 : decode prog_3_method_4_code 9 = .ok (.getfield 15, 3) := by decide +kernel
theorem d_C_hasPair_12 : decode prog_3_method_4_code 12 = .ok (.iload_n 2, 1) := by decide +kernel
theorem d_C_hasPair_13 : decode prog_3_method_4_code 13 = .ok (.iaload, 1) := by decide +kernel
theorem d_C_hasPair_14 : decode prog_3_method_4_code 14 = .ok (.iload_n 1, 1) := by decide +kernel
theorem d_C_hasPair_15 : decode prog_3_method_4_code 15 = .ok (.if_icmp .ne 5, 3) := by decide +kernel
theorem d_C_hasPair_18 : decode prog_3_method_4_code 18 = .ok (.iconst 1, 1) := by decide +kernel
theorem d_C_hasPair_19 : decode prog_3_method_4_code 19 = .ok (.ireturn, 1) := by decide +kernel
theorem d_C_hasPair_20 : decode prog_3_method_4_code 20 = .ok (.iinc 2 1, 3) := by decide +kernel
theorem d_C_hasPair_23 : decode prog_3_method_4_code 23 = .ok (.goto (-21), 3) := by decide +kernel
theorem d_C_hasPair_26 : decode prog_3_method_4_code 26 = .ok (.iconst 0, 1) := by decide +kernel
theorem d_C_hasPair_27 : decode prog_3_method_4_code 27 = .ok (.ireturn, 1) := by decide +kernel
theorem d_C_addPair_0 : decode prog_3_method_6_code 0 = .ok (.aload_n 0, 1) := by decide +kernel
theorem d_C_addPair_1 : decode prog_3_method_6_code 1 = .ok (.getfield 22, 3) := by decide +kernel
theorem d_C_addPair_4 : decode prog_3_method_6_code 4 = .ok (.bipush 12, 2) := by decide +kernel
theorem d_C_addPair_6 : decode prog_3_method_6_code 6 = .ok (.if_icmp .ge 19, 3) := by decide +kernel
theorem d_C_addPair_9 : decode prog_3_method_6_code 9 = .ok (.aload_n 0, 1) := by decide +kernel
theorem d_C_addPair_10 : decode prog_3_method_6_code 10 = .ok (.iload_n 1, 1) := by decide +kernel
theorem d_C_addPair_11 : decode prog_3_method_6_code 11 = .ok (.invokevirtual 29, 3) := by decide +kernel
theorem d_C_addPair_14 : decode prog_3_method_6_code 14 = .ok (.ifCond .eq 11, 3) := by decide +kernel
theorem d_C_addPair_17 : decode prog_3_method_6_code 17 = .ok (.aload_n 0, 1) := by decide +kernel
theorem d_C_addPair_18 : decode prog_3_method_6_code 18 = .ok (.iload_n 2, 1) := by decide +kernel
theorem d_C_addPair_19 : decode prog_3_method_6_code 19 = .ok (.invokevirtual 29, 3) := by decide +kernel
theorem d_C_addPair_22 : decode prog_3_method_6_code 22 = .ok (.ifCond .ne 6, 3) := by decide +kernel
theorem d_C_addPair_25 : decode prog_3_method_6_code 25 = .ok (.bipush (-4), 2) := by decide +kernel
theorem d_C_addPair_27 : decode prog_3_method_6_code 27 = .ok (.ireturn, 1) := by decide +kernel
theorem d_C_addPair_28 : decode prog_3_method_6_code 28 = .ok (.aload_n 0, 1) := by decide +kernel
theorem d_C_addPair_29 : decode prog_3_method_6_code 29 = .ok (.dup, 1) := by decide +kernel
theorem d_C_addPair_30 : decode prog_3_method_6_code 30 = .ok (.getfield 22, 3) := by decide +kernel
theorem d_C_addPair_33 : decode prog_3_method_6_code 33 = .ok (.iconst 1, 1) := by decide +kernel
theorem d_C_addPair_34 : decode prog_3_method_6_code 34 = .ok (.iadd, 1) := by decide +kernel
theorem d_C_addPair_35 : decode prog_3_method_6_code 35 = .ok (.putfield 22, 3) := by decide +kernel
theorem d_C_addPair_38 : decode prog_3_method_6_code 38 = .ok (.aload_n 0, 1) := by decide +kernel
theorem d_C_addPair_39 : decode prog_3_method_6_code 39 = .ok (.getfield 9, 3) := by decide +kernel
theorem d_C_addPair_42 : decode prog_3_method_6_code 42 = .ok (.aload_n 0, 1) := by decide +kernel
theorem d_C_addPair_43 : decode prog_3_method_6_code 43 = .ok (.getfield 22, 3) := by decide +kernel
theorem d_C_addPair_46 : decode prog_3_method_6_code 46 = .ok (.aload_n 0, 1) := by decide +kernel
theorem d_C_addPair_47 : decode prog_3_method_6_code 47 = .ok (.getfield 9, 3) := by decide +kernel
theorem d_C_addPair_50 : decode prog_3_method_6_code 50 = .ok (.iload_n 1, 1) := by decide +kernel
theorem d_C_addPair_51 : decode prog_3_method_6_code 51 = .ok (.laload, 1) := by decide +kernel
theorem d_C_addPair_52 : decode prog_3_method_6_code 52 = .ok (.ldc2_w 33, 3) := by decide +kernel
theorem d_C_addPair_55 : decode prog_3_method_6_code 55 = .ok (.ldiv, 1) := by decide +kernel
theorem d_C_addPair_56 : decode prog_3_method_6_code 56 = .ok (.aload_n 0, 1) := by decide +kernel
theorem d_C_addPair_57 : decode prog_3_method_6_code 57 = .ok (.getfield 9, 3) := by decide +kernel
theorem d_C_addPair_60 : decode prog_3_method_6_code 60 = .ok (.iload_n 2, 1) := by decide +kernel
theorem d_C_addPair_61 : decode prog_3_method_6_code 61 = .ok (.laload, 1) := by decide +kernel
theorem d_C_addPair_62 : decode prog_3_method_6_code 62 = .ok (.ldc2_w 33, 3) := by decide +kernel
theorem d_C_addPair_65 : decode prog_3_method_6_code 65 = .ok (.ldiv, 1) := by decide +kernel
theorem d_C_addPair_66 : decode prog_3_method_6_code 66 = .ok (.lmul, 1) := by decide +kernel
theorem d_C_addPair_67 : decode prog_3_method_6_code 67 = .ok (.lastore, 1) := by decide +kernel
theorem d_C_addPair_68 : decode prog_3_method_6_code 68 = .ok (.aload_n 0, 1) := by decide +kernel
theorem d_C_addPair_69 : decode prog_3_method_6_code 69 = .ok (.getfield 15, 3) := by decide +kernel
theorem d_C_addPair_72 : decode prog_3_method_6_code 72 = .ok (.aload_n 0, 1) := by decide +kernel
theorem d_C_addPair_73 : decode prog_3_method_6_code 73 = .ok (.getfield 22, 3) := by decide +kernel
theorem d_C_addPair_76 : decode prog_3_method_6_code 76 = .ok (.iload_n 1, 1) := by decide +kernel
theorem d_C_addPair_77 : decode prog_3_method_6_code 77 = .ok (.invokestatic 35, 3) := by decide +kernel
theorem d_C_addPair_80 : decode prog_3_method_6_code 80 = .ok (.iload_n 2, 1) := by decide +kernel
theorem d_C_addPair_81 : decode prog_3_method_6_code 81 = .ok (.invokestatic 35, 3) := by decide +kernel
theorem d_C_addPair_84 : decode prog_3_method_6_code 84 = .ok (.ior, 1) := by decide +kernel
theorem d_C_addPair_85 : decode prog_3_method_6_code 85 = .ok (.iastore, 1) := by decide +kernel
theorem d_C_addPair_86 : decode prog_3_method_6_code 86 = .ok (.aload_n 0, 1) := by decide +kernel
theorem d_C_addPair_87 : decode prog_3_method_6_code 87 = .ok (.getfield 22, 3) := by decide +kernel
theorem d_C_addPair_90 : decode prog_3_method_6_code 90 = .ok (.ireturn, 1) := by decide +kernel
theorem d_C_countLearned_0 : decode prog_3_method_7_code 0 = .ok (.iload_n 1, 1) := by decide +kernel
theorem d_C_countLearned_1 : decode prog_3_method_7_code 1 = .ok (.ifCond .lt 9, 3) := by decide +kernel
theorem d_C_countLearned_4 : decode prog_3_method_7_code 4 = .ok (.iload_n 1, 1) := by decide +kernel
theorem d_C_countLearned_5 : decode prog_3_method_7_code 5 = .ok (.bipush 12, 2) := by decide +kernel
theorem d_C_countLearned_7 : decode prog_3_method_7_code 7 = .ok (.if_icmp .le 5, 3) := by decide +kernel
theorem d_C_countLearned_10 : decode prog_3_method_7_code 10 = .ok (.iconst (-1), 1) := by decide +kernel
theorem d_C_countLearned_11 : decode prog_3_method_7_code 11 = .ok (.ireturn, 1) := by decide +kernel
theorem d_C_countLearned_12 : decode prog_3_method_7_code 12 = .ok (.aload_n 0, 1) := by decide +kernel
theorem d_C_countLearned_13 : decode prog_3_method_7_code 13 = .ok (.getfield 19, 3) := by decide +kernel
theorem d_C_countLearned_16 : decode prog_3_method_7_code 16 = .ok (.iload_n 1, 1) := by decide +kernel
theorem d_C_countLearned_17 : decode prog_3_method_7_code 17 = .ok (.dup2, 1) := by decide +kernel
theorem d_C_countLearned_18 : decode prog_3_method_7_code 18 = .ok (.iaload, 1) := by decide +kernel
theorem d_C_countLearned_19 : decode prog_3_method_7_code 19 = .ok (.iconst 1, 1) := by decide +kernel
theorem d_C_countLearned_20 : decode prog_3_method_7_code 20 = .ok (.iadd, 1) := by decide +kernel
theorem d_C_countLearned_21 : decode prog_3_method_7_code 21 = .ok (.iastore, 1) := by decide +kernel
theorem d_C_countLearned_22 : decode prog_3_method_7_code 22 = .ok (.aload_n 0, 1) := by decide +kernel
theorem d_C_countLearned_23 : decode prog_3_method_7_code 23 = .ok (.getfield 19, 3) := by decide +kernel
theorem d_C_countLearned_26 : decode prog_3_method_7_code 26 = .ok (.iload_n 1, 1) := by decide +kernel
theorem d_C_countLearned_27 : decode prog_3_method_7_code 27 = .ok (.iaload, 1) := by decide +kernel
theorem d_C_countLearned_28 : decode prog_3_method_7_code 28 = .ok (.ireturn, 1) := by decide +kernel
