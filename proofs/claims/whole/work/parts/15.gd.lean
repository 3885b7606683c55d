theorem d_G_fault_0 : decode prog_1_method_2_code 0 = .ok (.lload_n 3, 1) := by decide +kernel
theorem d_G_fault_1 : decode prog_1_method_2_code 1 = .ok (.lconst 1, 1) := by decide +kernel
theorem d_G_fault_2 : decode prog_1_method_2_code 2 = .ok (.lcmp, 1) := by decide +kernel
theorem d_G_fault_3 : decode prog_1_method_2_code 3 = .ok (.ifCond .lt 23, 3) := by decide +kernel
theorem d_G_fault_6 : decode prog_1_method_2_code 6 = .ok (.lload_n 3, 1) := by decide +kernel
theorem d_G_fault_7 : decode prog_1_method_2_code 7 = .ok (.ldc2_w 49, 3) := by decide +kernel
theorem d_G_fault_10 : decode prog_1_method_2_code 10 = .ok (.lcmp, 1) := by decide +kernel
theorem d_G_fault_11 : decode prog_1_method_2_code 11 = .ok (.ifCond .gt 15, 3) := by decide +kernel
theorem d_G_fault_14 : decode prog_1_method_2_code 14 = .ok (.lload_n 1, 1) := by decide +kernel
theorem d_G_fault_15 : decode prog_1_method_2_code 15 = .ok (.lconst 0, 1) := by decide +kernel
theorem d_G_fault_16 : decode prog_1_method_2_code 16 = .ok (.lcmp, 1) := by decide +kernel
theorem d_G_fault_17 : decode prog_1_method_2_code 17 = .ok (.ifCond .lt 9, 3) := by decide +kernel
theorem d_G_fault_20 : decode prog_1_method_2_code 20 = .ok (.lload_n 1, 1) := by decide +kernel
theorem d_G_fault_21 : decode prog_1_method_2_code 21 = .ok (.lload_n 3, 1) := by decide +kernel
theorem d_G_fault_22 : decode prog_1_method_2_code 22 = .ok (.lcmp, 1) := by decide +kernel
theorem d_G_fault_23 : decode prog_1_method_2_code 23 = .ok (.ifCond .le 6, 3) := by decide +kernel
theorem d_G_fault_26 : decode prog_1_method_2_code 26 = .ok (.bipush (-2), 2) := by decide +kernel
theorem d_G_fault_28 : decode prog_1_method_2_code 28 = .ok (.ireturn, 1) := by decide +kernel
theorem d_G_fault_29 : decode prog_1_method_2_code 29 = .ok (.aload_n 0, 1) := by decide +kernel
theorem d_G_fault_30 : decode prog_1_method_2_code 30 = .ok (.getfield 12, 3) := by decide +kernel
theorem d_G_fault_33 : decode prog_1_method_2_code 33 = .ok (.getfield 51, 3) := by decide +kernel
theorem d_G_fault_36 : decode prog_1_method_2_code 36 = .ok (.bipush 8, 2) := by decide +kernel
theorem d_G_fault_38 : decode prog_1_method_2_code 38 = .ok (.if_icmp .ge 15, 3) := by decide +kernel
theorem d_G_fault_41 : decode prog_1_method_2_code 41 = .ok (.aload_n 0, 1) := by decide +kernel
theorem d_G_fault_42 : decode prog_1_method_2_code 42 = .ok (.getfield 12, 3) := by decide +kernel
theorem d_G_fault_45 : decode prog_1_method_2_code 45 = .ok (.getfield 54, 3) := by decide +kernel
theorem d_G_fault_48 : decode prog_1_method_2_code 48 = .ok (.bipush 12, 2) := by decide +kernel
theorem d_G_fault_50 : decode prog_1_method_2_code 50 = .ok (.if_icmp .lt 6, 3) := by decide +kernel
theorem d_G_fault_53 : decode prog_1_method_2_code 53 = .ok (.bipush (-4), 2) := by decide +kernel
theorem d_G_fault_55 : decode prog_1_method_2_code 55 = .ok (.ireturn, 1) := by decide +kernel
theorem d_G_fault_56 : decode prog_1_method_2_code 56 = .ok (.aload_n 0, 1) := by decide +kernel
theorem d_G_fault_57 : decode prog_1_method_2_code 57 = .ok (.getfield 12, 3) := by decide +kernel
theorem d_G_fault_60 : decode prog_1_method_2_code 60 = .ok (.ldc2_w 57, 3) := by decide +kernel
theorem d_G_fault_63 : decode prog_1_method_2_code 63 = .ok (.lload_n 3, 1) := by decide +kernel
theorem d_G_fault_64 : decode prog_1_method_2_code 64 = .ok (.ldiv, 1) := by decide +kernel
theorem d_G_fault_65 : decode prog_1_method_2_code 65 = .ok (.lload_n 1, 1) := by decide +kernel
theorem d_G_fault_66 : decode prog_1_method_2_code 66 = .ok (.lmul, 1) := by decide +kernel
theorem d_G_fault_67 : decode prog_1_method_2_code 67 = .ok (.invokevirtual 59, 3) := by decide +kernel
theorem d_G_fault_70 : decode prog_1_method_2_code 70 = .ok (.ireturn, 1) := by decide +kernel
theorem d_G_test_0 : decode prog_1_method_3_code 0 = .ok (.lload_n 1, 1) := by decide +kernel
theorem d_G_test_1 : decode prog_1_method_3_code 1 = .ok (.lconst 0, 1) := by decide +kernel
theorem d_G_test_2 : decode prog_1_method_3_code 2 = .ok (.lcmp, 1) := by decide +kernel
theorem d_G_test_3 : decode prog_1_method_3_code 3 = .ok (.ifCond .lt 11, 3) := by decide +kernel
theorem d_G_test_6 : decode prog_1_method_3_code 6 = .ok (.lload_n 1, 1) := by decide +kernel
theorem d_G_test_7 : decode prog_1_method_3_code 7 = .ok (.ldc2_w 63, 3) := by decide +kernel
theorem d_G_test_10 : decode prog_1_method_3_code 10 = .ok (.lcmp, 1) := by decide +kernel
theorem d_G_test_11 : decode prog_1_method_3_code 11 = .ok (.ifCond .le 6, 3) := by decide +kernel
theorem d_G_test_14 : decode prog_1_method_3_code 14 = .ok (.bipush (-2), 2) := by decide +kernel
theorem d_G_test_16 : decode prog_1_method_3_code 16 = .ok (.ireturn, 1) := by decide +kernel
theorem d_G_test_17 : decode prog_1_method_3_code 17 = .ok (.aload_n 0, 1) := by decide +kernel
theorem d_G_test_18 : decode prog_1_method_3_code 18 = .ok (.getfield 19, 3) := by decide +kernel
theorem d_G_test_21 : decode prog_1_method_3_code 21 = .ok (.getfield 65, 3) := by decide +kernel
theorem d_G_test_24 : decode prog_1_method_3_code 24 = .ok (.iconst 5, 1) := by decide +kernel
theorem d_G_test_25 : decode prog_1_method_3_code 25 = .ok (.if_icmp .lt 6, 3) := by decide +kernel
theorem d_G_test_28 : decode prog_1_method_3_code 28 = .ok (.bipush (-4), 2) := by decide +kernel
theorem d_G_test_30 : decode prog_1_method_3_code 30 = .ok (.ireturn, 1) := by decide +kernel
theorem d_G_test_31 : decode prog_1_method_3_code 31 = .ok (.aload_n 0, 1) := by decide +kernel
theorem d_G_test_32 : decode prog_1_method_3_code 32 = .ok (.getfield 19, 3) := by decide +kernel
theorem d_G_test_35 : decode prog_1_method_3_code 35 = .ok (.lload_n 1, 1) := by decide +kernel
theorem d_G_test_36 : decode prog_1_method_3_code 36 = .ok (.l2i, 1) := by decide +kernel
theorem d_G_test_37 : decode prog_1_method_3_code 37 = .ok (.invokevirtual 66, 3) := by decide +kernel
theorem d_G_test_40 : decode prog_1_method_3_code 40 = .ok (.ireturn, 1) := by decide +kernel
theorem d_G_odds_0 : decode prog_1_method_4_code 0 = .ok (.aload_n 0, 1) := by decide +kernel
theorem d_G_odds_1 : decode prog_1_method_4_code 1 = .ok (.getfield 19, 3) := by decide +kernel
theorem d_G_odds_4 : decode prog_1_method_4_code 4 = .ok (.iload_n 1, 1) := by decide +kernel
theorem d_G_odds_5 : decode prog_1_method_4_code 5 = .ok (.invokevirtual 70, 3) := by decide +kernel
theorem d_G_odds_8 : decode prog_1_method_4_code 8 = .ok (.ifCond .eq 14, 3) := by decide +kernel
theorem d_G_odds_11 : decode prog_1_method_4_code 11 = .ok (.aload_n 0, 1) := by decide +kernel
theorem d_G_odds_12 : decode prog_1_method_4_code 12 = .ok (.getfield 12, 3) := by decide +kernel
theorem d_G_odds_15 : decode prog_1_method_4_code 15 = .ok (.iload_n 2, 1) := by decide +kernel
theorem d_G_odds_16 : decode prog_1_method_4_code 16 = .ok (.invokevirtual 74, 3) := by decide +kernel
theorem d_G_odds_19 : decode prog_1_method_4_code 19 = .ok (.ifCond .ne 5, 3) := by decide +kernel
theorem d_G_odds_22 : decode prog_1_method_4_code 22 = .ok (.iconst (-1), 1) := by decide +kernel
theorem d_G_odds_23 : decode prog_1_method_4_code 23 = .ok (.ireturn, 1) := by decide +kernel
theorem d_G_odds_24 : decode prog_1_method_4_code 24 = .ok (.iload_n 3, 1) := by decide +kernel
theorem d_G_odds_25 : decode prog_1_method_4_code 25 = .ok (.invokestatic 75, 3) := by decide +kernel
theorem d_G_odds_28 : decode prog_1_method_4_code 28 = .ok (.ifCond .eq 13, 3) := by decide +kernel
theorem d_G_odds_31 : decode prog_1_method_4_code 31 = .ok (.lload 4, 2) := by decide +kernel
theorem d_G_odds_33 : decode prog_1_method_4_code 33 = .ok (.lload 6, 2) := by decide +kernel
theorem d_G_odds_35 : decode prog_1_method_4_code 35 = .ok (.invokestatic 78, 3) := by decide +kernel
theorem d_G_odds_38 : decode prog_1_method_4_code 38 = .ok (.ifCond .ne 6, 3) := by decide +kernel
theorem d_G_odds_41 : decode prog_1_method_4_code 41 = .ok (.bipush (-2), 2) := by decide +kernel
theorem d_G_odds_43 : decode prog_1_method_4_code 43 = .ok (.ireturn, 1) := by decide +kernel
theorem d_G_odds_44 : decode prog_1_method_4_code 44 = .ok (.ldc2_w 82, 3) := by decide +kernel
theorem d_G_odds_47 : decode prog_1_method_4_code 47 = .ok (.lload 6, 2) := by decide +kernel
theorem d_G_odds_49 : decode prog_1_method_4_code 49 = .ok (.ldiv, 1) := by decide +kernel
theorem d_G_odds_50 : decode prog_1_method_4_code 50 = .ok (.lload 4, 2) := by decide +kernel
theorem d_G_odds_52 : decode prog_1_method_4_code 52 = .ok (.lmul, 1) := by decide +kernel
theorem d_G_odds_53 : decode prog_1_method_4_code 53 = .ok (.l2i, 1) := by decide +kernel
theorem d_G_odds_54 : decode prog_1_method_4_code 54 = .ok (.istore 8, 2) := by decide +kernel
theorem d_G_odds_56 : decode prog_1_method_4_code 56 = .ok (.aload_n 0, 1) := by decide +kernel
theorem d_G_odds_57 : decode prog_1_method_4_code 57 = .ok (.getfield 19, 3) := by decide +kernel
theorem d_G_odds_60 : decode prog_1_method_4_code 60 = .ok (.iload_n 1, 1) := by decide +kernel
theorem d_G_odds_61 : decode prog_1_method_4_code 61 = .ok (.iload_n 2, 1) := by decide +kernel
theorem d_G_odds_62 : decode prog_1_method_4_code 62 = .ok (.invokevirtual 84, 3) := by decide +kernel
theorem d_G_odds_65 : decode prog_1_method_4_code 65 = .ok (.aload_n 0, 1) := by decide +kernel
theorem d_G_odds_66 : decode prog_1_method_4_code 66 = .ok (.getfield 19, 3) := by decide +kernel
theorem d_G_odds_69 : decode prog_1_method_4_code 69 = .ok (.iload_n 1, 1) := by decide +kernel
theorem d_G_odds_70 : decode prog_1_method_4_code 70 = .ok (.iload_n 2, 1) := by decide +kernel
theorem d_G_odds_71 : decode prog_1_method_4_code 71 = .ok (.iload_n 3, 1) := by decide +kernel
theorem d_G_odds_72 : decode prog_1_method_4_code 72 = .ok (.invokevirtual 88, 3) := by decide +kernel
theorem d_G_odds_75 : decode prog_1_method_4_code 75 = .ok (.isub, 1) := by decide +kernel
theorem d_G_odds_76 : decode prog_1_method_4_code 76 = .ok (.iload 8, 2) := by decide +kernel
theorem d_G_odds_78 : decode prog_1_method_4_code 78 = .ok (.iadd, 1) := by decide +kernel
theorem d_G_odds_79 : decode prog_1_method_4_code 79 = .ok (.istore 9, 2) := by decide +kernel
theorem d_G_odds_81 : decode prog_1_method_4_code 81 = .ok (.iload 9, 2) := by decide +kernel
theorem d_G_odds_83 : decode prog_1_method_4_code 83 = .ok (.bipush 12, 2) := by decide +kernel
theorem d_G_odds_85 : decode prog_1_method_4_code 85 = .ok (.if_icmp .le 6, 3) := by decide +kernel
theorem d_G_odds_88 : decode prog_1_method_4_code 88 = .ok (.bipush (-2), 2) := by decide +kernel
theorem d_G_odds_90 : decode prog_1_method_4_code 90 = .ok (.ireturn, 1) := by decide +kernel
theorem d_G_odds_91 : decode prog_1_method_4_code 91 = .ok (.aload_n 0, 1) := by decide +kernel
theorem d_G_odds_92 : decode prog_1_method_4_code 92 = .ok (.getfield 41, 3) := by decide +kernel
theorem d_G_odds_95 : decode prog_1_method_4_code 95 = .ok (.iload_n 1, 1) := by decide +kernel
theorem d_G_odds_96 : decode prog_1_method_4_code 96 = .ok (.invokestatic 92, 3) := by decide +kernel
theorem d_G_odds_99 : decode prog_1_method_4_code 99 = .ok (.iconst (-1), 1) := by decide +kernel
theorem d_G_odds_100 : decode prog_1_method_4_code 100 = .ok (.if_icmp .eq 6, 3) := by decide +kernel
theorem d_G_odds_103 : decode prog_1_method_4_code 103 = .ok (.bipush (-3), 2) := by decide +kernel
theorem d_G_odds_105 : decode prog_1_method_4_code 105 = .ok (.ireturn, 1) := by decide +kernel
theorem d_G_odds_106 : decode prog_1_method_4_code 106 = .ok (.aload_n 0, 1) := by decide +kernel
theorem d_G_odds_107 : decode prog_1_method_4_code 107 = .ok (.getfield 19, 3) := by decide +kernel
theorem d_G_odds_110 : decode prog_1_method_4_code 110 = .ok (.iload_n 1, 1) := by decide +kernel
theorem d_G_odds_111 : decode prog_1_method_4_code 111 = .ok (.iload_n 2, 1) := by decide +kernel
theorem d_G_odds_112 : decode prog_1_method_4_code 112 = .ok (.iload_n 3, 1) := by decide +kernel
theorem d_G_odds_113 : decode prog_1_method_4_code 113 = .ok (.iload 8, 2) := by decide +kernel
theorem d_G_odds_115 : decode prog_1_method_4_code 115 = .ok (.invokevirtual 95, 3) := by decide +kernel
theorem d_G_odds_118 : decode prog_1_method_4_code 118 = .ok (.iload 9, 2) := by decide +kernel
theorem d_G_odds_120 : decode prog_1_method_4_code 120 = .ok (.ireturn, 1) := by decide +kernel
theorem d_G_needs_0 : decode prog_1_method_5_code 0 = .ok (.aload_n 0, 1) := by decide +kernel
theorem d_G_needs_1 : decode prog_1_method_5_code 1 = .ok (.getfield 19, 3) := by decide +kernel
theorem d_G_needs_4 : decode prog_1_method_5_code 4 = .ok (.iload_n 1, 1) := by decide +kernel
theorem d_G_needs_5 : decode prog_1_method_5_code 5 = .ok (.invokevirtual 70, 3) := by decide +kernel
theorem d_G_needs_8 : decode prog_1_method_5_code 8 = .ok (.ifCond .eq 14, 3) := by decide +kernel
theorem d_G_needs_11 : decode prog_1_method_5_code 11 = .ok (.aload_n 0, 1) := by decide +kernel
theorem d_G_needs_12 : decode prog_1_method_5_code 12 = .ok (.getfield 19, 3) := by decide +kernel
theorem d_G_needs_15 : decode prog_1_method_5_code 15 = .ok (.iload_n 2, 1) := by decide +kernel
theorem d_G_needs_16 : decode prog_1_method_5_code 16 = .ok (.invokevirtual 70, 3) := by decide +kernel
theorem d_G_needs_19 : decode prog_1_method_5_code 19 = .ok (.ifCond .ne 5, 3) := by decide +kernel
theorem d_G_needs_22 : decode prog_1_method_5_code 22 = .ok (.iconst (-1), 1) := by decide +kernel
theorem d_G_needs_23 : decode prog_1_method_5_code 23 = .ok (.ireturn, 1) := by decide +kernel
theorem d_G_needs_24 : decode prog_1_method_5_code 24 = .ok (.iload_n 1, 1) := by decide +kernel
theorem d_G_needs_25 : decode prog_1_method_5_code 25 = .ok (.iload_n 2, 1) := by decide +kernel
theorem d_G_needs_26 : decode prog_1_method_5_code 26 = .ok (.if_icmp .ne 6, 3) := by decide +kernel
theorem d_G_needs_29 : decode prog_1_method_5_code 29 = .ok (.bipush (-2), 2) := by decide +kernel
theorem d_G_needs_31 : decode prog_1_method_5_code 31 = .ok (.ireturn, 1) := by decide +kernel
theorem d_G_needs_32 : decode prog_1_method_5_code 32 = .ok (.aload_n 0, 1) := by decide +kernel
theorem d_G_needs_33 : decode prog_1_method_5_code 33 = .ok (.getfield 19, 3) := by decide +kernel
theorem d_G_needs_36 : decode prog_1_method_5_code 36 = .ok (.iload_n 2, 1) := by decide +kernel
theorem d_G_needs_37 : decode prog_1_method_5_code 37 = .ok (.invokevirtual 99, 3) := by decide +kernel
theorem d_G_needs_40 : decode prog_1_method_5_code 40 = .ok (.iload_n 1, 1) := by decide +kernel
theorem d_G_needs_41 : decode prog_1_method_5_code 41 = .ok (.invokestatic 102, 3) := by decide +kernel
theorem d_G_needs_44 : decode prog_1_method_5_code 44 = .ok (.iand, 1) := by decide +kernel
theorem d_G_needs_45 : decode prog_1_method_5_code 45 = .ok (.ifCond .eq 6, 3) := by decide +kernel
theorem d_G_needs_48 : decode prog_1_method_5_code 48 = .ok (.bipush (-3), 2) := by decide +kernel
theorem d_G_needs_50 : decode prog_1_method_5_code 50 = .ok (.ireturn, 1) := by decide +kernel
theorem d_G_needs_51 : decode prog_1_method_5_code 51 = .ok (.aload_n 0, 1) := by decide +kernel
theorem d_G_needs_52 : decode prog_1_method_5_code 52 = .ok (.getfield 19, 3) := by decide +kernel
theorem d_G_needs_55 : decode prog_1_method_5_code 55 = .ok (.iload_n 1, 1) := by decide +kernel
theorem d_G_needs_56 : decode prog_1_method_5_code 56 = .ok (.iload_n 2, 1) := by decide +kernel
theorem d_G_needs_57 : decode prog_1_method_5_code 57 = .ok (.invokevirtual 105, 3) := by decide +kernel
theorem d_G_needs_60 : decode prog_1_method_5_code 60 = .ok (.ireturn, 1) := by decide +kernel
theorem d_G_answer_0 : decode prog_1_method_7_code 0 = .ok (.aload_n 0, 1) := by decide +kernel
theorem d_G_answer_1 : decode prog_1_method_7_code 1 = .ok (.getfield 19, 3) := by decide +kernel
theorem d_G_answer_4 : decode prog_1_method_7_code 4 = .ok (.iload_n 1, 1) := by decide +kernel
theorem d_G_answer_5 : decode prog_1_method_7_code 5 = .ok (.invokevirtual 70, 3) := by decide +kernel
theorem d_G_answer_8 : decode prog_1_method_7_code 8 = .ok (.ifCond .ne 5, 3) := by decide +kernel
theorem d_G_answer_11 : decode prog_1_method_7_code 11 = .ok (.iconst (-1), 1) := by decide +kernel
theorem d_G_answer_12 : decode prog_1_method_7_code 12 = .ok (.ireturn, 1) := by decide +kernel
theorem d_G_answer_13 : decode prog_1_method_7_code 13 = .ok (.iload_n 2, 1) := by decide +kernel
theorem d_G_answer_14 : decode prog_1_method_7_code 14 = .ok (.invokestatic 75, 3) := by decide +kernel
theorem d_G_answer_17 : decode prog_1_method_7_code 17 = .ok (.ifCond .ne 6, 3) := by decide +kernel
theorem d_G_answer_20 : decode prog_1_method_7_code 20 = .ok (.bipush (-2), 2) := by decide +kernel
theorem d_G_answer_22 : decode prog_1_method_7_code 22 = .ok (.ireturn, 1) := by decide +kernel
theorem d_G_answer_23 : decode prog_1_method_7_code 23 = .ok (.aload_n 0, 1) := by decide +kernel
theorem d_G_answer_24 : decode prog_1_method_7_code 24 = .ok (.getfield 19, 3) := by decide +kernel
theorem d_G_answer_27 : decode prog_1_method_7_code 27 = .ok (.iload_n 1, 1) := by decide +kernel
theorem d_G_answer_28 : decode prog_1_method_7_code 28 = .ok (.aload_n 0, 1) := by decide +kernel
theorem d_G_answer_29 : decode prog_1_method_7_code 29 = .ok (.getfield 41, 3) := by decide +kernel
theorem d_G_answer_32 : decode prog_1_method_7_code 32 = .ok (.invokevirtual 120, 3) := by decide +kernel
theorem d_G_answer_35 : decode prog_1_method_7_code 35 = .ok (.ifCond .ne 6, 3) := by decide +kernel
theorem d_G_answer_38 : decode prog_1_method_7_code 38 = .ok (.bipush (-3), 2) := by decide +kernel
theorem d_G_answer_40 : decode prog_1_method_7_code 40 = .ok (.ireturn, 1) := by decide +kernel
theorem d_G_answer_41 : decode prog_1_method_7_code 41 = .ok (.aload_n 0, 1) := by decide +kernel
theorem d_G_answer_42 : decode prog_1_method_7_code 42 = .ok (.aload_n 0, 1) := by decide +kernel
theorem d_G_answer_43 : decode prog_1_method_7_code 43 = .ok (.getfield 41, 3) := by decide +kernel
theorem d_G_answer_46 : decode prog_1_method_7_code 46 = .ok (.iload_n 1, 1) := by decide +kernel
theorem d_G_answer_47 : decode prog_1_method_7_code 47 = .ok (.iload_n 2, 1) := by decide +kernel
theorem d_G_answer_48 : decode prog_1_method_7_code 48 = .ok (.invokestatic 124, 3) := by decide +kernel
theorem d_G_answer_51 : decode prog_1_method_7_code 51 = .ok (.putfield 41, 3) := by decide +kernel
theorem d_G_answer_54 : decode prog_1_method_7_code 54 = .ok (.aload_n 0, 1) := by decide +kernel
theorem d_G_answer_55 : decode prog_1_method_7_code 55 = .ok (.getfield 28, 3) := by decide +kernel
theorem d_G_answer_58 : decode prog_1_method_7_code 58 = .ok (.aload_n 0, 1) := by decide +kernel
theorem d_G_answer_59 : decode prog_1_method_7_code 59 = .ok (.getfield 41, 3) := by decide +kernel
theorem d_G_answer_62 : decode prog_1_method_7_code 62 = .ok (.invokevirtual 127, 3) := by decide +kernel
theorem d_G_answer_65 : decode prog_1_method_7_code 65 = .ok (.invokestatic 130, 3) := by decide +kernel
theorem d_G_answer_68 : decode prog_1_method_7_code 68 = .ok (.ireturn, 1) := by decide +kernel
theorem d_G_exact_0 : decode prog_1_method_9_code 0 = .ok (.aload_n 0, 1) := by decide +kernel
theorem d_G_exact_1 : decode prog_1_method_9_code 1 = .ok (.getfield 45, 3) := by decide +kernel
theorem d_G_exact_4 : decode prog_1_method_9_code 4 = .ok (.ireturn, 1) := by decide +kernel
theorem d_G_cost_0 : decode prog_1_method_10_code 0 = .ok (.aload_n 0, 1) := by decide +kernel
theorem d_G_cost_1 : decode prog_1_method_10_code 1 = .ok (.getfield 37, 3) := by decide +kernel
theorem d_G_cost_4 : decode prog_1_method_10_code 4 = .ok (.getfield 156, 3) := by decide +kernel
theorem d_G_cost_7 : decode prog_1_method_10_code 7 = .ok (.lreturn, 1) := by decide +kernel
theorem d_G_pair_0 : decode prog_1_method_11_code 0 = .ok (.aload_n 0, 1) := by decide +kernel
theorem d_G_pair_1 : decode prog_1_method_11_code 1 = .ok (.getfield 12, 3) := by decide +kernel
theorem d_G_pair_4 : decode prog_1_method_11_code 4 = .ok (.iload_n 1, 1) := by decide +kernel
theorem d_G_pair_5 : decode prog_1_method_11_code 5 = .ok (.invokevirtual 160, 3) := by decide +kernel
theorem d_G_pair_8 : decode prog_1_method_11_code 8 = .ok (.ifCond .eq 14, 3) := by decide +kernel
theorem d_G_pair_11 : decode prog_1_method_11_code 11 = .ok (.aload_n 0, 1) := by decide +kernel
theorem d_G_pair_12 : decode prog_1_method_11_code 12 = .ok (.getfield 12, 3) := by decide +kernel
theorem d_G_pair_15 : decode prog_1_method_11_code 15 = .ok (.iload_n 2, 1) := by decide +kernel
theorem d_G_pair_16 : decode prog_1_method_11_code 16 = .ok (.invokevirtual 160, 3) := by decide +kernel
theorem d_G_pair_19 : decode prog_1_method_11_code 19 = .ok (.ifCond .ne 5, 3) := by decide +kernel
theorem d_G_pair_22 : decode prog_1_method_11_code 22 = .ok (.iconst (-1), 1) := by decide +kernel
theorem d_G_pair_23 : decode prog_1_method_11_code 23 = .ok (.ireturn, 1) := by decide +kernel
theorem d_G_pair_24 : decode prog_1_method_11_code 24 = .ok (.iload_n 1, 1) := by decide +kernel
theorem d_G_pair_25 : decode prog_1_method_11_code 25 = .ok (.iload_n 2, 1) := by decide +kernel
theorem d_G_pair_26 : decode prog_1_method_11_code 26 = .ok (.if_icmp .ne 6, 3) := by decide +kernel
theorem d_G_pair_29 : decode prog_1_method_11_code 29 = .ok (.bipush (-2), 2) := by decide +kernel
theorem d_G_pair_31 : decode prog_1_method_11_code 31 = .ok (.ireturn, 1) := by decide +kernel
theorem d_G_pair_32 : decode prog_1_method_11_code 32 = .ok (.aload_n 0, 1) := by decide +kernel
theorem d_G_pair_33 : decode prog_1_method_11_code 33 = .ok (.getfield 12, 3) := by decide +kernel
theorem d_G_pair_36 : decode prog_1_method_11_code 36 = .ok (.iload_n 1, 1) := by decide +kernel
theorem d_G_pair_37 : decode prog_1_method_11_code 37 = .ok (.invokestatic 102, 3) := by decide +kernel
theorem d_G_pair_40 : decode prog_1_method_11_code 40 = .ok (.iload_n 2, 1) := by decide +kernel
theorem d_G_pair_41 : decode prog_1_method_11_code 41 = .ok (.invokestatic 102, 3) := by decide +kernel
theorem d_G_pair_44 : decode prog_1_method_11_code 44 = .ok (.ior, 1) := by decide +kernel
theorem d_G_pair_45 : decode prog_1_method_11_code 45 = .ok (.invokevirtual 163, 3) := by decide +kernel
theorem d_G_pair_48 : decode prog_1_method_11_code 48 = .ok (.ifCond .eq 6, 3) := by decide +kernel
theorem d_G_pair_51 : decode prog_1_method_11_code 51 = .ok (.bipush (-3), 2) := by decide +kernel
theorem d_G_pair_53 : decode prog_1_method_11_code 53 = .ok (.ireturn, 1) := by decide +kernel
theorem d_G_pair_54 : decode prog_1_method_11_code 54 = .ok (.aload_n 0, 1) := by decide +kernel
theorem d_G_pair_55 : decode prog_1_method_11_code 55 = .ok (.getfield 12, 3) := by decide +kernel
theorem d_G_pair_58 : decode prog_1_method_11_code 58 = .ok (.getfield 54, 3) := by decide +kernel
theorem d_G_pair_61 : decode prog_1_method_11_code 61 = .ok (.bipush 12, 2) := by decide +kernel
theorem d_G_pair_63 : decode prog_1_method_11_code 63 = .ok (.if_icmp .lt 6, 3) := by decide +kernel
theorem d_G_pair_66 : decode prog_1_method_11_code 66 = .ok (.bipush (-4), 2) := by decide +kernel
theorem d_G_pair_68 : decode prog_1_method_11_code 68 = .ok (.ireturn, 1) := by decide +kernel
theorem d_G_pair_69 : decode prog_1_method_11_code 69 = .ok (.aload_n 0, 1) := by decide +kernel
theorem d_G_pair_70 : decode prog_1_method_11_code 70 = .ok (.getfield 12, 3) := by decide +kernel
theorem d_G_pair_73 : decode prog_1_method_11_code 73 = .ok (.iload_n 1, 1) := by decide +kernel
theorem d_G_pair_74 : decode prog_1_method_11_code 74 = .ok (.iload_n 2, 1) := by decide +kernel
theorem d_G_pair_75 : decode prog_1_method_11_code 75 = .ok (.invokevirtual 166, 3) := by decide +kernel
theorem d_G_pair_78 : decode prog_1_method_11_code 78 = .ok (.ireturn, 1) := by decide +kernel
theorem d_G_learn_0 : decode prog_1_method_12_code 0 = .ok (.iload_n 1, 1) := by decide +kernel
theorem d_G_learn_1 : decode prog_1_method_12_code 1 = .ok (.ifCond .eq 16, 3) := by decide +kernel
theorem d_G_learn_4 : decode prog_1_method_12_code 4 = .ok (.aload_n 0, 1) := by decide +kernel
theorem d_G_learn_5 : decode prog_1_method_12_code 5 = .ok (.getfield 12, 3) := by decide +kernel
theorem d_G_learn_8 : decode prog_1_method_12_code 8 = .ok (.iload_n 1, 1) := by decide +kernel
theorem d_G_learn_9 : decode prog_1_method_12_code 9 = .ok (.invokevirtual 74, 3) := by decide +kernel
theorem d_G_learn_12 : decode prog_1_method_12_code 12 = .ok (.ifCond .ne 5, 3) := by decide +kernel
theorem d_G_learn_15 : decode prog_1_method_12_code 15 = .ok (.iconst (-1), 1) := by decide +kernel
theorem d_G_learn_16 : decode prog_1_method_12_code 16 = .ok (.ireturn, 1) := by decide +kernel
theorem d_G_learn_17 : decode prog_1_method_12_code 17 = .ok (.aload_n 0, 1) := by decide +kernel
theorem d_G_learn_18 : decode prog_1_method_12_code 18 = .ok (.iconst 0, 1) := by decide +kernel
theorem d_G_learn_19 : decode prog_1_method_12_code 19 = .ok (.putfield 41, 3) := by decide +kernel
theorem d_G_learn_22 : decode prog_1_method_12_code 22 = .ok (.aload_n 0, 1) := by decide +kernel
theorem d_G_learn_23 : decode prog_1_method_12_code 23 = .ok (.getfield 12, 3) := by decide +kernel
theorem d_G_learn_26 : decode prog_1_method_12_code 26 = .ok (.iload_n 1, 1) := by decide +kernel
theorem d_G_learn_27 : decode prog_1_method_12_code 27 = .ok (.invokevirtual 169, 3) := by decide +kernel
theorem d_G_learn_30 : decode prog_1_method_12_code 30 = .ok (.ireturn, 1) := by decide +kernel
theorem d_G_tree_0 : decode prog_1_method_13_code 0 = .ok (.iload_n 1, 1) := by decide +kernel
theorem d_G_tree_1 : decode prog_1_method_13_code 1 = .ok (.iconst (-1), 1) := by decide +kernel
theorem d_G_tree_2 : decode prog_1_method_13_code 2 = .ok (.if_icmp .ne 15, 3) := by decide +kernel
theorem d_G_tree_5 : decode prog_1_method_13_code 5 = .ok (.iload_n 2, 1) := by decide +kernel
theorem d_G_tree_6 : decode prog_1_method_13_code 6 = .ok (.ifCond .ne 11, 3) := by decide +kernel
theorem d_G_tree_9 : decode prog_1_method_13_code 9 = .ok (.aload_n 0, 1) := by decide +kernel
theorem d_G_tree_10 : decode prog_1_method_13_code 10 = .ok (.getfield 37, 3) := by decide +kernel
theorem d_G_tree_13 : decode prog_1_method_13_code 13 = .ok (.getfield 172, 3) := by decide +kernel
theorem d_G_tree_16 : decode prog_1_method_13_code 16 = .ok (.ireturn, 1) := by decide +kernel
theorem d_G_tree_17 : decode prog_1_method_13_code 17 = .ok (.iload_n 1, 1) := by decide +kernel
theorem d_G_tree_18 : decode prog_1_method_13_code 18 = .ok (.ifCond .lt 14, 3) := by decide +kernel
theorem d_G_tree_21 : decode prog_1_method_13_code 21 = .ok (.iload_n 1, 1) := by decide +kernel
theorem d_G_tree_22 : decode prog_1_method_13_code 22 = .ok (.aload_n 0, 1) := by decide +kernel
theorem d_G_tree_23 : decode prog_1_method_13_code 23 = .ok (.getfield 37, 3) := by decide +kernel
theorem d_G_tree_26 : decode prog_1_method_13_code 26 = .ok (.getfield 172, 3) := by decide +kernel
theorem d_G_tree_29 : decode prog_1_method_13_code 29 = .ok (.if_icmp .lt 5, 3) := by decide +kernel
theorem d_G_tree_32 : decode prog_1_method_13_code 32 = .ok (.iconst (-1), 1) := by decide +kernel
theorem d_G_tree_33 : decode prog_1_method_13_code 33 = .ok (.ireturn, 1) := by decide +kernel
theorem d_G_tree_34 : decode prog_1_method_13_code 34 = .ok (.aload_n 0, 1) := by decide +kernel
theorem d_G_tree_35 : decode prog_1_method_13_code 35 = .ok (.getfield 37, 3) := by decide +kernel
theorem d_G_tree_38 : decode prog_1_method_13_code 38 = .ok (.iload_n 1, 1) := by decide +kernel
theorem d_G_tree_39 : decode prog_1_method_13_code 39 = .ok (.iload_n 2, 1) := by decide +kernel
theorem d_G_tree_40 : decode prog_1_method_13_code 40 = .ok (.invokevirtual 175, 3) := by decide +kernel
theorem d_G_tree_43 : decode prog_1_method_13_code 43 = .ok (.ireturn, 1) := by decide +kernel
theorem d_G_never_0 : decode prog_1_method_14_code 0 = .ok (.iload_n 1, 1) := by decide +kernel
theorem d_G_never_1 : decode prog_1_method_14_code 1 = .ok (.invokestatic 75, 3) := by decide +kernel
theorem d_G_never_4 : decode prog_1_method_14_code 4 = .ok (.ifCond .ne 6, 3) := by decide +kernel
theorem d_G_never_7 : decode prog_1_method_14_code 7 = .ok (.bipush (-2), 2) := by decide +kernel
theorem d_G_never_9 : decode prog_1_method_14_code 9 = .ok (.ireturn, 1) := by decide +kernel
theorem d_G_never_10 : decode prog_1_method_14_code 10 = .ok (.iconst 0, 1) := by decide +kernel
theorem d_G_never_11 : decode prog_1_method_14_code 11 = .ok (.istore_n 2, 1) := by decide +kernel
theorem d_G_never_12 : decode prog_1_method_14_code 12 = .ok (.iconst 1, 1) := by decide +kernel
theorem d_G_never_13 : decode prog_1_method_14_code 13 = .ok (.istore_n 3, 1) := by decide +kernel
theorem d_G_never_14 : decode prog_1_method_14_code 14 = .ok (.iload_n 3, 1) := by decide +kernel
theorem d_G_never_15 : decode prog_1_method_14_code 15 = .ok (.aload_n 0, 1) := by decide +kernel
theorem d_G_never_16 : decode prog_1_method_14_code 16 = .ok (.getfield 19, 3) := by decide +kernel
theorem d_G_never_19 : decode prog_1_method_14_code 19 = .ok (.getfield 65, 3) := by decide +kernel
theorem d_G_never_22 : decode prog_1_method_14_code 22 = .ok (.if_icmp .gt 31, 3) := by decide +kernel
theorem d_G_never_25 : decode prog_1_method_14_code 25 = .ok (.aload_n 0, 1) := by decide +kernel
theorem d_G_never_26 : decode prog_1_method_14_code 26 = .ok (.getfield 19, 3) := by decide +kernel
theorem d_G_never_29 : decode prog_1_method_14_code 29 = .ok (.iload_n 3, 1) := by decide +kernel
theorem d_G_never_30 : decode prog_1_method_14_code 30 = .ok (.iload_n 1, 1) := by decide +kernel
theorem d_G_never_31 : decode prog_1_method_14_code 31 = .ok (.aload_n 0, 1) := by decide +kernel
theorem d_G_never_32 : decode prog_1_method_14_code 32 = .ok (.getfield 12, 3) := by decide +kernel
theorem d_G_never_35 : decode prog_1_method_14_code 35 = .ok (.getfield 54, 3) := by decide +kernel
theorem d_G_never_38 : decode prog_1_method_14_code 38 = .ok (.invokevirtual 178, 3) := by decide +kernel
theorem d_G_never_41 : decode prog_1_method_14_code 41 = .ok (.ifCond .ne 6, 3) := by decide +kernel
theorem d_G_never_44 : decode prog_1_method_14_code 44 = .ok (.iinc 2 1, 3) := by decide +kernel
theorem d_G_never_47 : decode prog_1_method_14_code 47 = .ok (.iinc 3 1, 3) := by decide +kernel
theorem d_G_never_50 : decode prog_1_method_14_code 50 = .ok (.goto (-36), 3) := by decide +kernel
theorem d_G_never_53 : decode prog_1_method_14_code 53 = .ok (.iload_n 2, 1) := by decide +kernel
theorem d_G_never_54 : decode prog_1_method_14_code 54 = .ok (.ireturn, 1) := by decide +kernel
