theorem d_M_stateNow_0 : decode prog_7_method_13_code 0 = .ok (.iconst 0, 1) := by decide +kernel
theorem d_M_stateNow_1 : decode prog_7_method_13_code 1 = .ok (.istore_n 1, 1) := by decide +kernel
theorem d_M_stateNow_2 : decode prog_7_method_13_code 2 = .ok (.bipush 6, 2) := by decide +kernel
theorem d_M_stateNow_4 : decode prog_7_method_13_code 4 = .ok (.istore_n 2, 1) := by decide +kernel
theorem d_M_stateNow_5 : decode prog_7_method_13_code 5 = .ok (.iload_n 2, 1) := by decide +kernel
theorem d_M_stateNow_6 : decode prog_7_method_13_code 6 = .ok (.ifCond .le 22, 3) := by decide +kernel
theorem d_M_stateNow_9 : decode prog_7_method_13_code 9 = .ok (.iconst 4, 1) := by decide +kernel
theorem d_M_stateNow_10 : decode prog_7_method_13_code 10 = .ok (.iload_n 1, 1) := by decide +kernel
theorem d_M_stateNow_11 : decode prog_7_method_13_code 11 = .ok (.imul, 1) := by decide +kernel
theorem d_M_stateNow_12 : decode prog_7_method_13_code 12 = .ok (.aload_n 0, 1) := by decide +kernel
theorem d_M_stateNow_13 : decode prog_7_method_13_code 13 = .ok (.getfield 33, 3) := by decide +kernel
theorem d_M_stateNow_16 : decode prog_7_method_13_code 16 = .ok (.iload_n 2, 1) := by decide +kernel
theorem d_M_stateNow_17 : decode prog_7_method_13_code 17 = .ok (.iaload, 1) := by decide +kernel
theorem d_M_stateNow_18 : decode prog_7_method_13_code 18 = .ok (.iadd, 1) := by decide +kernel
theorem d_M_stateNow_19 : decode prog_7_method_13_code 19 = .ok (.iconst 1, 1) := by decide +kernel
theorem d_M_stateNow_20 : decode prog_7_method_13_code 20 = .ok (.iadd, 1) := by decide +kernel
theorem d_M_stateNow_21 : decode prog_7_method_13_code 21 = .ok (.istore_n 1, 1) := by decide +kernel
theorem d_M_stateNow_22 : decode prog_7_method_13_code 22 = .ok (.iinc 2 (-1), 3) := by decide +kernel
theorem d_M_stateNow_25 : decode prog_7_method_13_code 25 = .ok (.goto (-20), 3) := by decide +kernel
theorem d_M_stateNow_28 : decode prog_7_method_13_code 28 = .ok (.iload_n 1, 1) := by decide +kernel
theorem d_M_stateNow_29 : decode prog_7_method_13_code 29 = .ok (.ireturn, 1) := by decide +kernel
theorem d_M_unit_0 : decode prog_7_method_14_code 0 = .ok (.iconst 1, 1) := by decide +kernel
theorem d_M_unit_1 : decode prog_7_method_14_code 1 = .ok (.iconst 2, 1) := by decide +kernel
theorem d_M_unit_2 : decode prog_7_method_14_code 2 = .ok (.iload_n 0, 1) := by decide +kernel
theorem d_M_unit_3 : decode prog_7_method_14_code 3 = .ok (.iconst 1, 1) := by decide +kernel
theorem d_M_unit_4 : decode prog_7_method_14_code 4 = .ok (.isub, 1) := by decide +kernel
theorem d_M_unit_5 : decode prog_7_method_14_code 5 = .ok (.imul, 1) := by decide +kernel
theorem d_M_unit_6 : decode prog_7_method_14_code 6 = .ok (.ishl, 1) := by decide +kernel
theorem d_M_unit_7 : decode prog_7_method_14_code 7 = .ok (.ireturn, 1) := by decide +kernel
theorem d_M_sum_0 : decode prog_7_method_15_code 0 = .ok (.lconst 0, 1) := by decide +kernel
theorem d_M_sum_1 : decode prog_7_method_15_code 1 = .ok (.lstore_n 1, 1) := by decide +kernel
theorem d_M_sum_2 : decode prog_7_method_15_code 2 = .ok (.iconst 1, 1) := by decide +kernel
theorem d_M_sum_3 : decode prog_7_method_15_code 3 = .ok (.istore_n 3, 1) := by decide +kernel
theorem d_M_sum_4 : decode prog_7_method_15_code 4 = .ok (.iload_n 3, 1) := by decide +kernel
theorem d_M_sum_5 : decode prog_7_method_15_code 5 = .ok (.aload_n 0, 1) := by decide +kernel
theorem d_M_sum_6 : decode prog_7_method_15_code 6 = .ok (.getfield 76, 3) := by decide +kernel
theorem d_M_sum_9 : decode prog_7_method_15_code 9 = .ok (.if_icmp .gt 18, 3) := by decide +kernel
theorem d_M_sum_12 : decode prog_7_method_15_code 12 = .ok (.lload_n 1, 1) := by decide +kernel
theorem d_M_sum_13 : decode prog_7_method_15_code 13 = .ok (.aload_n 0, 1) := by decide +kernel
theorem d_M_sum_14 : decode prog_7_method_15_code 14 = .ok (.getfield 54, 3) := by decide +kernel
theorem d_M_sum_17 : decode prog_7_method_15_code 17 = .ok (.iload_n 3, 1) := by decide +kernel
theorem d_M_sum_18 : decode prog_7_method_15_code 18 = .ok (.laload, 1) := by decide +kernel
theorem d_M_sum_19 : decode prog_7_method_15_code 19 = .ok (.ladd, 1) := by decide +kernel
theorem d_M_sum_20 : decode prog_7_method_15_code 20 = .ok (.lstore_n 1, 1) := by decide +kernel
theorem d_M_sum_21 : decode prog_7_method_15_code 21 = .ok (.iinc 3 1, 3) := by decide +kernel
theorem d_M_sum_24 : decode prog_7_method_15_code 24 = .ok (.goto (-20), 3) := by decide +kernel
theorem d_M_sum_27 : decode prog_7_method_15_code 27 = .ok (.lload_n 1, 1) := by decide +kernel
theorem d_M_sum_28 : decode prog_7_method_15_code 28 = .ok (.lreturn, 1) := by decide +kernel
theorem d_M_most_0 : decode prog_7_method_16_code 0 = .ok (.lconst 0, 1) := by decide +kernel
theorem d_M_most_1 : decode prog_7_method_16_code 1 = .ok (.lstore_n 1, 1) := by decide +kernel
theorem d_M_most_2 : decode prog_7_method_16_code 2 = .ok (.iconst 1, 1) := by decide +kernel
theorem d_M_most_3 : decode prog_7_method_16_code 3 = .ok (.istore_n 3, 1) := by decide +kernel
theorem d_M_most_4 : decode prog_7_method_16_code 4 = .ok (.iload_n 3, 1) := by decide +kernel
theorem d_M_most_5 : decode prog_7_method_16_code 5 = .ok (.aload_n 0, 1) := by decide +kernel
theorem d_M_most_6 : decode prog_7_method_16_code 6 = .ok (.getfield 76, 3) := by decide +kernel
theorem d_M_most_9 : decode prog_7_method_16_code 9 = .ok (.if_icmp .gt 31, 3) := by decide +kernel
theorem d_M_most_12 : decode prog_7_method_16_code 12 = .ok (.aload_n 0, 1) := by decide +kernel
theorem d_M_most_13 : decode prog_7_method_16_code 13 = .ok (.getfield 54, 3) := by decide +kernel
theorem d_M_most_16 : decode prog_7_method_16_code 16 = .ok (.iload_n 3, 1) := by decide +kernel
theorem d_M_most_17 : decode prog_7_method_16_code 17 = .ok (.laload, 1) := by decide +kernel
theorem d_M_most_18 : decode prog_7_method_16_code 18 = .ok (.lload_n 1, 1) := by decide +kernel
theorem d_M_most_19 : decode prog_7_method_16_code 19 = .ok (.lcmp, 1) := by decide +kernel
theorem d_M_most_20 : decode prog_7_method_16_code 20 = .ok (.ifCond .le 12, 3) := by decide +kernel
theorem d_M_most_23 : decode prog_7_method_16_code 23 = .ok (.aload_n 0, 1) := by decide +kernel
theorem d_M_most_24 : decode prog_7_method_16_code 24 = .ok (.getfield 54, 3) := by decide +kernel
theorem d_M_most_27 : decode prog_7_method_16_code 27 = .ok (.iload_n 3, 1) := by decide +kernel
theorem d_M_most_28 : decode prog_7_method_16_code 28 = .ok (.laload, 1) := by decide +kernel
theorem d_M_most_29 : decode prog_7_method_16_code 29 = .ok (.goto 4, 3) := by decide +kernel
theorem d_M_most_32 : decode prog_7_method_16_code 32 = .ok (.lload_n 1, 1) := by decide +kernel
theorem d_M_most_33 : decode prog_7_method_16_code 33 = .ok (.lstore_n 1, 1) := by decide +kernel
theorem d_M_most_34 : decode prog_7_method_16_code 34 = .ok (.iinc 3 1, 3) := by decide +kernel
theorem d_M_most_37 : decode prog_7_method_16_code 37 = .ok (.goto (-33), 3) := by decide +kernel
theorem d_M_most_40 : decode prog_7_method_16_code 40 = .ok (.lload_n 1, 1) := by decide +kernel
theorem d_M_most_41 : decode prog_7_method_16_code 41 = .ok (.lreturn, 1) := by decide +kernel
theorem d_M_left_0 : decode prog_7_method_17_code 0 = .ok (.iconst 0, 1) := by decide +kernel
theorem d_M_left_1 : decode prog_7_method_17_code 1 = .ok (.istore_n 1, 1) := by decide +kernel
theorem d_M_left_2 : decode prog_7_method_17_code 2 = .ok (.iconst 1, 1) := by decide +kernel
theorem d_M_left_3 : decode prog_7_method_17_code 3 = .ok (.istore_n 2, 1) := by decide +kernel
theorem d_M_left_4 : decode prog_7_method_17_code 4 = .ok (.iload_n 2, 1) := by decide +kernel
theorem d_M_left_5 : decode prog_7_method_17_code 5 = .ok (.aload_n 0, 1) := by decide +kernel
theorem d_M_left_6 : decode prog_7_method_17_code 6 = .ok (.getfield 76, 3) := by decide +kernel
theorem d_M_left_9 : decode prog_7_method_17_code 9 = .ok (.if_icmp .gt 28, 3) := by decide +kernel
theorem d_M_left_12 : decode prog_7_method_17_code 12 = .ok (.aload_n 0, 1) := by decide +kernel
theorem d_M_left_13 : decode prog_7_method_17_code 13 = .ok (.getfield 54, 3) := by decide +kernel
theorem d_M_left_16 : decode prog_7_method_17_code 16 = .ok (.iload_n 2, 1) := by decide +kernel
theorem d_M_left_17 : decode prog_7_method_17_code 17 = .ok (.laload, 1) := by decide +kernel
theorem d_M_left_18 : decode prog_7_method_17_code 18 = .ok (.lconst 0, 1) := by decide +kernel
theorem d_M_left_19 : decode prog_7_method_17_code 19 = .ok (.lcmp, 1) := by decide +kernel
theorem d_M_left_20 : decode prog_7_method_17_code 20 = .ok (.ifCond .le 9, 3) := by decide +kernel
theorem d_M_left_23 : decode prog_7_method_17_code 23 = .ok (.iload_n 1, 1) := by decide +kernel
theorem d_M_left_24 : decode prog_7_method_17_code 24 = .ok (.iconst 1, 1) := by decide +kernel
theorem d_M_left_25 : decode prog_7_method_17_code 25 = .ok (.iadd, 1) := by decide +kernel
theorem d_M_left_26 : decode prog_7_method_17_code 26 = .ok (.goto 4, 3) := by decide +kernel
theorem d_M_left_29 : decode prog_7_method_17_code 29 = .ok (.iload_n 1, 1) := by decide +kernel
theorem d_M_left_30 : decode prog_7_method_17_code 30 = .ok (.istore_n 1, 1) := by decide +kernel
theorem d_M_left_31 : decode prog_7_method_17_code 31 = .ok (.iinc 2 1, 3) := by decide +kernel
theorem d_M_left_34 : decode prog_7_method_17_code 34 = .ok (.goto (-30), 3) := by decide +kernel
theorem d_M_left_37 : decode prog_7_method_17_code 37 = .ok (.iload_n 1, 1) := by decide +kernel
theorem d_M_left_38 : decode prog_7_method_17_code 38 = .ok (.ireturn, 1) := by decide +kernel
theorem d_M_may_0 : decode prog_7_method_18_code 0 = .ok (.aload_n 0, 1) := by decide +kernel
theorem d_M_may_1 : decode prog_7_method_18_code 1 = .ok (.getfield 51, 3) := by decide +kernel
theorem d_M_may_4 : decode prog_7_method_18_code 4 = .ok (.iload_n 1, 1) := by decide +kernel
theorem d_M_may_5 : decode prog_7_method_18_code 5 = .ok (.iaload, 1) := by decide +kernel
theorem d_M_may_6 : decode prog_7_method_18_code 6 = .ok (.ifCond .ge 7, 3) := by decide +kernel
theorem d_M_may_9 : decode prog_7_method_18_code 9 = .ok (.iconst 1, 1) := by decide +kernel
theorem d_M_may_10 : decode prog_7_method_18_code 10 = .ok (.goto 4, 3) := by decide +kernel
theorem d_M_may_13 : decode prog_7_method_18_code 13 = .ok (.iconst 0, 1) := by decide +kernel
theorem d_M_may_14 : decode prog_7_method_18_code 14 = .ok (.istore_n 2, 1) := by decide +kernel
theorem d_M_may_15 : decode prog_7_method_18_code 15 = .ok (.iconst 1, 1) := by decide +kernel
theorem d_M_may_16 : decode prog_7_method_18_code 16 = .ok (.istore_n 3, 1) := by decide +kernel
theorem d_M_may_17 : decode prog_7_method_18_code 17 = .ok (.iload_n 3, 1) := by decide +kernel
theorem d_M_may_18 : decode prog_7_method_18_code 18 = .ok (.aload_n 0, 1) := by decide +kernel
theorem d_M_may_19 : decode prog_7_method_18_code 19 = .ok (.getfield 73, 3) := by decide +kernel
theorem d_M_may_22 : decode prog_7_method_18_code 22 = .ok (.if_icmp .gt 42, 3) := by decide +kernel
theorem d_M_may_25 : decode prog_7_method_18_code 25 = .ok (.iload_n 2, 1) := by decide +kernel
theorem d_M_may_26 : decode prog_7_method_18_code 26 = .ok (.ifCond .eq 30, 3) := by decide +kernel
theorem d_M_may_29 : decode prog_7_method_18_code 29 = .ok (.aload_n 0, 1) := by decide +kernel
theorem d_M_may_30 : decode prog_7_method_18_code 30 = .ok (.getfield 26, 3) := by decide +kernel
theorem d_M_may_33 : decode prog_7_method_18_code 33 = .ok (.bipush 7, 2) := by decide +kernel
theorem d_M_may_35 : decode prog_7_method_18_code 35 = .ok (.iload_n 1, 1) := by decide +kernel
theorem d_M_may_36 : decode prog_7_method_18_code 36 = .ok (.imul, 1) := by decide +kernel
theorem d_M_may_37 : decode prog_7_method_18_code 37 = .ok (.iload_n 3, 1) := by decide +kernel
theorem d_M_may_38 : decode prog_7_method_18_code 38 = .ok (.iadd, 1) := by decide +kernel
theorem d_M_may_39 : decode prog_7_method_18_code 39 = .ok (.baload, 1) := by decide +kernel
theorem d_M_may_40 : decode prog_7_method_18_code 40 = .ok (.ifCond .eq 12, 3) := by decide +kernel
theorem d_M_may_43 : decode prog_7_method_18_code 43 = .ok (.aload_n 0, 1) := by decide +kernel
theorem d_M_may_44 : decode prog_7_method_18_code 44 = .ok (.getfield 51, 3) := by decide +kernel
theorem d_M_may_47 : decode prog_7_method_18_code 47 = .ok (.iload_n 3, 1) := by decide +kernel
theorem d_M_may_48 : decode prog_7_method_18_code 48 = .ok (.iaload, 1) := by decide +kernel
theorem d_M_may_49 : decode prog_7_method_18_code 49 = .ok (.ifCond .lt 7, 3) := by decide +kernel
theorem d_M_may_52 : decode prog_7_method_18_code 52 = .ok (.iconst 1, 1) := by decide +kernel
theorem d_M_may_53 : decode prog_7_method_18_code 53 = .ok (.goto 4, 3) := by decide +kernel
theorem d_M_may_56 : decode prog_7_method_18_code 56 = .ok (.iconst 0, 1) := by decide +kernel
theorem d_M_may_57 : decode prog_7_method_18_code 57 = .ok (.istore_n 2, 1) := by decide +kernel
theorem d_M_may_58 : decode prog_7_method_18_code 58 = .ok (.iinc 3 1, 3) := by decide +kernel
theorem d_M_may_61 : decode prog_7_method_18_code 61 = .ok (.goto (-44), 3) := by decide +kernel
theorem d_M_may_64 : decode prog_7_method_18_code 64 = .ok (.iload_n 2, 1) := by decide +kernel
theorem d_M_may_65 : decode prog_7_method_18_code 65 = .ok (.ireturn, 1) := by decide +kernel
theorem d_M_findUse_0 : decode prog_7_method_19_code 0 = .ok (.iconst 0, 1) := by decide +kernel
theorem d_M_findUse_1 : decode prog_7_method_19_code 1 = .ok (.istore_n 1, 1) := by decide +kernel
theorem d_M_findUse_2 : decode prog_7_method_19_code 2 = .ok (.iconst 1, 1) := by decide +kernel
theorem d_M_findUse_3 : decode prog_7_method_19_code 3 = .ok (.istore_n 2, 1) := by decide +kernel
theorem d_M_findUse_4 : decode prog_7_method_19_code 4 = .ok (.iload_n 2, 1) := by decide +kernel
theorem d_M_findUse_5 : decode prog_7_method_19_code 5 = .ok (.aload_n 0, 1) := by decide +kernel
theorem d_M_findUse_6 : decode prog_7_method_19_code 6 = .ok (.getfield 76, 3) := by decide +kernel
theorem d_M_findUse_9 : decode prog_7_method_19_code 9 = .ok (.if_icmp .gt 26, 3) := by decide +kernel
theorem d_M_findUse_12 : decode prog_7_method_19_code 12 = .ok (.aload_n 0, 1) := by decide +kernel
theorem d_M_findUse_13 : decode prog_7_method_19_code 13 = .ok (.getfield 54, 3) := by decide +kernel
theorem d_M_findUse_16 : decode prog_7_method_19_code 16 = .ok (.iload_n 2, 1) := by decide +kernel
theorem d_M_findUse_17 : decode prog_7_method_19_code 17 = .ok (.laload, 1) := by decide +kernel
theorem d_M_findUse_18 : decode prog_7_method_19_code 18 = .ok (.lconst 0, 1) := by decide +kernel
theorem d_M_findUse_19 : decode prog_7_method_19_code 19 = .ok (.lcmp, 1) := by decide +kernel
theorem d_M_findUse_20 : decode prog_7_method_19_code 20 = .ok (.ifCond .le 7, 3) := by decide +kernel
theorem d_M_findUse_23 : decode prog_7_method_19_code 23 = .ok (.iload_n 2, 1) := by decide +kernel
theorem d_M_findUse_24 : decode prog_7_method_19_code 24 = .ok (.goto 4, 3) := by decide +kernel
theorem d_M_findUse_27 : decode prog_7_method_19_code 27 = .ok (.iload_n 1, 1) := by decide +kernel
theorem d_M_findUse_28 : decode prog_7_method_19_code 28 = .ok (.istore_n 1, 1) := by decide +kernel
theorem d_M_findUse_29 : decode prog_7_method_19_code 29 = .ok (.iinc 2 1, 3) := by decide +kernel
theorem d_M_findUse_32 : decode prog_7_method_19_code 32 = .ok (.goto (-28), 3) := by decide +kernel
theorem d_M_findUse_35 : decode prog_7_method_19_code 35 = .ok (.iconst 1, 1) := by decide +kernel
theorem d_M_findUse_36 : decode prog_7_method_19_code 36 = .ok (.istore_n 2, 1) := by decide +kernel
theorem d_M_findUse_37 : decode prog_7_method_19_code 37 = .ok (.iload_n 2, 1) := by decide +kernel
theorem d_M_findUse_38 : decode prog_7_method_19_code 38 = .ok (.aload_n 0, 1) := by decide +kernel
theorem d_M_findUse_39 : decode prog_7_method_19_code 39 = .ok (.getfield 73, 3) := by decide +kernel
theorem d_M_findUse_42 : decode prog_7_method_19_code 42 = .ok (.if_icmp .gt 137, 3) := by decide +kernel
theorem d_M_findUse_45 : decode prog_7_method_19_code 45 = .ok (.iconst 0, 1) := by decide +kernel
theorem d_M_findUse_46 : decode prog_7_method_19_code 46 = .ok (.istore_n 3, 1) := by decide +kernel
theorem d_M_findUse_47 : decode prog_7_method_19_code 47 = .ok (.iconst 1, 1) := by decide +kernel
theorem d_M_findUse_48 : decode prog_7_method_19_code 48 = .ok (.istore 4, 2) := by decide +kernel
theorem d_M_findUse_50 : decode prog_7_method_19_code 50 = .ok (.iload 4, 2) := by decide +kernel
theorem d_M_findUse_52 : decode prog_7_method_19_code 52 = .ok (.iload_n 1, 1) := by decide +kernel
theorem d_M_findUse_53 : decode prog_7_method_19_code 53 = .ok (.if_icmp .ge 97, 3) := by decide +kernel
theorem d_M_findUse_56 : decode prog_7_method_19_code 56 = .ok (.aload_n 0, 1) := by decide +kernel
theorem d_M_findUse_57 : decode prog_7_method_19_code 57 = .ok (.iload_n 2, 1) := by decide +kernel
theorem d_M_findUse_58 : decode prog_7_method_19_code 58 = .ok (.iload 4, 2) := by decide +kernel
theorem d_M_findUse_60 : decode prog_7_method_19_code 60 = .ok (.iconst 0, 1) := by decide +kernel
theorem d_M_findUse_61 : decode prog_7_method_19_code 61 = .ok (.invokevirtual 102, 3) := by decide +kernel
theorem d_M_findUse_64 : decode prog_7_method_19_code 64 = .ok (.aload_n 0, 1) := by decide +kernel
theorem d_M_findUse_65 : decode prog_7_method_19_code 65 = .ok (.iload_n 2, 1) := by decide +kernel
theorem d_M_findUse_66 : decode prog_7_method_19_code 66 = .ok (.iload_n 1, 1) := by decide +kernel
theorem d_M_findUse_67 : decode prog_7_method_19_code 67 = .ok (.iconst 0, 1) := by decide +kernel
theorem d_M_findUse_68 : decode prog_7_method_19_code 68 = .ok (.invokevirtual 102, 3) := by decide +kernel
theorem d_M_findUse_71 : decode prog_7_method_19_code 71 = .ok (.if_icmp .ne 43, 3) := by decide +kernel
theorem d_M_findUse_74 : decode prog_7_method_19_code 74 = .ok (.aload_n 0, 1) := by decide +kernel
theorem d_M_findUse_75 : decode prog_7_method_19_code 75 = .ok (.iload_n 2, 1) := by decide +kernel
theorem d_M_findUse_76 : decode prog_7_method_19_code 76 = .ok (.iload 4, 2) := by decide +kernel
theorem d_M_findUse_78 : decode prog_7_method_19_code 78 = .ok (.iconst 1, 1) := by decide +kernel
theorem d_M_findUse_79 : decode prog_7_method_19_code 79 = .ok (.invokevirtual 102, 3) := by decide +kernel
theorem d_M_findUse_82 : decode prog_7_method_19_code 82 = .ok (.aload_n 0, 1) := by decide +kernel
theorem d_M_findUse_83 : decode prog_7_method_19_code 83 = .ok (.iload_n 2, 1) := by decide +kernel
theorem d_M_findUse_84 : decode prog_7_method_19_code 84 = .ok (.iload_n 1, 1) := by decide +kernel
theorem d_M_findUse_85 : decode prog_7_method_19_code 85 = .ok (.iconst 1, 1) := by decide +kernel
theorem d_M_findUse_86 : decode prog_7_method_19_code 86 = .ok (.invokevirtual 102, 3) := by decide +kernel
theorem d_M_findUse_89 : decode prog_7_method_19_code 89 = .ok (.if_icmp .ne 25, 3) := by decide +kernel
theorem d_M_findUse_92 : decode prog_7_method_19_code 92 = .ok (.aload_n 0, 1) := by decide +kernel
theorem d_M_findUse_93 : decode prog_7_method_19_code 93 = .ok (.iload_n 2, 1) := by decide +kernel
theorem d_M_findUse_94 : decode prog_7_method_19_code 94 = .ok (.iload 4, 2) := by decide +kernel
theorem d_M_findUse_96 : decode prog_7_method_19_code 96 = .ok (.iconst 2, 1) := by decide +kernel
theorem d_M_findUse_97 : decode prog_7_method_19_code 97 = .ok (.invokevirtual 102, 3) := by decide +kernel
theorem d_M_findUse_100 : decode prog_7_method_19_code 100 = .ok (.aload_n 0, 1) := by decide +kernel
theorem d_M_findUse_101 : decode prog_7_method_19_code 101 = .ok (.iload_n 2, 1) := by decide +kernel
theorem d_M_findUse_102 : decode prog_7_method_19_code 102 = .ok (.iload_n 1, 1) := by decide +kernel
theorem d_M_findUse_103 : decode prog_7_method_19_code 103 = .ok (.iconst 2, 1) := by decide +kernel
theorem d_M_findUse_104 : decode prog_7_method_19_code 104 = .ok (.invokevirtual 102, 3) := by decide +kernel
theorem d_M_findUse_107 : decode prog_7_method_19_code 107 = .ok (.if_icmp .ne 7, 3) := by decide +kernel
theorem d_M_findUse_110 : decode prog_7_method_19_code 110 = .ok (.iconst 1, 1) := by decide +kernel
theorem d_M_findUse_111 : decode prog_7_method_19_code 111 = .ok (.goto 4, 3) := by decide +kernel
theorem d_M_findUse_114 : decode prog_7_method_19_code 114 = .ok (.iconst 0, 1) := by decide +kernel
theorem d_M_findUse_115 : decode prog_7_method_19_code 115 = .ok (.istore 5, 2) := by decide +kernel
theorem d_M_findUse_117 : decode prog_7_method_19_code 117 = .ok (.iload_n 3, 1) := by decide +kernel
theorem d_M_findUse_118 : decode prog_7_method_19_code 118 = .ok (.ifCond .ne 20, 3) := by decide +kernel
theorem d_M_findUse_121 : decode prog_7_method_19_code 121 = .ok (.aload_n 0, 1) := by decide +kernel
theorem d_M_findUse_122 : decode prog_7_method_19_code 122 = .ok (.getfield 54, 3) := by decide +kernel
theorem d_M_findUse_125 : decode prog_7_method_19_code 125 = .ok (.iload 4, 2) := by decide +kernel
theorem d_M_findUse_127 : decode prog_7_method_19_code 127 = .ok (.laload, 1) := by decide +kernel
theorem d_M_findUse_128 : decode prog_7_method_19_code 128 = .ok (.lconst 0, 1) := by decide +kernel
theorem d_M_findUse_129 : decode prog_7_method_19_code 129 = .ok (.lcmp, 1) := by decide +kernel
theorem d_M_findUse_130 : decode prog_7_method_19_code 130 = .ok (.ifCond .le 12, 3) := by decide +kernel
theorem d_M_findUse_133 : decode prog_7_method_19_code 133 = .ok (.iload 5, 2) := by decide +kernel
theorem d_M_findUse_135 : decode prog_7_method_19_code 135 = .ok (.ifCond .ne 7, 3) := by decide +kernel
theorem d_M_findUse_138 : decode prog_7_method_19_code 138 = .ok (.iconst 1, 1) := by decide +kernel
theorem d_M_findUse_139 : decode prog_7_method_19_code 139 = .ok (.goto 4, 3) := by decide +kernel
theorem d_M_findUse_142 : decode prog_7_method_19_code 142 = .ok (.iconst 0, 1) := by decide +kernel
theorem d_M_findUse_143 : decode prog_7_method_19_code 143 = .ok (.istore_n 3, 1) := by decide +kernel
theorem d_M_findUse_144 : decode prog_7_method_19_code 144 = .ok (.iinc 4 1, 3) := by decide +kernel
theorem d_M_findUse_147 : decode prog_7_method_19_code 147 = .ok (.goto (-97), 3) := by decide +kernel
theorem d_M_findUse_150 : decode prog_7_method_19_code 150 = .ok (.aload_n 0, 1) := by decide +kernel
theorem d_M_findUse_151 : decode prog_7_method_19_code 151 = .ok (.getfield 66, 3) := by decide +kernel
theorem d_M_findUse_154 : decode prog_7_method_19_code 154 = .ok (.iload_n 2, 1) := by decide +kernel
theorem d_M_findUse_155 : decode prog_7_method_19_code 155 = .ok (.iload_n 3, 1) := by decide +kernel
theorem d_M_findUse_156 : decode prog_7_method_19_code 156 = .ok (.ifCond .eq 15, 3) := by decide +kernel
theorem d_M_findUse_159 : decode prog_7_method_19_code 159 = .ok (.aload_n 0, 1) := by decide +kernel
theorem d_M_findUse_160 : decode prog_7_method_19_code 160 = .ok (.iload_n 2, 1) := by decide +kernel
theorem d_M_findUse_161 : decode prog_7_method_19_code 161 = .ok (.invokevirtual 106, 3) := by decide +kernel
theorem d_M_findUse_164 : decode prog_7_method_19_code 164 = .ok (.ifCond .eq 7, 3) := by decide +kernel
theorem d_M_findUse_167 : decode prog_7_method_19_code 167 = .ok (.iconst 1, 1) := by decide +kernel
theorem d_M_findUse_168 : decode prog_7_method_19_code 168 = .ok (.goto 4, 3) := by decide +kernel
theorem d_M_findUse_171 : decode prog_7_method_19_code 171 = .ok (.iconst 0, 1) := by decide +kernel
theorem d_M_findUse_172 : decode prog_7_method_19_code 172 = .ok (.bastore, 1) := by decide +kernel
theorem d_M_findUse_173 : decode prog_7_method_19_code 173 = .ok (.iinc 2 1, 3) := by decide +kernel
theorem d_M_findUse_176 : decode prog_7_method_19_code 176 = .ok (.goto (-139), 3) := by decide +kernel
theorem d_M_findUse_179 : decode prog_7_method_19_code 179 = .ok (.return_, 1) := by decide +kernel
theorem d_M_free_0 : decode prog_7_method_20_code 0 = .ok (.iconst 1, 1) := by decide +kernel
theorem d_M_free_1 : decode prog_7_method_20_code 1 = .ok (.istore_n 1, 1) := by decide +kernel
theorem d_M_free_2 : decode prog_7_method_20_code 2 = .ok (.iload_n 1, 1) := by decide +kernel
theorem d_M_free_3 : decode prog_7_method_20_code 3 = .ok (.aload_n 0, 1) := by decide +kernel
theorem d_M_free_4 : decode prog_7_method_20_code 4 = .ok (.getfield 73, 3) := by decide +kernel
theorem d_M_free_7 : decode prog_7_method_20_code 7 = .ok (.if_icmp .gt 31, 3) := by decide +kernel
theorem d_M_free_10 : decode prog_7_method_20_code 10 = .ok (.aload_n 0, 1) := by decide +kernel
theorem d_M_free_11 : decode prog_7_method_20_code 11 = .ok (.getfield 23, 3) := by decide +kernel
theorem d_M_free_14 : decode prog_7_method_20_code 14 = .ok (.iload_n 1, 1) := by decide +kernel
theorem d_M_free_15 : decode prog_7_method_20_code 15 = .ok (.laload, 1) := by decide +kernel
theorem d_M_free_16 : decode prog_7_method_20_code 16 = .ok (.lconst 0, 1) := by decide +kernel
theorem d_M_free_17 : decode prog_7_method_20_code 17 = .ok (.lcmp, 1) := by decide +kernel
theorem d_M_free_18 : decode prog_7_method_20_code 18 = .ok (.ifCond .ne 14, 3) := by decide +kernel
theorem d_M_free_21 : decode prog_7_method_20_code 21 = .ok (.aload_n 0, 1) := by decide +kernel
theorem d_M_free_22 : decode prog_7_method_20_code 22 = .ok (.getfield 66, 3) := by decide +kernel
theorem d_M_free_25 : decode prog_7_method_20_code 25 = .ok (.iload_n 1, 1) := by decide +kernel
theorem d_M_free_26 : decode prog_7_method_20_code 26 = .ok (.baload, 1) := by decide +kernel
theorem d_M_free_27 : decode prog_7_method_20_code 27 = .ok (.ifCond .eq 5, 3) := by decide +kernel
theorem d_M_free_30 : decode prog_7_method_20_code 30 = .ok (.iload_n 1, 1) := by decide +kernel
theorem d_M_free_31 : decode prog_7_method_20_code 31 = .ok (.ireturn, 1) := by decide +kernel
theorem d_M_free_32 : decode prog_7_method_20_code 32 = .ok (.iinc 1 1, 3) := by decide +kernel
theorem d_M_free_35 : decode prog_7_method_20_code 35 = .ok (.goto (-33), 3) := by decide +kernel
theorem d_M_free_38 : decode prog_7_method_20_code 38 = .ok (.iconst 0, 1) := by decide +kernel
theorem d_M_free_39 : decode prog_7_method_20_code 39 = .ok (.ireturn, 1) := by decide +kernel
theorem d_M_find_0 : decode prog_7_method_21_code 0 = .ok (.aload_n 0, 1) := by decide +kernel
theorem d_M_find_1 : decode prog_7_method_21_code 1 = .ok (.iload_n 1, 1) := by decide +kernel
theorem d_M_find_2 : decode prog_7_method_21_code 2 = .ok (.invokevirtual 109, 3) := by decide +kernel
theorem d_M_find_5 : decode prog_7_method_21_code 5 = .ok (.aload_n 0, 1) := by decide +kernel
theorem d_M_find_6 : decode prog_7_method_21_code 6 = .ok (.invokevirtual 113, 3) := by decide +kernel
theorem d_M_find_9 : decode prog_7_method_21_code 9 = .ok (.istore_n 2, 1) := by decide +kernel
theorem d_M_find_10 : decode prog_7_method_21_code 10 = .ok (.aload_n 0, 1) := by decide +kernel
theorem d_M_find_11 : decode prog_7_method_21_code 11 = .ok (.invokevirtual 117, 3) := by decide +kernel
theorem d_M_find_14 : decode prog_7_method_21_code 14 = .ok (.lstore_n 3, 1) := by decide +kernel
theorem d_M_find_15 : decode prog_7_method_21_code 15 = .ok (.aload_n 0, 1) := by decide +kernel
theorem d_M_find_16 : decode prog_7_method_21_code 16 = .ok (.getfield 45, 3) := by decide +kernel
theorem d_M_find_19 : decode prog_7_method_21_code 19 = .ok (.iload_n 1, 1) := by decide +kernel
theorem d_M_find_20 : decode prog_7_method_21_code 20 = .ok (.iload_n 2, 1) := by decide +kernel
theorem d_M_find_21 : decode prog_7_method_21_code 21 = .ok (.ifCond .ne 7, 3) := by decide +kernel
theorem d_M_find_24 : decode prog_7_method_21_code 24 = .ok (.lconst 0, 1) := by decide +kernel
theorem d_M_find_25 : decode prog_7_method_21_code 25 = .ok (.goto 13, 3) := by decide +kernel
theorem d_M_find_28 : decode prog_7_method_21_code 28 = .ok (.ldc2_w 121, 3) := by decide +kernel
theorem d_M_find_31 : decode prog_7_method_21_code 31 = .ok (.iload_n 2, 1) := by decide +kernel
theorem d_M_find_32 : decode prog_7_method_21_code 32 = .ok (.iconst 1, 1) := by decide +kernel
theorem d_M_find_33 : decode prog_7_method_21_code 33 = .ok (.isub, 1) := by decide +kernel
theorem d_M_find_34 : decode prog_7_method_21_code 34 = .ok (.i2l, 1) := by decide +kernel
theorem d_M_find_35 : decode prog_7_method_21_code 35 = .ok (.lmul, 1) := by decide +kernel
theorem d_M_find_36 : decode prog_7_method_21_code 36 = .ok (.lload_n 3, 1) := by decide +kernel
theorem d_M_find_37 : decode prog_7_method_21_code 37 = .ok (.lmul, 1) := by decide +kernel
theorem d_M_find_38 : decode prog_7_method_21_code 38 = .ok (.lastore, 1) := by decide +kernel
theorem d_M_find_39 : decode prog_7_method_21_code 39 = .ok (.aload_n 0, 1) := by decide +kernel
theorem d_M_find_40 : decode prog_7_method_21_code 40 = .ok (.getfield 48, 3) := by decide +kernel
theorem d_M_find_43 : decode prog_7_method_21_code 43 = .ok (.iload_n 1, 1) := by decide +kernel
theorem d_M_find_44 : decode prog_7_method_21_code 44 = .ok (.iconst 0, 1) := by decide +kernel
theorem d_M_find_45 : decode prog_7_method_21_code 45 = .ok (.iastore, 1) := by decide +kernel
theorem d_M_find_46 : decode prog_7_method_21_code 46 = .ok (.iload_n 2, 1) := by decide +kernel
theorem d_M_find_47 : decode prog_7_method_21_code 47 = .ok (.iconst 2, 1) := by decide +kernel
theorem d_M_find_48 : decode prog_7_method_21_code 48 = .ok (.if_icmp .ge 4, 3) := by decide +kernel
theorem d_M_find_51 : decode prog_7_method_21_code 51 = .ok (.return_, 1) := by decide +kernel
theorem d_M_find_52 : decode prog_7_method_21_code 52 = .ok (.aload_n 0, 1) := by decide +kernel
theorem d_M_find_53 : decode prog_7_method_21_code 53 = .ok (.invokevirtual 123, 3) := by decide +kernel
theorem d_M_find_56 : decode prog_7_method_21_code 56 = .ok (.aload_n 0, 1) := by decide +kernel
theorem d_M_find_57 : decode prog_7_method_21_code 57 = .ok (.invokevirtual 126, 3) := by decide +kernel
theorem d_M_find_60 : decode prog_7_method_21_code 60 = .ok (.istore 5, 2) := by decide +kernel
theorem d_M_find_62 : decode prog_7_method_21_code 62 = .ok (.iconst 1, 1) := by decide +kernel
theorem d_M_find_63 : decode prog_7_method_21_code 63 = .ok (.istore 6, 2) := by decide +kernel
theorem d_M_find_65 : decode prog_7_method_21_code 65 = .ok (.iload 6, 2) := by decide +kernel
theorem d_M_find_67 : decode prog_7_method_21_code 67 = .ok (.aload_n 0, 1) := by decide +kernel
theorem d_M_find_68 : decode prog_7_method_21_code 68 = .ok (.getfield 73, 3) := by decide +kernel
theorem d_M_find_71 : decode prog_7_method_21_code 71 = .ok (.if_icmp .gt 117, 3) := by decide +kernel
theorem d_M_find_74 : decode prog_7_method_21_code 74 = .ok (.aload_n 0, 1) := by decide +kernel
theorem d_M_find_75 : decode prog_7_method_21_code 75 = .ok (.getfield 66, 3) := by decide +kernel
theorem d_M_find_78 : decode prog_7_method_21_code 78 = .ok (.iload 6, 2) := by decide +kernel
theorem d_M_find_80 : decode prog_7_method_21_code 80 = .ok (.baload, 1) := by decide +kernel
theorem d_M_find_81 : decode prog_7_method_21_code 81 = .ok (.ifCond .eq 101, 3) := by decide +kernel
theorem d_M_find_84 : decode prog_7_method_21_code 84 = .ok (.iload 5, 2) := by decide +kernel
theorem d_M_find_86 : decode prog_7_method_21_code 86 = .ok (.ifCond .le 13, 3) := by decide +kernel
theorem d_M_find_89 : decode prog_7_method_21_code 89 = .ok (.iload 6, 2) := by decide +kernel
theorem d_M_find_91 : decode prog_7_method_21_code 91 = .ok (.iload 5, 2) := by decide +kernel
theorem d_M_find_93 : decode prog_7_method_21_code 93 = .ok (.if_icmp .eq 6, 3) := by decide +kernel
theorem d_M_find_96 : decode prog_7_method_21_code 96 = .ok (.goto 86, 3) := by decide +kernel
theorem d_M_find_99 : decode prog_7_method_21_code 99 = .ok (.aload_n 0, 1) := by decide +kernel
theorem d_M_find_100 : decode prog_7_method_21_code 100 = .ok (.getfield 23, 3) := by decide +kernel
theorem d_M_find_103 : decode prog_7_method_21_code 103 = .ok (.iload 6, 2) := by decide +kernel
theorem d_M_find_105 : decode prog_7_method_21_code 105 = .ok (.laload, 1) := by decide +kernel
theorem d_M_find_106 : decode prog_7_method_21_code 106 = .ok (.lload_n 3, 1) := by decide +kernel
theorem d_M_find_107 : decode prog_7_method_21_code 107 = .ok (.lmul, 1) := by decide +kernel
theorem d_M_find_108 : decode prog_7_method_21_code 108 = .ok (.lstore 7, 2) := by decide +kernel
theorem d_M_find_110 : decode prog_7_method_21_code 110 = .ok (.iconst 1, 1) := by decide +kernel
theorem d_M_find_111 : decode prog_7_method_21_code 111 = .ok (.istore 9, 2) := by decide +kernel
theorem d_M_find_113 : decode prog_7_method_21_code 113 = .ok (.iload 9, 2) := by decide +kernel
theorem d_M_find_115 : decode prog_7_method_21_code 115 = .ok (.iconst 4, 1) := by decide +kernel
theorem d_M_find_116 : decode prog_7_method_21_code 116 = .ok (.if_icmp .ge 29, 3) := by decide +kernel
theorem d_M_find_119 : decode prog_7_method_21_code 119 = .ok (.lload 7, 2) := by decide +kernel
theorem d_M_find_121 : decode prog_7_method_21_code 121 = .ok (.aload_n 0, 1) := by decide +kernel
theorem d_M_find_122 : decode prog_7_method_21_code 122 = .ok (.getfield 45, 3) := by decide +kernel
theorem d_M_find_125 : decode prog_7_method_21_code 125 = .ok (.iload_n 1, 1) := by decide +kernel
theorem d_M_find_126 : decode prog_7_method_21_code 126 = .ok (.iload 9, 2) := by decide +kernel
theorem d_M_find_128 : decode prog_7_method_21_code 128 = .ok (.iload 6, 2) := by decide +kernel
theorem d_M_find_130 : decode prog_7_method_21_code 130 = .ok (.invokestatic 129, 3) := by decide +kernel
theorem d_M_find_133 : decode prog_7_method_21_code 133 = .ok (.imul, 1) := by decide +kernel
theorem d_M_find_134 : decode prog_7_method_21_code 134 = .ok (.iadd, 1) := by decide +kernel
theorem d_M_find_135 : decode prog_7_method_21_code 135 = .ok (.laload, 1) := by decide +kernel
theorem d_M_find_136 : decode prog_7_method_21_code 136 = .ok (.ladd, 1) := by decide +kernel
theorem d_M_find_137 : decode prog_7_method_21_code 137 = .ok (.lstore 7, 2) := by decide +kernel
theorem d_M_find_139 : decode prog_7_method_21_code 139 = .ok (.iinc 9 1, 3) := by decide +kernel
theorem d_M_find_142 : decode prog_7_method_21_code 142 = .ok (.goto (-29), 3) := by decide +kernel
theorem d_M_find_145 : decode prog_7_method_21_code 145 = .ok (.aload_n 0, 1) := by decide +kernel
theorem d_M_find_146 : decode prog_7_method_21_code 146 = .ok (.getfield 48, 3) := by decide +kernel
theorem d_M_find_149 : decode prog_7_method_21_code 149 = .ok (.iload_n 1, 1) := by decide +kernel
theorem d_M_find_150 : decode prog_7_method_21_code 150 = .ok (.iaload, 1) := by decide +kernel
theorem d_M_find_151 : decode prog_7_method_21_code 151 = .ok (.ifCond .eq 15, 3) := by decide +kernel
theorem d_M_find_154 : decode prog_7_method_21_code 154 = .ok (.lload 7, 2) := by decide +kernel
theorem d_M_find_156 : decode prog_7_method_21_code 156 = .ok (.aload_n 0, 1) := by decide +kernel
theorem d_M_find_157 : decode prog_7_method_21_code 157 = .ok (.getfield 45, 3) := by decide +kernel
theorem d_M_find_160 : decode prog_7_method_21_code 160 = .ok (.iload_n 1, 1) := by decide +kernel
theorem d_M_find_161 : decode prog_7_method_21_code 161 = .ok (.laload, 1) := by decide +kernel
theorem d_M_find_162 : decode prog_7_method_21_code 162 = .ok (.lcmp, 1) := by decide +kernel
theorem d_M_find_163 : decode prog_7_method_21_code 163 = .ok (.ifCond .ge 19, 3) := by decide +kernel
theorem d_M_find_166 : decode prog_7_method_21_code 166 = .ok (.aload_n 0, 1) := by decide +kernel
theorem d_M_find_167 : decode prog_7_method_21_code 167 = .ok (.getfield 45, 3) := by decide +kernel
theorem d_M_find_170 : decode prog_7_method_21_code 170 = .ok (.iload_n 1, 1) := by decide +kernel
theorem d_M_find_171 : decode prog_7_method_21_code 171 = .ok (.lload 7, 2) := by decide +kernel
theorem d_M_find_173 : decode prog_7_method_21_code 173 = .ok (.lastore, 1) := by decide +kernel
theorem d_M_find_174 : decode prog_7_method_21_code 174 = .ok (.aload_n 0, 1) := by decide +kernel
theorem d_M_find_175 : decode prog_7_method_21_code 175 = .ok (.getfield 48, 3) := by decide +kernel
theorem d_M_find_178 : decode prog_7_method_21_code 178 = .ok (.iload_n 1, 1) := by decide +kernel
theorem d_M_find_179 : decode prog_7_method_21_code 179 = .ok (.iload 6, 2) := by decide +kernel
theorem d_M_find_181 : decode prog_7_method_21_code 181 = .ok (.iastore, 1) := by decide +kernel
theorem d_M_find_182 : decode prog_7_method_21_code 182 = .ok (.iinc 6 1, 3) := by decide +kernel
theorem d_M_find_185 : decode prog_7_method_21_code 185 = .ok (.goto (-120), 3) := by decide +kernel
theorem d_M_find_188 : decode prog_7_method_21_code 188 = .ok (.return_, 1) := by decide +kernel
theorem d_M_isBehind_0 : decode prog_7_method_22_code 0 = .ok (.iconst 1, 1) := by decide +kernel
theorem d_M_isBehind_1 : decode prog_7_method_22_code 1 = .ok (.istore_n 3, 1) := by decide +kernel
theorem d_M_isBehind_2 : decode prog_7_method_22_code 2 = .ok (.iconst 1, 1) := by decide +kernel
theorem d_M_isBehind_3 : decode prog_7_method_22_code 3 = .ok (.istore 4, 2) := by decide +kernel
theorem d_M_isBehind_5 : decode prog_7_method_22_code 5 = .ok (.iload 4, 2) := by decide +kernel
theorem d_M_isBehind_7 : decode prog_7_method_22_code 7 = .ok (.bipush 7, 2) := by decide +kernel
theorem d_M_isBehind_9 : decode prog_7_method_22_code 9 = .ok (.if_icmp .ge 70, 3) := by decide +kernel
theorem d_M_isBehind_12 : decode prog_7_method_22_code 12 = .ok (.iload_n 1, 1) := by decide +kernel
theorem d_M_isBehind_13 : decode prog_7_method_22_code 13 = .ok (.iload 4, 2) := by decide +kernel
theorem d_M_isBehind_15 : decode prog_7_method_22_code 15 = .ok (.invokestatic 129, 3) := by decide +kernel
theorem d_M_isBehind_18 : decode prog_7_method_22_code 18 = .ok (.idiv, 1) := by decide +kernel
theorem d_M_isBehind_19 : decode prog_7_method_22_code 19 = .ok (.iconst 4, 1) := by decide +kernel
theorem d_M_isBehind_20 : decode prog_7_method_22_code 20 = .ok (.irem, 1) := by decide +kernel
theorem d_M_isBehind_21 : decode prog_7_method_22_code 21 = .ok (.istore 5, 2) := by decide +kernel
theorem d_M_isBehind_23 : decode prog_7_method_22_code 23 = .ok (.iload_n 2, 1) := by decide +kernel
theorem d_M_isBehind_24 : decode prog_7_method_22_code 24 = .ok (.iload 4, 2) := by decide +kernel
theorem d_M_isBehind_26 : decode prog_7_method_22_code 26 = .ok (.invokestatic 129, 3) := by decide +kernel
theorem d_M_isBehind_29 : decode prog_7_method_22_code 29 = .ok (.idiv, 1) := by decide +kernel
theorem d_M_isBehind_30 : decode prog_7_method_22_code 30 = .ok (.iconst 4, 1) := by decide +kernel
theorem d_M_isBehind_31 : decode prog_7_method_22_code 31 = .ok (.irem, 1) := by decide +kernel
theorem d_M_isBehind_32 : decode prog_7_method_22_code 32 = .ok (.istore 6, 2) := by decide +kernel
theorem d_M_isBehind_34 : decode prog_7_method_22_code 34 = .ok (.iload_n 3, 1) := by decide +kernel
theorem d_M_isBehind_35 : decode prog_7_method_22_code 35 = .ok (.ifCond .eq 36, 3) := by decide +kernel
theorem d_M_isBehind_38 : decode prog_7_method_22_code 38 = .ok (.iload 6, 2) := by decide +kernel
theorem d_M_isBehind_40 : decode prog_7_method_22_code 40 = .ok (.ifCond .ne 20, 3) := by decide +kernel
theorem d_M_isBehind_43 : decode prog_7_method_22_code 43 = .ok (.iload 4, 2) := by decide +kernel
theorem d_M_isBehind_45 : decode prog_7_method_22_code 45 = .ok (.aload_n 0, 1) := by decide +kernel
theorem d_M_isBehind_46 : decode prog_7_method_22_code 46 = .ok (.getfield 73, 3) := by decide +kernel
theorem d_M_isBehind_49 : decode prog_7_method_22_code 49 = .ok (.if_icmp .le 18, 3) := by decide +kernel
theorem d_M_isBehind_52 : decode prog_7_method_22_code 52 = .ok (.iload 5, 2) := by decide +kernel
theorem d_M_isBehind_54 : decode prog_7_method_22_code 54 = .ok (.ifCond .ne 17, 3) := by decide +kernel
theorem d_M_isBehind_57 : decode prog_7_method_22_code 57 = .ok (.goto 10, 3) := by decide +kernel
theorem d_M_isBehind_60 : decode prog_7_method_22_code 60 = .ok (.iload 5, 2) := by decide +kernel
theorem d_M_isBehind_62 : decode prog_7_method_22_code 62 = .ok (.iload 6, 2) := by decide +kernel
theorem d_M_isBehind_64 : decode prog_7_method_22_code 64 = .ok (.if_icmp .ne 7, 3) := by decide +kernel
theorem d_M_isBehind_67 : decode prog_7_method_22_code 67 = .ok (.iconst 1, 1) := by decide +kernel
theorem d_M_isBehind_68 : decode prog_7_method_22_code 68 = .ok (.goto 4, 3) := by decide +kernel
theorem d_M_isBehind_71 : decode prog_7_method_22_code 71 = .ok (.iconst 0, 1) := by decide +kernel
theorem d_M_isBehind_72 : decode prog_7_method_22_code 72 = .ok (.istore_n 3, 1) := by decide +kernel
theorem d_M_isBehind_73 : decode prog_7_method_22_code 73 = .ok (.iinc 4 1, 3) := by decide +kernel
theorem d_M_isBehind_76 : decode prog_7_method_22_code 76 = .ok (.goto (-71), 3) := by decide +kernel
theorem d_M_isBehind_79 : decode prog_7_method_22_code 79 = .ok (.iload_n 3, 1) := by decide +kernel
theorem d_M_isBehind_80 : decode prog_7_method_22_code 80 = .ok (.ireturn, 1) := by decide +kernel
theorem d_M_answers_0 : decode prog_7_method_23_code 0 = .ok (.iconst 0, 1) := by decide +kernel
theorem d_M_answers_1 : decode prog_7_method_23_code 1 = .ok (.istore_n 1, 1) := by decide +kernel
theorem d_M_answers_2 : decode prog_7_method_23_code 2 = .ok (.iconst 1, 1) := by decide +kernel
theorem d_M_answers_3 : decode prog_7_method_23_code 3 = .ok (.istore_n 2, 1) := by decide +kernel
theorem d_M_answers_4 : decode prog_7_method_23_code 4 = .ok (.iload_n 2, 1) := by decide +kernel
theorem d_M_answers_5 : decode prog_7_method_23_code 5 = .ok (.bipush 7, 2) := by decide +kernel
theorem d_M_answers_7 : decode prog_7_method_23_code 7 = .ok (.if_icmp .ge 28, 3) := by decide +kernel
theorem d_M_answers_10 : decode prog_7_method_23_code 10 = .ok (.iload_n 0, 1) := by decide +kernel
theorem d_M_answers_11 : decode prog_7_method_23_code 11 = .ok (.iload_n 2, 1) := by decide +kernel
theorem d_M_answers_12 : decode prog_7_method_23_code 12 = .ok (.invokestatic 129, 3) := by decide +kernel
theorem d_M_answers_15 : decode prog_7_method_23_code 15 = .ok (.idiv, 1) := by decide +kernel
theorem d_M_answers_16 : decode prog_7_method_23_code 16 = .ok (.iconst 4, 1) := by decide +kernel
theorem d_M_answers_17 : decode prog_7_method_23_code 17 = .ok (.irem, 1) := by decide +kernel
theorem d_M_answers_18 : decode prog_7_method_23_code 18 = .ok (.ifCond .le 9, 3) := by decide +kernel
theorem d_M_answers_21 : decode prog_7_method_23_code 21 = .ok (.iload_n 1, 1) := by decide +kernel
theorem d_M_answers_22 : decode prog_7_method_23_code 22 = .ok (.iconst 1, 1) := by decide +kernel
theorem d_M_answers_23 : decode prog_7_method_23_code 23 = .ok (.iadd, 1) := by decide +kernel
theorem d_M_answers_24 : decode prog_7_method_23_code 24 = .ok (.goto 4, 3) := by decide +kernel
theorem d_M_answers_27 : decode prog_7_method_23_code 27 = .ok (.iload_n 1, 1) := by decide +kernel
theorem d_M_answers_28 : decode prog_7_method_23_code 28 = .ok (.istore_n 1, 1) := by decide +kernel
theorem d_M_answers_29 : decode prog_7_method_23_code 29 = .ok (.iinc 2 1, 3) := by decide +kernel
theorem d_M_answers_32 : decode prog_7_method_23_code 32 = .ok (.goto (-28), 3) := by decide +kernel
theorem d_M_answers_35 : decode prog_7_method_23_code 35 = .ok (.iload_n 1, 1) := by decide +kernel
theorem d_M_answers_36 : decode prog_7_method_23_code 36 = .ok (.ireturn, 1) := by decide +kernel
