theorem d_K_weightOf_0 : decode prog_2_method_2_code 0 = .ok (.aload_n 0, 1) := by decide +kernel
theorem d_K_weightOf_1 : decode prog_2_method_2_code 1 = .ok (.getfield 9, 3) := by decide +kernel
theorem d_K_weightOf_4 : decode prog_2_method_2_code 4 = .ok (.iload_n 1, 1) := by decide +kernel
theorem d_K_weightOf_5 : decode prog_2_method_2_code 5 = .ok (.invokevirtual 19, 3) := by decide +kernel
theorem d_K_weightOf_8 : decode prog_2_method_2_code 8 = .ok (.ldc2_w 25, 3) := by decide +kernel
theorem d_K_weightOf_11 : decode prog_2_method_2_code 11 = .ok (.lmul, 1) := by decide +kernel
theorem d_K_weightOf_12 : decode prog_2_method_2_code 12 = .ok (.lstore_n 3, 1) := by decide +kernel
theorem d_K_weightOf_13 : decode prog_2_method_2_code 13 = .ok (.iconst 1, 1) := by decide +kernel
theorem d_K_weightOf_14 : decode prog_2_method_2_code 14 = .ok (.istore 5, 2) := by decide +kernel
theorem d_K_weightOf_16 : decode prog_2_method_2_code 16 = .ok (.iload 5, 2) := by decide +kernel
theorem d_K_weightOf_18 : decode prog_2_method_2_code 18 = .ok (.aload_n 0, 1) := by decide +kernel
theorem d_K_weightOf_19 : decode prog_2_method_2_code 19 = .ok (.getfield 15, 3) := by decide +kernel
theorem d_K_weightOf_22 : decode prog_2_method_2_code 22 = .ok (.getfield 27, 3) := by decide +kernel
theorem d_K_weightOf_25 : decode prog_2_method_2_code 25 = .ok (.if_icmp .gt 43, 3) := by decide +kernel
theorem d_K_weightOf_28 : decode prog_2_method_2_code 28 = .ok (.iload_n 2, 1) := by decide +kernel
theorem d_K_weightOf_29 : decode prog_2_method_2_code 29 = .ok (.iload 5, 2) := by decide +kernel
theorem d_K_weightOf_31 : decode prog_2_method_2_code 31 = .ok (.invokestatic 33, 3) := by decide +kernel
theorem d_K_weightOf_34 : decode prog_2_method_2_code 34 = .ok (.istore 6, 2) := by decide +kernel
theorem d_K_weightOf_36 : decode prog_2_method_2_code 36 = .ok (.iload 6, 2) := by decide +kernel
theorem d_K_weightOf_38 : decode prog_2_method_2_code 38 = .ok (.iconst (-1), 1) := by decide +kernel
theorem d_K_weightOf_39 : decode prog_2_method_2_code 39 = .ok (.if_icmp .eq 23, 3) := by decide +kernel
theorem d_K_weightOf_42 : decode prog_2_method_2_code 42 = .ok (.lload_n 3, 1) := by decide +kernel
theorem d_K_weightOf_43 : decode prog_2_method_2_code 43 = .ok (.ldc2_w 37, 3) := by decide +kernel
theorem d_K_weightOf_46 : decode prog_2_method_2_code 46 = .ok (.ldiv, 1) := by decide +kernel
theorem d_K_weightOf_47 : decode prog_2_method_2_code 47 = .ok (.aload_n 0, 1) := by decide +kernel
theorem d_K_weightOf_48 : decode prog_2_method_2_code 48 = .ok (.getfield 15, 3) := by decide +kernel
theorem d_K_weightOf_51 : decode prog_2_method_2_code 51 = .ok (.iload 5, 2) := by decide +kernel
theorem d_K_weightOf_53 : decode prog_2_method_2_code 53 = .ok (.iload_n 1, 1) := by decide +kernel
theorem d_K_weightOf_54 : decode prog_2_method_2_code 54 = .ok (.iload 6, 2) := by decide +kernel
theorem d_K_weightOf_56 : decode prog_2_method_2_code 56 = .ok (.invokevirtual 39, 3) := by decide +kernel
theorem d_K_weightOf_59 : decode prog_2_method_2_code 59 = .ok (.i2l, 1) := by decide +kernel
theorem d_K_weightOf_60 : decode prog_2_method_2_code 60 = .ok (.lmul, 1) := by decide +kernel
theorem d_K_weightOf_61 : decode prog_2_method_2_code 61 = .ok (.lstore_n 3, 1) := by decide +kernel
theorem d_K_weightOf_62 : decode prog_2_method_2_code 62 = .ok (.iinc 5 1, 3) := by decide +kernel
theorem d_K_weightOf_65 : decode prog_2_method_2_code 65 = .ok (.goto (-49), 3) := by decide +kernel
theorem d_K_weightOf_68 : decode prog_2_method_2_code 68 = .ok (.lload_n 3, 1) := by decide +kernel
theorem d_K_weightOf_69 : decode prog_2_method_2_code 69 = .ok (.lreturn, 1) := by decide +kernel
theorem d_K_left_0 : decode prog_2_method_5_code 0 = .ok (.iconst 0, 1) := by decide +kernel
theorem d_K_left_1 : decode prog_2_method_5_code 1 = .ok (.istore_n 2, 1) := by decide +kernel
theorem d_K_left_2 : decode prog_2_method_5_code 2 = .ok (.iconst 1, 1) := by decide +kernel
theorem d_K_left_3 : decode prog_2_method_5_code 3 = .ok (.istore_n 3, 1) := by decide +kernel
theorem d_K_left_4 : decode prog_2_method_5_code 4 = .ok (.iload_n 3, 1) := by decide +kernel
theorem d_K_left_5 : decode prog_2_method_5_code 5 = .ok (.aload_n 0, 1) := by decide +kernel
theorem d_K_left_6 : decode prog_2_method_5_code 6 = .ok (.getfield 9, 3) := by decide +kernel
theorem d_K_left_9 : decode prog_2_method_5_code 9 = .ok (.getfield 43, 3) := by decide +kernel
theorem d_K_left_12 : decode prog_2_method_5_code 12 = .ok (.if_icmp .gt 31, 3) := by decide +kernel
theorem d_K_left_15 : decode prog_2_method_5_code 15 = .ok (.iload_n 2, 1) := by decide +kernel
theorem d_K_left_16 : decode prog_2_method_5_code 16 = .ok (.aload_n 0, 1) := by decide +kernel
theorem d_K_left_17 : decode prog_2_method_5_code 17 = .ok (.iload_n 3, 1) := by decide +kernel
theorem d_K_left_18 : decode prog_2_method_5_code 18 = .ok (.iload_n 1, 1) := by decide +kernel
theorem d_K_left_19 : decode prog_2_method_5_code 19 = .ok (.invokevirtual 44, 3) := by decide +kernel
theorem d_K_left_22 : decode prog_2_method_5_code 22 = .ok (.lconst 0, 1) := by decide +kernel
theorem d_K_left_23 : decode prog_2_method_5_code 23 = .ok (.lcmp, 1) := by decide +kernel
theorem d_K_left_24 : decode prog_2_method_5_code 24 = .ok (.ifCond .le 10, 3) := by decide +kernel
theorem d_K_left_27 : decode prog_2_method_5_code 27 = .ok (.iload_n 3, 1) := by decide +kernel
theorem d_K_left_28 : decode prog_2_method_5_code 28 = .ok (.invokestatic 54, 3) := by decide +kernel
theorem d_K_left_31 : decode prog_2_method_5_code 31 = .ok (.goto 4, 3) := by decide +kernel
theorem d_K_left_34 : decode prog_2_method_5_code 34 = .ok (.iconst 0, 1) := by decide +kernel
theorem d_K_left_35 : decode prog_2_method_5_code 35 = .ok (.ior, 1) := by decide +kernel
theorem d_K_left_36 : decode prog_2_method_5_code 36 = .ok (.istore_n 2, 1) := by decide +kernel
theorem d_K_left_37 : decode prog_2_method_5_code 37 = .ok (.iinc 3 1, 3) := by decide +kernel
theorem d_K_left_40 : decode prog_2_method_5_code 40 = .ok (.goto (-36), 3) := by decide +kernel
theorem d_K_left_43 : decode prog_2_method_5_code 43 = .ok (.iload_n 2, 1) := by decide +kernel
theorem d_K_left_44 : decode prog_2_method_5_code 44 = .ok (.ireturn, 1) := by decide +kernel
theorem d_K_weight_0 : decode prog_2_method_3_code 0 = .ok (.lconst 0, 1) := by decide +kernel
theorem d_K_weight_1 : decode prog_2_method_3_code 1 = .ok (.lstore_n 2, 1) := by decide +kernel
theorem d_K_weight_2 : decode prog_2_method_3_code 2 = .ok (.iconst 1, 1) := by decide +kernel
theorem d_K_weight_3 : decode prog_2_method_3_code 3 = .ok (.istore 4, 2) := by decide +kernel
theorem d_K_weight_5 : decode prog_2_method_3_code 5 = .ok (.iload 4, 2) := by decide +kernel
theorem d_K_weight_7 : decode prog_2_method_3_code 7 = .ok (.aload_n 0, 1) := by decide +kernel
theorem d_K_weight_8 : decode prog_2_method_3_code 8 = .ok (.getfield 9, 3) := by decide +kernel
theorem d_K_weight_11 : decode prog_2_method_3_code 11 = .ok (.getfield 43, 3) := by decide +kernel
theorem d_K_weight_14 : decode prog_2_method_3_code 14 = .ok (.if_icmp .gt 19, 3) := by decide +kernel
theorem d_K_weight_17 : decode prog_2_method_3_code 17 = .ok (.lload_n 2, 1) := by decide +kernel
theorem d_K_weight_18 : decode prog_2_method_3_code 18 = .ok (.aload_n 0, 1) := by decide +kernel
theorem d_K_weight_19 : decode prog_2_method_3_code 19 = .ok (.iload 4, 2) := by decide +kernel
theorem d_K_weight_21 : decode prog_2_method_3_code 21 = .ok (.iload_n 1, 1) := by decide +kernel
theorem d_K_weight_22 : decode prog_2_method_3_code 22 = .ok (.invokevirtual 44, 3) := by decide +kernel
theorem d_K_weight_25 : decode prog_2_method_3_code 25 = .ok (.ladd, 1) := by decide +kernel
theorem d_K_weight_26 : decode prog_2_method_3_code 26 = .ok (.lstore_n 2, 1) := by decide +kernel
theorem d_K_weight_27 : decode prog_2_method_3_code 27 = .ok (.iinc 4 1, 3) := by decide +kernel
theorem d_K_weight_30 : decode prog_2_method_3_code 30 = .ok (.goto (-25), 3) := by decide +kernel
theorem d_K_weight_33 : decode prog_2_method_3_code 33 = .ok (.lload_n 2, 1) := by decide +kernel
theorem d_K_weight_34 : decode prog_2_method_3_code 34 = .ok (.lreturn, 1) := by decide +kernel
theorem d_K_greatestWeight_0 : decode prog_2_method_4_code 0 = .ok (.lconst 0, 1) := by decide +kernel
theorem d_K_greatestWeight_1 : decode prog_2_method_4_code 1 = .ok (.lstore_n 2, 1) := by decide +kernel
theorem d_K_greatestWeight_2 : decode prog_2_method_4_code 2 = .ok (.iconst 1, 1) := by decide +kernel
theorem d_K_greatestWeight_3 : decode prog_2_method_4_code 3 = .ok (.istore 4, 2) := by decide +kernel
theorem d_K_greatestWeight_5 : decode prog_2_method_4_code 5 = .ok (.iload 4, 2) := by decide +kernel
theorem d_K_greatestWeight_7 : decode prog_2_method_4_code 7 = .ok (.aload_n 0, 1) := by decide +kernel
theorem d_K_greatestWeight_8 : decode prog_2_method_4_code 8 = .ok (.getfield 9, 3) := by decide +kernel
theorem d_K_greatestWeight_11 : decode prog_2_method_4_code 11 = .ok (.getfield 43, 3) := by decide +kernel
theorem d_K_greatestWeight_14 : decode prog_2_method_4_code 14 = .ok (.if_icmp .gt 21, 3) := by decide +kernel
theorem d_K_greatestWeight_17 : decode prog_2_method_4_code 17 = .ok (.lload_n 2, 1) := by decide +kernel
theorem d_K_greatestWeight_18 : decode prog_2_method_4_code 18 = .ok (.aload_n 0, 1) := by decide +kernel
theorem d_K_greatestWeight_19 : decode prog_2_method_4_code 19 = .ok (.iload 4, 2) := by decide +kernel
theorem d_K_greatestWeight_21 : decode prog_2_method_4_code 21 = .ok (.iload_n 1, 1) := by decide +kernel
theorem d_K_greatestWeight_22 : decode prog_2_method_4_code 22 = .ok (.invokevirtual 44, 3) := by decide +kernel
theorem d_K_greatestWeight_25 : decode prog_2_method_4_code 25 = .ok (.invokestatic 48, 3) := by decide +kernel
theorem d_K_greatestWeight_28 : decode prog_2_method_4_code 28 = .ok (.lstore_n 2, 1) := by decide +kernel
theorem d_K_greatestWeight_29 : decode prog_2_method_4_code 29 = .ok (.iinc 4 1, 3) := by decide +kernel
theorem d_K_greatestWeight_32 : decode prog_2_method_4_code 32 = .ok (.goto (-27), 3) := by decide +kernel
theorem d_K_greatestWeight_35 : decode prog_2_method_4_code 35 = .ok (.lload_n 2, 1) := by decide +kernel
theorem d_K_greatestWeight_36 : decode prog_2_method_4_code 36 = .ok (.lreturn, 1) := by decide +kernel
theorem d_K_usable_0 : decode prog_2_method_6_code 0 = .ok (.iload_n 2, 1) := by decide +kernel
theorem d_K_usable_1 : decode prog_2_method_6_code 1 = .ok (.invokestatic 58, 3) := by decide +kernel
theorem d_K_usable_4 : decode prog_2_method_6_code 4 = .ok (.iconst 2, 1) := by decide +kernel
theorem d_K_usable_5 : decode prog_2_method_6_code 5 = .ok (.if_icmp .ge 5, 3) := by decide +kernel
theorem d_K_usable_8 : decode prog_2_method_6_code 8 = .ok (.iconst 0, 1) := by decide +kernel
theorem d_K_usable_9 : decode prog_2_method_6_code 9 = .ok (.ireturn, 1) := by decide +kernel
theorem d_K_usable_10 : decode prog_2_method_6_code 10 = .ok (.iconst 0, 1) := by decide +kernel
theorem d_K_usable_11 : decode prog_2_method_6_code 11 = .ok (.istore_n 3, 1) := by decide +kernel
theorem d_K_usable_12 : decode prog_2_method_6_code 12 = .ok (.iconst 1, 1) := by decide +kernel
theorem d_K_usable_13 : decode prog_2_method_6_code 13 = .ok (.istore 4, 2) := by decide +kernel
theorem d_K_usable_15 : decode prog_2_method_6_code 15 = .ok (.iload 4, 2) := by decide +kernel
theorem d_K_usable_17 : decode prog_2_method_6_code 17 = .ok (.aload_n 0, 1) := by decide +kernel
theorem d_K_usable_18 : decode prog_2_method_6_code 18 = .ok (.getfield 15, 3) := by decide +kernel
theorem d_K_usable_21 : decode prog_2_method_6_code 21 = .ok (.getfield 27, 3) := by decide +kernel
theorem d_K_usable_24 : decode prog_2_method_6_code 24 = .ok (.if_icmp .gt 43, 3) := by decide +kernel
theorem d_K_usable_27 : decode prog_2_method_6_code 27 = .ok (.aload_n 0, 1) := by decide +kernel
theorem d_K_usable_28 : decode prog_2_method_6_code 28 = .ok (.getfield 15, 3) := by decide +kernel
theorem d_K_usable_31 : decode prog_2_method_6_code 31 = .ok (.iload 4, 2) := by decide +kernel
theorem d_K_usable_33 : decode prog_2_method_6_code 33 = .ok (.iload_n 1, 1) := by decide +kernel
theorem d_K_usable_34 : decode prog_2_method_6_code 34 = .ok (.invokevirtual 63, 3) := by decide +kernel
theorem d_K_usable_37 : decode prog_2_method_6_code 37 = .ok (.ifCond .eq 24, 3) := by decide +kernel
theorem d_K_usable_40 : decode prog_2_method_6_code 40 = .ok (.aload_n 0, 1) := by decide +kernel
theorem d_K_usable_41 : decode prog_2_method_6_code 41 = .ok (.getfield 15, 3) := by decide +kernel
theorem d_K_usable_44 : decode prog_2_method_6_code 44 = .ok (.iload 4, 2) := by decide +kernel
theorem d_K_usable_46 : decode prog_2_method_6_code 46 = .ok (.iload_n 2, 1) := by decide +kernel
theorem d_K_usable_47 : decode prog_2_method_6_code 47 = .ok (.invokevirtual 67, 3) := by decide +kernel
theorem d_K_usable_50 : decode prog_2_method_6_code 50 = .ok (.ifCond .eq 11, 3) := by decide +kernel
theorem d_K_usable_53 : decode prog_2_method_6_code 53 = .ok (.iload_n 3, 1) := by decide +kernel
theorem d_K_usable_54 : decode prog_2_method_6_code 54 = .ok (.iload 4, 2) := by decide +kernel
theorem d_K_usable_56 : decode prog_2_method_6_code 56 = .ok (.invokestatic 54, 3) := by decide +kernel
theorem d_K_usable_59 : decode prog_2_method_6_code 59 = .ok (.ior, 1) := by decide +kernel
theorem d_K_usable_60 : decode prog_2_method_6_code 60 = .ok (.istore_n 3, 1) := by decide +kernel
theorem d_K_usable_61 : decode prog_2_method_6_code 61 = .ok (.iinc 4 1, 3) := by decide +kernel
theorem d_K_usable_64 : decode prog_2_method_6_code 64 = .ok (.goto (-49), 3) := by decide +kernel
theorem d_K_usable_67 : decode prog_2_method_6_code 67 = .ok (.iload_n 3, 1) := by decide +kernel
theorem d_K_usable_68 : decode prog_2_method_6_code 68 = .ok (.ireturn, 1) := by decide +kernel
theorem d_K_firstFree_0 : decode prog_2_method_7_code 0 = .ok (.iconst 1, 1) := by decide +kernel
theorem d_K_firstFree_1 : decode prog_2_method_7_code 1 = .ok (.istore_n 2, 1) := by decide +kernel
theorem d_K_firstFree_2 : decode prog_2_method_7_code 2 = .ok (.iload_n 2, 1) := by decide +kernel
theorem d_K_firstFree_3 : decode prog_2_method_7_code 3 = .ok (.aload_n 0, 1) := by decide +kernel
theorem d_K_firstFree_4 : decode prog_2_method_7_code 4 = .ok (.getfield 15, 3) := by decide +kernel
theorem d_K_firstFree_7 : decode prog_2_method_7_code 7 = .ok (.getfield 27, 3) := by decide +kernel
theorem d_K_firstFree_10 : decode prog_2_method_7_code 10 = .ok (.if_icmp .gt 30, 3) := by decide +kernel
theorem d_K_firstFree_13 : decode prog_2_method_7_code 13 = .ok (.iload_n 1, 1) := by decide +kernel
theorem d_K_firstFree_14 : decode prog_2_method_7_code 14 = .ok (.iload_n 2, 1) := by decide +kernel
theorem d_K_firstFree_15 : decode prog_2_method_7_code 15 = .ok (.invokestatic 70, 3) := by decide +kernel
theorem d_K_firstFree_18 : decode prog_2_method_7_code 18 = .ok (.ifCond .eq 16, 3) := by decide +kernel
theorem d_K_firstFree_21 : decode prog_2_method_7_code 21 = .ok (.aload_n 0, 1) := by decide +kernel
theorem d_K_firstFree_22 : decode prog_2_method_7_code 22 = .ok (.getfield 15, 3) := by decide +kernel
theorem d_K_firstFree_25 : decode prog_2_method_7_code 25 = .ok (.iload_n 2, 1) := by decide +kernel
theorem d_K_firstFree_26 : decode prog_2_method_7_code 26 = .ok (.invokevirtual 73, 3) := by decide +kernel
theorem d_K_firstFree_29 : decode prog_2_method_7_code 29 = .ok (.ifCond .ne 5, 3) := by decide +kernel
theorem d_K_firstFree_32 : decode prog_2_method_7_code 32 = .ok (.iload_n 2, 1) := by decide +kernel
theorem d_K_firstFree_33 : decode prog_2_method_7_code 33 = .ok (.ireturn, 1) := by decide +kernel
theorem d_K_firstFree_34 : decode prog_2_method_7_code 34 = .ok (.iinc 2 1, 3) := by decide +kernel
theorem d_K_firstFree_37 : decode prog_2_method_7_code 37 = .ok (.goto (-35), 3) := by decide +kernel
theorem d_K_firstFree_40 : decode prog_2_method_7_code 40 = .ok (.iconst 0, 1) := by decide +kernel
theorem d_K_firstFree_41 : decode prog_2_method_7_code 41 = .ok (.ireturn, 1) := by decide +kernel
theorem d_K_gain_0 : decode prog_2_method_10_code 0 = .ok (.aload_n 0, 1) := by decide +kernel
theorem d_K_gain_1 : decode prog_2_method_10_code 1 = .ok (.iload_n 1, 1) := by decide +kernel
theorem d_K_gain_2 : decode prog_2_method_10_code 2 = .ok (.invokevirtual 91, 3) := by decide +kernel
theorem d_K_gain_5 : decode prog_2_method_10_code 5 = .ok (.lneg, 1) := by decide +kernel
theorem d_K_gain_6 : decode prog_2_method_10_code 6 = .ok (.lstore_n 3, 1) := by decide +kernel
theorem d_K_gain_7 : decode prog_2_method_10_code 7 = .ok (.iconst 0, 1) := by decide +kernel
theorem d_K_gain_8 : decode prog_2_method_10_code 8 = .ok (.istore 5, 2) := by decide +kernel
theorem d_K_gain_10 : decode prog_2_method_10_code 10 = .ok (.iload 5, 2) := by decide +kernel
theorem d_K_gain_12 : decode prog_2_method_10_code 12 = .ok (.iconst 3, 1) := by decide +kernel
theorem d_K_gain_13 : decode prog_2_method_10_code 13 = .ok (.if_icmp .ge 23, 3) := by decide +kernel
theorem d_K_gain_16 : decode prog_2_method_10_code 16 = .ok (.lload_n 3, 1) := by decide +kernel
theorem d_K_gain_17 : decode prog_2_method_10_code 17 = .ok (.aload_n 0, 1) := by decide +kernel
theorem d_K_gain_18 : decode prog_2_method_10_code 18 = .ok (.iload_n 1, 1) := by decide +kernel
theorem d_K_gain_19 : decode prog_2_method_10_code 19 = .ok (.iload_n 2, 1) := by decide +kernel
theorem d_K_gain_20 : decode prog_2_method_10_code 20 = .ok (.iload 5, 2) := by decide +kernel
theorem d_K_gain_22 : decode prog_2_method_10_code 22 = .ok (.invokestatic 94, 3) := by decide +kernel
theorem d_K_gain_25 : decode prog_2_method_10_code 25 = .ok (.invokevirtual 91, 3) := by decide +kernel
theorem d_K_gain_28 : decode prog_2_method_10_code 28 = .ok (.ladd, 1) := by decide +kernel
theorem d_K_gain_29 : decode prog_2_method_10_code 29 = .ok (.lstore_n 3, 1) := by decide +kernel
theorem d_K_gain_30 : decode prog_2_method_10_code 30 = .ok (.iinc 5 1, 3) := by decide +kernel
theorem d_K_gain_33 : decode prog_2_method_10_code 33 = .ok (.goto (-23), 3) := by decide +kernel
theorem d_K_gain_36 : decode prog_2_method_10_code 36 = .ok (.lload_n 3, 1) := by decide +kernel
theorem d_K_gain_37 : decode prog_2_method_10_code 37 = .ok (.lreturn, 1) := by decide +kernel
theorem d_K_bestGain_0 : decode prog_2_method_9_code 0 = .ok (.iconst 0, 1) := by decide +kernel
theorem d_K_bestGain_1 : decode prog_2_method_9_code 1 = .ok (.istore_n 3, 1) := by decide +kernel
theorem d_K_bestGain_2 : decode prog_2_method_9_code 2 = .ok (.lconst 0, 1) := by decide +kernel
theorem d_K_bestGain_3 : decode prog_2_method_9_code 3 = .ok (.lstore 4, 2) := by decide +kernel
theorem d_K_bestGain_5 : decode prog_2_method_9_code 5 = .ok (.iconst 1, 1) := by decide +kernel
theorem d_K_bestGain_6 : decode prog_2_method_9_code 6 = .ok (.istore 6, 2) := by decide +kernel
theorem d_K_bestGain_8 : decode prog_2_method_9_code 8 = .ok (.iload 6, 2) := by decide +kernel
theorem d_K_bestGain_10 : decode prog_2_method_9_code 10 = .ok (.aload_n 0, 1) := by decide +kernel
theorem d_K_bestGain_11 : decode prog_2_method_9_code 11 = .ok (.getfield 15, 3) := by decide +kernel
theorem d_K_bestGain_14 : decode prog_2_method_9_code 14 = .ok (.getfield 27, 3) := by decide +kernel
theorem d_K_bestGain_17 : decode prog_2_method_9_code 17 = .ok (.if_icmp .gt 70, 3) := by decide +kernel
theorem d_K_bestGain_20 : decode prog_2_method_9_code 20 = .ok (.iload_n 2, 1) := by decide +kernel
theorem d_K_bestGain_21 : decode prog_2_method_9_code 21 = .ok (.iload 6, 2) := by decide +kernel
theorem d_K_bestGain_23 : decode prog_2_method_9_code 23 = .ok (.invokestatic 70, 3) := by decide +kernel
theorem d_K_bestGain_26 : decode prog_2_method_9_code 26 = .ok (.ifCond .ne 6, 3) := by decide +kernel
theorem d_K_bestGain_29 : decode prog_2_method_9_code 29 = .ok (.goto 52, 3) := by decide +kernel
theorem d_K_bestGain_32 : decode prog_2_method_9_code 32 = .ok (.aload_n 0, 1) := by decide +kernel
theorem d_K_bestGain_33 : decode prog_2_method_9_code 33 = .ok (.iload_n 1, 1) := by decide +kernel
theorem d_K_bestGain_34 : decode prog_2_method_9_code 34 = .ok (.iload 6, 2) := by decide +kernel
theorem d_K_bestGain_36 : decode prog_2_method_9_code 36 = .ok (.invokevirtual 88, 3) := by decide +kernel
theorem d_K_bestGain_39 : decode prog_2_method_9_code 39 = .ok (.lstore 7, 2) := by decide +kernel
theorem d_K_bestGain_41 : decode prog_2_method_9_code 41 = .ok (.iload_n 3, 1) := by decide +kernel
theorem d_K_bestGain_42 : decode prog_2_method_9_code 42 = .ok (.ifCond .eq 32, 3) := by decide +kernel
theorem d_K_bestGain_45 : decode prog_2_method_9_code 45 = .ok (.lload 7, 2) := by decide +kernel
theorem d_K_bestGain_47 : decode prog_2_method_9_code 47 = .ok (.aload_n 0, 1) := by decide +kernel
theorem d_K_bestGain_48 : decode prog_2_method_9_code 48 = .ok (.getfield 15, 3) := by decide +kernel
theorem d_K_bestGain_51 : decode prog_2_method_9_code 51 = .ok (.iload_n 3, 1) := by decide +kernel
theorem d_K_bestGain_52 : decode prog_2_method_9_code 52 = .ok (.invokevirtual 73, 3) := by decide +kernel
theorem d_K_bestGain_55 : decode prog_2_method_9_code 55 = .ok (.i2l, 1) := by decide +kernel
theorem d_K_bestGain_56 : decode prog_2_method_9_code 56 = .ok (.lmul, 1) := by decide +kernel
theorem d_K_bestGain_57 : decode prog_2_method_9_code 57 = .ok (.lload 4, 2) := by decide +kernel
theorem d_K_bestGain_59 : decode prog_2_method_9_code 59 = .ok (.aload_n 0, 1) := by decide +kernel
theorem d_K_bestGain_60 : decode prog_2_method_9_code 60 = .ok (.getfield 15, 3) := by decide +kernel
theorem d_K_bestGain_63 : decode prog_2_method_9_code 63 = .ok (.iload 6, 2) := by decide +kernel
theorem d_K_bestGain_65 : decode prog_2_method_9_code 65 = .ok (.invokevirtual 73, 3) := by decide +kernel
theorem d_K_bestGain_68 : decode prog_2_method_9_code 68 = .ok (.i2l, 1) := by decide +kernel
theorem d_K_bestGain_69 : decode prog_2_method_9_code 69 = .ok (.lmul, 1) := by decide +kernel
theorem d_K_bestGain_70 : decode prog_2_method_9_code 70 = .ok (.lcmp, 1) := by decide +kernel
theorem d_K_bestGain_71 : decode prog_2_method_9_code 71 = .ok (.ifCond .le 10, 3) := by decide +kernel
theorem d_K_bestGain_74 : decode prog_2_method_9_code 74 = .ok (.iload 6, 2) := by decide +kernel
theorem d_K_bestGain_76 : decode prog_2_method_9_code 76 = .ok (.istore_n 3, 1) := by decide +kernel
theorem d_K_bestGain_77 : decode prog_2_method_9_code 77 = .ok (.lload 7, 2) := by decide +kernel
theorem d_K_bestGain_79 : decode prog_2_method_9_code 79 = .ok (.lstore 4, 2) := by decide +kernel
theorem d_K_bestGain_81 : decode prog_2_method_9_code 81 = .ok (.iinc 6 1, 3) := by decide +kernel
theorem d_K_bestGain_84 : decode prog_2_method_9_code 84 = .ok (.goto (-76), 3) := by decide +kernel
theorem d_K_bestGain_87 : decode prog_2_method_9_code 87 = .ok (.iload_n 3, 1) := by decide +kernel
theorem d_K_bestGain_88 : decode prog_2_method_9_code 88 = .ok (.ireturn, 1) := by decide +kernel
theorem d_K_oneStep_0 : decode prog_2_method_8_code 0 = .ok (.aload_n 0, 1) := by decide +kernel
theorem d_K_oneStep_1 : decode prog_2_method_8_code 1 = .ok (.iload_n 1, 1) := by decide +kernel
theorem d_K_oneStep_2 : decode prog_2_method_8_code 2 = .ok (.aload_n 0, 1) := by decide +kernel
theorem d_K_oneStep_3 : decode prog_2_method_8_code 3 = .ok (.iload_n 1, 1) := by decide +kernel
theorem d_K_oneStep_4 : decode prog_2_method_8_code 4 = .ok (.invokevirtual 76, 3) := by decide +kernel
theorem d_K_oneStep_7 : decode prog_2_method_8_code 7 = .ok (.invokevirtual 79, 3) := by decide +kernel
theorem d_K_oneStep_10 : decode prog_2_method_8_code 10 = .ok (.istore_n 2, 1) := by decide +kernel
theorem d_K_oneStep_11 : decode prog_2_method_8_code 11 = .ok (.aload_n 0, 1) := by decide +kernel
theorem d_K_oneStep_12 : decode prog_2_method_8_code 12 = .ok (.iload_n 2, 1) := by decide +kernel
theorem d_K_oneStep_13 : decode prog_2_method_8_code 13 = .ok (.invokevirtual 82, 3) := by decide +kernel
theorem d_K_oneStep_16 : decode prog_2_method_8_code 16 = .ok (.istore_n 3, 1) := by decide +kernel
theorem d_K_oneStep_17 : decode prog_2_method_8_code 17 = .ok (.iload_n 3, 1) := by decide +kernel
theorem d_K_oneStep_18 : decode prog_2_method_8_code 18 = .ok (.ifCond .eq 7, 3) := by decide +kernel
theorem d_K_oneStep_21 : decode prog_2_method_8_code 21 = .ok (.iload_n 3, 1) := by decide +kernel
theorem d_K_oneStep_22 : decode prog_2_method_8_code 22 = .ok (.goto 9, 3) := by decide +kernel
theorem d_K_oneStep_25 : decode prog_2_method_8_code 25 = .ok (.aload_n 0, 1) := by decide +kernel
theorem d_K_oneStep_26 : decode prog_2_method_8_code 26 = .ok (.iload_n 1, 1) := by decide +kernel
theorem d_K_oneStep_27 : decode prog_2_method_8_code 27 = .ok (.iload_n 2, 1) := by decide +kernel
theorem d_K_oneStep_28 : decode prog_2_method_8_code 28 = .ok (.invokevirtual 85, 3) := by decide +kernel
theorem d_K_oneStep_31 : decode prog_2_method_8_code 31 = .ok (.ireturn, 1) := by decide +kernel
