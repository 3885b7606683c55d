theorem d_G_isAnswer_0 : decode prog_1_method_15_code 0 = .ok (.iload_n 0, 1) := by decide +kernel
theorem d_G_isAnswer_1 : decode prog_1_method_15_code 1 = .ok (.ifCond .lt 12, 3) := by decide +kernel
theorem d_G_isAnswer_4 : decode prog_1_method_15_code 4 = .ok (.iload_n 0, 1) := by decide +kernel
theorem d_G_isAnswer_5 : decode prog_1_method_15_code 5 = .ok (.iconst 3, 1) := by decide +kernel
theorem d_G_isAnswer_6 : decode prog_1_method_15_code 6 = .ok (.if_icmp .ge 7, 3) := by decide +kernel
theorem d_G_isAnswer_9 : decode prog_1_method_15_code 9 = .ok (.iconst 1, 1) := by decide +kernel
theorem d_G_isAnswer_10 : decode prog_1_method_15_code 10 = .ok (.goto 4, 3) := by decide +kernel
theorem d_G_isAnswer_13 : decode prog_1_method_15_code 13 = .ok (.iconst 0, 1) := by decide +kernel
theorem d_G_isAnswer_14 : decode prog_1_method_15_code 14 = .ok (.ireturn, 1) := by decide +kernel
theorem d_G_isPartOfTwelve_0 : decode prog_1_method_16_code 0 = .ok (.lload_n 2, 1) := by decide +kernel
theorem d_G_isPartOfTwelve_1 : decode prog_1_method_16_code 1 = .ok (.lconst 1, 1) := by decide +kernel
theorem d_G_isPartOfTwelve_2 : decode prog_1_method_16_code 2 = .ok (.lcmp, 1) := by decide +kernel
theorem d_G_isPartOfTwelve_3 : decode prog_1_method_16_code 3 = .ok (.ifCond .lt 29, 3) := by decide +kernel
theorem d_G_isPartOfTwelve_6 : decode prog_1_method_16_code 6 = .ok (.ldc2_w 82, 3) := by decide +kernel
theorem d_G_isPartOfTwelve_9 : decode prog_1_method_16_code 9 = .ok (.lload_n 2, 1) := by decide +kernel
theorem d_G_isPartOfTwelve_10 : decode prog_1_method_16_code 10 = .ok (.lrem, 1) := by decide +kernel
theorem d_G_isPartOfTwelve_11 : decode prog_1_method_16_code 11 = .ok (.lconst 0, 1) := by decide +kernel
theorem d_G_isPartOfTwelve_12 : decode prog_1_method_16_code 12 = .ok (.lcmp, 1) := by decide +kernel
theorem d_G_isPartOfTwelve_13 : decode prog_1_method_16_code 13 = .ok (.ifCond .ne 19, 3) := by decide +kernel
theorem d_G_isPartOfTwelve_16 : decode prog_1_method_16_code 16 = .ok (.lload_n 0, 1) := by decide +kernel
theorem d_G_isPartOfTwelve_17 : decode prog_1_method_16_code 17 = .ok (.lconst 0, 1) := by decide +kernel
theorem d_G_isPartOfTwelve_18 : decode prog_1_method_16_code 18 = .ok (.lcmp, 1) := by decide +kernel
theorem d_G_isPartOfTwelve_19 : decode prog_1_method_16_code 19 = .ok (.ifCond .lt 13, 3) := by decide +kernel
theorem d_G_isPartOfTwelve_22 : decode prog_1_method_16_code 22 = .ok (.lload_n 0, 1) := by decide +kernel
theorem d_G_isPartOfTwelve_23 : decode prog_1_method_16_code 23 = .ok (.lload_n 2, 1) := by decide +kernel
theorem d_G_isPartOfTwelve_24 : decode prog_1_method_16_code 24 = .ok (.lcmp, 1) := by decide +kernel
theorem d_G_isPartOfTwelve_25 : decode prog_1_method_16_code 25 = .ok (.ifCond .gt 7, 3) := by decide +kernel
theorem d_G_isPartOfTwelve_28 : decode prog_1_method_16_code 28 = .ok (.iconst 1, 1) := by decide +kernel
theorem d_G_isPartOfTwelve_29 : decode prog_1_method_16_code 29 = .ok (.goto 4, 3) := by decide +kernel
theorem d_G_isPartOfTwelve_32 : decode prog_1_method_16_code 32 = .ok (.iconst 0, 1) := by decide +kernel
theorem d_G_isPartOfTwelve_33 : decode prog_1_method_16_code 33 = .ok (.ireturn, 1) := by decide +kernel
theorem d_G_answerIn_0 : decode prog_1_method_19_code 0 = .ok (.iload_n 0, 1) := by decide +kernel
theorem d_G_answerIn_1 : decode prog_1_method_19_code 1 = .ok (.iconst 2, 1) := by decide +kernel
theorem d_G_answerIn_2 : decode prog_1_method_19_code 2 = .ok (.iload_n 1, 1) := by decide +kernel
theorem d_G_answerIn_3 : decode prog_1_method_19_code 3 = .ok (.iconst 1, 1) := by decide +kernel
theorem d_G_answerIn_4 : decode prog_1_method_19_code 4 = .ok (.isub, 1) := by decide +kernel
theorem d_G_answerIn_5 : decode prog_1_method_19_code 5 = .ok (.imul, 1) := by decide +kernel
theorem d_G_answerIn_6 : decode prog_1_method_19_code 6 = .ok (.ishr, 1) := by decide +kernel
theorem d_G_answerIn_7 : decode prog_1_method_19_code 7 = .ok (.iconst 3, 1) := by decide +kernel
theorem d_G_answerIn_8 : decode prog_1_method_19_code 8 = .ok (.iand, 1) := by decide +kernel
theorem d_G_answerIn_9 : decode prog_1_method_19_code 9 = .ok (.iconst 1, 1) := by decide +kernel
theorem d_G_answerIn_10 : decode prog_1_method_19_code 10 = .ok (.isub, 1) := by decide +kernel
theorem d_G_answerIn_11 : decode prog_1_method_19_code 11 = .ok (.ireturn, 1) := by decide +kernel
theorem d_G_bit_0 : decode prog_1_method_17_code 0 = .ok (.iconst 1, 1) := by decide +kernel
theorem d_G_bit_1 : decode prog_1_method_17_code 1 = .ok (.iload_n 0, 1) := by decide +kernel
theorem d_G_bit_2 : decode prog_1_method_17_code 2 = .ok (.ishl, 1) := by decide +kernel
theorem d_G_bit_3 : decode prog_1_method_17_code 3 = .ok (.ireturn, 1) := by decide +kernel
theorem d_G_holds_0 : decode prog_1_method_18_code 0 = .ok (.iload_n 0, 1) := by decide +kernel
theorem d_G_holds_1 : decode prog_1_method_18_code 1 = .ok (.iload_n 1, 1) := by decide +kernel
theorem d_G_holds_2 : decode prog_1_method_18_code 2 = .ok (.invokestatic 102, 3) := by decide +kernel
theorem d_G_holds_5 : decode prog_1_method_18_code 5 = .ok (.iand, 1) := by decide +kernel
theorem d_G_holds_6 : decode prog_1_method_18_code 6 = .ok (.ifCond .eq 7, 3) := by decide +kernel
theorem d_G_holds_9 : decode prog_1_method_18_code 9 = .ok (.iconst 1, 1) := by decide +kernel
theorem d_G_holds_10 : decode prog_1_method_18_code 10 = .ok (.goto 4, 3) := by decide +kernel
theorem d_G_holds_13 : decode prog_1_method_18_code 13 = .ok (.iconst 0, 1) := by decide +kernel
theorem d_G_holds_14 : decode prog_1_method_18_code 14 = .ok (.ireturn, 1) := by decide +kernel
theorem d_JI_bitCount_0 : decode prog_10_method_49_code 0 = .ok (.iload_n 0, 1) := by decide +kernel
theorem d_JI_bitCount_1 : decode prog_10_method_49_code 1 = .ok (.iload_n 0, 1) := by decide +kernel
theorem d_JI_bitCount_2 : decode prog_10_method_49_code 2 = .ok (.iconst 1, 1) := by decide +kernel
theorem d_JI_bitCount_3 : decode prog_10_method_49_code 3 = .ok (.iushr, 1) := by decide +kernel
theorem d_JI_bitCount_4 : decode prog_10_method_49_code 4 = .ok (.ldc_w 265, 3) := by decide +kernel
theorem d_JI_bitCount_7 : decode prog_10_method_49_code 7 = .ok (.iand, 1) := by decide +kernel
theorem d_JI_bitCount_8 : decode prog_10_method_49_code 8 = .ok (.isub, 1) := by decide +kernel
theorem d_JI_bitCount_9 : decode prog_10_method_49_code 9 = .ok (.istore_n 0, 1) := by decide +kernel
theorem d_JI_bitCount_10 : decode prog_10_method_49_code 10 = .ok (.iload_n 0, 1) := by decide +kernel
theorem d_JI_bitCount_11 : decode prog_10_method_49_code 11 = .ok (.ldc_w 266, 3) := by decide +kernel
theorem d_JI_bitCount_14 : decode prog_10_method_49_code 14 = .ok (.iand, 1) := by decide +kernel
theorem d_JI_bitCount_15 : decode prog_10_method_49_code 15 = .ok (.iload_n 0, 1) := by decide +kernel
theorem d_JI_bitCount_16 : decode prog_10_method_49_code 16 = .ok (.iconst 2, 1) := by decide +kernel
theorem d_JI_bitCount_17 : decode prog_10_method_49_code 17 = .ok (.iushr, 1) := by decide +kernel
theorem d_JI_bitCount_18 : decode prog_10_method_49_code 18 = .ok (.ldc_w 266, 3) := by decide +kernel
theorem d_JI_bitCount_21 : decode prog_10_method_49_code 21 = .ok (.iand, 1) := by decide +kernel
theorem d_JI_bitCount_22 : decode prog_10_method_49_code 22 = .ok (.iadd, 1) := by decide +kernel
theorem d_JI_bitCount_23 : decode prog_10_method_49_code 23 = .ok (.istore_n 0, 1) := by decide +kernel
theorem d_JI_bitCount_24 : decode prog_10_method_49_code 24 = .ok (.iload_n 0, 1) := by decide +kernel
theorem d_JI_bitCount_25 : decode prog_10_method_49_code 25 = .ok (.iload_n 0, 1) := by decide +kernel
theorem d_JI_bitCount_26 : decode prog_10_method_49_code 26 = .ok (.iconst 4, 1) := by decide +kernel
theorem d_JI_bitCount_27 : decode prog_10_method_49_code 27 = .ok (.iushr, 1) := by decide +kernel
theorem d_JI_bitCount_28 : decode prog_10_method_49_code 28 = .ok (.iadd, 1) := by decide +kernel
theorem d_JI_bitCount_29 : decode prog_10_method_49_code 29 = .ok (.ldc_w 267, 3) := by decide +kernel
theorem d_JI_bitCount_32 : decode prog_10_method_49_code 32 = .ok (.iand, 1) := by decide +kernel
theorem d_JI_bitCount_33 : decode prog_10_method_49_code 33 = .ok (.istore_n 0, 1) := by decide +kernel
theorem d_JI_bitCount_34 : decode prog_10_method_49_code 34 = .ok (.iload_n 0, 1) := by decide +kernel
theorem d_JI_bitCount_35 : decode prog_10_method_49_code 35 = .ok (.iload_n 0, 1) := by decide +kernel
theorem d_JI_bitCount_36 : decode prog_10_method_49_code 36 = .ok (.bipush 8, 2) := by decide +kernel
theorem d_JI_bitCount_38 : decode prog_10_method_49_code 38 = .ok (.iushr, 1) := by decide +kernel
theorem d_JI_bitCount_39 : decode prog_10_method_49_code 39 = .ok (.iadd, 1) := by decide +kernel
theorem d_JI_bitCount_40 : decode prog_10_method_49_code 40 = .ok (.istore_n 0, 1) := by decide +kernel
theorem d_JI_bitCount_41 : decode prog_10_method_49_code 41 = .ok (.iload_n 0, 1) := by decide +kernel
theorem d_JI_bitCount_42 : decode prog_10_method_49_code 42 = .ok (.iload_n 0, 1) := by decide +kernel
theorem d_JI_bitCount_43 : decode prog_10_method_49_code 43 = .ok (.bipush 16, 2) := by decide +kernel
theorem d_JI_bitCount_45 : decode prog_10_method_49_code 45 = .ok (.iushr, 1) := by decide +kernel
theorem d_JI_bitCount_46 : decode prog_10_method_49_code 46 = .ok (.iadd, 1) := by decide +kernel
theorem d_JI_bitCount_47 : decode prog_10_method_49_code 47 = .ok (.istore_n 0, 1) := by decide +kernel
theorem d_JI_bitCount_48 : decode prog_10_method_49_code 48 = .ok (.iload_n 0, 1) := by decide +kernel
theorem d_JI_bitCount_49 : decode prog_10_method_49_code 49 = .ok (.bipush 63, 2) := by decide +kernel
theorem d_JI_bitCount_51 : decode prog_10_method_49_code 51 = .ok (.iand, 1) := by decide +kernel
theorem d_JI_bitCount_52 : decode prog_10_method_49_code 52 = .ok (.ireturn, 1) := by decide +kernel
theorem d_G_withAnswer_0 : decode prog_1_method_20_code 0 = .ok (.iload_n 0, 1) := by decide +kernel
theorem d_G_withAnswer_1 : decode prog_1_method_20_code 1 = .ok (.iload_n 2, 1) := by decide +kernel
theorem d_G_withAnswer_2 : decode prog_1_method_20_code 2 = .ok (.iconst 1, 1) := by decide +kernel
theorem d_G_withAnswer_3 : decode prog_1_method_20_code 3 = .ok (.iadd, 1) := by decide +kernel
theorem d_G_withAnswer_4 : decode prog_1_method_20_code 4 = .ok (.iconst 2, 1) := by decide +kernel
theorem d_G_withAnswer_5 : decode prog_1_method_20_code 5 = .ok (.iload_n 1, 1) := by decide +kernel
theorem d_G_withAnswer_6 : decode prog_1_method_20_code 6 = .ok (.iconst 1, 1) := by decide +kernel
theorem d_G_withAnswer_7 : decode prog_1_method_20_code 7 = .ok (.isub, 1) := by decide +kernel
theorem d_G_withAnswer_8 : decode prog_1_method_20_code 8 = .ok (.imul, 1) := by decide +kernel
theorem d_G_withAnswer_9 : decode prog_1_method_20_code 9 = .ok (.ishl, 1) := by decide +kernel
theorem d_G_withAnswer_10 : decode prog_1_method_20_code 10 = .ok (.ior, 1) := by decide +kernel
theorem d_G_withAnswer_11 : decode prog_1_method_20_code 11 = .ok (.ireturn, 1) := by decide +kernel
theorem d_G_commonDivisor_0 : decode prog_1_method_21_code 0 = .ok (.lload_n 0, 1) := by decide +kernel
theorem d_G_commonDivisor_1 : decode prog_1_method_21_code 1 = .ok (.lstore 4, 2) := by decide +kernel
theorem d_G_commonDivisor_3 : decode prog_1_method_21_code 3 = .ok (.lload_n 2, 1) := by decide +kernel
theorem d_G_commonDivisor_4 : decode prog_1_method_21_code 4 = .ok (.lstore 6, 2) := by decide +kernel
theorem d_G_commonDivisor_6 : decode prog_1_method_21_code 6 = .ok (.iconst 0, 1) := by decide +kernel
theorem d_G_commonDivisor_7 : decode prog_1_method_21_code 7 = .ok (.istore 8, 2) := by decide +kernel
theorem d_G_commonDivisor_9 : decode prog_1_method_21_code 9 = .ok (.iload 8, 2) := by decide +kernel
theorem d_G_commonDivisor_11 : decode prog_1_method_21_code 11 = .ok (.sipush 200, 3) := by decide +kernel
theorem d_G_commonDivisor_14 : decode prog_1_method_21_code 14 = .ok (.if_icmp .ge 31, 3) := by decide +kernel
theorem d_G_commonDivisor_17 : decode prog_1_method_21_code 17 = .ok (.lload 6, 2) := by decide +kernel
theorem d_G_commonDivisor_19 : decode prog_1_method_21_code 19 = .ok (.lconst 0, 1) := by decide +kernel
theorem d_G_commonDivisor_20 : decode prog_1_method_21_code 20 = .ok (.lcmp, 1) := by decide +kernel
theorem d_G_commonDivisor_21 : decode prog_1_method_21_code 21 = .ok (.ifCond .eq 24, 3) := by decide +kernel
theorem d_G_commonDivisor_24 : decode prog_1_method_21_code 24 = .ok (.lload 4, 2) := by decide +kernel
theorem d_G_commonDivisor_26 : decode prog_1_method_21_code 26 = .ok (.lload 6, 2) := by decide +kernel
theorem d_G_commonDivisor_28 : decode prog_1_method_21_code 28 = .ok (.lrem, 1) := by decide +kernel
theorem d_G_commonDivisor_29 : decode prog_1_method_21_code 29 = .ok (.lstore 9, 2) := by decide +kernel
theorem d_G_commonDivisor_31 : decode prog_1_method_21_code 31 = .ok (.lload 6, 2) := by decide +kernel
theorem d_G_commonDivisor_33 : decode prog_1_method_21_code 33 = .ok (.lstore 4, 2) := by decide +kernel
theorem d_G_commonDivisor_35 : decode prog_1_method_21_code 35 = .ok (.lload 9, 2) := by decide +kernel
theorem d_G_commonDivisor_37 : decode prog_1_method_21_code 37 = .ok (.lstore 6, 2) := by decide +kernel
theorem d_G_commonDivisor_39 : decode prog_1_method_21_code 39 = .ok (.iinc 8 1, 3) := by decide +kernel
theorem d_G_commonDivisor_42 : decode prog_1_method_21_code 42 = .ok (.goto (-33), 3) := by decide +kernel
theorem d_G_commonDivisor_45 : decode prog_1_method_21_code 45 = .ok (.lload 4, 2) := by decide +kernel
theorem d_G_commonDivisor_47 : decode prog_1_method_21_code 47 = .ok (.lreturn, 1) := by decide +kernel
