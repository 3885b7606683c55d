theorem d_JA_fill_I_0 : decode prog_15_method_103_code 0 = .ok (.iconst 0, 1) := by decide +kernel
theorem d_JA_fill_I_1 : decode prog_15_method_103_code 1 = .ok (.istore_n 2, 1) := by decide +kernel
theorem d_JA_fill_I_2 : decode prog_15_method_103_code 2 = .ok (.aload_n 0, 1) := by decide +kernel
theorem d_JA_fill_I_3 : decode prog_15_method_103_code 3 = .ok (.arraylength, 1) := by decide +kernel
theorem d_JA_fill_I_4 : decode prog_15_method_103_code 4 = .ok (.istore_n 3, 1) := by decide +kernel
theorem d_JA_fill_I_5 : decode prog_15_method_103_code 5 = .ok (.iload_n 2, 1) := by decide +kernel
theorem d_JA_fill_I_6 : decode prog_15_method_103_code 6 = .ok (.iload_n 3, 1) := by decide +kernel
theorem d_JA_fill_I_7 : decode prog_15_method_103_code 7 = .ok (.if_icmp .ge 13, 3) := by decide +kernel
theorem d_JA_fill_I_10 : decode prog_15_method_103_code 10 = .ok (.aload_n 0, 1) := by decide +kernel
theorem d_JA_fill_I_11 : decode prog_15_method_103_code 11 = .ok (.iload_n 2, 1) := by decide +kernel
theorem d_JA_fill_I_12 : decode prog_15_method_103_code 12 = .ok (.iload_n 1, 1) := by decide +kernel
theorem d_JA_fill_I_13 : decode prog_15_method_103_code 13 = .ok (.iastore, 1) := by decide +kernel
theorem d_JA_fill_I_14 : decode prog_15_method_103_code 14 = .ok (.iinc 2 1, 3) := by decide +kernel
theorem d_JA_fill_I_17 : decode prog_15_method_103_code 17 = .ok (.goto (-12), 3) := by decide +kernel
theorem d_JA_fill_I_20 : decode prog_15_method_103_code 20 = .ok (.return_, 1) := by decide +kernel
theorem d_C_init_0 : decode prog_3_method_1_code 0 = .ok (.aload_n 0, 1) := by decide +kernel
theorem d_C_init_1 : decode prog_3_method_1_code 1 = .ok (.invokespecial 3, 3) := by decide +kernel
theorem d_C_init_4 : decode prog_3_method_1_code 4 = .ok (.aload_n 0, 1) := by decide +kernel
theorem d_C_init_5 : decode prog_3_method_1_code 5 = .ok (.bipush 13, 2) := by decide +kernel
theorem d_C_init_7 : decode prog_3_method_1_code 7 = .ok (.newarray .long, 2) := by decide +kernel
theorem d_C_init_9 : decode prog_3_method_1_code 9 = .ok (.putfield 9, 3) := by decide +kernel
theorem d_C_init_12 : decode prog_3_method_1_code 12 = .ok (.aload_n 0, 1) := by decide +kernel
theorem d_C_init_13 : decode prog_3_method_1_code 13 = .ok (.bipush 13, 2) := by decide +kernel
theorem d_C_init_15 : decode prog_3_method_1_code 15 = .ok (.newarray .int, 2) := by decide +kernel
theorem d_C_init_17 : decode prog_3_method_1_code 17 = .ok (.putfield 15, 3) := by decide +kernel
theorem d_C_init_20 : decode prog_3_method_1_code 20 = .ok (.aload_n 0, 1) := by decide +kernel
theorem d_C_init_21 : decode prog_3_method_1_code 21 = .ok (.bipush 13, 2) := by decide +kernel
theorem d_C_init_23 : decode prog_3_method_1_code 23 = .ok (.newarray .int, 2) := by decide +kernel
theorem d_C_init_25 : decode prog_3_method_1_code 25 = .ok (.putfield 19, 3) := by decide +kernel
theorem d_C_init_28 : decode prog_3_method_1_code 28 = .ok (.aload_n 0, 1) := by decide +kernel
theorem d_C_init_29 : decode prog_3_method_1_code 29 = .ok (.iconst 0, 1) := by decide +kernel
theorem d_C_init_30 : decode prog_3_method_1_code 30 = .ok (.putfield 22, 3) := by decide +kernel
theorem d_C_init_33 : decode prog_3_method_1_code 33 = .ok (.aload_n 0, 1) := by decide +kernel
theorem d_C_init_34 : decode prog_3_method_1_code 34 = .ok (.iconst 0, 1) := by decide +kernel
theorem d_C_init_35 : decode prog_3_method_1_code 35 = .ok (.putfield 26, 3) := by decide +kernel
theorem d_C_init_38 : decode prog_3_method_1_code 38 = .ok (.return_, 1) := by decide +kernel
theorem d_T_init_0 : decode prog_5_method_1_code 0 = .ok (.aload_n 0, 1) := by decide +kernel
theorem d_T_init_1 : decode prog_5_method_1_code 1 = .ok (.invokespecial 3, 3) := by decide +kernel
theorem d_T_init_4 : decode prog_5_method_1_code 4 = .ok (.aload_n 0, 1) := by decide +kernel
theorem d_T_init_5 : decode prog_5_method_1_code 5 = .ok (.bipush 6, 2) := by decide +kernel
theorem d_T_init_7 : decode prog_5_method_1_code 7 = .ok (.newarray .int, 2) := by decide +kernel
theorem d_T_init_9 : decode prog_5_method_1_code 9 = .ok (.putfield 9, 3) := by decide +kernel
theorem d_T_init_12 : decode prog_5_method_1_code 12 = .ok (.aload_n 0, 1) := by decide +kernel
theorem d_T_init_13 : decode prog_5_method_1_code 13 = .ok (.bipush 6, 2) := by decide +kernel
theorem d_T_init_15 : decode prog_5_method_1_code 15 = .ok (.newarray .int, 2) := by decide +kernel
theorem d_T_init_17 : decode prog_5_method_1_code 17 = .ok (.putfield 15, 3) := by decide +kernel
theorem d_T_init_20 : decode prog_5_method_1_code 20 = .ok (.aload_n 0, 1) := by decide +kernel
theorem d_T_init_21 : decode prog_5_method_1_code 21 = .ok (.bipush 6, 2) := by decide +kernel
theorem d_T_init_23 : decode prog_5_method_1_code 23 = .ok (.bipush 13, 2) := by decide +kernel
theorem d_T_init_25 : decode prog_5_method_1_code 25 = .ok (.multianewarray 18 2, 4) := by decide +kernel
theorem d_T_init_29 : decode prog_5_method_1_code 29 = .ok (.putfield 20, 3) := by decide +kernel
theorem d_T_init_32 : decode prog_5_method_1_code 32 = .ok (.aload_n 0, 1) := by decide +kernel
theorem d_T_init_33 : decode prog_5_method_1_code 33 = .ok (.iconst 0, 1) := by decide +kernel
theorem d_T_init_34 : decode prog_5_method_1_code 34 = .ok (.putfield 23, 3) := by decide +kernel
theorem d_T_init_37 : decode prog_5_method_1_code 37 = .ok (.iconst 1, 1) := by decide +kernel
theorem d_T_init_38 : decode prog_5_method_1_code 38 = .ok (.istore_n 1, 1) := by decide +kernel
theorem d_T_init_39 : decode prog_5_method_1_code 39 = .ok (.iload_n 1, 1) := by decide +kernel
theorem d_T_init_40 : decode prog_5_method_1_code 40 = .ok (.iconst 5, 1) := by decide +kernel
theorem d_T_init_41 : decode prog_5_method_1_code 41 = .ok (.if_icmp .gt 20, 3) := by decide +kernel
theorem d_T_init_44 : decode prog_5_method_1_code 44 = .ok (.aload_n 0, 1) := by decide +kernel
theorem d_T_init_45 : decode prog_5_method_1_code 45 = .ok (.getfield 20, 3) := by decide +kernel
theorem d_T_init_48 : decode prog_5_method_1_code 48 = .ok (.iload_n 1, 1) := by decide +kernel
theorem d_T_init_49 : decode prog_5_method_1_code 49 = .ok (.aaload, 1) := by decide +kernel
theorem d_T_init_50 : decode prog_5_method_1_code 50 = .ok (.bipush 12, 2) := by decide +kernel
theorem d_T_init_52 : decode prog_5_method_1_code 52 = .ok (.invokestatic 27, 3) := by decide +kernel
theorem d_T_init_55 : decode prog_5_method_1_code 55 = .ok (.iinc 1 1, 3) := by decide +kernel
theorem d_T_init_58 : decode prog_5_method_1_code 58 = .ok (.goto (-19), 3) := by decide +kernel
theorem d_T_init_61 : decode prog_5_method_1_code 61 = .ok (.return_, 1) := by decide +kernel
theorem d_K_init_0 : decode prog_2_method_1_code 0 = .ok (.aload_n 0, 1) := by decide +kernel
theorem d_K_init_1 : decode prog_2_method_1_code 1 = .ok (.invokespecial 3, 3) := by decide +kernel
theorem d_K_init_4 : decode prog_2_method_1_code 4 = .ok (.aload_n 0, 1) := by decide +kernel
theorem d_K_init_5 : decode prog_2_method_1_code 5 = .ok (.aload_n 1, 1) := by decide +kernel
theorem d_K_init_6 : decode prog_2_method_1_code 6 = .ok (.putfield 9, 3) := by decide +kernel
theorem d_K_init_9 : decode prog_2_method_1_code 9 = .ok (.aload_n 0, 1) := by decide +kernel
theorem d_K_init_10 : decode prog_2_method_1_code 10 = .ok (.aload_n 2, 1) := by decide +kernel
theorem d_K_init_11 : decode prog_2_method_1_code 11 = .ok (.putfield 15, 3) := by decide +kernel
theorem d_K_init_14 : decode prog_2_method_1_code 14 = .ok (.return_, 1) := by decide +kernel
theorem d_P_init_0 : decode prog_4_method_1_code 0 = .ok (.aload_n 0, 1) := by decide +kernel
theorem d_P_init_1 : decode prog_4_method_1_code 1 = .ok (.invokespecial 3, 3) := by decide +kernel
theorem d_P_init_4 : decode prog_4_method_1_code 4 = .ok (.aload_n 0, 1) := by decide +kernel
theorem d_P_init_5 : decode prog_4_method_1_code 5 = .ok (.sipush 1024, 3) := by decide +kernel
theorem d_P_init_8 : decode prog_4_method_1_code 8 = .ok (.newarray .long, 2) := by decide +kernel
theorem d_P_init_10 : decode prog_4_method_1_code 10 = .ok (.putfield 9, 3) := by decide +kernel
theorem d_P_init_13 : decode prog_4_method_1_code 13 = .ok (.aload_n 0, 1) := by decide +kernel
theorem d_P_init_14 : decode prog_4_method_1_code 14 = .ok (.sipush 1024, 3) := by decide +kernel
theorem d_P_init_17 : decode prog_4_method_1_code 17 = .ok (.newarray .byte, 2) := by decide +kernel
theorem d_P_init_19 : decode prog_4_method_1_code 19 = .ok (.putfield 15, 3) := by decide +kernel
theorem d_P_init_22 : decode prog_4_method_1_code 22 = .ok (.aload_n 0, 1) := by decide +kernel
theorem d_P_init_23 : decode prog_4_method_1_code 23 = .ok (.bipush 6, 2) := by decide +kernel
theorem d_P_init_25 : decode prog_4_method_1_code 25 = .ok (.bipush 13, 2) := by decide +kernel
theorem d_P_init_27 : decode prog_4_method_1_code 27 = .ok (.multianewarray 19 2, 4) := by decide +kernel
theorem d_P_init_31 : decode prog_4_method_1_code 31 = .ok (.putfield 21, 3) := by decide +kernel
theorem d_P_init_34 : decode prog_4_method_1_code 34 = .ok (.aload_n 0, 1) := by decide +kernel
theorem d_P_init_35 : decode prog_4_method_1_code 35 = .ok (.sipush 300, 3) := by decide +kernel
theorem d_P_init_38 : decode prog_4_method_1_code 38 = .ok (.newarray .byte, 2) := by decide +kernel
theorem d_P_init_40 : decode prog_4_method_1_code 40 = .ok (.putfield 24, 3) := by decide +kernel
theorem d_P_init_43 : decode prog_4_method_1_code 43 = .ok (.aload_n 0, 1) := by decide +kernel
theorem d_P_init_44 : decode prog_4_method_1_code 44 = .ok (.sipush 300, 3) := by decide +kernel
theorem d_P_init_47 : decode prog_4_method_1_code 47 = .ok (.newarray .byte, 2) := by decide +kernel
theorem d_P_init_49 : decode prog_4_method_1_code 49 = .ok (.putfield 27, 3) := by decide +kernel
theorem d_P_init_52 : decode prog_4_method_1_code 52 = .ok (.aload_n 0, 1) := by decide +kernel
theorem d_P_init_53 : decode prog_4_method_1_code 53 = .ok (.sipush 300, 3) := by decide +kernel
theorem d_P_init_56 : decode prog_4_method_1_code 56 = .ok (.newarray .byte, 2) := by decide +kernel
theorem d_P_init_58 : decode prog_4_method_1_code 58 = .ok (.putfield 30, 3) := by decide +kernel
theorem d_P_init_61 : decode prog_4_method_1_code 61 = .ok (.aload_n 0, 1) := by decide +kernel
theorem d_P_init_62 : decode prog_4_method_1_code 62 = .ok (.iconst 0, 1) := by decide +kernel
theorem d_P_init_63 : decode prog_4_method_1_code 63 = .ok (.putfield 33, 3) := by decide +kernel
theorem d_P_init_66 : decode prog_4_method_1_code 66 = .ok (.aload_n 0, 1) := by decide +kernel
theorem d_P_init_67 : decode prog_4_method_1_code 67 = .ok (.ldc2_w 37, 3) := by decide +kernel
theorem d_P_init_70 : decode prog_4_method_1_code 70 = .ok (.putfield 39, 3) := by decide +kernel
theorem d_P_init_73 : decode prog_4_method_1_code 73 = .ok (.aload_n 0, 1) := by decide +kernel
theorem d_P_init_74 : decode prog_4_method_1_code 74 = .ok (.aload_n 1, 1) := by decide +kernel
theorem d_P_init_75 : decode prog_4_method_1_code 75 = .ok (.putfield 43, 3) := by decide +kernel
theorem d_P_init_78 : decode prog_4_method_1_code 78 = .ok (.return_, 1) := by decide +kernel
