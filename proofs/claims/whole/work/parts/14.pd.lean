theorem d_P_tell_0 : decode prog_4_method_4_code 0 = .ok (.iload_n 1, 1) := by decide +kernel
theorem d_P_tell_1 : decode prog_4_method_4_code 1 = .ok (.ifCond .lt 10, 3) := by decide +kernel
theorem d_P_tell_4 : decode prog_4_method_4_code 4 = .ok (.iload_n 1, 1) := by decide +kernel
theorem d_P_tell_5 : decode prog_4_method_4_code 5 = .ok (.sipush 300, 3) := by decide +kernel
theorem d_P_tell_8 : decode prog_4_method_4_code 8 = .ok (.if_icmp .lt 5, 3) := by decide +kernel
theorem d_P_tell_11 : decode prog_4_method_4_code 11 = .ok (.iconst (-1), 1) := by decide +kernel
theorem d_P_tell_12 : decode prog_4_method_4_code 12 = .ok (.ireturn, 1) := by decide +kernel
theorem d_P_tell_13 : decode prog_4_method_4_code 13 = .ok (.iload_n 2, 1) := by decide +kernel
theorem d_P_tell_14 : decode prog_4_method_4_code 14 = .ok (.tableswitch 47 0 2 #[26, 33, 40], 26) := by decide +kernel
theorem d_P_tell_40 : decode prog_4_method_4_code 40 = .ok (.aload_n 0, 1) := by decide +kernel
theorem d_P_tell_41 : decode prog_4_method_4_code 41 = .ok (.getfield 24, 3) := by decide +kernel
theorem d_P_tell_44 : decode prog_4_method_4_code 44 = .ok (.iload_n 1, 1) := by decide +kernel
theorem d_P_tell_45 : decode prog_4_method_4_code 45 = .ok (.baload, 1) := by decide +kernel
theorem d_P_tell_46 : decode prog_4_method_4_code 46 = .ok (.ireturn, 1) := by decide +kernel
theorem d_P_tell_47 : decode prog_4_method_4_code 47 = .ok (.aload_n 0, 1) := by decide +kernel
theorem d_P_tell_48 : decode prog_4_method_4_code 48 = .ok (.getfield 27, 3) := by decide +kernel
theorem d_P_tell_51 : decode prog_4_method_4_code 51 = .ok (.iload_n 1, 1) := by decide +kernel
theorem d_P_tell_52 : decode prog_4_method_4_code 52 = .ok (.baload, 1) := by decide +kernel
theorem d_P_tell_53 : decode prog_4_method_4_code 53 = .ok (.ireturn, 1) := by decide +kernel
theorem d_P_tell_54 : decode prog_4_method_4_code 54 = .ok (.aload_n 0, 1) := by decide +kernel
theorem d_P_tell_55 : decode prog_4_method_4_code 55 = .ok (.getfield 30, 3) := by decide +kernel
theorem d_P_tell_58 : decode prog_4_method_4_code 58 = .ok (.iload_n 1, 1) := by decide +kernel
theorem d_P_tell_59 : decode prog_4_method_4_code 59 = .ok (.baload, 1) := by decide +kernel
theorem d_P_tell_60 : decode prog_4_method_4_code 60 = .ok (.ireturn, 1) := by decide +kernel
theorem d_P_tell_61 : decode prog_4_method_4_code 61 = .ok (.bipush (-2), 2) := by decide +kernel
theorem d_P_tell_63 : decode prog_4_method_4_code 63 = .ok (.ireturn, 1) := by decide +kernel
theorem d_P_drop_0 : decode prog_4_method_2_code 0 = .ok (.aload_n 0, 1) := by decide +kernel
theorem d_P_drop_1 : decode prog_4_method_2_code 1 = .ok (.iconst 0, 1) := by decide +kernel
theorem d_P_drop_2 : decode prog_4_method_2_code 2 = .ok (.putfield 33, 3) := by decide +kernel
theorem d_P_drop_5 : decode prog_4_method_2_code 5 = .ok (.aload_n 0, 1) := by decide +kernel
theorem d_P_drop_6 : decode prog_4_method_2_code 6 = .ok (.ldc2_w 37, 3) := by decide +kernel
theorem d_P_drop_9 : decode prog_4_method_2_code 9 = .ok (.putfield 39, 3) := by decide +kernel
theorem d_P_drop_12 : decode prog_4_method_2_code 12 = .ok (.return_, 1) := by decide +kernel
theorem d_P_weighFirst_0 : decode prog_4_method_5_code 0 = .ok (.iconst 1, 1) := by decide +kernel
theorem d_P_weighFirst_1 : decode prog_4_method_5_code 1 = .ok (.istore_n 2, 1) := by decide +kernel
theorem d_P_weighFirst_2 : decode prog_4_method_5_code 2 = .ok (.iload_n 2, 1) := by decide +kernel
theorem d_P_weighFirst_3 : decode prog_4_method_5_code 3 = .ok (.bipush 12, 2) := by decide +kernel
theorem d_P_weighFirst_5 : decode prog_4_method_5_code 5 = .ok (.if_icmp .gt 26, 3) := by decide +kernel
theorem d_P_weighFirst_8 : decode prog_4_method_5_code 8 = .ok (.aload_n 0, 1) := by decide +kernel
theorem d_P_weighFirst_9 : decode prog_4_method_5_code 9 = .ok (.getfield 21, 3) := by decide +kernel
theorem d_P_weighFirst_12 : decode prog_4_method_5_code 12 = .ok (.iconst 0, 1) := by decide +kernel
theorem d_P_weighFirst_13 : decode prog_4_method_5_code 13 = .ok (.aaload, 1) := by decide +kernel
theorem d_P_weighFirst_14 : decode prog_4_method_5_code 14 = .ok (.iload_n 2, 1) := by decide +kernel
theorem d_P_weighFirst_15 : decode prog_4_method_5_code 15 = .ok (.aload_n 0, 1) := by decide +kernel
theorem d_P_weighFirst_16 : decode prog_4_method_5_code 16 = .ok (.getfield 43, 3) := by decide +kernel
theorem d_P_weighFirst_19 : decode prog_4_method_5_code 19 = .ok (.iload_n 2, 1) := by decide +kernel
theorem d_P_weighFirst_20 : decode prog_4_method_5_code 20 = .ok (.iload_n 1, 1) := by decide +kernel
theorem d_P_weighFirst_21 : decode prog_4_method_5_code 21 = .ok (.invokevirtual 74, 3) := by decide +kernel
theorem d_P_weighFirst_24 : decode prog_4_method_5_code 24 = .ok (.lastore, 1) := by decide +kernel
theorem d_P_weighFirst_25 : decode prog_4_method_5_code 25 = .ok (.iinc 2 1, 3) := by decide +kernel
theorem d_P_weighFirst_28 : decode prog_4_method_5_code 28 = .ok (.goto (-26), 3) := by decide +kernel
theorem d_P_weighFirst_31 : decode prog_4_method_5_code 31 = .ok (.return_, 1) := by decide +kernel
theorem d_P_weighBehind_0 : decode prog_4_method_6_code 0 = .ok (.iload_n 3, 1) := by decide +kernel
theorem d_P_weighBehind_1 : decode prog_4_method_6_code 1 = .ok (.ifCond .lt 8, 3) := by decide +kernel
theorem d_P_weighBehind_4 : decode prog_4_method_6_code 4 = .ok (.iload_n 3, 1) := by decide +kernel
theorem d_P_weighBehind_5 : decode prog_4_method_6_code 5 = .ok (.iconst 5, 1) := by decide +kernel
theorem d_P_weighBehind_6 : decode prog_4_method_6_code 6 = .ok (.if_icmp .lt 4, 3) := by decide +kernel
theorem d_P_weighBehind_9 : decode prog_4_method_6_code 9 = .ok (.return_, 1) := by decide +kernel
theorem d_P_weighBehind_10 : decode prog_4_method_6_code 10 = .ok (.iconst 1, 1) := by decide +kernel
theorem d_P_weighBehind_11 : decode prog_4_method_6_code 11 = .ok (.istore 4, 2) := by decide +kernel
theorem d_P_weighBehind_13 : decode prog_4_method_6_code 13 = .ok (.iload 4, 2) := by decide +kernel
theorem d_P_weighBehind_15 : decode prog_4_method_6_code 15 = .ok (.bipush 12, 2) := by decide +kernel
theorem d_P_weighBehind_17 : decode prog_4_method_6_code 17 = .ok (.if_icmp .gt 64, 3) := by decide +kernel
theorem d_P_weighBehind_20 : decode prog_4_method_6_code 20 = .ok (.aload_n 0, 1) := by decide +kernel
theorem d_P_weighBehind_21 : decode prog_4_method_6_code 21 = .ok (.getfield 21, 3) := by decide +kernel
theorem d_P_weighBehind_24 : decode prog_4_method_6_code 24 = .ok (.iload_n 3, 1) := by decide +kernel
theorem d_P_weighBehind_25 : decode prog_4_method_6_code 25 = .ok (.aaload, 1) := by decide +kernel
theorem d_P_weighBehind_26 : decode prog_4_method_6_code 26 = .ok (.iload 4, 2) := by decide +kernel
theorem d_P_weighBehind_28 : decode prog_4_method_6_code 28 = .ok (.laload, 1) := by decide +kernel
theorem d_P_weighBehind_29 : decode prog_4_method_6_code 29 = .ok (.lstore 5, 2) := by decide +kernel
theorem d_P_weighBehind_31 : decode prog_4_method_6_code 31 = .ok (.aload_n 0, 1) := by decide +kernel
theorem d_P_weighBehind_32 : decode prog_4_method_6_code 32 = .ok (.getfield 21, 3) := by decide +kernel
theorem d_P_weighBehind_35 : decode prog_4_method_6_code 35 = .ok (.iload_n 3, 1) := by decide +kernel
theorem d_P_weighBehind_36 : decode prog_4_method_6_code 36 = .ok (.iconst 1, 1) := by decide +kernel
theorem d_P_weighBehind_37 : decode prog_4_method_6_code 37 = .ok (.iadd, 1) := by decide +kernel
theorem d_P_weighBehind_38 : decode prog_4_method_6_code 38 = .ok (.aaload, 1) := by decide +kernel
theorem d_P_weighBehind_39 : decode prog_4_method_6_code 39 = .ok (.iload 4, 2) := by decide +kernel
theorem d_P_weighBehind_41 : decode prog_4_method_6_code 41 = .ok (.lload 5, 2) := by decide +kernel
theorem d_P_weighBehind_43 : decode prog_4_method_6_code 43 = .ok (.lconst 0, 1) := by decide +kernel
theorem d_P_weighBehind_44 : decode prog_4_method_6_code 44 = .ok (.lcmp, 1) := by decide +kernel
theorem d_P_weighBehind_45 : decode prog_4_method_6_code 45 = .ok (.ifCond .ne 7, 3) := by decide +kernel
theorem d_P_weighBehind_48 : decode prog_4_method_6_code 48 = .ok (.lconst 0, 1) := by decide +kernel
theorem d_P_weighBehind_49 : decode prog_4_method_6_code 49 = .ok (.goto 25, 3) := by decide +kernel
theorem d_P_weighBehind_52 : decode prog_4_method_6_code 52 = .ok (.lload 5, 2) := by decide +kernel
theorem d_P_weighBehind_54 : decode prog_4_method_6_code 54 = .ok (.ldc2_w 80, 3) := by decide +kernel
theorem d_P_weighBehind_57 : decode prog_4_method_6_code 57 = .ok (.ldiv, 1) := by decide +kernel
theorem d_P_weighBehind_58 : decode prog_4_method_6_code 58 = .ok (.aload_n 0, 1) := by decide +kernel
theorem d_P_weighBehind_59 : decode prog_4_method_6_code 59 = .ok (.getfield 43, 3) := by decide +kernel
theorem d_P_weighBehind_62 : decode prog_4_method_6_code 62 = .ok (.getfield 82, 3) := by decide +kernel
theorem d_P_weighBehind_65 : decode prog_4_method_6_code 65 = .ok (.iload_n 1, 1) := by decide +kernel
theorem d_P_weighBehind_66 : decode prog_4_method_6_code 66 = .ok (.iload 4, 2) := by decide +kernel
theorem d_P_weighBehind_68 : decode prog_4_method_6_code 68 = .ok (.iload_n 2, 1) := by decide +kernel
theorem d_P_weighBehind_69 : decode prog_4_method_6_code 69 = .ok (.invokevirtual 86, 3) := by decide +kernel
theorem d_P_weighBehind_72 : decode prog_4_method_6_code 72 = .ok (.i2l, 1) := by decide +kernel
theorem d_P_weighBehind_73 : decode prog_4_method_6_code 73 = .ok (.lmul, 1) := by decide +kernel
theorem d_P_weighBehind_74 : decode prog_4_method_6_code 74 = .ok (.lastore, 1) := by decide +kernel
theorem d_P_weighBehind_75 : decode prog_4_method_6_code 75 = .ok (.iinc 4 1, 3) := by decide +kernel
theorem d_P_weighBehind_78 : decode prog_4_method_6_code 78 = .ok (.goto (-65), 3) := by decide +kernel
theorem d_P_weighBehind_81 : decode prog_4_method_6_code 81 = .ok (.return_, 1) := by decide +kernel
theorem d_P_weightAt_0 : decode prog_4_method_7_code 0 = .ok (.lconst 0, 1) := by decide +kernel
theorem d_P_weightAt_1 : decode prog_4_method_7_code 1 = .ok (.lstore_n 2, 1) := by decide +kernel
theorem d_P_weightAt_2 : decode prog_4_method_7_code 2 = .ok (.iconst 1, 1) := by decide +kernel
theorem d_P_weightAt_3 : decode prog_4_method_7_code 3 = .ok (.istore 4, 2) := by decide +kernel
theorem d_P_weightAt_5 : decode prog_4_method_7_code 5 = .ok (.iload 4, 2) := by decide +kernel
theorem d_P_weightAt_7 : decode prog_4_method_7_code 7 = .ok (.bipush 12, 2) := by decide +kernel
theorem d_P_weightAt_9 : decode prog_4_method_7_code 9 = .ok (.if_icmp .gt 30, 3) := by decide +kernel
theorem d_P_weightAt_12 : decode prog_4_method_7_code 12 = .ok (.iload_n 1, 1) := by decide +kernel
theorem d_P_weightAt_13 : decode prog_4_method_7_code 13 = .ok (.ifCond .lt 26, 3) := by decide +kernel
theorem d_P_weightAt_16 : decode prog_4_method_7_code 16 = .ok (.iload_n 1, 1) := by decide +kernel
theorem d_P_weightAt_17 : decode prog_4_method_7_code 17 = .ok (.iconst 5, 1) := by decide +kernel
theorem d_P_weightAt_18 : decode prog_4_method_7_code 18 = .ok (.if_icmp .gt 21, 3) := by decide +kernel
theorem d_P_weightAt_21 : decode prog_4_method_7_code 21 = .ok (.lload_n 2, 1) := by decide +kernel
theorem d_P_weightAt_22 : decode prog_4_method_7_code 22 = .ok (.aload_n 0, 1) := by decide +kernel
theorem d_P_weightAt_23 : decode prog_4_method_7_code 23 = .ok (.getfield 21, 3) := by decide +kernel
theorem d_P_weightAt_26 : decode prog_4_method_7_code 26 = .ok (.iload_n 1, 1) := by decide +kernel
theorem d_P_weightAt_27 : decode prog_4_method_7_code 27 = .ok (.aaload, 1) := by decide +kernel
theorem d_P_weightAt_28 : decode prog_4_method_7_code 28 = .ok (.iload 4, 2) := by decide +kernel
theorem d_P_weightAt_30 : decode prog_4_method_7_code 30 = .ok (.laload, 1) := by decide +kernel
theorem d_P_weightAt_31 : decode prog_4_method_7_code 31 = .ok (.ladd, 1) := by decide +kernel
theorem d_P_weightAt_32 : decode prog_4_method_7_code 32 = .ok (.lstore_n 2, 1) := by decide +kernel
theorem d_P_weightAt_33 : decode prog_4_method_7_code 33 = .ok (.iinc 4 1, 3) := by decide +kernel
theorem d_P_weightAt_36 : decode prog_4_method_7_code 36 = .ok (.goto (-31), 3) := by decide +kernel
theorem d_P_weightAt_39 : decode prog_4_method_7_code 39 = .ok (.lload_n 2, 1) := by decide +kernel
theorem d_P_weightAt_40 : decode prog_4_method_7_code 40 = .ok (.lreturn, 1) := by decide +kernel
theorem d_P_leftAt_0 : decode prog_4_method_8_code 0 = .ok (.iconst 0, 1) := by decide +kernel
theorem d_P_leftAt_1 : decode prog_4_method_8_code 1 = .ok (.istore_n 2, 1) := by decide +kernel
theorem d_P_leftAt_2 : decode prog_4_method_8_code 2 = .ok (.iconst 1, 1) := by decide +kernel
theorem d_P_leftAt_3 : decode prog_4_method_8_code 3 = .ok (.istore_n 3, 1) := by decide +kernel
theorem d_P_leftAt_4 : decode prog_4_method_8_code 4 = .ok (.iload_n 3, 1) := by decide +kernel
theorem d_P_leftAt_5 : decode prog_4_method_8_code 5 = .ok (.bipush 12, 2) := by decide +kernel
theorem d_P_leftAt_7 : decode prog_4_method_8_code 7 = .ok (.if_icmp .gt 42, 3) := by decide +kernel
theorem d_P_leftAt_10 : decode prog_4_method_8_code 10 = .ok (.iload_n 1, 1) := by decide +kernel
theorem d_P_leftAt_11 : decode prog_4_method_8_code 11 = .ok (.ifCond .lt 38, 3) := by decide +kernel
theorem d_P_leftAt_14 : decode prog_4_method_8_code 14 = .ok (.iload_n 1, 1) := by decide +kernel
theorem d_P_leftAt_15 : decode prog_4_method_8_code 15 = .ok (.iconst 5, 1) := by decide +kernel
theorem d_P_leftAt_16 : decode prog_4_method_8_code 16 = .ok (.if_icmp .gt 33, 3) := by decide +kernel
theorem d_P_leftAt_19 : decode prog_4_method_8_code 19 = .ok (.iload_n 2, 1) := by decide +kernel
theorem d_P_leftAt_20 : decode prog_4_method_8_code 20 = .ok (.aload_n 0, 1) := by decide +kernel
theorem d_P_leftAt_21 : decode prog_4_method_8_code 21 = .ok (.getfield 21, 3) := by decide +kernel
theorem d_P_leftAt_24 : decode prog_4_method_8_code 24 = .ok (.iload_n 1, 1) := by decide +kernel
theorem d_P_leftAt_25 : decode prog_4_method_8_code 25 = .ok (.aaload, 1) := by decide +kernel
theorem d_P_leftAt_26 : decode prog_4_method_8_code 26 = .ok (.iload_n 3, 1) := by decide +kernel
theorem d_P_leftAt_27 : decode prog_4_method_8_code 27 = .ok (.laload, 1) := by decide +kernel
theorem d_P_leftAt_28 : decode prog_4_method_8_code 28 = .ok (.lconst 0, 1) := by decide +kernel
theorem d_P_leftAt_29 : decode prog_4_method_8_code 29 = .ok (.lcmp, 1) := by decide +kernel
theorem d_P_leftAt_30 : decode prog_4_method_8_code 30 = .ok (.ifCond .le 10, 3) := by decide +kernel
theorem d_P_leftAt_33 : decode prog_4_method_8_code 33 = .ok (.iload_n 3, 1) := by decide +kernel
theorem d_P_leftAt_34 : decode prog_4_method_8_code 34 = .ok (.invokestatic 92, 3) := by decide +kernel
theorem d_P_leftAt_37 : decode prog_4_method_8_code 37 = .ok (.goto 4, 3) := by decide +kernel
theorem d_P_leftAt_40 : decode prog_4_method_8_code 40 = .ok (.iconst 0, 1) := by decide +kernel
theorem d_P_leftAt_41 : decode prog_4_method_8_code 41 = .ok (.ior, 1) := by decide +kernel
theorem d_P_leftAt_42 : decode prog_4_method_8_code 42 = .ok (.istore_n 2, 1) := by decide +kernel
theorem d_P_leftAt_43 : decode prog_4_method_8_code 43 = .ok (.iinc 3 1, 3) := by decide +kernel
theorem d_P_leftAt_46 : decode prog_4_method_8_code 46 = .ok (.goto (-42), 3) := by decide +kernel
theorem d_P_leftAt_49 : decode prog_4_method_8_code 49 = .ok (.iload_n 2, 1) := by decide +kernel
theorem d_P_leftAt_50 : decode prog_4_method_8_code 50 = .ok (.ireturn, 1) := by decide +kernel
