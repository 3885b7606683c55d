theorem d_M_gain_0 : decode prog_7_method_27_code 0 = .ok (.aload_n 0, 1) := by decide +kernel
theorem d_M_gain_1 : decode prog_7_method_27_code 1 = .ok (.iload_n 1, 1) := by decide +kernel
theorem d_M_gain_2 : decode prog_7_method_27_code 2 = .ok (.invokevirtual 109, 3) := by decide +kernel
theorem d_M_gain_5 : decode prog_7_method_27_code 5 = .ok (.aload_n 0, 1) := by decide +kernel
theorem d_M_gain_6 : decode prog_7_method_27_code 6 = .ok (.invokevirtual 171, 3) := by decide +kernel
theorem d_M_gain_9 : decode prog_7_method_27_code 9 = .ok (.lneg, 1) := by decide +kernel
theorem d_M_gain_10 : decode prog_7_method_27_code 10 = .ok (.lstore_n 3, 1) := by decide +kernel
theorem d_M_gain_11 : decode prog_7_method_27_code 11 = .ok (.iconst 1, 1) := by decide +kernel
theorem d_M_gain_12 : decode prog_7_method_27_code 12 = .ok (.istore 5, 2) := by decide +kernel
theorem d_M_gain_14 : decode prog_7_method_27_code 14 = .ok (.iload 5, 2) := by decide +kernel
theorem d_M_gain_16 : decode prog_7_method_27_code 16 = .ok (.iconst 4, 1) := by decide +kernel
theorem d_M_gain_17 : decode prog_7_method_27_code 17 = .ok (.if_icmp .ge 29, 3) := by decide +kernel
theorem d_M_gain_20 : decode prog_7_method_27_code 20 = .ok (.aload_n 0, 1) := by decide +kernel
theorem d_M_gain_21 : decode prog_7_method_27_code 21 = .ok (.iload_n 1, 1) := by decide +kernel
theorem d_M_gain_22 : decode prog_7_method_27_code 22 = .ok (.iload 5, 2) := by decide +kernel
theorem d_M_gain_24 : decode prog_7_method_27_code 24 = .ok (.iload_n 2, 1) := by decide +kernel
theorem d_M_gain_25 : decode prog_7_method_27_code 25 = .ok (.invokestatic 129, 3) := by decide +kernel
theorem d_M_gain_28 : decode prog_7_method_27_code 28 = .ok (.imul, 1) := by decide +kernel
theorem d_M_gain_29 : decode prog_7_method_27_code 29 = .ok (.iadd, 1) := by decide +kernel
theorem d_M_gain_30 : decode prog_7_method_27_code 30 = .ok (.invokevirtual 109, 3) := by decide +kernel
theorem d_M_gain_33 : decode prog_7_method_27_code 33 = .ok (.lload_n 3, 1) := by decide +kernel
theorem d_M_gain_34 : decode prog_7_method_27_code 34 = .ok (.aload_n 0, 1) := by decide +kernel
theorem d_M_gain_35 : decode prog_7_method_27_code 35 = .ok (.invokevirtual 171, 3) := by decide +kernel
theorem d_M_gain_38 : decode prog_7_method_27_code 38 = .ok (.ladd, 1) := by decide +kernel
theorem d_M_gain_39 : decode prog_7_method_27_code 39 = .ok (.lstore_n 3, 1) := by decide +kernel
theorem d_M_gain_40 : decode prog_7_method_27_code 40 = .ok (.iinc 5 1, 3) := by decide +kernel
theorem d_M_gain_43 : decode prog_7_method_27_code 43 = .ok (.goto (-29), 3) := by decide +kernel
theorem d_M_gain_46 : decode prog_7_method_27_code 46 = .ok (.lload_n 3, 1) := by decide +kernel
theorem d_M_gain_47 : decode prog_7_method_27_code 47 = .ok (.lreturn, 1) := by decide +kernel
theorem d_M_oneStep_0 : decode prog_7_method_28_code 0 = .ok (.aload_n 0, 1) := by decide +kernel
theorem d_M_oneStep_1 : decode prog_7_method_28_code 1 = .ok (.iload_n 1, 1) := by decide +kernel
theorem d_M_oneStep_2 : decode prog_7_method_28_code 2 = .ok (.invokevirtual 109, 3) := by decide +kernel
theorem d_M_oneStep_5 : decode prog_7_method_28_code 5 = .ok (.aload_n 0, 1) := by decide +kernel
theorem d_M_oneStep_6 : decode prog_7_method_28_code 6 = .ok (.invokevirtual 113, 3) := by decide +kernel
theorem d_M_oneStep_9 : decode prog_7_method_28_code 9 = .ok (.iconst 2, 1) := by decide +kernel
theorem d_M_oneStep_10 : decode prog_7_method_28_code 10 = .ok (.if_icmp .ge 5, 3) := by decide +kernel
theorem d_M_oneStep_13 : decode prog_7_method_28_code 13 = .ok (.iconst 0, 1) := by decide +kernel
theorem d_M_oneStep_14 : decode prog_7_method_28_code 14 = .ok (.ireturn, 1) := by decide +kernel
theorem d_M_oneStep_15 : decode prog_7_method_28_code 15 = .ok (.aload_n 0, 1) := by decide +kernel
theorem d_M_oneStep_16 : decode prog_7_method_28_code 16 = .ok (.invokevirtual 123, 3) := by decide +kernel
theorem d_M_oneStep_19 : decode prog_7_method_28_code 19 = .ok (.aload_n 0, 1) := by decide +kernel
theorem d_M_oneStep_20 : decode prog_7_method_28_code 20 = .ok (.invokevirtual 126, 3) := by decide +kernel
theorem d_M_oneStep_23 : decode prog_7_method_28_code 23 = .ok (.istore_n 2, 1) := by decide +kernel
theorem d_M_oneStep_24 : decode prog_7_method_28_code 24 = .ok (.iload_n 2, 1) := by decide +kernel
theorem d_M_oneStep_25 : decode prog_7_method_28_code 25 = .ok (.ifCond .le 5, 3) := by decide +kernel
theorem d_M_oneStep_28 : decode prog_7_method_28_code 28 = .ok (.iload_n 2, 1) := by decide +kernel
theorem d_M_oneStep_29 : decode prog_7_method_28_code 29 = .ok (.ireturn, 1) := by decide +kernel
theorem d_M_oneStep_30 : decode prog_7_method_28_code 30 = .ok (.iconst 1, 1) := by decide +kernel
theorem d_M_oneStep_31 : decode prog_7_method_28_code 31 = .ok (.istore_n 3, 1) := by decide +kernel
theorem d_M_oneStep_32 : decode prog_7_method_28_code 32 = .ok (.iload_n 3, 1) := by decide +kernel
theorem d_M_oneStep_33 : decode prog_7_method_28_code 33 = .ok (.aload_n 0, 1) := by decide +kernel
theorem d_M_oneStep_34 : decode prog_7_method_28_code 34 = .ok (.getfield 73, 3) := by decide +kernel
theorem d_M_oneStep_37 : decode prog_7_method_28_code 37 = .ok (.if_icmp .gt 73, 3) := by decide +kernel
theorem d_M_oneStep_40 : decode prog_7_method_28_code 40 = .ok (.aload_n 0, 1) := by decide +kernel
theorem d_M_oneStep_41 : decode prog_7_method_28_code 41 = .ok (.getfield 66, 3) := by decide +kernel
theorem d_M_oneStep_44 : decode prog_7_method_28_code 44 = .ok (.iload_n 3, 1) := by decide +kernel
theorem d_M_oneStep_45 : decode prog_7_method_28_code 45 = .ok (.baload, 1) := by decide +kernel
theorem d_M_oneStep_46 : decode prog_7_method_28_code 46 = .ok (.ifCond .ne 6, 3) := by decide +kernel
theorem d_M_oneStep_49 : decode prog_7_method_28_code 49 = .ok (.goto 55, 3) := by decide +kernel
theorem d_M_oneStep_52 : decode prog_7_method_28_code 52 = .ok (.iload_n 2, 1) := by decide +kernel
theorem d_M_oneStep_53 : decode prog_7_method_28_code 53 = .ok (.ifCond .eq 33, 3) := by decide +kernel
theorem d_M_oneStep_56 : decode prog_7_method_28_code 56 = .ok (.aload_n 0, 1) := by decide +kernel
theorem d_M_oneStep_57 : decode prog_7_method_28_code 57 = .ok (.iload_n 1, 1) := by decide +kernel
theorem d_M_oneStep_58 : decode prog_7_method_28_code 58 = .ok (.iload_n 3, 1) := by decide +kernel
theorem d_M_oneStep_59 : decode prog_7_method_28_code 59 = .ok (.invokevirtual 174, 3) := by decide +kernel
theorem d_M_oneStep_62 : decode prog_7_method_28_code 62 = .ok (.aload_n 0, 1) := by decide +kernel
theorem d_M_oneStep_63 : decode prog_7_method_28_code 63 = .ok (.getfield 23, 3) := by decide +kernel
theorem d_M_oneStep_66 : decode prog_7_method_28_code 66 = .ok (.iload_n 2, 1) := by decide +kernel
theorem d_M_oneStep_67 : decode prog_7_method_28_code 67 = .ok (.laload, 1) := by decide +kernel
theorem d_M_oneStep_68 : decode prog_7_method_28_code 68 = .ok (.lmul, 1) := by decide +kernel
theorem d_M_oneStep_69 : decode prog_7_method_28_code 69 = .ok (.aload_n 0, 1) := by decide +kernel
theorem d_M_oneStep_70 : decode prog_7_method_28_code 70 = .ok (.iload_n 1, 1) := by decide +kernel
theorem d_M_oneStep_71 : decode prog_7_method_28_code 71 = .ok (.iload_n 2, 1) := by decide +kernel
theorem d_M_oneStep_72 : decode prog_7_method_28_code 72 = .ok (.invokevirtual 174, 3) := by decide +kernel
theorem d_M_oneStep_75 : decode prog_7_method_28_code 75 = .ok (.aload_n 0, 1) := by decide +kernel
theorem d_M_oneStep_76 : decode prog_7_method_28_code 76 = .ok (.getfield 23, 3) := by decide +kernel
theorem d_M_oneStep_79 : decode prog_7_method_28_code 79 = .ok (.iload_n 3, 1) := by decide +kernel
theorem d_M_oneStep_80 : decode prog_7_method_28_code 80 = .ok (.laload, 1) := by decide +kernel
theorem d_M_oneStep_81 : decode prog_7_method_28_code 81 = .ok (.lmul, 1) := by decide +kernel
theorem d_M_oneStep_82 : decode prog_7_method_28_code 82 = .ok (.lcmp, 1) := by decide +kernel
theorem d_M_oneStep_83 : decode prog_7_method_28_code 83 = .ok (.ifCond .le 7, 3) := by decide +kernel
theorem d_M_oneStep_86 : decode prog_7_method_28_code 86 = .ok (.iconst 1, 1) := by decide +kernel
theorem d_M_oneStep_87 : decode prog_7_method_28_code 87 = .ok (.goto 4, 3) := by decide +kernel
theorem d_M_oneStep_90 : decode prog_7_method_28_code 90 = .ok (.iconst 0, 1) := by decide +kernel
theorem d_M_oneStep_91 : decode prog_7_method_28_code 91 = .ok (.istore 4, 2) := by decide +kernel
theorem d_M_oneStep_93 : decode prog_7_method_28_code 93 = .ok (.iload 4, 2) := by decide +kernel
theorem d_M_oneStep_95 : decode prog_7_method_28_code 95 = .ok (.ifCond .eq 7, 3) := by decide +kernel
theorem d_M_oneStep_98 : decode prog_7_method_28_code 98 = .ok (.iload_n 3, 1) := by decide +kernel
theorem d_M_oneStep_99 : decode prog_7_method_28_code 99 = .ok (.goto 4, 3) := by decide +kernel
theorem d_M_oneStep_102 : decode prog_7_method_28_code 102 = .ok (.iload_n 2, 1) := by decide +kernel
theorem d_M_oneStep_103 : decode prog_7_method_28_code 103 = .ok (.istore_n 2, 1) := by decide +kernel
theorem d_M_oneStep_104 : decode prog_7_method_28_code 104 = .ok (.iinc 3 1, 3) := by decide +kernel
theorem d_M_oneStep_107 : decode prog_7_method_28_code 107 = .ok (.goto (-75), 3) := by decide +kernel
theorem d_M_oneStep_110 : decode prog_7_method_28_code 110 = .ok (.iload_n 2, 1) := by decide +kernel
theorem d_M_oneStep_111 : decode prog_7_method_28_code 111 = .ok (.ireturn, 1) := by decide +kernel
theorem d_M_thousandth_0 : decode prog_7_method_25_code 0 = .ok (.lload_n 0, 1) := by decide +kernel
theorem d_M_thousandth_1 : decode prog_7_method_25_code 1 = .ok (.lload_n 2, 1) := by decide +kernel
theorem d_M_thousandth_2 : decode prog_7_method_25_code 2 = .ok (.ldiv, 1) := by decide +kernel
theorem d_M_thousandth_3 : decode prog_7_method_25_code 3 = .ok (.ldc2_w 165, 3) := by decide +kernel
theorem d_M_thousandth_6 : decode prog_7_method_25_code 6 = .ok (.lmul, 1) := by decide +kernel
theorem d_M_thousandth_7 : decode prog_7_method_25_code 7 = .ok (.lstore 4, 2) := by decide +kernel
theorem d_M_thousandth_9 : decode prog_7_method_25_code 9 = .ok (.lload_n 0, 1) := by decide +kernel
theorem d_M_thousandth_10 : decode prog_7_method_25_code 10 = .ok (.lload_n 2, 1) := by decide +kernel
theorem d_M_thousandth_11 : decode prog_7_method_25_code 11 = .ok (.lrem, 1) := by decide +kernel
theorem d_M_thousandth_12 : decode prog_7_method_25_code 12 = .ok (.lstore 6, 2) := by decide +kernel
theorem d_M_thousandth_14 : decode prog_7_method_25_code 14 = .ok (.lload 6, 2) := by decide +kernel
theorem d_M_thousandth_16 : decode prog_7_method_25_code 16 = .ok (.ldc2_w 167, 3) := by decide +kernel
theorem d_M_thousandth_19 : decode prog_7_method_25_code 19 = .ok (.lmul, 1) := by decide +kernel
theorem d_M_thousandth_20 : decode prog_7_method_25_code 20 = .ok (.lstore 8, 2) := by decide +kernel
theorem d_M_thousandth_22 : decode prog_7_method_25_code 22 = .ok (.lload 4, 2) := by decide +kernel
theorem d_M_thousandth_24 : decode prog_7_method_25_code 24 = .ok (.lload 8, 2) := by decide +kernel
theorem d_M_thousandth_26 : decode prog_7_method_25_code 26 = .ok (.lload_n 2, 1) := by decide +kernel
theorem d_M_thousandth_27 : decode prog_7_method_25_code 27 = .ok (.ldiv, 1) := by decide +kernel
theorem d_M_thousandth_28 : decode prog_7_method_25_code 28 = .ok (.ldc2_w 169, 3) := by decide +kernel
theorem d_M_thousandth_31 : decode prog_7_method_25_code 31 = .ok (.lmul, 1) := by decide +kernel
theorem d_M_thousandth_32 : decode prog_7_method_25_code 32 = .ok (.ladd, 1) := by decide +kernel
theorem d_M_thousandth_33 : decode prog_7_method_25_code 33 = .ok (.lstore 4, 2) := by decide +kernel
theorem d_M_thousandth_35 : decode prog_7_method_25_code 35 = .ok (.lload 8, 2) := by decide +kernel
theorem d_M_thousandth_37 : decode prog_7_method_25_code 37 = .ok (.lload_n 2, 1) := by decide +kernel
theorem d_M_thousandth_38 : decode prog_7_method_25_code 38 = .ok (.lrem, 1) := by decide +kernel
theorem d_M_thousandth_39 : decode prog_7_method_25_code 39 = .ok (.lstore 8, 2) := by decide +kernel
theorem d_M_thousandth_41 : decode prog_7_method_25_code 41 = .ok (.lload 4, 2) := by decide +kernel
theorem d_M_thousandth_43 : decode prog_7_method_25_code 43 = .ok (.lload 8, 2) := by decide +kernel
theorem d_M_thousandth_45 : decode prog_7_method_25_code 45 = .ok (.ldc2_w 169, 3) := by decide +kernel
theorem d_M_thousandth_48 : decode prog_7_method_25_code 48 = .ok (.lmul, 1) := by decide +kernel
theorem d_M_thousandth_49 : decode prog_7_method_25_code 49 = .ok (.lload_n 2, 1) := by decide +kernel
theorem d_M_thousandth_50 : decode prog_7_method_25_code 50 = .ok (.ldiv, 1) := by decide +kernel
theorem d_M_thousandth_51 : decode prog_7_method_25_code 51 = .ok (.ladd, 1) := by decide +kernel
theorem d_M_thousandth_52 : decode prog_7_method_25_code 52 = .ok (.lreturn, 1) := by decide +kernel
theorem d_M_write_0 : decode prog_7_method_26_code 0 = .ok (.iconst 1, 1) := by decide +kernel
theorem d_M_write_1 : decode prog_7_method_26_code 1 = .ok (.istore_n 2, 1) := by decide +kernel
theorem d_M_write_2 : decode prog_7_method_26_code 2 = .ok (.aload_n 0, 1) := by decide +kernel
theorem d_M_write_3 : decode prog_7_method_26_code 3 = .ok (.getfield 57, 3) := by decide +kernel
theorem d_M_write_6 : decode prog_7_method_26_code 6 = .ok (.iconst 0, 1) := by decide +kernel
theorem d_M_write_7 : decode prog_7_method_26_code 7 = .ok (.iload_n 1, 1) := by decide +kernel
theorem d_M_write_8 : decode prog_7_method_26_code 8 = .ok (.iastore, 1) := by decide +kernel
theorem d_M_write_9 : decode prog_7_method_26_code 9 = .ok (.aload_n 0, 1) := by decide +kernel
theorem d_M_write_10 : decode prog_7_method_26_code 10 = .ok (.getfield 60, 3) := by decide +kernel
theorem d_M_write_13 : decode prog_7_method_26_code 13 = .ok (.iconst 0, 1) := by decide +kernel
theorem d_M_write_14 : decode prog_7_method_26_code 14 = .ok (.iconst (-1), 1) := by decide +kernel
theorem d_M_write_15 : decode prog_7_method_26_code 15 = .ok (.iastore, 1) := by decide +kernel
theorem d_M_write_16 : decode prog_7_method_26_code 16 = .ok (.iload_n 2, 1) := by decide +kernel
theorem d_M_write_17 : decode prog_7_method_26_code 17 = .ok (.ifCond .le 166, 3) := by decide +kernel
theorem d_M_write_20 : decode prog_7_method_26_code 20 = .ok (.iinc 2 (-1), 3) := by decide +kernel
theorem d_M_write_23 : decode prog_7_method_26_code 23 = .ok (.aload_n 0, 1) := by decide +kernel
theorem d_M_write_24 : decode prog_7_method_26_code 24 = .ok (.getfield 57, 3) := by decide +kernel
theorem d_M_write_27 : decode prog_7_method_26_code 27 = .ok (.iload_n 2, 1) := by decide +kernel
theorem d_M_write_28 : decode prog_7_method_26_code 28 = .ok (.iaload, 1) := by decide +kernel
theorem d_M_write_29 : decode prog_7_method_26_code 29 = .ok (.istore_n 3, 1) := by decide +kernel
theorem d_M_write_30 : decode prog_7_method_26_code 30 = .ok (.aload_n 0, 1) := by decide +kernel
theorem d_M_write_31 : decode prog_7_method_26_code 31 = .ok (.getfield 60, 3) := by decide +kernel
theorem d_M_write_34 : decode prog_7_method_26_code 34 = .ok (.iload_n 2, 1) := by decide +kernel
theorem d_M_write_35 : decode prog_7_method_26_code 35 = .ok (.iaload, 1) := by decide +kernel
theorem d_M_write_36 : decode prog_7_method_26_code 36 = .ok (.istore 4, 2) := by decide +kernel
theorem d_M_write_38 : decode prog_7_method_26_code 38 = .ok (.aload_n 0, 1) := by decide +kernel
theorem d_M_write_39 : decode prog_7_method_26_code 39 = .ok (.iload_n 3, 1) := by decide +kernel
theorem d_M_write_40 : decode prog_7_method_26_code 40 = .ok (.invokevirtual 109, 3) := by decide +kernel
theorem d_M_write_43 : decode prog_7_method_26_code 43 = .ok (.aload_n 0, 1) := by decide +kernel
theorem d_M_write_44 : decode prog_7_method_26_code 44 = .ok (.invokevirtual 117, 3) := by decide +kernel
theorem d_M_write_47 : decode prog_7_method_26_code 47 = .ok (.lconst 0, 1) := by decide +kernel
theorem d_M_write_48 : decode prog_7_method_26_code 48 = .ok (.lcmp, 1) := by decide +kernel
theorem d_M_write_49 : decode prog_7_method_26_code 49 = .ok (.ifCond .eq (-33), 3) := by decide +kernel
theorem d_M_write_52 : decode prog_7_method_26_code 52 = .ok (.aload_n 0, 1) := by decide +kernel
theorem d_M_write_53 : decode prog_7_method_26_code 53 = .ok (.getfield 138, 3) := by decide +kernel
theorem d_M_write_56 : decode prog_7_method_26_code 56 = .ok (.sipush 300, 3) := by decide +kernel
theorem d_M_write_59 : decode prog_7_method_26_code 59 = .ok (.if_icmp .ne 6, 3) := by decide +kernel
theorem d_M_write_62 : decode prog_7_method_26_code 62 = .ok (.goto (-46), 3) := by decide +kernel
theorem d_M_write_65 : decode prog_7_method_26_code 65 = .ok (.aload_n 0, 1) := by decide +kernel
theorem d_M_write_66 : decode prog_7_method_26_code 66 = .ok (.getfield 42, 3) := by decide +kernel
theorem d_M_write_69 : decode prog_7_method_26_code 69 = .ok (.iconst 3, 1) := by decide +kernel
theorem d_M_write_70 : decode prog_7_method_26_code 70 = .ok (.aload_n 0, 1) := by decide +kernel
theorem d_M_write_71 : decode prog_7_method_26_code 71 = .ok (.getfield 138, 3) := by decide +kernel
theorem d_M_write_74 : decode prog_7_method_26_code 74 = .ok (.imul, 1) := by decide +kernel
theorem d_M_write_75 : decode prog_7_method_26_code 75 = .ok (.aload_n 0, 1) := by decide +kernel
theorem d_M_write_76 : decode prog_7_method_26_code 76 = .ok (.getfield 48, 3) := by decide +kernel
theorem d_M_write_79 : decode prog_7_method_26_code 79 = .ok (.iload_n 3, 1) := by decide +kernel
theorem d_M_write_80 : decode prog_7_method_26_code 80 = .ok (.iaload, 1) := by decide +kernel
theorem d_M_write_81 : decode prog_7_method_26_code 81 = .ok (.iastore, 1) := by decide +kernel
theorem d_M_write_82 : decode prog_7_method_26_code 82 = .ok (.aload_n 0, 1) := by decide +kernel
theorem d_M_write_83 : decode prog_7_method_26_code 83 = .ok (.getfield 42, 3) := by decide +kernel
theorem d_M_write_86 : decode prog_7_method_26_code 86 = .ok (.iconst 3, 1) := by decide +kernel
theorem d_M_write_87 : decode prog_7_method_26_code 87 = .ok (.aload_n 0, 1) := by decide +kernel
theorem d_M_write_88 : decode prog_7_method_26_code 88 = .ok (.getfield 138, 3) := by decide +kernel
theorem d_M_write_91 : decode prog_7_method_26_code 91 = .ok (.imul, 1) := by decide +kernel
theorem d_M_write_92 : decode prog_7_method_26_code 92 = .ok (.iconst 1, 1) := by decide +kernel
theorem d_M_write_93 : decode prog_7_method_26_code 93 = .ok (.iadd, 1) := by decide +kernel
theorem d_M_write_94 : decode prog_7_method_26_code 94 = .ok (.aload_n 0, 1) := by decide +kernel
theorem d_M_write_95 : decode prog_7_method_26_code 95 = .ok (.invokevirtual 113, 3) := by decide +kernel
theorem d_M_write_98 : decode prog_7_method_26_code 98 = .ok (.iastore, 1) := by decide +kernel
theorem d_M_write_99 : decode prog_7_method_26_code 99 = .ok (.aload_n 0, 1) := by decide +kernel
theorem d_M_write_100 : decode prog_7_method_26_code 100 = .ok (.getfield 42, 3) := by decide +kernel
theorem d_M_write_103 : decode prog_7_method_26_code 103 = .ok (.iconst 3, 1) := by decide +kernel
theorem d_M_write_104 : decode prog_7_method_26_code 104 = .ok (.aload_n 0, 1) := by decide +kernel
theorem d_M_write_105 : decode prog_7_method_26_code 105 = .ok (.getfield 138, 3) := by decide +kernel
theorem d_M_write_108 : decode prog_7_method_26_code 108 = .ok (.imul, 1) := by decide +kernel
theorem d_M_write_109 : decode prog_7_method_26_code 109 = .ok (.iconst 2, 1) := by decide +kernel
theorem d_M_write_110 : decode prog_7_method_26_code 110 = .ok (.iadd, 1) := by decide +kernel
theorem d_M_write_111 : decode prog_7_method_26_code 111 = .ok (.iload 4, 2) := by decide +kernel
theorem d_M_write_113 : decode prog_7_method_26_code 113 = .ok (.iastore, 1) := by decide +kernel
theorem d_M_write_114 : decode prog_7_method_26_code 114 = .ok (.aload_n 0, 1) := by decide +kernel
theorem d_M_write_115 : decode prog_7_method_26_code 115 = .ok (.dup, 1) := by decide +kernel
theorem d_M_write_116 : decode prog_7_method_26_code 116 = .ok (.getfield 138, 3) := by decide +kernel
theorem d_M_write_119 : decode prog_7_method_26_code 119 = .ok (.iconst 1, 1) := by decide +kernel
theorem d_M_write_120 : decode prog_7_method_26_code 120 = .ok (.iadd, 1) := by decide +kernel
theorem d_M_write_121 : decode prog_7_method_26_code 121 = .ok (.putfield 138, 3) := by decide +kernel
theorem d_M_write_124 : decode prog_7_method_26_code 124 = .ok (.iconst 2, 1) := by decide +kernel
theorem d_M_write_125 : decode prog_7_method_26_code 125 = .ok (.istore 5, 2) := by decide +kernel
theorem d_M_write_127 : decode prog_7_method_26_code 127 = .ok (.iload 5, 2) := by decide +kernel
theorem d_M_write_129 : decode prog_7_method_26_code 129 = .ok (.ifCond .lt 51, 3) := by decide +kernel
theorem d_M_write_132 : decode prog_7_method_26_code 132 = .ok (.aload_n 0, 1) := by decide +kernel
theorem d_M_write_133 : decode prog_7_method_26_code 133 = .ok (.getfield 48, 3) := by decide +kernel
theorem d_M_write_136 : decode prog_7_method_26_code 136 = .ok (.iload_n 3, 1) := by decide +kernel
theorem d_M_write_137 : decode prog_7_method_26_code 137 = .ok (.iaload, 1) := by decide +kernel
theorem d_M_write_138 : decode prog_7_method_26_code 138 = .ok (.ifCond .le 42, 3) := by decide +kernel
theorem d_M_write_141 : decode prog_7_method_26_code 141 = .ok (.aload_n 0, 1) := by decide +kernel
theorem d_M_write_142 : decode prog_7_method_26_code 142 = .ok (.getfield 57, 3) := by decide +kernel
theorem d_M_write_145 : decode prog_7_method_26_code 145 = .ok (.iload_n 2, 1) := by decide +kernel
theorem d_M_write_146 : decode prog_7_method_26_code 146 = .ok (.iload_n 3, 1) := by decide +kernel
theorem d_M_write_147 : decode prog_7_method_26_code 147 = .ok (.iload 5, 2) := by decide +kernel
theorem d_M_write_149 : decode prog_7_method_26_code 149 = .ok (.iconst 1, 1) := by decide +kernel
theorem d_M_write_150 : decode prog_7_method_26_code 150 = .ok (.iadd, 1) := by decide +kernel
theorem d_M_write_151 : decode prog_7_method_26_code 151 = .ok (.aload_n 0, 1) := by decide +kernel
theorem d_M_write_152 : decode prog_7_method_26_code 152 = .ok (.getfield 48, 3) := by decide +kernel
theorem d_M_write_155 : decode prog_7_method_26_code 155 = .ok (.iload_n 3, 1) := by decide +kernel
theorem d_M_write_156 : decode prog_7_method_26_code 156 = .ok (.iaload, 1) := by decide +kernel
theorem d_M_write_157 : decode prog_7_method_26_code 157 = .ok (.invokestatic 129, 3) := by decide +kernel
theorem d_M_write_160 : decode prog_7_method_26_code 160 = .ok (.imul, 1) := by decide +kernel
theorem d_M_write_161 : decode prog_7_method_26_code 161 = .ok (.iadd, 1) := by decide +kernel
theorem d_M_write_162 : decode prog_7_method_26_code 162 = .ok (.iastore, 1) := by decide +kernel
theorem d_M_write_163 : decode prog_7_method_26_code 163 = .ok (.aload_n 0, 1) := by decide +kernel
theorem d_M_write_164 : decode prog_7_method_26_code 164 = .ok (.getfield 60, 3) := by decide +kernel
theorem d_M_write_167 : decode prog_7_method_26_code 167 = .ok (.iload_n 2, 1) := by decide +kernel
theorem d_M_write_168 : decode prog_7_method_26_code 168 = .ok (.iload 5, 2) := by decide +kernel
theorem d_M_write_170 : decode prog_7_method_26_code 170 = .ok (.iastore, 1) := by decide +kernel
theorem d_M_write_171 : decode prog_7_method_26_code 171 = .ok (.iinc 2 1, 3) := by decide +kernel
theorem d_M_write_174 : decode prog_7_method_26_code 174 = .ok (.iinc 5 (-1), 3) := by decide +kernel
theorem d_M_write_177 : decode prog_7_method_26_code 177 = .ok (.goto (-50), 3) := by decide +kernel
theorem d_M_write_180 : decode prog_7_method_26_code 180 = .ok (.goto (-164), 3) := by decide +kernel
theorem d_M_write_183 : decode prog_7_method_26_code 183 = .ok (.return_, 1) := by decide +kernel
theorem d_M_next_0 : decode prog_7_method_24_code 0 = .ok (.aload_n 0, 1) := by decide +kernel
theorem d_M_next_1 : decode prog_7_method_24_code 1 = .ok (.iconst 0, 1) := by decide +kernel
theorem d_M_next_2 : decode prog_7_method_24_code 2 = .ok (.putfield 69, 3) := by decide +kernel
theorem d_M_next_5 : decode prog_7_method_24_code 5 = .ok (.lload_n 1, 1) := by decide +kernel
theorem d_M_next_6 : decode prog_7_method_24_code 6 = .ok (.lconst 0, 1) := by decide +kernel
theorem d_M_next_7 : decode prog_7_method_24_code 7 = .ok (.lcmp, 1) := by decide +kernel
theorem d_M_next_8 : decode prog_7_method_24_code 8 = .ok (.ifCond .ge 6, 3) := by decide +kernel
theorem d_M_next_11 : decode prog_7_method_24_code 11 = .ok (.bipush (-2), 2) := by decide +kernel
theorem d_M_next_13 : decode prog_7_method_24_code 13 = .ok (.ireturn, 1) := by decide +kernel
theorem d_M_next_14 : decode prog_7_method_24_code 14 = .ok (.aload_n 0, 1) := by decide +kernel
theorem d_M_next_15 : decode prog_7_method_24_code 15 = .ok (.invokevirtual 133, 3) := by decide +kernel
theorem d_M_next_18 : decode prog_7_method_24_code 18 = .ok (.istore_n 3, 1) := by decide +kernel
theorem d_M_next_19 : decode prog_7_method_24_code 19 = .ok (.lconst 1, 1) := by decide +kernel
theorem d_M_next_20 : decode prog_7_method_24_code 20 = .ok (.lstore 4, 2) := by decide +kernel
theorem d_M_next_22 : decode prog_7_method_24_code 22 = .ok (.iconst 1, 1) := by decide +kernel
theorem d_M_next_23 : decode prog_7_method_24_code 23 = .ok (.istore 6, 2) := by decide +kernel
theorem d_M_next_25 : decode prog_7_method_24_code 25 = .ok (.iload 6, 2) := by decide +kernel
theorem d_M_next_27 : decode prog_7_method_24_code 27 = .ok (.aload_n 0, 1) := by decide +kernel
theorem d_M_next_28 : decode prog_7_method_24_code 28 = .ok (.getfield 73, 3) := by decide +kernel
theorem d_M_next_31 : decode prog_7_method_24_code 31 = .ok (.if_icmp .gt 32, 3) := by decide +kernel
theorem d_M_next_34 : decode prog_7_method_24_code 34 = .ok (.aload_n 0, 1) := by decide +kernel
theorem d_M_next_35 : decode prog_7_method_24_code 35 = .ok (.getfield 33, 3) := by decide +kernel
theorem d_M_next_38 : decode prog_7_method_24_code 38 = .ok (.iload 6, 2) := by decide +kernel
theorem d_M_next_40 : decode prog_7_method_24_code 40 = .ok (.iaload, 1) := by decide +kernel
theorem d_M_next_41 : decode prog_7_method_24_code 41 = .ok (.ifCond .ge 12, 3) := by decide +kernel
theorem d_M_next_44 : decode prog_7_method_24_code 44 = .ok (.ldc2_w 136, 3) := by decide +kernel
theorem d_M_next_47 : decode prog_7_method_24_code 47 = .ok (.lload 4, 2) := by decide +kernel
theorem d_M_next_49 : decode prog_7_method_24_code 49 = .ok (.lmul, 1) := by decide +kernel
theorem d_M_next_50 : decode prog_7_method_24_code 50 = .ok (.goto 5, 3) := by decide +kernel
theorem d_M_next_53 : decode prog_7_method_24_code 53 = .ok (.lload 4, 2) := by decide +kernel
theorem d_M_next_55 : decode prog_7_method_24_code 55 = .ok (.lstore 4, 2) := by decide +kernel
theorem d_M_next_57 : decode prog_7_method_24_code 57 = .ok (.iinc 6 1, 3) := by decide +kernel
theorem d_M_next_60 : decode prog_7_method_24_code 60 = .ok (.goto (-35), 3) := by decide +kernel
theorem d_M_next_63 : decode prog_7_method_24_code 63 = .ok (.aload_n 0, 1) := by decide +kernel
theorem d_M_next_64 : decode prog_7_method_24_code 64 = .ok (.iconst 0, 1) := by decide +kernel
theorem d_M_next_65 : decode prog_7_method_24_code 65 = .ok (.putfield 138, 3) := by decide +kernel
theorem d_M_next_68 : decode prog_7_method_24_code 68 = .ok (.aload_n 0, 1) := by decide +kernel
theorem d_M_next_69 : decode prog_7_method_24_code 69 = .ok (.ldc2_w 36, 3) := by decide +kernel
theorem d_M_next_72 : decode prog_7_method_24_code 72 = .ok (.putfield 38, 3) := by decide +kernel
theorem d_M_next_75 : decode prog_7_method_24_code 75 = .ok (.aload_n 0, 1) := by decide +kernel
theorem d_M_next_76 : decode prog_7_method_24_code 76 = .ok (.lload 4, 2) := by decide +kernel
theorem d_M_next_78 : decode prog_7_method_24_code 78 = .ok (.lload_n 1, 1) := by decide +kernel
theorem d_M_next_79 : decode prog_7_method_24_code 79 = .ok (.lcmp, 1) := by decide +kernel
theorem d_M_next_80 : decode prog_7_method_24_code 80 = .ok (.ifCond .gt 7, 3) := by decide +kernel
theorem d_M_next_83 : decode prog_7_method_24_code 83 = .ok (.iconst 1, 1) := by decide +kernel
theorem d_M_next_84 : decode prog_7_method_24_code 84 = .ok (.goto 4, 3) := by decide +kernel
theorem d_M_next_87 : decode prog_7_method_24_code 87 = .ok (.iconst 0, 1) := by decide +kernel
theorem d_M_next_88 : decode prog_7_method_24_code 88 = .ok (.putfield 141, 3) := by decide +kernel
theorem d_M_next_91 : decode prog_7_method_24_code 91 = .ok (.aload_n 0, 1) := by decide +kernel
theorem d_M_next_92 : decode prog_7_method_24_code 92 = .ok (.getfield 141, 3) := by decide +kernel
theorem d_M_next_95 : decode prog_7_method_24_code 95 = .ok (.ifCond .ne 9, 3) := by decide +kernel
theorem d_M_next_98 : decode prog_7_method_24_code 98 = .ok (.aload_n 0, 1) := by decide +kernel
theorem d_M_next_99 : decode prog_7_method_24_code 99 = .ok (.iload_n 3, 1) := by decide +kernel
theorem d_M_next_100 : decode prog_7_method_24_code 100 = .ok (.invokevirtual 145, 3) := by decide +kernel
theorem d_M_next_103 : decode prog_7_method_24_code 103 = .ok (.ireturn, 1) := by decide +kernel
theorem d_M_next_104 : decode prog_7_method_24_code 104 = .ok (.iconst 5, 1) := by decide +kernel
theorem d_M_next_105 : decode prog_7_method_24_code 105 = .ok (.istore 6, 2) := by decide +kernel
theorem d_M_next_107 : decode prog_7_method_24_code 107 = .ok (.iload 6, 2) := by decide +kernel
theorem d_M_next_109 : decode prog_7_method_24_code 109 = .ok (.ifCond .lt 52, 3) := by decide +kernel
theorem d_M_next_112 : decode prog_7_method_24_code 112 = .ok (.iconst 0, 1) := by decide +kernel
theorem d_M_next_113 : decode prog_7_method_24_code 113 = .ok (.istore 7, 2) := by decide +kernel
theorem d_M_next_115 : decode prog_7_method_24_code 115 = .ok (.iload 7, 2) := by decide +kernel
theorem d_M_next_117 : decode prog_7_method_24_code 117 = .ok (.sipush 1024, 3) := by decide +kernel
theorem d_M_next_120 : decode prog_7_method_24_code 120 = .ok (.if_icmp .ge 35, 3) := by decide +kernel
theorem d_M_next_123 : decode prog_7_method_24_code 123 = .ok (.iload 7, 2) := by decide +kernel
theorem d_M_next_125 : decode prog_7_method_24_code 125 = .ok (.invokestatic 148, 3) := by decide +kernel
theorem d_M_next_128 : decode prog_7_method_24_code 128 = .ok (.iload 6, 2) := by decide +kernel
theorem d_M_next_130 : decode prog_7_method_24_code 130 = .ok (.if_icmp .ne 19, 3) := by decide +kernel
theorem d_M_next_133 : decode prog_7_method_24_code 133 = .ok (.aload_n 0, 1) := by decide +kernel
theorem d_M_next_134 : decode prog_7_method_24_code 134 = .ok (.iload 7, 2) := by decide +kernel
theorem d_M_next_136 : decode prog_7_method_24_code 136 = .ok (.iload_n 3, 1) := by decide +kernel
theorem d_M_next_137 : decode prog_7_method_24_code 137 = .ok (.invokevirtual 151, 3) := by decide +kernel
theorem d_M_next_140 : decode prog_7_method_24_code 140 = .ok (.ifCond .eq 9, 3) := by decide +kernel
theorem d_M_next_143 : decode prog_7_method_24_code 143 = .ok (.aload_n 0, 1) := by decide +kernel
theorem d_M_next_144 : decode prog_7_method_24_code 144 = .ok (.iload 7, 2) := by decide +kernel
theorem d_M_next_146 : decode prog_7_method_24_code 146 = .ok (.invokevirtual 155, 3) := by decide +kernel
theorem d_M_next_149 : decode prog_7_method_24_code 149 = .ok (.iinc 7 1, 3) := by decide +kernel
theorem d_M_next_152 : decode prog_7_method_24_code 152 = .ok (.goto (-37), 3) := by decide +kernel
theorem d_M_next_155 : decode prog_7_method_24_code 155 = .ok (.iinc 6 (-1), 3) := by decide +kernel
theorem d_M_next_158 : decode prog_7_method_24_code 158 = .ok (.goto (-51), 3) := by decide +kernel
theorem d_M_next_161 : decode prog_7_method_24_code 161 = .ok (.aload_n 0, 1) := by decide +kernel
theorem d_M_next_162 : decode prog_7_method_24_code 162 = .ok (.iload_n 3, 1) := by decide +kernel
theorem d_M_next_163 : decode prog_7_method_24_code 163 = .ok (.invokevirtual 109, 3) := by decide +kernel
theorem d_M_next_166 : decode prog_7_method_24_code 166 = .ok (.aload_n 0, 1) := by decide +kernel
theorem d_M_next_167 : decode prog_7_method_24_code 167 = .ok (.invokevirtual 117, 3) := by decide +kernel
theorem d_M_next_170 : decode prog_7_method_24_code 170 = .ok (.lconst 0, 1) := by decide +kernel
theorem d_M_next_171 : decode prog_7_method_24_code 171 = .ok (.lcmp, 1) := by decide +kernel
theorem d_M_next_172 : decode prog_7_method_24_code 172 = .ok (.ifCond .le 20, 3) := by decide +kernel
theorem d_M_next_175 : decode prog_7_method_24_code 175 = .ok (.aload_n 0, 1) := by decide +kernel
theorem d_M_next_176 : decode prog_7_method_24_code 176 = .ok (.aload_n 0, 1) := by decide +kernel
theorem d_M_next_177 : decode prog_7_method_24_code 177 = .ok (.getfield 45, 3) := by decide +kernel
theorem d_M_next_180 : decode prog_7_method_24_code 180 = .ok (.iload_n 3, 1) := by decide +kernel
theorem d_M_next_181 : decode prog_7_method_24_code 181 = .ok (.laload, 1) := by decide +kernel
theorem d_M_next_182 : decode prog_7_method_24_code 182 = .ok (.aload_n 0, 1) := by decide +kernel
theorem d_M_next_183 : decode prog_7_method_24_code 183 = .ok (.invokevirtual 117, 3) := by decide +kernel
theorem d_M_next_186 : decode prog_7_method_24_code 186 = .ok (.invokestatic 158, 3) := by decide +kernel
theorem d_M_next_189 : decode prog_7_method_24_code 189 = .ok (.putfield 38, 3) := by decide +kernel
theorem d_M_next_192 : decode prog_7_method_24_code 192 = .ok (.aload_n 0, 1) := by decide +kernel
theorem d_M_next_193 : decode prog_7_method_24_code 193 = .ok (.iload_n 3, 1) := by decide +kernel
theorem d_M_next_194 : decode prog_7_method_24_code 194 = .ok (.invokevirtual 162, 3) := by decide +kernel
theorem d_M_next_197 : decode prog_7_method_24_code 197 = .ok (.aload_n 0, 1) := by decide +kernel
theorem d_M_next_198 : decode prog_7_method_24_code 198 = .ok (.getfield 48, 3) := by decide +kernel
theorem d_M_next_201 : decode prog_7_method_24_code 201 = .ok (.iload_n 3, 1) := by decide +kernel
theorem d_M_next_202 : decode prog_7_method_24_code 202 = .ok (.iaload, 1) := by decide +kernel
theorem d_M_next_203 : decode prog_7_method_24_code 203 = .ok (.ireturn, 1) := by decide +kernel
theorem d_M_answer_0 : decode prog_7_method_29_code 0 = .ok (.aload_n 0, 1) := by decide +kernel
theorem d_M_answer_1 : decode prog_7_method_29_code 1 = .ok (.iconst 0, 1) := by decide +kernel
theorem d_M_answer_2 : decode prog_7_method_29_code 2 = .ok (.putfield 69, 3) := by decide +kernel
theorem d_M_answer_5 : decode prog_7_method_29_code 5 = .ok (.aload_n 0, 1) := by decide +kernel
theorem d_M_answer_6 : decode prog_7_method_29_code 6 = .ok (.iload_n 1, 1) := by decide +kernel
theorem d_M_answer_7 : decode prog_7_method_29_code 7 = .ok (.invokevirtual 97, 3) := by decide +kernel
theorem d_M_answer_10 : decode prog_7_method_29_code 10 = .ok (.ifCond .eq 5, 3) := by decide +kernel
theorem d_M_answer_13 : decode prog_7_method_29_code 13 = .ok (.iconst (-1), 1) := by decide +kernel
theorem d_M_answer_14 : decode prog_7_method_29_code 14 = .ok (.ireturn, 1) := by decide +kernel
theorem d_M_answer_15 : decode prog_7_method_29_code 15 = .ok (.iload_n 2, 1) := by decide +kernel
theorem d_M_answer_16 : decode prog_7_method_29_code 16 = .ok (.ifCond .lt 8, 3) := by decide +kernel
theorem d_M_answer_19 : decode prog_7_method_29_code 19 = .ok (.iload_n 2, 1) := by decide +kernel
theorem d_M_answer_20 : decode prog_7_method_29_code 20 = .ok (.iconst 2, 1) := by decide +kernel
theorem d_M_answer_21 : decode prog_7_method_29_code 21 = .ok (.if_icmp .le 6, 3) := by decide +kernel
theorem d_M_answer_24 : decode prog_7_method_29_code 24 = .ok (.bipush (-2), 2) := by decide +kernel
theorem d_M_answer_26 : decode prog_7_method_29_code 26 = .ok (.ireturn, 1) := by decide +kernel
theorem d_M_answer_27 : decode prog_7_method_29_code 27 = .ok (.aload_n 0, 1) := by decide +kernel
theorem d_M_answer_28 : decode prog_7_method_29_code 28 = .ok (.aload_n 0, 1) := by decide +kernel
theorem d_M_answer_29 : decode prog_7_method_29_code 29 = .ok (.invokevirtual 133, 3) := by decide +kernel
theorem d_M_answer_32 : decode prog_7_method_29_code 32 = .ok (.invokevirtual 109, 3) := by decide +kernel
theorem d_M_answer_35 : decode prog_7_method_29_code 35 = .ok (.aload_n 0, 1) := by decide +kernel
theorem d_M_answer_36 : decode prog_7_method_29_code 36 = .ok (.iload_n 1, 1) := by decide +kernel
theorem d_M_answer_37 : decode prog_7_method_29_code 37 = .ok (.invokevirtual 106, 3) := by decide +kernel
theorem d_M_answer_40 : decode prog_7_method_29_code 40 = .ok (.ifCond .ne 6, 3) := by decide +kernel
theorem d_M_answer_43 : decode prog_7_method_29_code 43 = .ok (.bipush (-3), 2) := by decide +kernel
theorem d_M_answer_45 : decode prog_7_method_29_code 45 = .ok (.ireturn, 1) := by decide +kernel
theorem d_M_answer_46 : decode prog_7_method_29_code 46 = .ok (.aload_n 0, 1) := by decide +kernel
theorem d_M_answer_47 : decode prog_7_method_29_code 47 = .ok (.getfield 33, 3) := by decide +kernel
theorem d_M_answer_50 : decode prog_7_method_29_code 50 = .ok (.iload_n 1, 1) := by decide +kernel
theorem d_M_answer_51 : decode prog_7_method_29_code 51 = .ok (.iload_n 2, 1) := by decide +kernel
theorem d_M_answer_52 : decode prog_7_method_29_code 52 = .ok (.iastore, 1) := by decide +kernel
theorem d_M_answer_53 : decode prog_7_method_29_code 53 = .ok (.aload_n 0, 1) := by decide +kernel
theorem d_M_answer_54 : decode prog_7_method_29_code 54 = .ok (.aload_n 0, 1) := by decide +kernel
theorem d_M_answer_55 : decode prog_7_method_29_code 55 = .ok (.invokevirtual 133, 3) := by decide +kernel
theorem d_M_answer_58 : decode prog_7_method_29_code 58 = .ok (.invokevirtual 109, 3) := by decide +kernel
theorem d_M_answer_61 : decode prog_7_method_29_code 61 = .ok (.aload_n 0, 1) := by decide +kernel
theorem d_M_answer_62 : decode prog_7_method_29_code 62 = .ok (.invokevirtual 113, 3) := by decide +kernel
theorem d_M_answer_65 : decode prog_7_method_29_code 65 = .ok (.ireturn, 1) := by decide +kernel
theorem d_M_common_0 : decode prog_7_method_30_code 0 = .ok (.lload_n 0, 1) := by decide +kernel
theorem d_M_common_1 : decode prog_7_method_30_code 1 = .ok (.lstore 4, 2) := by decide +kernel
theorem d_M_common_3 : decode prog_7_method_30_code 3 = .ok (.lload_n 2, 1) := by decide +kernel
theorem d_M_common_4 : decode prog_7_method_30_code 4 = .ok (.lstore 6, 2) := by decide +kernel
theorem d_M_common_6 : decode prog_7_method_30_code 6 = .ok (.lload 6, 2) := by decide +kernel
theorem d_M_common_8 : decode prog_7_method_30_code 8 = .ok (.lconst 0, 1) := by decide +kernel
theorem d_M_common_9 : decode prog_7_method_30_code 9 = .ok (.lcmp, 1) := by decide +kernel
theorem d_M_common_10 : decode prog_7_method_30_code 10 = .ok (.ifCond .le 21, 3) := by decide +kernel
theorem d_M_common_13 : decode prog_7_method_30_code 13 = .ok (.lload 4, 2) := by decide +kernel
theorem d_M_common_15 : decode prog_7_method_30_code 15 = .ok (.lload 6, 2) := by decide +kernel
theorem d_M_common_17 : decode prog_7_method_30_code 17 = .ok (.lrem, 1) := by decide +kernel
theorem d_M_common_18 : decode prog_7_method_30_code 18 = .ok (.lstore 8, 2) := by decide +kernel
theorem d_M_common_20 : decode prog_7_method_30_code 20 = .ok (.lload 6, 2) := by decide +kernel
theorem d_M_common_22 : decode prog_7_method_30_code 22 = .ok (.lstore 4, 2) := by decide +kernel
theorem d_M_common_24 : decode prog_7_method_30_code 24 = .ok (.lload 8, 2) := by decide +kernel
theorem d_M_common_26 : decode prog_7_method_30_code 26 = .ok (.lstore 6, 2) := by decide +kernel
theorem d_M_common_28 : decode prog_7_method_30_code 28 = .ok (.goto (-22), 3) := by decide +kernel
theorem d_M_common_31 : decode prog_7_method_30_code 31 = .ok (.lload 4, 2) := by decide +kernel
theorem d_M_common_33 : decode prog_7_method_30_code 33 = .ok (.lreturn, 1) := by decide +kernel
theorem d_M_odd_0 : decode prog_7_method_31_code 0 = .ok (.aload_n 0, 1) := by decide +kernel
theorem d_M_odd_1 : decode prog_7_method_31_code 1 = .ok (.iconst 0, 1) := by decide +kernel
theorem d_M_odd_2 : decode prog_7_method_31_code 2 = .ok (.putfield 69, 3) := by decide +kernel
theorem d_M_odd_5 : decode prog_7_method_31_code 5 = .ok (.aload_n 0, 1) := by decide +kernel
theorem d_M_odd_6 : decode prog_7_method_31_code 6 = .ok (.iload_n 1, 1) := by decide +kernel
theorem d_M_odd_7 : decode prog_7_method_31_code 7 = .ok (.invokevirtual 79, 3) := by decide +kernel
theorem d_M_odd_10 : decode prog_7_method_31_code 10 = .ok (.ifCond .eq 7, 3) := by decide +kernel
theorem d_M_odd_13 : decode prog_7_method_31_code 13 = .ok (.ldc2_w 36, 3) := by decide +kernel
theorem d_M_odd_16 : decode prog_7_method_31_code 16 = .ok (.lreturn, 1) := by decide +kernel
theorem d_M_odd_17 : decode prog_7_method_31_code 17 = .ok (.aload_n 0, 1) := by decide +kernel
theorem d_M_odd_18 : decode prog_7_method_31_code 18 = .ok (.aload_n 0, 1) := by decide +kernel
theorem d_M_odd_19 : decode prog_7_method_31_code 19 = .ok (.invokevirtual 133, 3) := by decide +kernel
theorem d_M_odd_22 : decode prog_7_method_31_code 22 = .ok (.invokevirtual 109, 3) := by decide +kernel
theorem d_M_odd_25 : decode prog_7_method_31_code 25 = .ok (.aload_n 0, 1) := by decide +kernel
theorem d_M_odd_26 : decode prog_7_method_31_code 26 = .ok (.invokevirtual 117, 3) := by decide +kernel
theorem d_M_odd_29 : decode prog_7_method_31_code 29 = .ok (.lstore_n 3, 1) := by decide +kernel
theorem d_M_odd_30 : decode prog_7_method_31_code 30 = .ok (.aload_n 0, 1) := by decide +kernel
theorem d_M_odd_31 : decode prog_7_method_31_code 31 = .ok (.lload_n 3, 1) := by decide +kernel
theorem d_M_odd_32 : decode prog_7_method_31_code 32 = .ok (.lconst 0, 1) := by decide +kernel
theorem d_M_odd_33 : decode prog_7_method_31_code 33 = .ok (.lcmp, 1) := by decide +kernel
theorem d_M_odd_34 : decode prog_7_method_31_code 34 = .ok (.ifCond .ne 7, 3) := by decide +kernel
theorem d_M_odd_37 : decode prog_7_method_31_code 37 = .ok (.iconst 1, 1) := by decide +kernel
theorem d_M_odd_38 : decode prog_7_method_31_code 38 = .ok (.goto 4, 3) := by decide +kernel
theorem d_M_odd_41 : decode prog_7_method_31_code 41 = .ok (.iconst 0, 1) := by decide +kernel
theorem d_M_odd_42 : decode prog_7_method_31_code 42 = .ok (.putfield 69, 3) := by decide +kernel
theorem d_M_odd_45 : decode prog_7_method_31_code 45 = .ok (.aload_n 0, 1) := by decide +kernel
theorem d_M_odd_46 : decode prog_7_method_31_code 46 = .ok (.getfield 69, 3) := by decide +kernel
theorem d_M_odd_49 : decode prog_7_method_31_code 49 = .ok (.ifCond .le 5, 3) := by decide +kernel
theorem d_M_odd_52 : decode prog_7_method_31_code 52 = .ok (.lconst 0, 1) := by decide +kernel
theorem d_M_odd_53 : decode prog_7_method_31_code 53 = .ok (.lreturn, 1) := by decide +kernel
theorem d_M_odd_54 : decode prog_7_method_31_code 54 = .ok (.lload_n 3, 1) := by decide +kernel
theorem d_M_odd_55 : decode prog_7_method_31_code 55 = .ok (.aload_n 0, 1) := by decide +kernel
theorem d_M_odd_56 : decode prog_7_method_31_code 56 = .ok (.getfield 54, 3) := by decide +kernel
theorem d_M_odd_59 : decode prog_7_method_31_code 59 = .ok (.iload_n 1, 1) := by decide +kernel
theorem d_M_odd_60 : decode prog_7_method_31_code 60 = .ok (.laload, 1) := by decide +kernel
theorem d_M_odd_61 : decode prog_7_method_31_code 61 = .ok (.invokestatic 178, 3) := by decide +kernel
theorem d_M_odd_64 : decode prog_7_method_31_code 64 = .ok (.lstore 5, 2) := by decide +kernel
theorem d_M_odd_66 : decode prog_7_method_31_code 66 = .ok (.iload_n 2, 1) := by decide +kernel
theorem d_M_odd_67 : decode prog_7_method_31_code 67 = .ok (.ifCond .ne 15, 3) := by decide +kernel
theorem d_M_odd_70 : decode prog_7_method_31_code 70 = .ok (.aload_n 0, 1) := by decide +kernel
theorem d_M_odd_71 : decode prog_7_method_31_code 71 = .ok (.getfield 54, 3) := by decide +kernel
theorem d_M_odd_74 : decode prog_7_method_31_code 74 = .ok (.iload_n 1, 1) := by decide +kernel
theorem d_M_odd_75 : decode prog_7_method_31_code 75 = .ok (.laload, 1) := by decide +kernel
theorem d_M_odd_76 : decode prog_7_method_31_code 76 = .ok (.lload 5, 2) := by decide +kernel
theorem d_M_odd_78 : decode prog_7_method_31_code 78 = .ok (.ldiv, 1) := by decide +kernel
theorem d_M_odd_79 : decode prog_7_method_31_code 79 = .ok (.goto 7, 3) := by decide +kernel
theorem d_M_odd_82 : decode prog_7_method_31_code 82 = .ok (.lload_n 3, 1) := by decide +kernel
theorem d_M_odd_83 : decode prog_7_method_31_code 83 = .ok (.lload 5, 2) := by decide +kernel
theorem d_M_odd_85 : decode prog_7_method_31_code 85 = .ok (.ldiv, 1) := by decide +kernel
theorem d_M_odd_86 : decode prog_7_method_31_code 86 = .ok (.lreturn, 1) := by decide +kernel
theorem d_M_exact_0 : decode prog_7_method_32_code 0 = .ok (.aload_n 0, 1) := by decide +kernel
theorem d_M_exact_1 : decode prog_7_method_32_code 1 = .ok (.iconst 0, 1) := by decide +kernel
theorem d_M_exact_2 : decode prog_7_method_32_code 2 = .ok (.putfield 69, 3) := by decide +kernel
theorem d_M_exact_5 : decode prog_7_method_32_code 5 = .ok (.aload_n 0, 1) := by decide +kernel
theorem d_M_exact_6 : decode prog_7_method_32_code 6 = .ok (.getfield 141, 3) := by decide +kernel
theorem d_M_exact_9 : decode prog_7_method_32_code 9 = .ok (.ireturn, 1) := by decide +kernel
theorem d_M_cost_0 : decode prog_7_method_33_code 0 = .ok (.aload_n 0, 1) := by decide +kernel
theorem d_M_cost_1 : decode prog_7_method_33_code 1 = .ok (.iconst 0, 1) := by decide +kernel
theorem d_M_cost_2 : decode prog_7_method_33_code 2 = .ok (.putfield 69, 3) := by decide +kernel
theorem d_M_cost_5 : decode prog_7_method_33_code 5 = .ok (.aload_n 0, 1) := by decide +kernel
theorem d_M_cost_6 : decode prog_7_method_33_code 6 = .ok (.getfield 38, 3) := by decide +kernel
theorem d_M_cost_9 : decode prog_7_method_33_code 9 = .ok (.lreturn, 1) := by decide +kernel
theorem d_M_learn_0 : decode prog_7_method_34_code 0 = .ok (.aload_n 0, 1) := by decide +kernel
theorem d_M_learn_1 : decode prog_7_method_34_code 1 = .ok (.iconst 0, 1) := by decide +kernel
theorem d_M_learn_2 : decode prog_7_method_34_code 2 = .ok (.putfield 69, 3) := by decide +kernel
theorem d_M_learn_5 : decode prog_7_method_34_code 5 = .ok (.iload_n 1, 1) := by decide +kernel
theorem d_M_learn_6 : decode prog_7_method_34_code 6 = .ok (.ifCond .eq 13, 3) := by decide +kernel
theorem d_M_learn_9 : decode prog_7_method_34_code 9 = .ok (.aload_n 0, 1) := by decide +kernel
theorem d_M_learn_10 : decode prog_7_method_34_code 10 = .ok (.iload_n 1, 1) := by decide +kernel
theorem d_M_learn_11 : decode prog_7_method_34_code 11 = .ok (.invokevirtual 79, 3) := by decide +kernel
theorem d_M_learn_14 : decode prog_7_method_34_code 14 = .ok (.ifCond .eq 5, 3) := by decide +kernel
theorem d_M_learn_17 : decode prog_7_method_34_code 17 = .ok (.iconst (-1), 1) := by decide +kernel
theorem d_M_learn_18 : decode prog_7_method_34_code 18 = .ok (.ireturn, 1) := by decide +kernel
theorem d_M_learn_19 : decode prog_7_method_34_code 19 = .ok (.iconst 1, 1) := by decide +kernel
theorem d_M_learn_20 : decode prog_7_method_34_code 20 = .ok (.istore_n 2, 1) := by decide +kernel
theorem d_M_learn_21 : decode prog_7_method_34_code 21 = .ok (.iload_n 2, 1) := by decide +kernel
theorem d_M_learn_22 : decode prog_7_method_34_code 22 = .ok (.bipush 7, 2) := by decide +kernel
theorem d_M_learn_24 : decode prog_7_method_34_code 24 = .ok (.if_icmp .ge 16, 3) := by decide +kernel
theorem d_M_learn_27 : decode prog_7_method_34_code 27 = .ok (.aload_n 0, 1) := by decide +kernel
theorem d_M_learn_28 : decode prog_7_method_34_code 28 = .ok (.getfield 33, 3) := by decide +kernel
theorem d_M_learn_31 : decode prog_7_method_34_code 31 = .ok (.iload_n 2, 1) := by decide +kernel
theorem d_M_learn_32 : decode prog_7_method_34_code 32 = .ok (.iconst (-1), 1) := by decide +kernel
theorem d_M_learn_33 : decode prog_7_method_34_code 33 = .ok (.iastore, 1) := by decide +kernel
theorem d_M_learn_34 : decode prog_7_method_34_code 34 = .ok (.iinc 2 1, 3) := by decide +kernel
theorem d_M_learn_37 : decode prog_7_method_34_code 37 = .ok (.goto (-16), 3) := by decide +kernel
theorem d_M_learn_40 : decode prog_7_method_34_code 40 = .ok (.iload_n 1, 1) := by decide +kernel
theorem d_M_learn_41 : decode prog_7_method_34_code 41 = .ok (.ifCond .ne 16, 3) := by decide +kernel
theorem d_M_learn_44 : decode prog_7_method_34_code 44 = .ok (.aload_n 0, 1) := by decide +kernel
theorem d_M_learn_45 : decode prog_7_method_34_code 45 = .ok (.dup, 1) := by decide +kernel
theorem d_M_learn_46 : decode prog_7_method_34_code 46 = .ok (.getfield 181, 3) := by decide +kernel
theorem d_M_learn_49 : decode prog_7_method_34_code 49 = .ok (.iconst 1, 1) := by decide +kernel
theorem d_M_learn_50 : decode prog_7_method_34_code 50 = .ok (.iadd, 1) := by decide +kernel
theorem d_M_learn_51 : decode prog_7_method_34_code 51 = .ok (.putfield 181, 3) := by decide +kernel
theorem d_M_learn_54 : decode prog_7_method_34_code 54 = .ok (.goto 13, 3) := by decide +kernel
theorem d_M_learn_57 : decode prog_7_method_34_code 57 = .ok (.aload_n 0, 1) := by decide +kernel
theorem d_M_learn_58 : decode prog_7_method_34_code 58 = .ok (.getfield 20, 3) := by decide +kernel
theorem d_M_learn_61 : decode prog_7_method_34_code 61 = .ok (.iload_n 1, 1) := by decide +kernel
theorem d_M_learn_62 : decode prog_7_method_34_code 62 = .ok (.dup2, 1) := by decide +kernel
theorem d_M_learn_63 : decode prog_7_method_34_code 63 = .ok (.iaload, 1) := by decide +kernel
theorem d_M_learn_64 : decode prog_7_method_34_code 64 = .ok (.iconst 1, 1) := by decide +kernel
theorem d_M_learn_65 : decode prog_7_method_34_code 65 = .ok (.iadd, 1) := by decide +kernel
theorem d_M_learn_66 : decode prog_7_method_34_code 66 = .ok (.iastore, 1) := by decide +kernel
theorem d_M_learn_67 : decode prog_7_method_34_code 67 = .ok (.iload_n 1, 1) := by decide +kernel
theorem d_M_learn_68 : decode prog_7_method_34_code 68 = .ok (.ifCond .ne 10, 3) := by decide +kernel
theorem d_M_learn_71 : decode prog_7_method_34_code 71 = .ok (.aload_n 0, 1) := by decide +kernel
theorem d_M_learn_72 : decode prog_7_method_34_code 72 = .ok (.getfield 181, 3) := by decide +kernel
theorem d_M_learn_75 : decode prog_7_method_34_code 75 = .ok (.goto 9, 3) := by decide +kernel
theorem d_M_learn_78 : decode prog_7_method_34_code 78 = .ok (.aload_n 0, 1) := by decide +kernel
theorem d_M_learn_79 : decode prog_7_method_34_code 79 = .ok (.getfield 20, 3) := by decide +kernel
theorem d_M_learn_82 : decode prog_7_method_34_code 82 = .ok (.iload_n 1, 1) := by decide +kernel
theorem d_M_learn_83 : decode prog_7_method_34_code 83 = .ok (.iaload, 1) := by decide +kernel
theorem d_M_learn_84 : decode prog_7_method_34_code 84 = .ok (.ireturn, 1) := by decide +kernel
theorem d_M_tree_0 : decode prog_7_method_35_code 0 = .ok (.aload_n 0, 1) := by decide +kernel
theorem d_M_tree_1 : decode prog_7_method_35_code 1 = .ok (.iconst 0, 1) := by decide +kernel
theorem d_M_tree_2 : decode prog_7_method_35_code 2 = .ok (.putfield 69, 3) := by decide +kernel
theorem d_M_tree_5 : decode prog_7_method_35_code 5 = .ok (.iload_n 1, 1) := by decide +kernel
theorem d_M_tree_6 : decode prog_7_method_35_code 6 = .ok (.iconst (-1), 1) := by decide +kernel
theorem d_M_tree_7 : decode prog_7_method_35_code 7 = .ok (.if_icmp .ne 12, 3) := by decide +kernel
theorem d_M_tree_10 : decode prog_7_method_35_code 10 = .ok (.iload_n 2, 1) := by decide +kernel
theorem d_M_tree_11 : decode prog_7_method_35_code 11 = .ok (.ifCond .ne 8, 3) := by decide +kernel
theorem d_M_tree_14 : decode prog_7_method_35_code 14 = .ok (.aload_n 0, 1) := by decide +kernel
theorem d_M_tree_15 : decode prog_7_method_35_code 15 = .ok (.getfield 138, 3) := by decide +kernel
theorem d_M_tree_18 : decode prog_7_method_35_code 18 = .ok (.ireturn, 1) := by decide +kernel
theorem d_M_tree_19 : decode prog_7_method_35_code 19 = .ok (.iload_n 1, 1) := by decide +kernel
theorem d_M_tree_20 : decode prog_7_method_35_code 20 = .ok (.ifCond .lt 11, 3) := by decide +kernel
theorem d_M_tree_23 : decode prog_7_method_35_code 23 = .ok (.iload_n 1, 1) := by decide +kernel
theorem d_M_tree_24 : decode prog_7_method_35_code 24 = .ok (.aload_n 0, 1) := by decide +kernel
theorem d_M_tree_25 : decode prog_7_method_35_code 25 = .ok (.getfield 138, 3) := by decide +kernel
theorem d_M_tree_28 : decode prog_7_method_35_code 28 = .ok (.if_icmp .lt 5, 3) := by decide +kernel
theorem d_M_tree_31 : decode prog_7_method_35_code 31 = .ok (.iconst (-1), 1) := by decide +kernel
theorem d_M_tree_32 : decode prog_7_method_35_code 32 = .ok (.ireturn, 1) := by decide +kernel
theorem d_M_tree_33 : decode prog_7_method_35_code 33 = .ok (.iload_n 2, 1) := by decide +kernel
theorem d_M_tree_34 : decode prog_7_method_35_code 34 = .ok (.ifCond .lt 8, 3) := by decide +kernel
theorem d_M_tree_37 : decode prog_7_method_35_code 37 = .ok (.iload_n 2, 1) := by decide +kernel
theorem d_M_tree_38 : decode prog_7_method_35_code 38 = .ok (.iconst 2, 1) := by decide +kernel
theorem d_M_tree_39 : decode prog_7_method_35_code 39 = .ok (.if_icmp .le 8, 3) := by decide +kernel
theorem d_M_tree_42 : decode prog_7_method_35_code 42 = .ok (.bipush (-2), 2) := by decide +kernel
theorem d_M_tree_44 : decode prog_7_method_35_code 44 = .ok (.goto 13, 3) := by decide +kernel
theorem d_M_tree_47 : decode prog_7_method_35_code 47 = .ok (.aload_n 0, 1) := by decide +kernel
theorem d_M_tree_48 : decode prog_7_method_35_code 48 = .ok (.getfield 42, 3) := by decide +kernel
theorem d_M_tree_51 : decode prog_7_method_35_code 51 = .ok (.iconst 3, 1) := by decide +kernel
theorem d_M_tree_52 : decode prog_7_method_35_code 52 = .ok (.iload_n 1, 1) := by decide +kernel
theorem d_M_tree_53 : decode prog_7_method_35_code 53 = .ok (.imul, 1) := by decide +kernel
theorem d_M_tree_54 : decode prog_7_method_35_code 54 = .ok (.iload_n 2, 1) := by decide +kernel
theorem d_M_tree_55 : decode prog_7_method_35_code 55 = .ok (.iadd, 1) := by decide +kernel
theorem d_M_tree_56 : decode prog_7_method_35_code 56 = .ok (.iaload, 1) := by decide +kernel
theorem d_M_tree_57 : decode prog_7_method_35_code 57 = .ok (.ireturn, 1) := by decide +kernel
theorem d_M_never_0 : decode prog_7_method_36_code 0 = .ok (.aload_n 0, 1) := by decide +kernel
theorem d_M_never_1 : decode prog_7_method_36_code 1 = .ok (.iconst 0, 1) := by decide +kernel
theorem d_M_never_2 : decode prog_7_method_36_code 2 = .ok (.putfield 69, 3) := by decide +kernel
theorem d_M_never_5 : decode prog_7_method_36_code 5 = .ok (.iload_n 1, 1) := by decide +kernel
theorem d_M_never_6 : decode prog_7_method_36_code 6 = .ok (.ifCond .lt 8, 3) := by decide +kernel
theorem d_M_never_9 : decode prog_7_method_36_code 9 = .ok (.iload_n 1, 1) := by decide +kernel
theorem d_M_never_10 : decode prog_7_method_36_code 10 = .ok (.iconst 2, 1) := by decide +kernel
theorem d_M_never_11 : decode prog_7_method_36_code 11 = .ok (.if_icmp .le 6, 3) := by decide +kernel
theorem d_M_never_14 : decode prog_7_method_36_code 14 = .ok (.bipush (-2), 2) := by decide +kernel
theorem d_M_never_16 : decode prog_7_method_36_code 16 = .ok (.ireturn, 1) := by decide +kernel
theorem d_M_never_17 : decode prog_7_method_36_code 17 = .ok (.iconst 0, 1) := by decide +kernel
theorem d_M_never_18 : decode prog_7_method_36_code 18 = .ok (.istore_n 2, 1) := by decide +kernel
theorem d_M_never_19 : decode prog_7_method_36_code 19 = .ok (.iconst 1, 1) := by decide +kernel
theorem d_M_never_20 : decode prog_7_method_36_code 20 = .ok (.istore_n 3, 1) := by decide +kernel
theorem d_M_never_21 : decode prog_7_method_36_code 21 = .ok (.iload_n 3, 1) := by decide +kernel
theorem d_M_never_22 : decode prog_7_method_36_code 22 = .ok (.aload_n 0, 1) := by decide +kernel
theorem d_M_never_23 : decode prog_7_method_36_code 23 = .ok (.getfield 73, 3) := by decide +kernel
theorem d_M_never_26 : decode prog_7_method_36_code 26 = .ok (.if_icmp .gt 66, 3) := by decide +kernel
theorem d_M_never_29 : decode prog_7_method_36_code 29 = .ok (.iconst 0, 1) := by decide +kernel
theorem d_M_never_30 : decode prog_7_method_36_code 30 = .ok (.istore 4, 2) := by decide +kernel
theorem d_M_never_32 : decode prog_7_method_36_code 32 = .ok (.iconst 1, 1) := by decide +kernel
theorem d_M_never_33 : decode prog_7_method_36_code 33 = .ok (.istore 5, 2) := by decide +kernel
theorem d_M_never_35 : decode prog_7_method_36_code 35 = .ok (.iload 5, 2) := by decide +kernel
theorem d_M_never_37 : decode prog_7_method_36_code 37 = .ok (.aload_n 0, 1) := by decide +kernel
theorem d_M_never_38 : decode prog_7_method_36_code 38 = .ok (.getfield 76, 3) := by decide +kernel
theorem d_M_never_41 : decode prog_7_method_36_code 41 = .ok (.if_icmp .gt 32, 3) := by decide +kernel
theorem d_M_never_44 : decode prog_7_method_36_code 44 = .ok (.iload 4, 2) := by decide +kernel
theorem d_M_never_46 : decode prog_7_method_36_code 46 = .ok (.ifCond .ne 14, 3) := by decide +kernel
theorem d_M_never_49 : decode prog_7_method_36_code 49 = .ok (.aload_n 0, 1) := by decide +kernel
theorem d_M_never_50 : decode prog_7_method_36_code 50 = .ok (.iload_n 3, 1) := by decide +kernel
theorem d_M_never_51 : decode prog_7_method_36_code 51 = .ok (.iload 5, 2) := by decide +kernel
theorem d_M_never_53 : decode prog_7_method_36_code 53 = .ok (.iload_n 1, 1) := by decide +kernel
theorem d_M_never_54 : decode prog_7_method_36_code 54 = .ok (.invokevirtual 102, 3) := by decide +kernel
theorem d_M_never_57 : decode prog_7_method_36_code 57 = .ok (.ifCond .le 7, 3) := by decide +kernel
theorem d_M_never_60 : decode prog_7_method_36_code 60 = .ok (.iconst 1, 1) := by decide +kernel
theorem d_M_never_61 : decode prog_7_method_36_code 61 = .ok (.goto 4, 3) := by decide +kernel
theorem d_M_never_64 : decode prog_7_method_36_code 64 = .ok (.iconst 0, 1) := by decide +kernel
theorem d_M_never_65 : decode prog_7_method_36_code 65 = .ok (.istore 4, 2) := by decide +kernel
theorem d_M_never_67 : decode prog_7_method_36_code 67 = .ok (.iinc 5 1, 3) := by decide +kernel
theorem d_M_never_70 : decode prog_7_method_36_code 70 = .ok (.goto (-35), 3) := by decide +kernel
theorem d_M_never_73 : decode prog_7_method_36_code 73 = .ok (.iload 4, 2) := by decide +kernel
theorem d_M_never_75 : decode prog_7_method_36_code 75 = .ok (.ifCond .eq 7, 3) := by decide +kernel
theorem d_M_never_78 : decode prog_7_method_36_code 78 = .ok (.iload_n 2, 1) := by decide +kernel
theorem d_M_never_79 : decode prog_7_method_36_code 79 = .ok (.goto 6, 3) := by decide +kernel
theorem d_M_never_82 : decode prog_7_method_36_code 82 = .ok (.iload_n 2, 1) := by decide +kernel
theorem d_M_never_83 : decode prog_7_method_36_code 83 = .ok (.iconst 1, 1) := by decide +kernel
theorem d_M_never_84 : decode prog_7_method_36_code 84 = .ok (.iadd, 1) := by decide +kernel
theorem d_M_never_85 : decode prog_7_method_36_code 85 = .ok (.istore_n 2, 1) := by decide +kernel
theorem d_M_never_86 : decode prog_7_method_36_code 86 = .ok (.iinc 3 1, 3) := by decide +kernel
theorem d_M_never_89 : decode prog_7_method_36_code 89 = .ok (.goto (-68), 3) := by decide +kernel
theorem d_M_never_92 : decode prog_7_method_36_code 92 = .ok (.iload_n 2, 1) := by decide +kernel
theorem d_M_never_93 : decode prog_7_method_36_code 93 = .ok (.ireturn, 1) := by decide +kernel
