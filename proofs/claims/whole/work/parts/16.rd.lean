theorem d_JA_fill_J_0 : decode prog_15_method_101_code 0 = .ok (.iconst 0, 1) := by decide +kernel
theorem d_JA_fill_J_1 : decode prog_15_method_101_code 1 = .ok (.istore_n 3, 1) := by decide +kernel
theorem d_JA_fill_J_2 : decode prog_15_method_101_code 2 = .ok (.aload_n 0, 1) := by decide +kernel
theorem d_JA_fill_J_3 : decode prog_15_method_101_code 3 = .ok (.arraylength, 1) := by decide +kernel
theorem d_JA_fill_J_4 : decode prog_15_method_101_code 4 = .ok (.istore 4, 2) := by decide +kernel
theorem d_JA_fill_J_6 : decode prog_15_method_101_code 6 = .ok (.iload_n 3, 1) := by decide +kernel
theorem d_JA_fill_J_7 : decode prog_15_method_101_code 7 = .ok (.iload 4, 2) := by decide +kernel
theorem d_JA_fill_J_9 : decode prog_15_method_101_code 9 = .ok (.if_icmp .ge 13, 3) := by decide +kernel
theorem d_JA_fill_J_12 : decode prog_15_method_101_code 12 = .ok (.aload_n 0, 1) := by decide +kernel
theorem d_JA_fill_J_13 : decode prog_15_method_101_code 13 = .ok (.iload_n 3, 1) := by decide +kernel
theorem d_JA_fill_J_14 : decode prog_15_method_101_code 14 = .ok (.lload_n 1, 1) := by decide +kernel
theorem d_JA_fill_J_15 : decode prog_15_method_101_code 15 = .ok (.lastore, 1) := by decide +kernel
theorem d_JA_fill_J_16 : decode prog_15_method_101_code 16 = .ok (.iinc 3 1, 3) := by decide +kernel
theorem d_JA_fill_J_19 : decode prog_15_method_101_code 19 = .ok (.goto (-13), 3) := by decide +kernel
theorem d_JA_fill_J_22 : decode prog_15_method_101_code 22 = .ok (.return_, 1) := by decide +kernel
theorem d_P_valuesBehind_0 : decode prog_4_method_10_code 0 = .ok (.lconst 0, 1) := by decide +kernel
theorem d_P_valuesBehind_1 : decode prog_4_method_10_code 1 = .ok (.lstore 4, 2) := by decide +kernel
theorem d_P_valuesBehind_3 : decode prog_4_method_10_code 3 = .ok (.iconst 0, 1) := by decide +kernel
theorem d_P_valuesBehind_4 : decode prog_4_method_10_code 4 = .ok (.istore 6, 2) := by decide +kernel
theorem d_P_valuesBehind_6 : decode prog_4_method_10_code 6 = .ok (.iload 6, 2) := by decide +kernel
theorem d_P_valuesBehind_8 : decode prog_4_method_10_code 8 = .ok (.iconst 3, 1) := by decide +kernel
theorem d_P_valuesBehind_9 : decode prog_4_method_10_code 9 = .ok (.if_icmp .ge 77, 3) := by decide +kernel
theorem d_P_valuesBehind_12 : decode prog_4_method_10_code 12 = .ok (.iload_n 2, 1) := by decide +kernel
theorem d_P_valuesBehind_13 : decode prog_4_method_10_code 13 = .ok (.iload_n 1, 1) := by decide +kernel
theorem d_P_valuesBehind_14 : decode prog_4_method_10_code 14 = .ok (.iload 6, 2) := by decide +kernel
theorem d_P_valuesBehind_16 : decode prog_4_method_10_code 16 = .ok (.invokestatic 127, 3) := by decide +kernel
theorem d_P_valuesBehind_19 : decode prog_4_method_10_code 19 = .ok (.istore 7, 2) := by decide +kernel
theorem d_P_valuesBehind_21 : decode prog_4_method_10_code 21 = .ok (.iload 7, 2) := by decide +kernel
theorem d_P_valuesBehind_23 : decode prog_4_method_10_code 23 = .ok (.ifCond .lt 57, 3) := by decide +kernel
theorem d_P_valuesBehind_26 : decode prog_4_method_10_code 26 = .ok (.iload 7, 2) := by decide +kernel
theorem d_P_valuesBehind_28 : decode prog_4_method_10_code 28 = .ok (.sipush 1024, 3) := by decide +kernel
theorem d_P_valuesBehind_31 : decode prog_4_method_10_code 31 = .ok (.if_icmp .lt 6, 3) := by decide +kernel
theorem d_P_valuesBehind_34 : decode prog_4_method_10_code 34 = .ok (.goto 46, 3) := by decide +kernel
theorem d_P_valuesBehind_37 : decode prog_4_method_10_code 37 = .ok (.aload_n 0, 1) := by decide +kernel
theorem d_P_valuesBehind_38 : decode prog_4_method_10_code 38 = .ok (.getfield 9, 3) := by decide +kernel
theorem d_P_valuesBehind_41 : decode prog_4_method_10_code 41 = .ok (.iload 7, 2) := by decide +kernel
theorem d_P_valuesBehind_43 : decode prog_4_method_10_code 43 = .ok (.laload, 1) := by decide +kernel
theorem d_P_valuesBehind_44 : decode prog_4_method_10_code 44 = .ok (.ldc2_w 37, 3) := by decide +kernel
theorem d_P_valuesBehind_47 : decode prog_4_method_10_code 47 = .ok (.lcmp, 1) := by decide +kernel
theorem d_P_valuesBehind_48 : decode prog_4_method_10_code 48 = .ok (.ifCond .ne 20, 3) := by decide +kernel
theorem d_P_valuesBehind_51 : decode prog_4_method_10_code 51 = .ok (.aload_n 0, 1) := by decide +kernel
theorem d_P_valuesBehind_52 : decode prog_4_method_10_code 52 = .ok (.iload_n 1, 1) := by decide +kernel
theorem d_P_valuesBehind_53 : decode prog_4_method_10_code 53 = .ok (.iload 6, 2) := by decide +kernel
theorem d_P_valuesBehind_55 : decode prog_4_method_10_code 55 = .ok (.iload_n 3, 1) := by decide +kernel
theorem d_P_valuesBehind_56 : decode prog_4_method_10_code 56 = .ok (.invokevirtual 130, 3) := by decide +kernel
theorem d_P_valuesBehind_59 : decode prog_4_method_10_code 59 = .ok (.aload_n 0, 1) := by decide +kernel
theorem d_P_valuesBehind_60 : decode prog_4_method_10_code 60 = .ok (.iload 7, 2) := by decide +kernel
theorem d_P_valuesBehind_62 : decode prog_4_method_10_code 62 = .ok (.iload_n 3, 1) := by decide +kernel
theorem d_P_valuesBehind_63 : decode prog_4_method_10_code 63 = .ok (.iconst 1, 1) := by decide +kernel
theorem d_P_valuesBehind_64 : decode prog_4_method_10_code 64 = .ok (.iadd, 1) := by decide +kernel
theorem d_P_valuesBehind_65 : decode prog_4_method_10_code 65 = .ok (.invokevirtual 60, 3) := by decide +kernel
theorem d_P_valuesBehind_68 : decode prog_4_method_10_code 68 = .ok (.lload 4, 2) := by decide +kernel
theorem d_P_valuesBehind_70 : decode prog_4_method_10_code 70 = .ok (.aload_n 0, 1) := by decide +kernel
theorem d_P_valuesBehind_71 : decode prog_4_method_10_code 71 = .ok (.getfield 9, 3) := by decide +kernel
theorem d_P_valuesBehind_74 : decode prog_4_method_10_code 74 = .ok (.iload 7, 2) := by decide +kernel
theorem d_P_valuesBehind_76 : decode prog_4_method_10_code 76 = .ok (.laload, 1) := by decide +kernel
theorem d_P_valuesBehind_77 : decode prog_4_method_10_code 77 = .ok (.ladd, 1) := by decide +kernel
theorem d_P_valuesBehind_78 : decode prog_4_method_10_code 78 = .ok (.lstore 4, 2) := by decide +kernel
theorem d_P_valuesBehind_80 : decode prog_4_method_10_code 80 = .ok (.iinc 6 1, 3) := by decide +kernel
theorem d_P_valuesBehind_83 : decode prog_4_method_10_code 83 = .ok (.goto (-77), 3) := by decide +kernel
theorem d_P_valuesBehind_86 : decode prog_4_method_10_code 86 = .ok (.lload 4, 2) := by decide +kernel
theorem d_P_valuesBehind_88 : decode prog_4_method_10_code 88 = .ok (.lreturn, 1) := by decide +kernel
theorem d_P_choose_0 : decode prog_4_method_9_code 0 = .ok (.iload_n 2, 1) := by decide +kernel
theorem d_P_choose_1 : decode prog_4_method_9_code 1 = .ok (.iconst 5, 1) := by decide +kernel
theorem d_P_choose_2 : decode prog_4_method_9_code 2 = .ok (.if_icmp .gt 14, 3) := by decide +kernel
theorem d_P_choose_5 : decode prog_4_method_9_code 5 = .ok (.iload_n 1, 1) := by decide +kernel
theorem d_P_choose_6 : decode prog_4_method_9_code 6 = .ok (.ifCond .lt 10, 3) := by decide +kernel
theorem d_P_choose_9 : decode prog_4_method_9_code 9 = .ok (.iload_n 1, 1) := by decide +kernel
theorem d_P_choose_10 : decode prog_4_method_9_code 10 = .ok (.sipush 1024, 3) := by decide +kernel
theorem d_P_choose_13 : decode prog_4_method_9_code 13 = .ok (.if_icmp .lt 4, 3) := by decide +kernel
theorem d_P_choose_16 : decode prog_4_method_9_code 16 = .ok (.return_, 1) := by decide +kernel
theorem d_P_choose_17 : decode prog_4_method_9_code 17 = .ok (.aload_n 0, 1) := by decide +kernel
theorem d_P_choose_18 : decode prog_4_method_9_code 18 = .ok (.iload_n 2, 1) := by decide +kernel
theorem d_P_choose_19 : decode prog_4_method_9_code 19 = .ok (.invokevirtual 96, 3) := by decide +kernel
theorem d_P_choose_22 : decode prog_4_method_9_code 22 = .ok (.istore_n 3, 1) := by decide +kernel
theorem d_P_choose_23 : decode prog_4_method_9_code 23 = .ok (.aload_n 0, 1) := by decide +kernel
theorem d_P_choose_24 : decode prog_4_method_9_code 24 = .ok (.getfield 43, 3) := by decide +kernel
theorem d_P_choose_27 : decode prog_4_method_9_code 27 = .ok (.iload_n 1, 1) := by decide +kernel
theorem d_P_choose_28 : decode prog_4_method_9_code 28 = .ok (.iload_n 3, 1) := by decide +kernel
theorem d_P_choose_29 : decode prog_4_method_9_code 29 = .ok (.invokevirtual 99, 3) := by decide +kernel
theorem d_P_choose_32 : decode prog_4_method_9_code 32 = .ok (.istore 4, 2) := by decide +kernel
theorem d_P_choose_34 : decode prog_4_method_9_code 34 = .ok (.aload_n 0, 1) := by decide +kernel
theorem d_P_choose_35 : decode prog_4_method_9_code 35 = .ok (.getfield 43, 3) := by decide +kernel
theorem d_P_choose_38 : decode prog_4_method_9_code 38 = .ok (.iload 4, 2) := by decide +kernel
theorem d_P_choose_40 : decode prog_4_method_9_code 40 = .ok (.invokevirtual 103, 3) := by decide +kernel
theorem d_P_choose_43 : decode prog_4_method_9_code 43 = .ok (.istore 5, 2) := by decide +kernel
theorem d_P_choose_45 : decode prog_4_method_9_code 45 = .ok (.iload 5, 2) := by decide +kernel
theorem d_P_choose_47 : decode prog_4_method_9_code 47 = .ok (.ifCond .eq 11, 3) := by decide +kernel
theorem d_P_choose_50 : decode prog_4_method_9_code 50 = .ok (.iload 5, 2) := by decide +kernel
theorem d_P_choose_52 : decode prog_4_method_9_code 52 = .ok (.invokestatic 92, 3) := by decide +kernel
theorem d_P_choose_55 : decode prog_4_method_9_code 55 = .ok (.goto 5, 3) := by decide +kernel
theorem d_P_choose_58 : decode prog_4_method_9_code 58 = .ok (.iload 4, 2) := by decide +kernel
theorem d_P_choose_60 : decode prog_4_method_9_code 60 = .ok (.istore 6, 2) := by decide +kernel
theorem d_P_choose_62 : decode prog_4_method_9_code 62 = .ok (.aload_n 0, 1) := by decide +kernel
theorem d_P_choose_63 : decode prog_4_method_9_code 63 = .ok (.iload_n 2, 1) := by decide +kernel
theorem d_P_choose_64 : decode prog_4_method_9_code 64 = .ok (.invokevirtual 64, 3) := by decide +kernel
theorem d_P_choose_67 : decode prog_4_method_9_code 67 = .ok (.lstore 7, 2) := by decide +kernel
theorem d_P_choose_69 : decode prog_4_method_9_code 69 = .ok (.iconst 0, 1) := by decide +kernel
theorem d_P_choose_70 : decode prog_4_method_9_code 70 = .ok (.istore 9, 2) := by decide +kernel
theorem d_P_choose_72 : decode prog_4_method_9_code 72 = .ok (.sipush 300, 3) := by decide +kernel
theorem d_P_choose_75 : decode prog_4_method_9_code 75 = .ok (.iload_n 3, 1) := by decide +kernel
theorem d_P_choose_76 : decode prog_4_method_9_code 76 = .ok (.invokestatic 106, 3) := by decide +kernel
theorem d_P_choose_79 : decode prog_4_method_9_code 79 = .ok (.iconst 1, 1) := by decide +kernel
theorem d_P_choose_80 : decode prog_4_method_9_code 80 = .ok (.isub, 1) := by decide +kernel
theorem d_P_choose_81 : decode prog_4_method_9_code 81 = .ok (.iconst 0, 1) := by decide +kernel
theorem d_P_choose_82 : decode prog_4_method_9_code 82 = .ok (.invokestatic 111, 3) := by decide +kernel
theorem d_P_choose_85 : decode prog_4_method_9_code 85 = .ok (.imul, 1) := by decide +kernel
theorem d_P_choose_86 : decode prog_4_method_9_code 86 = .ok (.i2l, 1) := by decide +kernel
theorem d_P_choose_87 : decode prog_4_method_9_code 87 = .ok (.lload 7, 2) := by decide +kernel
theorem d_P_choose_89 : decode prog_4_method_9_code 89 = .ok (.lmul, 1) := by decide +kernel
theorem d_P_choose_90 : decode prog_4_method_9_code 90 = .ok (.lstore 10, 2) := by decide +kernel
theorem d_P_choose_92 : decode prog_4_method_9_code 92 = .ok (.iconst 1, 1) := by decide +kernel
theorem d_P_choose_93 : decode prog_4_method_9_code 93 = .ok (.istore 12, 2) := by decide +kernel
theorem d_P_choose_95 : decode prog_4_method_9_code 95 = .ok (.iload 12, 2) := by decide +kernel
theorem d_P_choose_97 : decode prog_4_method_9_code 97 = .ok (.iconst 5, 1) := by decide +kernel
theorem d_P_choose_98 : decode prog_4_method_9_code 98 = .ok (.if_icmp .gt 70, 3) := by decide +kernel
theorem d_P_choose_101 : decode prog_4_method_9_code 101 = .ok (.iload 6, 2) := by decide +kernel
theorem d_P_choose_103 : decode prog_4_method_9_code 103 = .ok (.iload 12, 2) := by decide +kernel
theorem d_P_choose_105 : decode prog_4_method_9_code 105 = .ok (.invokestatic 116, 3) := by decide +kernel
theorem d_P_choose_108 : decode prog_4_method_9_code 108 = .ok (.ifCond .ne 6, 3) := by decide +kernel
theorem d_P_choose_111 : decode prog_4_method_9_code 111 = .ok (.goto 51, 3) := by decide +kernel
theorem d_P_choose_114 : decode prog_4_method_9_code 114 = .ok (.aload_n 0, 1) := by decide +kernel
theorem d_P_choose_115 : decode prog_4_method_9_code 115 = .ok (.getfield 43, 3) := by decide +kernel
theorem d_P_choose_118 : decode prog_4_method_9_code 118 = .ok (.getfield 82, 3) := by decide +kernel
theorem d_P_choose_121 : decode prog_4_method_9_code 121 = .ok (.iload 12, 2) := by decide +kernel
theorem d_P_choose_123 : decode prog_4_method_9_code 123 = .ok (.invokevirtual 120, 3) := by decide +kernel
theorem d_P_choose_126 : decode prog_4_method_9_code 126 = .ok (.i2l, 1) := by decide +kernel
theorem d_P_choose_127 : decode prog_4_method_9_code 127 = .ok (.lload 7, 2) := by decide +kernel
theorem d_P_choose_129 : decode prog_4_method_9_code 129 = .ok (.lmul, 1) := by decide +kernel
theorem d_P_choose_130 : decode prog_4_method_9_code 130 = .ok (.aload_n 0, 1) := by decide +kernel
theorem d_P_choose_131 : decode prog_4_method_9_code 131 = .ok (.iload 12, 2) := by decide +kernel
theorem d_P_choose_133 : decode prog_4_method_9_code 133 = .ok (.iload_n 1, 1) := by decide +kernel
theorem d_P_choose_134 : decode prog_4_method_9_code 134 = .ok (.iload_n 2, 1) := by decide +kernel
theorem d_P_choose_135 : decode prog_4_method_9_code 135 = .ok (.invokevirtual 123, 3) := by decide +kernel
theorem d_P_choose_138 : decode prog_4_method_9_code 138 = .ok (.ladd, 1) := by decide +kernel
theorem d_P_choose_139 : decode prog_4_method_9_code 139 = .ok (.lstore 13, 2) := by decide +kernel
theorem d_P_choose_141 : decode prog_4_method_9_code 141 = .ok (.iload 9, 2) := by decide +kernel
theorem d_P_choose_143 : decode prog_4_method_9_code 143 = .ok (.ifCond .eq 11, 3) := by decide +kernel
theorem d_P_choose_146 : decode prog_4_method_9_code 146 = .ok (.lload 13, 2) := by decide +kernel
theorem d_P_choose_148 : decode prog_4_method_9_code 148 = .ok (.lload 10, 2) := by decide +kernel
theorem d_P_choose_150 : decode prog_4_method_9_code 150 = .ok (.lcmp, 1) := by decide +kernel
theorem d_P_choose_151 : decode prog_4_method_9_code 151 = .ok (.ifCond .ge 11, 3) := by decide +kernel
theorem d_P_choose_154 : decode prog_4_method_9_code 154 = .ok (.iload 12, 2) := by decide +kernel
theorem d_P_choose_156 : decode prog_4_method_9_code 156 = .ok (.istore 9, 2) := by decide +kernel
theorem d_P_choose_158 : decode prog_4_method_9_code 158 = .ok (.lload 13, 2) := by decide +kernel
theorem d_P_choose_160 : decode prog_4_method_9_code 160 = .ok (.lstore 10, 2) := by decide +kernel
theorem d_P_choose_162 : decode prog_4_method_9_code 162 = .ok (.iinc 12 1, 3) := by decide +kernel
theorem d_P_choose_165 : decode prog_4_method_9_code 165 = .ok (.goto (-70), 3) := by decide +kernel
theorem d_P_choose_168 : decode prog_4_method_9_code 168 = .ok (.aload_n 0, 1) := by decide +kernel
theorem d_P_choose_169 : decode prog_4_method_9_code 169 = .ok (.getfield 9, 3) := by decide +kernel
theorem d_P_choose_172 : decode prog_4_method_9_code 172 = .ok (.iload_n 1, 1) := by decide +kernel
theorem d_P_choose_173 : decode prog_4_method_9_code 173 = .ok (.lload 10, 2) := by decide +kernel
theorem d_P_choose_175 : decode prog_4_method_9_code 175 = .ok (.lastore, 1) := by decide +kernel
theorem d_P_choose_176 : decode prog_4_method_9_code 176 = .ok (.aload_n 0, 1) := by decide +kernel
theorem d_P_choose_177 : decode prog_4_method_9_code 177 = .ok (.getfield 15, 3) := by decide +kernel
theorem d_P_choose_180 : decode prog_4_method_9_code 180 = .ok (.iload_n 1, 1) := by decide +kernel
theorem d_P_choose_181 : decode prog_4_method_9_code 181 = .ok (.iload 9, 2) := by decide +kernel
theorem d_P_choose_183 : decode prog_4_method_9_code 183 = .ok (.i2b, 1) := by decide +kernel
theorem d_P_choose_184 : decode prog_4_method_9_code 184 = .ok (.bastore, 1) := by decide +kernel
theorem d_P_choose_185 : decode prog_4_method_9_code 185 = .ok (.return_, 1) := by decide +kernel
theorem d_P_keep_0 : decode prog_4_method_11_code 0 = .ok (.aload_n 0, 1) := by decide +kernel
theorem d_P_keep_1 : decode prog_4_method_11_code 1 = .ok (.iload_n 3, 1) := by decide +kernel
theorem d_P_keep_2 : decode prog_4_method_11_code 2 = .ok (.invokevirtual 96, 3) := by decide +kernel
theorem d_P_keep_5 : decode prog_4_method_11_code 5 = .ok (.invokestatic 106, 3) := by decide +kernel
theorem d_P_keep_8 : decode prog_4_method_11_code 8 = .ok (.istore 4, 2) := by decide +kernel
theorem d_P_keep_10 : decode prog_4_method_11_code 10 = .ok (.iload 4, 2) := by decide +kernel
theorem d_P_keep_12 : decode prog_4_method_11_code 12 = .ok (.ifCond .eq 24, 3) := by decide +kernel
theorem d_P_keep_15 : decode prog_4_method_11_code 15 = .ok (.aload_n 0, 1) := by decide +kernel
theorem d_P_keep_16 : decode prog_4_method_11_code 16 = .ok (.getfield 33, 3) := by decide +kernel
theorem d_P_keep_19 : decode prog_4_method_11_code 19 = .ok (.sipush 300, 3) := by decide +kernel
theorem d_P_keep_22 : decode prog_4_method_11_code 22 = .ok (.if_icmp .ge 14, 3) := by decide +kernel
theorem d_P_keep_25 : decode prog_4_method_11_code 25 = .ok (.iload_n 1, 1) := by decide +kernel
theorem d_P_keep_26 : decode prog_4_method_11_code 26 = .ok (.ifCond .lt 10, 3) := by decide +kernel
theorem d_P_keep_29 : decode prog_4_method_11_code 29 = .ok (.iload_n 1, 1) := by decide +kernel
theorem d_P_keep_30 : decode prog_4_method_11_code 30 = .ok (.sipush 1024, 3) := by decide +kernel
theorem d_P_keep_33 : decode prog_4_method_11_code 33 = .ok (.if_icmp .lt 4, 3) := by decide +kernel
theorem d_P_keep_36 : decode prog_4_method_11_code 36 = .ok (.return_, 1) := by decide +kernel
theorem d_P_keep_37 : decode prog_4_method_11_code 37 = .ok (.aload_n 0, 1) := by decide +kernel
theorem d_P_keep_38 : decode prog_4_method_11_code 38 = .ok (.getfield 15, 3) := by decide +kernel
theorem d_P_keep_41 : decode prog_4_method_11_code 41 = .ok (.iload_n 1, 1) := by decide +kernel
theorem d_P_keep_42 : decode prog_4_method_11_code 42 = .ok (.baload, 1) := by decide +kernel
theorem d_P_keep_43 : decode prog_4_method_11_code 43 = .ok (.istore 5, 2) := by decide +kernel
theorem d_P_keep_45 : decode prog_4_method_11_code 45 = .ok (.aload_n 0, 1) := by decide +kernel
theorem d_P_keep_46 : decode prog_4_method_11_code 46 = .ok (.getfield 24, 3) := by decide +kernel
theorem d_P_keep_49 : decode prog_4_method_11_code 49 = .ok (.aload_n 0, 1) := by decide +kernel
theorem d_P_keep_50 : decode prog_4_method_11_code 50 = .ok (.getfield 33, 3) := by decide +kernel
theorem d_P_keep_53 : decode prog_4_method_11_code 53 = .ok (.iload 5, 2) := by decide +kernel
theorem d_P_keep_55 : decode prog_4_method_11_code 55 = .ok (.i2b, 1) := by decide +kernel
theorem d_P_keep_56 : decode prog_4_method_11_code 56 = .ok (.bastore, 1) := by decide +kernel
theorem d_P_keep_57 : decode prog_4_method_11_code 57 = .ok (.aload_n 0, 1) := by decide +kernel
theorem d_P_keep_58 : decode prog_4_method_11_code 58 = .ok (.getfield 27, 3) := by decide +kernel
theorem d_P_keep_61 : decode prog_4_method_11_code 61 = .ok (.aload_n 0, 1) := by decide +kernel
theorem d_P_keep_62 : decode prog_4_method_11_code 62 = .ok (.getfield 33, 3) := by decide +kernel
theorem d_P_keep_65 : decode prog_4_method_11_code 65 = .ok (.iload 4, 2) := by decide +kernel
theorem d_P_keep_67 : decode prog_4_method_11_code 67 = .ok (.i2b, 1) := by decide +kernel
theorem d_P_keep_68 : decode prog_4_method_11_code 68 = .ok (.bastore, 1) := by decide +kernel
theorem d_P_keep_69 : decode prog_4_method_11_code 69 = .ok (.aload_n 0, 1) := by decide +kernel
theorem d_P_keep_70 : decode prog_4_method_11_code 70 = .ok (.getfield 30, 3) := by decide +kernel
theorem d_P_keep_73 : decode prog_4_method_11_code 73 = .ok (.aload_n 0, 1) := by decide +kernel
theorem d_P_keep_74 : decode prog_4_method_11_code 74 = .ok (.getfield 33, 3) := by decide +kernel
theorem d_P_keep_77 : decode prog_4_method_11_code 77 = .ok (.iload_n 2, 1) := by decide +kernel
theorem d_P_keep_78 : decode prog_4_method_11_code 78 = .ok (.i2b, 1) := by decide +kernel
theorem d_P_keep_79 : decode prog_4_method_11_code 79 = .ok (.bastore, 1) := by decide +kernel
theorem d_P_keep_80 : decode prog_4_method_11_code 80 = .ok (.aload_n 0, 1) := by decide +kernel
theorem d_P_keep_81 : decode prog_4_method_11_code 81 = .ok (.dup, 1) := by decide +kernel
theorem d_P_keep_82 : decode prog_4_method_11_code 82 = .ok (.getfield 33, 3) := by decide +kernel
theorem d_P_keep_85 : decode prog_4_method_11_code 85 = .ok (.iconst 1, 1) := by decide +kernel
theorem d_P_keep_86 : decode prog_4_method_11_code 86 = .ok (.iadd, 1) := by decide +kernel
theorem d_P_keep_87 : decode prog_4_method_11_code 87 = .ok (.putfield 33, 3) := by decide +kernel
theorem d_P_keep_90 : decode prog_4_method_11_code 90 = .ok (.iconst 0, 1) := by decide +kernel
theorem d_P_keep_91 : decode prog_4_method_11_code 91 = .ok (.istore 6, 2) := by decide +kernel
theorem d_P_keep_93 : decode prog_4_method_11_code 93 = .ok (.iload 6, 2) := by decide +kernel
theorem d_P_keep_95 : decode prog_4_method_11_code 95 = .ok (.iconst 3, 1) := by decide +kernel
theorem d_P_keep_96 : decode prog_4_method_11_code 96 = .ok (.if_icmp .ge 45, 3) := by decide +kernel
theorem d_P_keep_99 : decode prog_4_method_11_code 99 = .ok (.iload 5, 2) := by decide +kernel
theorem d_P_keep_101 : decode prog_4_method_11_code 101 = .ok (.ifCond .eq 40, 3) := by decide +kernel
theorem d_P_keep_104 : decode prog_4_method_11_code 104 = .ok (.iload_n 3, 1) := by decide +kernel
theorem d_P_keep_105 : decode prog_4_method_11_code 105 = .ok (.iconst 5, 1) := by decide +kernel
theorem d_P_keep_106 : decode prog_4_method_11_code 106 = .ok (.if_icmp .ge 35, 3) := by decide +kernel
theorem d_P_keep_109 : decode prog_4_method_11_code 109 = .ok (.aload_n 0, 1) := by decide +kernel
theorem d_P_keep_110 : decode prog_4_method_11_code 110 = .ok (.iload 5, 2) := by decide +kernel
theorem d_P_keep_112 : decode prog_4_method_11_code 112 = .ok (.iload 6, 2) := by decide +kernel
theorem d_P_keep_114 : decode prog_4_method_11_code 114 = .ok (.iload_n 3, 1) := by decide +kernel
theorem d_P_keep_115 : decode prog_4_method_11_code 115 = .ok (.invokevirtual 130, 3) := by decide +kernel
theorem d_P_keep_118 : decode prog_4_method_11_code 118 = .ok (.aload_n 0, 1) := by decide +kernel
theorem d_P_keep_119 : decode prog_4_method_11_code 119 = .ok (.iload_n 1, 1) := by decide +kernel
theorem d_P_keep_120 : decode prog_4_method_11_code 120 = .ok (.iload 5, 2) := by decide +kernel
theorem d_P_keep_122 : decode prog_4_method_11_code 122 = .ok (.iload 6, 2) := by decide +kernel
theorem d_P_keep_124 : decode prog_4_method_11_code 124 = .ok (.invokestatic 127, 3) := by decide +kernel
theorem d_P_keep_127 : decode prog_4_method_11_code 127 = .ok (.iload 6, 2) := by decide +kernel
theorem d_P_keep_129 : decode prog_4_method_11_code 129 = .ok (.iload_n 3, 1) := by decide +kernel
theorem d_P_keep_130 : decode prog_4_method_11_code 130 = .ok (.iconst 1, 1) := by decide +kernel
theorem d_P_keep_131 : decode prog_4_method_11_code 131 = .ok (.iadd, 1) := by decide +kernel
theorem d_P_keep_132 : decode prog_4_method_11_code 132 = .ok (.invokevirtual 70, 3) := by decide +kernel
theorem d_P_keep_135 : decode prog_4_method_11_code 135 = .ok (.iinc 6 1, 3) := by decide +kernel
theorem d_P_keep_138 : decode prog_4_method_11_code 138 = .ok (.goto (-45), 3) := by decide +kernel
theorem d_P_keep_141 : decode prog_4_method_11_code 141 = .ok (.return_, 1) := by decide +kernel
theorem d_P_make_0 : decode prog_4_method_3_code 0 = .ok (.aload_n 0, 1) := by decide +kernel
theorem d_P_make_1 : decode prog_4_method_3_code 1 = .ok (.invokevirtual 47, 3) := by decide +kernel
theorem d_P_make_4 : decode prog_4_method_3_code 4 = .ok (.iload_n 1, 1) := by decide +kernel
theorem d_P_make_5 : decode prog_4_method_3_code 5 = .ok (.ifCond .lt 10, 3) := by decide +kernel
theorem d_P_make_8 : decode prog_4_method_3_code 8 = .ok (.iload_n 1, 1) := by decide +kernel
theorem d_P_make_9 : decode prog_4_method_3_code 9 = .ok (.sipush 1024, 3) := by decide +kernel
theorem d_P_make_12 : decode prog_4_method_3_code 12 = .ok (.if_icmp .lt 5, 3) := by decide +kernel
theorem d_P_make_15 : decode prog_4_method_3_code 15 = .ok (.iconst 0, 1) := by decide +kernel
theorem d_P_make_16 : decode prog_4_method_3_code 16 = .ok (.ireturn, 1) := by decide +kernel
theorem d_P_make_17 : decode prog_4_method_3_code 17 = .ok (.aload_n 0, 1) := by decide +kernel
theorem d_P_make_18 : decode prog_4_method_3_code 18 = .ok (.getfield 9, 3) := by decide +kernel
theorem d_P_make_21 : decode prog_4_method_3_code 21 = .ok (.ldc2_w 37, 3) := by decide +kernel
theorem d_P_make_24 : decode prog_4_method_3_code 24 = .ok (.invokestatic 50, 3) := by decide +kernel
theorem d_P_make_27 : decode prog_4_method_3_code 27 = .ok (.aload_n 0, 1) := by decide +kernel
theorem d_P_make_28 : decode prog_4_method_3_code 28 = .ok (.iload_n 1, 1) := by decide +kernel
theorem d_P_make_29 : decode prog_4_method_3_code 29 = .ok (.invokevirtual 56, 3) := by decide +kernel
theorem d_P_make_32 : decode prog_4_method_3_code 32 = .ok (.aload_n 0, 1) := by decide +kernel
theorem d_P_make_33 : decode prog_4_method_3_code 33 = .ok (.iload_n 1, 1) := by decide +kernel
theorem d_P_make_34 : decode prog_4_method_3_code 34 = .ok (.iconst 0, 1) := by decide +kernel
theorem d_P_make_35 : decode prog_4_method_3_code 35 = .ok (.invokevirtual 60, 3) := by decide +kernel
theorem d_P_make_38 : decode prog_4_method_3_code 38 = .ok (.aload_n 0, 1) := by decide +kernel
theorem d_P_make_39 : decode prog_4_method_3_code 39 = .ok (.iconst 0, 1) := by decide +kernel
theorem d_P_make_40 : decode prog_4_method_3_code 40 = .ok (.invokevirtual 64, 3) := by decide +kernel
theorem d_P_make_43 : decode prog_4_method_3_code 43 = .ok (.lstore_n 2, 1) := by decide +kernel
theorem d_P_make_44 : decode prog_4_method_3_code 44 = .ok (.lload_n 2, 1) := by decide +kernel
theorem d_P_make_45 : decode prog_4_method_3_code 45 = .ok (.lconst 0, 1) := by decide +kernel
theorem d_P_make_46 : decode prog_4_method_3_code 46 = .ok (.lcmp, 1) := by decide +kernel
theorem d_P_make_47 : decode prog_4_method_3_code 47 = .ok (.ifCond .le 34, 3) := by decide +kernel
theorem d_P_make_50 : decode prog_4_method_3_code 50 = .ok (.aload_n 0, 1) := by decide +kernel
theorem d_P_make_51 : decode prog_4_method_3_code 51 = .ok (.aload_n 0, 1) := by decide +kernel
theorem d_P_make_52 : decode prog_4_method_3_code 52 = .ok (.getfield 9, 3) := by decide +kernel
theorem d_P_make_55 : decode prog_4_method_3_code 55 = .ok (.iload_n 1, 1) := by decide +kernel
theorem d_P_make_56 : decode prog_4_method_3_code 56 = .ok (.laload, 1) := by decide +kernel
theorem d_P_make_57 : decode prog_4_method_3_code 57 = .ok (.lload_n 2, 1) := by decide +kernel
theorem d_P_make_58 : decode prog_4_method_3_code 58 = .ok (.ldiv, 1) := by decide +kernel
theorem d_P_make_59 : decode prog_4_method_3_code 59 = .ok (.ldc2_w 68, 3) := by decide +kernel
theorem d_P_make_62 : decode prog_4_method_3_code 62 = .ok (.lmul, 1) := by decide +kernel
theorem d_P_make_63 : decode prog_4_method_3_code 63 = .ok (.aload_n 0, 1) := by decide +kernel
theorem d_P_make_64 : decode prog_4_method_3_code 64 = .ok (.getfield 9, 3) := by decide +kernel
theorem d_P_make_67 : decode prog_4_method_3_code 67 = .ok (.iload_n 1, 1) := by decide +kernel
theorem d_P_make_68 : decode prog_4_method_3_code 68 = .ok (.laload, 1) := by decide +kernel
theorem d_P_make_69 : decode prog_4_method_3_code 69 = .ok (.lload_n 2, 1) := by decide +kernel
theorem d_P_make_70 : decode prog_4_method_3_code 70 = .ok (.lrem, 1) := by decide +kernel
theorem d_P_make_71 : decode prog_4_method_3_code 71 = .ok (.ldc2_w 68, 3) := by decide +kernel
theorem d_P_make_74 : decode prog_4_method_3_code 74 = .ok (.lmul, 1) := by decide +kernel
theorem d_P_make_75 : decode prog_4_method_3_code 75 = .ok (.lload_n 2, 1) := by decide +kernel
theorem d_P_make_76 : decode prog_4_method_3_code 76 = .ok (.ldiv, 1) := by decide +kernel
theorem d_P_make_77 : decode prog_4_method_3_code 77 = .ok (.ladd, 1) := by decide +kernel
theorem d_P_make_78 : decode prog_4_method_3_code 78 = .ok (.putfield 39, 3) := by decide +kernel
theorem d_P_make_81 : decode prog_4_method_3_code 81 = .ok (.aload_n 0, 1) := by decide +kernel
theorem d_P_make_82 : decode prog_4_method_3_code 82 = .ok (.iload_n 1, 1) := by decide +kernel
theorem d_P_make_83 : decode prog_4_method_3_code 83 = .ok (.iconst (-1), 1) := by decide +kernel
theorem d_P_make_84 : decode prog_4_method_3_code 84 = .ok (.iconst 0, 1) := by decide +kernel
theorem d_P_make_85 : decode prog_4_method_3_code 85 = .ok (.invokevirtual 70, 3) := by decide +kernel
theorem d_P_make_88 : decode prog_4_method_3_code 88 = .ok (.aload_n 0, 1) := by decide +kernel
theorem d_P_make_89 : decode prog_4_method_3_code 89 = .ok (.getfield 15, 3) := by decide +kernel
theorem d_P_make_92 : decode prog_4_method_3_code 92 = .ok (.iload_n 1, 1) := by decide +kernel
theorem d_P_make_93 : decode prog_4_method_3_code 93 = .ok (.baload, 1) := by decide +kernel
theorem d_P_make_94 : decode prog_4_method_3_code 94 = .ok (.ireturn, 1) := by decide +kernel
theorem d_G_next_0 : decode prog_1_method_6_code 0 = .ok (.lload_n 1, 1) := by decide +kernel
theorem d_G_next_1 : decode prog_1_method_6_code 1 = .ok (.lconst 0, 1) := by decide +kernel
theorem d_G_next_2 : decode prog_1_method_6_code 2 = .ok (.lcmp, 1) := by decide +kernel
theorem d_G_next_3 : decode prog_1_method_6_code 3 = .ok (.ifCond .ge 6, 3) := by decide +kernel
theorem d_G_next_6 : decode prog_1_method_6_code 6 = .ok (.bipush (-2), 2) := by decide +kernel
theorem d_G_next_8 : decode prog_1_method_6_code 8 = .ok (.ireturn, 1) := by decide +kernel
theorem d_G_next_9 : decode prog_1_method_6_code 9 = .ok (.aload_n 0, 1) := by decide +kernel
theorem d_G_next_10 : decode prog_1_method_6_code 10 = .ok (.lconst 1, 1) := by decide +kernel
theorem d_G_next_11 : decode prog_1_method_6_code 11 = .ok (.iconst 2, 1) := by decide +kernel
theorem d_G_next_12 : decode prog_1_method_6_code 12 = .ok (.aload_n 0, 1) := by decide +kernel
theorem d_G_next_13 : decode prog_1_method_6_code 13 = .ok (.getfield 19, 3) := by decide +kernel
theorem d_G_next_16 : decode prog_1_method_6_code 16 = .ok (.aload_n 0, 1) := by decide +kernel
theorem d_G_next_17 : decode prog_1_method_6_code 17 = .ok (.getfield 41, 3) := by decide +kernel
theorem d_G_next_20 : decode prog_1_method_6_code 20 = .ok (.invokevirtual 108, 3) := by decide +kernel
theorem d_G_next_23 : decode prog_1_method_6_code 23 = .ok (.imul, 1) := by decide +kernel
theorem d_G_next_24 : decode prog_1_method_6_code 24 = .ok (.lshl, 1) := by decide +kernel
theorem d_G_next_25 : decode prog_1_method_6_code 25 = .ok (.lload_n 1, 1) := by decide +kernel
theorem d_G_next_26 : decode prog_1_method_6_code 26 = .ok (.lcmp, 1) := by decide +kernel
theorem d_G_next_27 : decode prog_1_method_6_code 27 = .ok (.ifCond .gt 7, 3) := by decide +kernel
theorem d_G_next_30 : decode prog_1_method_6_code 30 = .ok (.iconst 1, 1) := by decide +kernel
theorem d_G_next_31 : decode prog_1_method_6_code 31 = .ok (.goto 4, 3) := by decide +kernel
theorem d_G_next_34 : decode prog_1_method_6_code 34 = .ok (.iconst 0, 1) := by decide +kernel
theorem d_G_next_35 : decode prog_1_method_6_code 35 = .ok (.putfield 45, 3) := by decide +kernel
theorem d_G_next_38 : decode prog_1_method_6_code 38 = .ok (.aload_n 0, 1) := by decide +kernel
theorem d_G_next_39 : decode prog_1_method_6_code 39 = .ok (.getfield 45, 3) := by decide +kernel
theorem d_G_next_42 : decode prog_1_method_6_code 42 = .ok (.ifCond .eq 15, 3) := by decide +kernel
theorem d_G_next_45 : decode prog_1_method_6_code 45 = .ok (.aload_n 0, 1) := by decide +kernel
theorem d_G_next_46 : decode prog_1_method_6_code 46 = .ok (.getfield 37, 3) := by decide +kernel
theorem d_G_next_49 : decode prog_1_method_6_code 49 = .ok (.aload_n 0, 1) := by decide +kernel
theorem d_G_next_50 : decode prog_1_method_6_code 50 = .ok (.getfield 41, 3) := by decide +kernel
theorem d_G_next_53 : decode prog_1_method_6_code 53 = .ok (.invokevirtual 111, 3) := by decide +kernel
theorem d_G_next_56 : decode prog_1_method_6_code 56 = .ok (.ireturn, 1) := by decide +kernel
theorem d_G_next_57 : decode prog_1_method_6_code 57 = .ok (.aload_n 0, 1) := by decide +kernel
theorem d_G_next_58 : decode prog_1_method_6_code 58 = .ok (.getfield 37, 3) := by decide +kernel
theorem d_G_next_61 : decode prog_1_method_6_code 61 = .ok (.invokevirtual 114, 3) := by decide +kernel
theorem d_G_next_64 : decode prog_1_method_6_code 64 = .ok (.aload_n 0, 1) := by decide +kernel
theorem d_G_next_65 : decode prog_1_method_6_code 65 = .ok (.getfield 28, 3) := by decide +kernel
theorem d_G_next_68 : decode prog_1_method_6_code 68 = .ok (.aload_n 0, 1) := by decide +kernel
theorem d_G_next_69 : decode prog_1_method_6_code 69 = .ok (.getfield 41, 3) := by decide +kernel
theorem d_G_next_72 : decode prog_1_method_6_code 72 = .ok (.invokevirtual 117, 3) := by decide +kernel
theorem d_G_next_75 : decode prog_1_method_6_code 75 = .ok (.ireturn, 1) := by decide +kernel
