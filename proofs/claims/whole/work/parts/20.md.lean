theorem d_M_thrown_0 : decode prog_7_method_2_code 0 = .ok (.aload_n 0, 1) := by decide +kernel
theorem d_M_thrown_1 : decode prog_7_method_2_code 1 = .ok (.getfield 69, 3) := by decide +kernel
theorem d_M_thrown_4 : decode prog_7_method_2_code 4 = .ok (.ireturn, 1) := by decide +kernel
theorem d_M_noTest_0 : decode prog_7_method_3_code 0 = .ok (.iload_n 1, 1) := by decide +kernel
theorem d_M_noTest_1 : decode prog_7_method_3_code 1 = .ok (.iconst 1, 1) := by decide +kernel
theorem d_M_noTest_2 : decode prog_7_method_3_code 2 = .ok (.if_icmp .lt 11, 3) := by decide +kernel
theorem d_M_noTest_5 : decode prog_7_method_3_code 5 = .ok (.iload_n 1, 1) := by decide +kernel
theorem d_M_noTest_6 : decode prog_7_method_3_code 6 = .ok (.aload_n 0, 1) := by decide +kernel
theorem d_M_noTest_7 : decode prog_7_method_3_code 7 = .ok (.getfield 73, 3) := by decide +kernel
theorem d_M_noTest_10 : decode prog_7_method_3_code 10 = .ok (.if_icmp .le 7, 3) := by decide +kernel
theorem d_M_noTest_13 : decode prog_7_method_3_code 13 = .ok (.iconst 1, 1) := by decide +kernel
theorem d_M_noTest_14 : decode prog_7_method_3_code 14 = .ok (.goto 4, 3) := by decide +kernel
theorem d_M_noTest_17 : decode prog_7_method_3_code 17 = .ok (.iconst 0, 1) := by decide +kernel
theorem d_M_noTest_18 : decode prog_7_method_3_code 18 = .ok (.ireturn, 1) := by decide +kernel
theorem d_M_noCause_0 : decode prog_7_method_4_code 0 = .ok (.iload_n 1, 1) := by decide +kernel
theorem d_M_noCause_1 : decode prog_7_method_4_code 1 = .ok (.iconst 1, 1) := by decide +kernel
theorem d_M_noCause_2 : decode prog_7_method_4_code 2 = .ok (.if_icmp .lt 11, 3) := by decide +kernel
theorem d_M_noCause_5 : decode prog_7_method_4_code 5 = .ok (.iload_n 1, 1) := by decide +kernel
theorem d_M_noCause_6 : decode prog_7_method_4_code 6 = .ok (.aload_n 0, 1) := by decide +kernel
theorem d_M_noCause_7 : decode prog_7_method_4_code 7 = .ok (.getfield 76, 3) := by decide +kernel
theorem d_M_noCause_10 : decode prog_7_method_4_code 10 = .ok (.if_icmp .le 7, 3) := by decide +kernel
theorem d_M_noCause_13 : decode prog_7_method_4_code 13 = .ok (.iconst 1, 1) := by decide +kernel
theorem d_M_noCause_14 : decode prog_7_method_4_code 14 = .ok (.goto 4, 3) := by decide +kernel
theorem d_M_noCause_17 : decode prog_7_method_4_code 17 = .ok (.iconst 0, 1) := by decide +kernel
theorem d_M_noCause_18 : decode prog_7_method_4_code 18 = .ok (.ireturn, 1) := by decide +kernel
theorem d_M_noFault_0 : decode prog_7_method_5_code 0 = .ok (.aload_n 0, 1) := by decide +kernel
theorem d_M_noFault_1 : decode prog_7_method_5_code 1 = .ok (.iload_n 1, 1) := by decide +kernel
theorem d_M_noFault_2 : decode prog_7_method_5_code 2 = .ok (.invokevirtual 79, 3) := by decide +kernel
theorem d_M_noFault_5 : decode prog_7_method_5_code 5 = .ok (.ifCond .ne 18, 3) := by decide +kernel
theorem d_M_noFault_8 : decode prog_7_method_5_code 8 = .ok (.aload_n 0, 1) := by decide +kernel
theorem d_M_noFault_9 : decode prog_7_method_5_code 9 = .ok (.getfield 7, 3) := by decide +kernel
theorem d_M_noFault_12 : decode prog_7_method_5_code 12 = .ok (.iload_n 1, 1) := by decide +kernel
theorem d_M_noFault_13 : decode prog_7_method_5_code 13 = .ok (.iaload, 1) := by decide +kernel
theorem d_M_noFault_14 : decode prog_7_method_5_code 14 = .ok (.aload_n 0, 1) := by decide +kernel
theorem d_M_noFault_15 : decode prog_7_method_5_code 15 = .ok (.getfield 13, 3) := by decide +kernel
theorem d_M_noFault_18 : decode prog_7_method_5_code 18 = .ok (.iload_n 1, 1) := by decide +kernel
theorem d_M_noFault_19 : decode prog_7_method_5_code 19 = .ok (.iaload, 1) := by decide +kernel
theorem d_M_noFault_20 : decode prog_7_method_5_code 20 = .ok (.if_icmp .eq 7, 3) := by decide +kernel
theorem d_M_noFault_23 : decode prog_7_method_5_code 23 = .ok (.iconst 1, 1) := by decide +kernel
theorem d_M_noFault_24 : decode prog_7_method_5_code 24 = .ok (.goto 4, 3) := by decide +kernel
theorem d_M_noFault_27 : decode prog_7_method_5_code 27 = .ok (.iconst 0, 1) := by decide +kernel
theorem d_M_noFault_28 : decode prog_7_method_5_code 28 = .ok (.ireturn, 1) := by decide +kernel
theorem d_M_fault_0 : decode prog_7_method_6_code 0 = .ok (.aload_n 0, 1) := by decide +kernel
theorem d_M_fault_1 : decode prog_7_method_6_code 1 = .ok (.iconst 0, 1) := by decide +kernel
theorem d_M_fault_2 : decode prog_7_method_6_code 2 = .ok (.putfield 69, 3) := by decide +kernel
theorem d_M_fault_5 : decode prog_7_method_6_code 5 = .ok (.lload_n 3, 1) := by decide +kernel
theorem d_M_fault_6 : decode prog_7_method_6_code 6 = .ok (.lconst 1, 1) := by decide +kernel
theorem d_M_fault_7 : decode prog_7_method_6_code 7 = .ok (.lcmp, 1) := by decide +kernel
theorem d_M_fault_8 : decode prog_7_method_6_code 8 = .ok (.ifCond .lt 23, 3) := by decide +kernel
theorem d_M_fault_11 : decode prog_7_method_6_code 11 = .ok (.lload_n 3, 1) := by decide +kernel
theorem d_M_fault_12 : decode prog_7_method_6_code 12 = .ok (.ldc2_w 83, 3) := by decide +kernel
theorem d_M_fault_15 : decode prog_7_method_6_code 15 = .ok (.lcmp, 1) := by decide +kernel
theorem d_M_fault_16 : decode prog_7_method_6_code 16 = .ok (.ifCond .gt 15, 3) := by decide +kernel
theorem d_M_fault_19 : decode prog_7_method_6_code 19 = .ok (.lload_n 1, 1) := by decide +kernel
theorem d_M_fault_20 : decode prog_7_method_6_code 20 = .ok (.lconst 0, 1) := by decide +kernel
theorem d_M_fault_21 : decode prog_7_method_6_code 21 = .ok (.lcmp, 1) := by decide +kernel
theorem d_M_fault_22 : decode prog_7_method_6_code 22 = .ok (.ifCond .lt 9, 3) := by decide +kernel
theorem d_M_fault_25 : decode prog_7_method_6_code 25 = .ok (.lload_n 1, 1) := by decide +kernel
theorem d_M_fault_26 : decode prog_7_method_6_code 26 = .ok (.lload_n 3, 1) := by decide +kernel
theorem d_M_fault_27 : decode prog_7_method_6_code 27 = .ok (.lcmp, 1) := by decide +kernel
theorem d_M_fault_28 : decode prog_7_method_6_code 28 = .ok (.ifCond .le 6, 3) := by decide +kernel
theorem d_M_fault_31 : decode prog_7_method_6_code 31 = .ok (.bipush (-2), 2) := by decide +kernel
theorem d_M_fault_33 : decode prog_7_method_6_code 33 = .ok (.ireturn, 1) := by decide +kernel
theorem d_M_fault_34 : decode prog_7_method_6_code 34 = .ok (.aload_n 0, 1) := by decide +kernel
theorem d_M_fault_35 : decode prog_7_method_6_code 35 = .ok (.getfield 85, 3) := by decide +kernel
theorem d_M_fault_38 : decode prog_7_method_6_code 38 = .ok (.bipush 8, 2) := by decide +kernel
theorem d_M_fault_40 : decode prog_7_method_6_code 40 = .ok (.if_icmp .eq 12, 3) := by decide +kernel
theorem d_M_fault_43 : decode prog_7_method_6_code 43 = .ok (.aload_n 0, 1) := by decide +kernel
theorem d_M_fault_44 : decode prog_7_method_6_code 44 = .ok (.getfield 76, 3) := by decide +kernel
theorem d_M_fault_47 : decode prog_7_method_6_code 47 = .ok (.bipush 12, 2) := by decide +kernel
theorem d_M_fault_49 : decode prog_7_method_6_code 49 = .ok (.if_icmp .ne 6, 3) := by decide +kernel
theorem d_M_fault_52 : decode prog_7_method_6_code 52 = .ok (.bipush (-4), 2) := by decide +kernel
theorem d_M_fault_54 : decode prog_7_method_6_code 54 = .ok (.ireturn, 1) := by decide +kernel
theorem d_M_fault_55 : decode prog_7_method_6_code 55 = .ok (.aload_n 0, 1) := by decide +kernel
theorem d_M_fault_56 : decode prog_7_method_6_code 56 = .ok (.dup, 1) := by decide +kernel
theorem d_M_fault_57 : decode prog_7_method_6_code 57 = .ok (.getfield 85, 3) := by decide +kernel
theorem d_M_fault_60 : decode prog_7_method_6_code 60 = .ok (.iconst 1, 1) := by decide +kernel
theorem d_M_fault_61 : decode prog_7_method_6_code 61 = .ok (.iadd, 1) := by decide +kernel
theorem d_M_fault_62 : decode prog_7_method_6_code 62 = .ok (.putfield 85, 3) := by decide +kernel
theorem d_M_fault_65 : decode prog_7_method_6_code 65 = .ok (.aload_n 0, 1) := by decide +kernel
theorem d_M_fault_66 : decode prog_7_method_6_code 66 = .ok (.dup, 1) := by decide +kernel
theorem d_M_fault_67 : decode prog_7_method_6_code 67 = .ok (.getfield 76, 3) := by decide +kernel
theorem d_M_fault_70 : decode prog_7_method_6_code 70 = .ok (.iconst 1, 1) := by decide +kernel
theorem d_M_fault_71 : decode prog_7_method_6_code 71 = .ok (.iadd, 1) := by decide +kernel
theorem d_M_fault_72 : decode prog_7_method_6_code 72 = .ok (.putfield 76, 3) := by decide +kernel
theorem d_M_fault_75 : decode prog_7_method_6_code 75 = .ok (.aload_n 0, 1) := by decide +kernel
theorem d_M_fault_76 : decode prog_7_method_6_code 76 = .ok (.getfield 7, 3) := by decide +kernel
theorem d_M_fault_79 : decode prog_7_method_6_code 79 = .ok (.aload_n 0, 1) := by decide +kernel
theorem d_M_fault_80 : decode prog_7_method_6_code 80 = .ok (.getfield 76, 3) := by decide +kernel
theorem d_M_fault_83 : decode prog_7_method_6_code 83 = .ok (.aload_n 0, 1) := by decide +kernel
theorem d_M_fault_84 : decode prog_7_method_6_code 84 = .ok (.getfield 76, 3) := by decide +kernel
theorem d_M_fault_87 : decode prog_7_method_6_code 87 = .ok (.iastore, 1) := by decide +kernel
theorem d_M_fault_88 : decode prog_7_method_6_code 88 = .ok (.aload_n 0, 1) := by decide +kernel
theorem d_M_fault_89 : decode prog_7_method_6_code 89 = .ok (.getfield 13, 3) := by decide +kernel
theorem d_M_fault_92 : decode prog_7_method_6_code 92 = .ok (.aload_n 0, 1) := by decide +kernel
theorem d_M_fault_93 : decode prog_7_method_6_code 93 = .ok (.getfield 76, 3) := by decide +kernel
theorem d_M_fault_96 : decode prog_7_method_6_code 96 = .ok (.aload_n 0, 1) := by decide +kernel
theorem d_M_fault_97 : decode prog_7_method_6_code 97 = .ok (.getfield 76, 3) := by decide +kernel
theorem d_M_fault_100 : decode prog_7_method_6_code 100 = .ok (.iastore, 1) := by decide +kernel
theorem d_M_fault_101 : decode prog_7_method_6_code 101 = .ok (.aload_n 0, 1) := by decide +kernel
theorem d_M_fault_102 : decode prog_7_method_6_code 102 = .ok (.getfield 16, 3) := by decide +kernel
theorem d_M_fault_105 : decode prog_7_method_6_code 105 = .ok (.aload_n 0, 1) := by decide +kernel
theorem d_M_fault_106 : decode prog_7_method_6_code 106 = .ok (.getfield 76, 3) := by decide +kernel
theorem d_M_fault_109 : decode prog_7_method_6_code 109 = .ok (.ldc2_w 88, 3) := by decide +kernel
theorem d_M_fault_112 : decode prog_7_method_6_code 112 = .ok (.lload_n 3, 1) := by decide +kernel
theorem d_M_fault_113 : decode prog_7_method_6_code 113 = .ok (.ldiv, 1) := by decide +kernel
theorem d_M_fault_114 : decode prog_7_method_6_code 114 = .ok (.lload_n 1, 1) := by decide +kernel
theorem d_M_fault_115 : decode prog_7_method_6_code 115 = .ok (.lmul, 1) := by decide +kernel
theorem d_M_fault_116 : decode prog_7_method_6_code 116 = .ok (.lastore, 1) := by decide +kernel
theorem d_M_fault_117 : decode prog_7_method_6_code 117 = .ok (.aload_n 0, 1) := by decide +kernel
theorem d_M_fault_118 : decode prog_7_method_6_code 118 = .ok (.getfield 76, 3) := by decide +kernel
theorem d_M_fault_121 : decode prog_7_method_6_code 121 = .ok (.ireturn, 1) := by decide +kernel
theorem d_M_pair_0 : decode prog_7_method_7_code 0 = .ok (.aload_n 0, 1) := by decide +kernel
theorem d_M_pair_1 : decode prog_7_method_7_code 1 = .ok (.iconst 0, 1) := by decide +kernel
theorem d_M_pair_2 : decode prog_7_method_7_code 2 = .ok (.putfield 69, 3) := by decide +kernel
theorem d_M_pair_5 : decode prog_7_method_7_code 5 = .ok (.aload_n 0, 1) := by decide +kernel
theorem d_M_pair_6 : decode prog_7_method_7_code 6 = .ok (.iload_n 1, 1) := by decide +kernel
theorem d_M_pair_7 : decode prog_7_method_7_code 7 = .ok (.invokevirtual 90, 3) := by decide +kernel
theorem d_M_pair_10 : decode prog_7_method_7_code 10 = .ok (.ifCond .ne 11, 3) := by decide +kernel
theorem d_M_pair_13 : decode prog_7_method_7_code 13 = .ok (.aload_n 0, 1) := by decide +kernel
theorem d_M_pair_14 : decode prog_7_method_7_code 14 = .ok (.iload_n 2, 1) := by decide +kernel
theorem d_M_pair_15 : decode prog_7_method_7_code 15 = .ok (.invokevirtual 90, 3) := by decide +kernel
theorem d_M_pair_18 : decode prog_7_method_7_code 18 = .ok (.ifCond .eq 5, 3) := by decide +kernel
theorem d_M_pair_21 : decode prog_7_method_7_code 21 = .ok (.iconst (-1), 1) := by decide +kernel
theorem d_M_pair_22 : decode prog_7_method_7_code 22 = .ok (.ireturn, 1) := by decide +kernel
theorem d_M_pair_23 : decode prog_7_method_7_code 23 = .ok (.iload_n 1, 1) := by decide +kernel
theorem d_M_pair_24 : decode prog_7_method_7_code 24 = .ok (.iload_n 2, 1) := by decide +kernel
theorem d_M_pair_25 : decode prog_7_method_7_code 25 = .ok (.if_icmp .ne 6, 3) := by decide +kernel
theorem d_M_pair_28 : decode prog_7_method_7_code 28 = .ok (.bipush (-2), 2) := by decide +kernel
theorem d_M_pair_30 : decode prog_7_method_7_code 30 = .ok (.ireturn, 1) := by decide +kernel
theorem d_M_pair_31 : decode prog_7_method_7_code 31 = .ok (.iload_n 1, 1) := by decide +kernel
theorem d_M_pair_32 : decode prog_7_method_7_code 32 = .ok (.iload_n 2, 1) := by decide +kernel
theorem d_M_pair_33 : decode prog_7_method_7_code 33 = .ok (.if_icmp .ge 7, 3) := by decide +kernel
theorem d_M_pair_36 : decode prog_7_method_7_code 36 = .ok (.iload_n 1, 1) := by decide +kernel
theorem d_M_pair_37 : decode prog_7_method_7_code 37 = .ok (.goto 4, 3) := by decide +kernel
theorem d_M_pair_40 : decode prog_7_method_7_code 40 = .ok (.iload_n 2, 1) := by decide +kernel
theorem d_M_pair_41 : decode prog_7_method_7_code 41 = .ok (.istore_n 3, 1) := by decide +kernel
theorem d_M_pair_42 : decode prog_7_method_7_code 42 = .ok (.iload_n 1, 1) := by decide +kernel
theorem d_M_pair_43 : decode prog_7_method_7_code 43 = .ok (.iload_n 2, 1) := by decide +kernel
theorem d_M_pair_44 : decode prog_7_method_7_code 44 = .ok (.if_icmp .ge 7, 3) := by decide +kernel
theorem d_M_pair_47 : decode prog_7_method_7_code 47 = .ok (.iload_n 2, 1) := by decide +kernel
theorem d_M_pair_48 : decode prog_7_method_7_code 48 = .ok (.goto 4, 3) := by decide +kernel
theorem d_M_pair_51 : decode prog_7_method_7_code 51 = .ok (.iload_n 1, 1) := by decide +kernel
theorem d_M_pair_52 : decode prog_7_method_7_code 52 = .ok (.istore 4, 2) := by decide +kernel
theorem d_M_pair_54 : decode prog_7_method_7_code 54 = .ok (.iconst 1, 1) := by decide +kernel
theorem d_M_pair_55 : decode prog_7_method_7_code 55 = .ok (.istore 5, 2) := by decide +kernel
theorem d_M_pair_57 : decode prog_7_method_7_code 57 = .ok (.iload 5, 2) := by decide +kernel
theorem d_M_pair_59 : decode prog_7_method_7_code 59 = .ok (.aload_n 0, 1) := by decide +kernel
theorem d_M_pair_60 : decode prog_7_method_7_code 60 = .ok (.getfield 76, 3) := by decide +kernel
theorem d_M_pair_63 : decode prog_7_method_7_code 63 = .ok (.if_icmp .gt 35, 3) := by decide +kernel
theorem d_M_pair_66 : decode prog_7_method_7_code 66 = .ok (.aload_n 0, 1) := by decide +kernel
theorem d_M_pair_67 : decode prog_7_method_7_code 67 = .ok (.getfield 7, 3) := by decide +kernel
theorem d_M_pair_70 : decode prog_7_method_7_code 70 = .ok (.iload 5, 2) := by decide +kernel
theorem d_M_pair_72 : decode prog_7_method_7_code 72 = .ok (.iaload, 1) := by decide +kernel
theorem d_M_pair_73 : decode prog_7_method_7_code 73 = .ok (.iload_n 3, 1) := by decide +kernel
theorem d_M_pair_74 : decode prog_7_method_7_code 74 = .ok (.if_icmp .ne 18, 3) := by decide +kernel
theorem d_M_pair_77 : decode prog_7_method_7_code 77 = .ok (.aload_n 0, 1) := by decide +kernel
theorem d_M_pair_78 : decode prog_7_method_7_code 78 = .ok (.getfield 13, 3) := by decide +kernel
theorem d_M_pair_81 : decode prog_7_method_7_code 81 = .ok (.iload 5, 2) := by decide +kernel
theorem d_M_pair_83 : decode prog_7_method_7_code 83 = .ok (.iaload, 1) := by decide +kernel
theorem d_M_pair_84 : decode prog_7_method_7_code 84 = .ok (.iload 4, 2) := by decide +kernel
theorem d_M_pair_86 : decode prog_7_method_7_code 86 = .ok (.if_icmp .ne 6, 3) := by decide +kernel
theorem d_M_pair_89 : decode prog_7_method_7_code 89 = .ok (.bipush (-3), 2) := by decide +kernel
theorem d_M_pair_91 : decode prog_7_method_7_code 91 = .ok (.ireturn, 1) := by decide +kernel
theorem d_M_pair_92 : decode prog_7_method_7_code 92 = .ok (.iinc 5 1, 3) := by decide +kernel
theorem d_M_pair_95 : decode prog_7_method_7_code 95 = .ok (.goto (-38), 3) := by decide +kernel
theorem d_M_pair_98 : decode prog_7_method_7_code 98 = .ok (.aload_n 0, 1) := by decide +kernel
theorem d_M_pair_99 : decode prog_7_method_7_code 99 = .ok (.getfield 76, 3) := by decide +kernel
theorem d_M_pair_102 : decode prog_7_method_7_code 102 = .ok (.bipush 12, 2) := by decide +kernel
theorem d_M_pair_104 : decode prog_7_method_7_code 104 = .ok (.if_icmp .ne 6, 3) := by decide +kernel
theorem d_M_pair_107 : decode prog_7_method_7_code 107 = .ok (.bipush (-4), 2) := by decide +kernel
theorem d_M_pair_109 : decode prog_7_method_7_code 109 = .ok (.ireturn, 1) := by decide +kernel
theorem d_M_pair_110 : decode prog_7_method_7_code 110 = .ok (.aload_n 0, 1) := by decide +kernel
theorem d_M_pair_111 : decode prog_7_method_7_code 111 = .ok (.dup, 1) := by decide +kernel
theorem d_M_pair_112 : decode prog_7_method_7_code 112 = .ok (.getfield 76, 3) := by decide +kernel
theorem d_M_pair_115 : decode prog_7_method_7_code 115 = .ok (.iconst 1, 1) := by decide +kernel
theorem d_M_pair_116 : decode prog_7_method_7_code 116 = .ok (.iadd, 1) := by decide +kernel
theorem d_M_pair_117 : decode prog_7_method_7_code 117 = .ok (.putfield 76, 3) := by decide +kernel
theorem d_M_pair_120 : decode prog_7_method_7_code 120 = .ok (.aload_n 0, 1) := by decide +kernel
theorem d_M_pair_121 : decode prog_7_method_7_code 121 = .ok (.getfield 7, 3) := by decide +kernel
theorem d_M_pair_124 : decode prog_7_method_7_code 124 = .ok (.aload_n 0, 1) := by decide +kernel
theorem d_M_pair_125 : decode prog_7_method_7_code 125 = .ok (.getfield 76, 3) := by decide +kernel
theorem d_M_pair_128 : decode prog_7_method_7_code 128 = .ok (.iload_n 3, 1) := by decide +kernel
theorem d_M_pair_129 : decode prog_7_method_7_code 129 = .ok (.iastore, 1) := by decide +kernel
theorem d_M_pair_130 : decode prog_7_method_7_code 130 = .ok (.aload_n 0, 1) := by decide +kernel
theorem d_M_pair_131 : decode prog_7_method_7_code 131 = .ok (.getfield 13, 3) := by decide +kernel
theorem d_M_pair_134 : decode prog_7_method_7_code 134 = .ok (.aload_n 0, 1) := by decide +kernel
theorem d_M_pair_135 : decode prog_7_method_7_code 135 = .ok (.getfield 76, 3) := by decide +kernel
theorem d_M_pair_138 : decode prog_7_method_7_code 138 = .ok (.iload 4, 2) := by decide +kernel
theorem d_M_pair_140 : decode prog_7_method_7_code 140 = .ok (.iastore, 1) := by decide +kernel
theorem d_M_pair_141 : decode prog_7_method_7_code 141 = .ok (.aload_n 0, 1) := by decide +kernel
theorem d_M_pair_142 : decode prog_7_method_7_code 142 = .ok (.getfield 16, 3) := by decide +kernel
theorem d_M_pair_145 : decode prog_7_method_7_code 145 = .ok (.aload_n 0, 1) := by decide +kernel
theorem d_M_pair_146 : decode prog_7_method_7_code 146 = .ok (.getfield 76, 3) := by decide +kernel
theorem d_M_pair_149 : decode prog_7_method_7_code 149 = .ok (.aload_n 0, 1) := by decide +kernel
theorem d_M_pair_150 : decode prog_7_method_7_code 150 = .ok (.getfield 16, 3) := by decide +kernel
theorem d_M_pair_153 : decode prog_7_method_7_code 153 = .ok (.iload_n 1, 1) := by decide +kernel
theorem d_M_pair_154 : decode prog_7_method_7_code 154 = .ok (.laload, 1) := by decide +kernel
theorem d_M_pair_155 : decode prog_7_method_7_code 155 = .ok (.ldc2_w 93, 3) := by decide +kernel
theorem d_M_pair_158 : decode prog_7_method_7_code 158 = .ok (.ldiv, 1) := by decide +kernel
theorem d_M_pair_159 : decode prog_7_method_7_code 159 = .ok (.aload_n 0, 1) := by decide +kernel
theorem d_M_pair_160 : decode prog_7_method_7_code 160 = .ok (.getfield 16, 3) := by decide +kernel
theorem d_M_pair_163 : decode prog_7_method_7_code 163 = .ok (.iload_n 2, 1) := by decide +kernel
theorem d_M_pair_164 : decode prog_7_method_7_code 164 = .ok (.laload, 1) := by decide +kernel
theorem d_M_pair_165 : decode prog_7_method_7_code 165 = .ok (.ldc2_w 93, 3) := by decide +kernel
theorem d_M_pair_168 : decode prog_7_method_7_code 168 = .ok (.ldiv, 1) := by decide +kernel
theorem d_M_pair_169 : decode prog_7_method_7_code 169 = .ok (.lmul, 1) := by decide +kernel
theorem d_M_pair_170 : decode prog_7_method_7_code 170 = .ok (.lastore, 1) := by decide +kernel
theorem d_M_pair_171 : decode prog_7_method_7_code 171 = .ok (.aload_n 0, 1) := by decide +kernel
theorem d_M_pair_172 : decode prog_7_method_7_code 172 = .ok (.getfield 76, 3) := by decide +kernel
theorem d_M_pair_175 : decode prog_7_method_7_code 175 = .ok (.ireturn, 1) := by decide +kernel
theorem d_M_test_0 : decode prog_7_method_8_code 0 = .ok (.aload_n 0, 1) := by decide +kernel
theorem d_M_test_1 : decode prog_7_method_8_code 1 = .ok (.iconst 0, 1) := by decide +kernel
theorem d_M_test_2 : decode prog_7_method_8_code 2 = .ok (.putfield 69, 3) := by decide +kernel
theorem d_M_test_5 : decode prog_7_method_8_code 5 = .ok (.lload_n 1, 1) := by decide +kernel
theorem d_M_test_6 : decode prog_7_method_8_code 6 = .ok (.lconst 0, 1) := by decide +kernel
theorem d_M_test_7 : decode prog_7_method_8_code 7 = .ok (.lcmp, 1) := by decide +kernel
theorem d_M_test_8 : decode prog_7_method_8_code 8 = .ok (.ifCond .lt 11, 3) := by decide +kernel
theorem d_M_test_11 : decode prog_7_method_8_code 11 = .ok (.lload_n 1, 1) := by decide +kernel
theorem d_M_test_12 : decode prog_7_method_8_code 12 = .ok (.ldc2_w 95, 3) := by decide +kernel
theorem d_M_test_15 : decode prog_7_method_8_code 15 = .ok (.lcmp, 1) := by decide +kernel
theorem d_M_test_16 : decode prog_7_method_8_code 16 = .ok (.ifCond .le 6, 3) := by decide +kernel
theorem d_M_test_19 : decode prog_7_method_8_code 19 = .ok (.bipush (-2), 2) := by decide +kernel
theorem d_M_test_21 : decode prog_7_method_8_code 21 = .ok (.ireturn, 1) := by decide +kernel
theorem d_M_test_22 : decode prog_7_method_8_code 22 = .ok (.aload_n 0, 1) := by decide +kernel
theorem d_M_test_23 : decode prog_7_method_8_code 23 = .ok (.getfield 73, 3) := by decide +kernel
theorem d_M_test_26 : decode prog_7_method_8_code 26 = .ok (.iconst 5, 1) := by decide +kernel
theorem d_M_test_27 : decode prog_7_method_8_code 27 = .ok (.if_icmp .ne 6, 3) := by decide +kernel
theorem d_M_test_30 : decode prog_7_method_8_code 30 = .ok (.bipush (-4), 2) := by decide +kernel
theorem d_M_test_32 : decode prog_7_method_8_code 32 = .ok (.ireturn, 1) := by decide +kernel
theorem d_M_test_33 : decode prog_7_method_8_code 33 = .ok (.aload_n 0, 1) := by decide +kernel
theorem d_M_test_34 : decode prog_7_method_8_code 34 = .ok (.dup, 1) := by decide +kernel
theorem d_M_test_35 : decode prog_7_method_8_code 35 = .ok (.getfield 73, 3) := by decide +kernel
theorem d_M_test_38 : decode prog_7_method_8_code 38 = .ok (.iconst 1, 1) := by decide +kernel
theorem d_M_test_39 : decode prog_7_method_8_code 39 = .ok (.iadd, 1) := by decide +kernel
theorem d_M_test_40 : decode prog_7_method_8_code 40 = .ok (.putfield 73, 3) := by decide +kernel
theorem d_M_test_43 : decode prog_7_method_8_code 43 = .ok (.aload_n 0, 1) := by decide +kernel
theorem d_M_test_44 : decode prog_7_method_8_code 44 = .ok (.getfield 23, 3) := by decide +kernel
theorem d_M_test_47 : decode prog_7_method_8_code 47 = .ok (.aload_n 0, 1) := by decide +kernel
theorem d_M_test_48 : decode prog_7_method_8_code 48 = .ok (.getfield 73, 3) := by decide +kernel
theorem d_M_test_51 : decode prog_7_method_8_code 51 = .ok (.lload_n 1, 1) := by decide +kernel
theorem d_M_test_52 : decode prog_7_method_8_code 52 = .ok (.lastore, 1) := by decide +kernel
theorem d_M_test_53 : decode prog_7_method_8_code 53 = .ok (.aload_n 0, 1) := by decide +kernel
theorem d_M_test_54 : decode prog_7_method_8_code 54 = .ok (.getfield 73, 3) := by decide +kernel
theorem d_M_test_57 : decode prog_7_method_8_code 57 = .ok (.ireturn, 1) := by decide +kernel
theorem d_M_oddsOf_0 : decode prog_7_method_9_code 0 = .ok (.aload_n 0, 1) := by decide +kernel
theorem d_M_oddsOf_1 : decode prog_7_method_9_code 1 = .ok (.getfield 30, 3) := by decide +kernel
theorem d_M_oddsOf_4 : decode prog_7_method_9_code 4 = .ok (.bipush 39, 2) := by decide +kernel
theorem d_M_oddsOf_6 : decode prog_7_method_9_code 6 = .ok (.iload_n 1, 1) := by decide +kernel
theorem d_M_oddsOf_7 : decode prog_7_method_9_code 7 = .ok (.imul, 1) := by decide +kernel
theorem d_M_oddsOf_8 : decode prog_7_method_9_code 8 = .ok (.iconst 3, 1) := by decide +kernel
theorem d_M_oddsOf_9 : decode prog_7_method_9_code 9 = .ok (.iload_n 2, 1) := by decide +kernel
theorem d_M_oddsOf_10 : decode prog_7_method_9_code 10 = .ok (.imul, 1) := by decide +kernel
theorem d_M_oddsOf_11 : decode prog_7_method_9_code 11 = .ok (.iadd, 1) := by decide +kernel
theorem d_M_oddsOf_12 : decode prog_7_method_9_code 12 = .ok (.iload_n 3, 1) := by decide +kernel
theorem d_M_oddsOf_13 : decode prog_7_method_9_code 13 = .ok (.iadd, 1) := by decide +kernel
theorem d_M_oddsOf_14 : decode prog_7_method_9_code 14 = .ok (.iaload, 1) := by decide +kernel
theorem d_M_oddsOf_15 : decode prog_7_method_9_code 15 = .ok (.ireturn, 1) := by decide +kernel
theorem d_M_odds_0 : decode prog_7_method_10_code 0 = .ok (.aload_n 0, 1) := by decide +kernel
theorem d_M_odds_1 : decode prog_7_method_10_code 1 = .ok (.iconst 0, 1) := by decide +kernel
theorem d_M_odds_2 : decode prog_7_method_10_code 2 = .ok (.putfield 69, 3) := by decide +kernel
theorem d_M_odds_5 : decode prog_7_method_10_code 5 = .ok (.aload_n 0, 1) := by decide +kernel
theorem d_M_odds_6 : decode prog_7_method_10_code 6 = .ok (.iload_n 1, 1) := by decide +kernel
theorem d_M_odds_7 : decode prog_7_method_10_code 7 = .ok (.invokevirtual 97, 3) := by decide +kernel
theorem d_M_odds_10 : decode prog_7_method_10_code 10 = .ok (.ifCond .ne 11, 3) := by decide +kernel
theorem d_M_odds_13 : decode prog_7_method_10_code 13 = .ok (.aload_n 0, 1) := by decide +kernel
theorem d_M_odds_14 : decode prog_7_method_10_code 14 = .ok (.iload_n 2, 1) := by decide +kernel
theorem d_M_odds_15 : decode prog_7_method_10_code 15 = .ok (.invokevirtual 79, 3) := by decide +kernel
theorem d_M_odds_18 : decode prog_7_method_10_code 18 = .ok (.ifCond .eq 5, 3) := by decide +kernel
theorem d_M_odds_21 : decode prog_7_method_10_code 21 = .ok (.iconst (-1), 1) := by decide +kernel
theorem d_M_odds_22 : decode prog_7_method_10_code 22 = .ok (.ireturn, 1) := by decide +kernel
theorem d_M_odds_23 : decode prog_7_method_10_code 23 = .ok (.iload_n 3, 1) := by decide +kernel
theorem d_M_odds_24 : decode prog_7_method_10_code 24 = .ok (.ifCond .lt 50, 3) := by decide +kernel
theorem d_M_odds_27 : decode prog_7_method_10_code 27 = .ok (.iload_n 3, 1) := by decide +kernel
theorem d_M_odds_28 : decode prog_7_method_10_code 28 = .ok (.iconst 2, 1) := by decide +kernel
theorem d_M_odds_29 : decode prog_7_method_10_code 29 = .ok (.if_icmp .gt 45, 3) := by decide +kernel
theorem d_M_odds_32 : decode prog_7_method_10_code 32 = .ok (.lload 6, 2) := by decide +kernel
theorem d_M_odds_34 : decode prog_7_method_10_code 34 = .ok (.lconst 1, 1) := by decide +kernel
theorem d_M_odds_35 : decode prog_7_method_10_code 35 = .ok (.lcmp, 1) := by decide +kernel
theorem d_M_odds_36 : decode prog_7_method_10_code 36 = .ok (.ifCond .lt 38, 3) := by decide +kernel
theorem d_M_odds_39 : decode prog_7_method_10_code 39 = .ok (.lload 6, 2) := by decide +kernel
theorem d_M_odds_41 : decode prog_7_method_10_code 41 = .ok (.ldc2_w 100, 3) := by decide +kernel
theorem d_M_odds_44 : decode prog_7_method_10_code 44 = .ok (.lcmp, 1) := by decide +kernel
theorem d_M_odds_45 : decode prog_7_method_10_code 45 = .ok (.ifCond .gt 29, 3) := by decide +kernel
theorem d_M_odds_48 : decode prog_7_method_10_code 48 = .ok (.ldc2_w 100, 3) := by decide +kernel
theorem d_M_odds_51 : decode prog_7_method_10_code 51 = .ok (.lload 6, 2) := by decide +kernel
theorem d_M_odds_53 : decode prog_7_method_10_code 53 = .ok (.lrem, 1) := by decide +kernel
theorem d_M_odds_54 : decode prog_7_method_10_code 54 = .ok (.lconst 0, 1) := by decide +kernel
theorem d_M_odds_55 : decode prog_7_method_10_code 55 = .ok (.lcmp, 1) := by decide +kernel
theorem d_M_odds_56 : decode prog_7_method_10_code 56 = .ok (.ifCond .gt 18, 3) := by decide +kernel
theorem d_M_odds_59 : decode prog_7_method_10_code 59 = .ok (.lload 4, 2) := by decide +kernel
theorem d_M_odds_61 : decode prog_7_method_10_code 61 = .ok (.lconst 0, 1) := by decide +kernel
theorem d_M_odds_62 : decode prog_7_method_10_code 62 = .ok (.lcmp, 1) := by decide +kernel
theorem d_M_odds_63 : decode prog_7_method_10_code 63 = .ok (.ifCond .lt 11, 3) := by decide +kernel
theorem d_M_odds_66 : decode prog_7_method_10_code 66 = .ok (.lload 4, 2) := by decide +kernel
theorem d_M_odds_68 : decode prog_7_method_10_code 68 = .ok (.lload 6, 2) := by decide +kernel
theorem d_M_odds_70 : decode prog_7_method_10_code 70 = .ok (.lcmp, 1) := by decide +kernel
theorem d_M_odds_71 : decode prog_7_method_10_code 71 = .ok (.ifCond .le 6, 3) := by decide +kernel
theorem d_M_odds_74 : decode prog_7_method_10_code 74 = .ok (.bipush (-2), 2) := by decide +kernel
theorem d_M_odds_76 : decode prog_7_method_10_code 76 = .ok (.ireturn, 1) := by decide +kernel
theorem d_M_odds_77 : decode prog_7_method_10_code 77 = .ok (.ldc2_w 100, 3) := by decide +kernel
theorem d_M_odds_80 : decode prog_7_method_10_code 80 = .ok (.lload 4, 2) := by decide +kernel
theorem d_M_odds_82 : decode prog_7_method_10_code 82 = .ok (.lmul, 1) := by decide +kernel
theorem d_M_odds_83 : decode prog_7_method_10_code 83 = .ok (.lload 6, 2) := by decide +kernel
theorem d_M_odds_85 : decode prog_7_method_10_code 85 = .ok (.ldiv, 1) := by decide +kernel
theorem d_M_odds_86 : decode prog_7_method_10_code 86 = .ok (.l2i, 1) := by decide +kernel
theorem d_M_odds_87 : decode prog_7_method_10_code 87 = .ok (.istore 8, 2) := by decide +kernel
theorem d_M_odds_89 : decode prog_7_method_10_code 89 = .ok (.iload 8, 2) := by decide +kernel
theorem d_M_odds_91 : decode prog_7_method_10_code 91 = .ok (.istore 9, 2) := by decide +kernel
theorem d_M_odds_93 : decode prog_7_method_10_code 93 = .ok (.iconst 0, 1) := by decide +kernel
theorem d_M_odds_94 : decode prog_7_method_10_code 94 = .ok (.istore 10, 2) := by decide +kernel
theorem d_M_odds_96 : decode prog_7_method_10_code 96 = .ok (.iload 10, 2) := by decide +kernel
theorem d_M_odds_98 : decode prog_7_method_10_code 98 = .ok (.iconst 3, 1) := by decide +kernel
theorem d_M_odds_99 : decode prog_7_method_10_code 99 = .ok (.if_icmp .ge 33, 3) := by decide +kernel
theorem d_M_odds_102 : decode prog_7_method_10_code 102 = .ok (.iload 10, 2) := by decide +kernel
theorem d_M_odds_104 : decode prog_7_method_10_code 104 = .ok (.iload_n 3, 1) := by decide +kernel
theorem d_M_odds_105 : decode prog_7_method_10_code 105 = .ok (.if_icmp .ne 8, 3) := by decide +kernel
theorem d_M_odds_108 : decode prog_7_method_10_code 108 = .ok (.iload 9, 2) := by decide +kernel
theorem d_M_odds_110 : decode prog_7_method_10_code 110 = .ok (.goto 14, 3) := by decide +kernel
theorem d_M_odds_113 : decode prog_7_method_10_code 113 = .ok (.iload 9, 2) := by decide +kernel
theorem d_M_odds_115 : decode prog_7_method_10_code 115 = .ok (.aload_n 0, 1) := by decide +kernel
theorem d_M_odds_116 : decode prog_7_method_10_code 116 = .ok (.iload_n 1, 1) := by decide +kernel
theorem d_M_odds_117 : decode prog_7_method_10_code 117 = .ok (.iload_n 2, 1) := by decide +kernel
theorem d_M_odds_118 : decode prog_7_method_10_code 118 = .ok (.iload 10, 2) := by decide +kernel
theorem d_M_odds_120 : decode prog_7_method_10_code 120 = .ok (.invokevirtual 102, 3) := by decide +kernel
theorem d_M_odds_123 : decode prog_7_method_10_code 123 = .ok (.iadd, 1) := by decide +kernel
theorem d_M_odds_124 : decode prog_7_method_10_code 124 = .ok (.istore 9, 2) := by decide +kernel
theorem d_M_odds_126 : decode prog_7_method_10_code 126 = .ok (.iinc 10 1, 3) := by decide +kernel
theorem d_M_odds_129 : decode prog_7_method_10_code 129 = .ok (.goto (-33), 3) := by decide +kernel
theorem d_M_odds_132 : decode prog_7_method_10_code 132 = .ok (.iload 9, 2) := by decide +kernel
theorem d_M_odds_134 : decode prog_7_method_10_code 134 = .ok (.bipush 12, 2) := by decide +kernel
theorem d_M_odds_136 : decode prog_7_method_10_code 136 = .ok (.if_icmp .le 6, 3) := by decide +kernel
theorem d_M_odds_139 : decode prog_7_method_10_code 139 = .ok (.bipush (-2), 2) := by decide +kernel
theorem d_M_odds_141 : decode prog_7_method_10_code 141 = .ok (.ireturn, 1) := by decide +kernel
theorem d_M_odds_142 : decode prog_7_method_10_code 142 = .ok (.aload_n 0, 1) := by decide +kernel
theorem d_M_odds_143 : decode prog_7_method_10_code 143 = .ok (.getfield 33, 3) := by decide +kernel
theorem d_M_odds_146 : decode prog_7_method_10_code 146 = .ok (.iload_n 1, 1) := by decide +kernel
theorem d_M_odds_147 : decode prog_7_method_10_code 147 = .ok (.iaload, 1) := by decide +kernel
theorem d_M_odds_148 : decode prog_7_method_10_code 148 = .ok (.ifCond .lt 6, 3) := by decide +kernel
theorem d_M_odds_151 : decode prog_7_method_10_code 151 = .ok (.bipush (-3), 2) := by decide +kernel
theorem d_M_odds_153 : decode prog_7_method_10_code 153 = .ok (.ireturn, 1) := by decide +kernel
theorem d_M_odds_154 : decode prog_7_method_10_code 154 = .ok (.aload_n 0, 1) := by decide +kernel
theorem d_M_odds_155 : decode prog_7_method_10_code 155 = .ok (.getfield 30, 3) := by decide +kernel
theorem d_M_odds_158 : decode prog_7_method_10_code 158 = .ok (.bipush 39, 2) := by decide +kernel
theorem d_M_odds_160 : decode prog_7_method_10_code 160 = .ok (.iload_n 1, 1) := by decide +kernel
theorem d_M_odds_161 : decode prog_7_method_10_code 161 = .ok (.imul, 1) := by decide +kernel
theorem d_M_odds_162 : decode prog_7_method_10_code 162 = .ok (.iconst 3, 1) := by decide +kernel
theorem d_M_odds_163 : decode prog_7_method_10_code 163 = .ok (.iload_n 2, 1) := by decide +kernel
theorem d_M_odds_164 : decode prog_7_method_10_code 164 = .ok (.imul, 1) := by decide +kernel
theorem d_M_odds_165 : decode prog_7_method_10_code 165 = .ok (.iadd, 1) := by decide +kernel
theorem d_M_odds_166 : decode prog_7_method_10_code 166 = .ok (.iload_n 3, 1) := by decide +kernel
theorem d_M_odds_167 : decode prog_7_method_10_code 167 = .ok (.iadd, 1) := by decide +kernel
theorem d_M_odds_168 : decode prog_7_method_10_code 168 = .ok (.iload 8, 2) := by decide +kernel
theorem d_M_odds_170 : decode prog_7_method_10_code 170 = .ok (.iastore, 1) := by decide +kernel
theorem d_M_odds_171 : decode prog_7_method_10_code 171 = .ok (.iload 9, 2) := by decide +kernel
theorem d_M_odds_173 : decode prog_7_method_10_code 173 = .ok (.ireturn, 1) := by decide +kernel
theorem d_M_needs_0 : decode prog_7_method_11_code 0 = .ok (.aload_n 0, 1) := by decide +kernel
theorem d_M_needs_1 : decode prog_7_method_11_code 1 = .ok (.iconst 0, 1) := by decide +kernel
theorem d_M_needs_2 : decode prog_7_method_11_code 2 = .ok (.putfield 69, 3) := by decide +kernel
theorem d_M_needs_5 : decode prog_7_method_11_code 5 = .ok (.aload_n 0, 1) := by decide +kernel
theorem d_M_needs_6 : decode prog_7_method_11_code 6 = .ok (.iload_n 1, 1) := by decide +kernel
theorem d_M_needs_7 : decode prog_7_method_11_code 7 = .ok (.invokevirtual 97, 3) := by decide +kernel
theorem d_M_needs_10 : decode prog_7_method_11_code 10 = .ok (.ifCond .ne 11, 3) := by decide +kernel
theorem d_M_needs_13 : decode prog_7_method_11_code 13 = .ok (.aload_n 0, 1) := by decide +kernel
theorem d_M_needs_14 : decode prog_7_method_11_code 14 = .ok (.iload_n 2, 1) := by decide +kernel
theorem d_M_needs_15 : decode prog_7_method_11_code 15 = .ok (.invokevirtual 97, 3) := by decide +kernel
theorem d_M_needs_18 : decode prog_7_method_11_code 18 = .ok (.ifCond .eq 5, 3) := by decide +kernel
theorem d_M_needs_21 : decode prog_7_method_11_code 21 = .ok (.iconst (-1), 1) := by decide +kernel
theorem d_M_needs_22 : decode prog_7_method_11_code 22 = .ok (.ireturn, 1) := by decide +kernel
theorem d_M_needs_23 : decode prog_7_method_11_code 23 = .ok (.iload_n 1, 1) := by decide +kernel
theorem d_M_needs_24 : decode prog_7_method_11_code 24 = .ok (.iload_n 2, 1) := by decide +kernel
theorem d_M_needs_25 : decode prog_7_method_11_code 25 = .ok (.if_icmp .ne 6, 3) := by decide +kernel
theorem d_M_needs_28 : decode prog_7_method_11_code 28 = .ok (.bipush (-2), 2) := by decide +kernel
theorem d_M_needs_30 : decode prog_7_method_11_code 30 = .ok (.ireturn, 1) := by decide +kernel
theorem d_M_needs_31 : decode prog_7_method_11_code 31 = .ok (.iconst 0, 1) := by decide +kernel
theorem d_M_needs_32 : decode prog_7_method_11_code 32 = .ok (.istore_n 3, 1) := by decide +kernel
theorem d_M_needs_33 : decode prog_7_method_11_code 33 = .ok (.iload_n 3, 1) := by decide +kernel
theorem d_M_needs_34 : decode prog_7_method_11_code 34 = .ok (.bipush 7, 2) := by decide +kernel
theorem d_M_needs_36 : decode prog_7_method_11_code 36 = .ok (.if_icmp .ge 25, 3) := by decide +kernel
theorem d_M_needs_39 : decode prog_7_method_11_code 39 = .ok (.aload_n 0, 1) := by decide +kernel
theorem d_M_needs_40 : decode prog_7_method_11_code 40 = .ok (.getfield 63, 3) := by decide +kernel
theorem d_M_needs_43 : decode prog_7_method_11_code 43 = .ok (.iload_n 3, 1) := by decide +kernel
theorem d_M_needs_44 : decode prog_7_method_11_code 44 = .ok (.iload_n 3, 1) := by decide +kernel
theorem d_M_needs_45 : decode prog_7_method_11_code 45 = .ok (.iload_n 2, 1) := by decide +kernel
theorem d_M_needs_46 : decode prog_7_method_11_code 46 = .ok (.if_icmp .ne 7, 3) := by decide +kernel
theorem d_M_needs_49 : decode prog_7_method_11_code 49 = .ok (.iconst 1, 1) := by decide +kernel
theorem d_M_needs_50 : decode prog_7_method_11_code 50 = .ok (.goto 4, 3) := by decide +kernel
theorem d_M_needs_53 : decode prog_7_method_11_code 53 = .ok (.iconst 0, 1) := by decide +kernel
theorem d_M_needs_54 : decode prog_7_method_11_code 54 = .ok (.bastore, 1) := by decide +kernel
theorem d_M_needs_55 : decode prog_7_method_11_code 55 = .ok (.iinc 3 1, 3) := by decide +kernel
theorem d_M_needs_58 : decode prog_7_method_11_code 58 = .ok (.goto (-25), 3) := by decide +kernel
theorem d_M_needs_61 : decode prog_7_method_11_code 61 = .ok (.iconst 0, 1) := by decide +kernel
theorem d_M_needs_62 : decode prog_7_method_11_code 62 = .ok (.istore_n 3, 1) := by decide +kernel
theorem d_M_needs_63 : decode prog_7_method_11_code 63 = .ok (.iload_n 3, 1) := by decide +kernel
theorem d_M_needs_64 : decode prog_7_method_11_code 64 = .ok (.bipush 6, 2) := by decide +kernel
theorem d_M_needs_66 : decode prog_7_method_11_code 66 = .ok (.if_icmp .ge 89, 3) := by decide +kernel
theorem d_M_needs_69 : decode prog_7_method_11_code 69 = .ok (.iconst 1, 1) := by decide +kernel
theorem d_M_needs_70 : decode prog_7_method_11_code 70 = .ok (.istore 4, 2) := by decide +kernel
theorem d_M_needs_72 : decode prog_7_method_11_code 72 = .ok (.iload 4, 2) := by decide +kernel
theorem d_M_needs_74 : decode prog_7_method_11_code 74 = .ok (.bipush 7, 2) := by decide +kernel
theorem d_M_needs_76 : decode prog_7_method_11_code 76 = .ok (.if_icmp .ge 73, 3) := by decide +kernel
theorem d_M_needs_79 : decode prog_7_method_11_code 79 = .ok (.iconst 1, 1) := by decide +kernel
theorem d_M_needs_80 : decode prog_7_method_11_code 80 = .ok (.istore 5, 2) := by decide +kernel
theorem d_M_needs_82 : decode prog_7_method_11_code 82 = .ok (.iload 5, 2) := by decide +kernel
theorem d_M_needs_84 : decode prog_7_method_11_code 84 = .ok (.bipush 7, 2) := by decide +kernel
theorem d_M_needs_86 : decode prog_7_method_11_code 86 = .ok (.if_icmp .ge 57, 3) := by decide +kernel
theorem d_M_needs_89 : decode prog_7_method_11_code 89 = .ok (.aload_n 0, 1) := by decide +kernel
theorem d_M_needs_90 : decode prog_7_method_11_code 90 = .ok (.getfield 63, 3) := by decide +kernel
theorem d_M_needs_93 : decode prog_7_method_11_code 93 = .ok (.iload 5, 2) := by decide +kernel
theorem d_M_needs_95 : decode prog_7_method_11_code 95 = .ok (.aload_n 0, 1) := by decide +kernel
theorem d_M_needs_96 : decode prog_7_method_11_code 96 = .ok (.getfield 63, 3) := by decide +kernel
theorem d_M_needs_99 : decode prog_7_method_11_code 99 = .ok (.iload 5, 2) := by decide +kernel
theorem d_M_needs_101 : decode prog_7_method_11_code 101 = .ok (.baload, 1) := by decide +kernel
theorem d_M_needs_102 : decode prog_7_method_11_code 102 = .ok (.ifCond .ne 29, 3) := by decide +kernel
theorem d_M_needs_105 : decode prog_7_method_11_code 105 = .ok (.aload_n 0, 1) := by decide +kernel
theorem d_M_needs_106 : decode prog_7_method_11_code 106 = .ok (.getfield 63, 3) := by decide +kernel
theorem d_M_needs_109 : decode prog_7_method_11_code 109 = .ok (.iload 4, 2) := by decide +kernel
theorem d_M_needs_111 : decode prog_7_method_11_code 111 = .ok (.baload, 1) := by decide +kernel
theorem d_M_needs_112 : decode prog_7_method_11_code 112 = .ok (.ifCond .eq 23, 3) := by decide +kernel
theorem d_M_needs_115 : decode prog_7_method_11_code 115 = .ok (.aload_n 0, 1) := by decide +kernel
theorem d_M_needs_116 : decode prog_7_method_11_code 116 = .ok (.getfield 26, 3) := by decide +kernel
theorem d_M_needs_119 : decode prog_7_method_11_code 119 = .ok (.bipush 7, 2) := by decide +kernel
theorem d_M_needs_121 : decode prog_7_method_11_code 121 = .ok (.iload 4, 2) := by decide +kernel
theorem d_M_needs_123 : decode prog_7_method_11_code 123 = .ok (.imul, 1) := by decide +kernel
theorem d_M_needs_124 : decode prog_7_method_11_code 124 = .ok (.iload 5, 2) := by decide +kernel
theorem d_M_needs_126 : decode prog_7_method_11_code 126 = .ok (.iadd, 1) := by decide +kernel
theorem d_M_needs_127 : decode prog_7_method_11_code 127 = .ok (.baload, 1) := by decide +kernel
theorem d_M_needs_128 : decode prog_7_method_11_code 128 = .ok (.ifCond .eq 7, 3) := by decide +kernel
theorem d_M_needs_131 : decode prog_7_method_11_code 131 = .ok (.iconst 1, 1) := by decide +kernel
theorem d_M_needs_132 : decode prog_7_method_11_code 132 = .ok (.goto 4, 3) := by decide +kernel
theorem d_M_needs_135 : decode prog_7_method_11_code 135 = .ok (.iconst 0, 1) := by decide +kernel
theorem d_M_needs_136 : decode prog_7_method_11_code 136 = .ok (.bastore, 1) := by decide +kernel
theorem d_M_needs_137 : decode prog_7_method_11_code 137 = .ok (.iinc 5 1, 3) := by decide +kernel
theorem d_M_needs_140 : decode prog_7_method_11_code 140 = .ok (.goto (-58), 3) := by decide +kernel
theorem d_M_needs_143 : decode prog_7_method_11_code 143 = .ok (.iinc 4 1, 3) := by decide +kernel
theorem d_M_needs_146 : decode prog_7_method_11_code 146 = .ok (.goto (-74), 3) := by decide +kernel
theorem d_M_needs_149 : decode prog_7_method_11_code 149 = .ok (.iinc 3 1, 3) := by decide +kernel
theorem d_M_needs_152 : decode prog_7_method_11_code 152 = .ok (.goto (-89), 3) := by decide +kernel
theorem d_M_needs_155 : decode prog_7_method_11_code 155 = .ok (.aload_n 0, 1) := by decide +kernel
theorem d_M_needs_156 : decode prog_7_method_11_code 156 = .ok (.getfield 63, 3) := by decide +kernel
theorem d_M_needs_159 : decode prog_7_method_11_code 159 = .ok (.iload_n 1, 1) := by decide +kernel
theorem d_M_needs_160 : decode prog_7_method_11_code 160 = .ok (.baload, 1) := by decide +kernel
theorem d_M_needs_161 : decode prog_7_method_11_code 161 = .ok (.ifCond .eq 6, 3) := by decide +kernel
theorem d_M_needs_164 : decode prog_7_method_11_code 164 = .ok (.bipush (-3), 2) := by decide +kernel
theorem d_M_needs_166 : decode prog_7_method_11_code 166 = .ok (.ireturn, 1) := by decide +kernel
theorem d_M_needs_167 : decode prog_7_method_11_code 167 = .ok (.aload_n 0, 1) := by decide +kernel
theorem d_M_needs_168 : decode prog_7_method_11_code 168 = .ok (.getfield 26, 3) := by decide +kernel
theorem d_M_needs_171 : decode prog_7_method_11_code 171 = .ok (.bipush 7, 2) := by decide +kernel
theorem d_M_needs_173 : decode prog_7_method_11_code 173 = .ok (.iload_n 1, 1) := by decide +kernel
theorem d_M_needs_174 : decode prog_7_method_11_code 174 = .ok (.imul, 1) := by decide +kernel
theorem d_M_needs_175 : decode prog_7_method_11_code 175 = .ok (.iload_n 2, 1) := by decide +kernel
theorem d_M_needs_176 : decode prog_7_method_11_code 176 = .ok (.iadd, 1) := by decide +kernel
theorem d_M_needs_177 : decode prog_7_method_11_code 177 = .ok (.iconst 1, 1) := by decide +kernel
theorem d_M_needs_178 : decode prog_7_method_11_code 178 = .ok (.bastore, 1) := by decide +kernel
theorem d_M_needs_179 : decode prog_7_method_11_code 179 = .ok (.iconst 0, 1) := by decide +kernel
theorem d_M_needs_180 : decode prog_7_method_11_code 180 = .ok (.istore_n 3, 1) := by decide +kernel
theorem d_M_needs_181 : decode prog_7_method_11_code 181 = .ok (.iconst 1, 1) := by decide +kernel
theorem d_M_needs_182 : decode prog_7_method_11_code 182 = .ok (.istore 4, 2) := by decide +kernel
theorem d_M_needs_184 : decode prog_7_method_11_code 184 = .ok (.iload 4, 2) := by decide +kernel
theorem d_M_needs_186 : decode prog_7_method_11_code 186 = .ok (.bipush 7, 2) := by decide +kernel
theorem d_M_needs_188 : decode prog_7_method_11_code 188 = .ok (.if_icmp .ge 32, 3) := by decide +kernel
theorem d_M_needs_191 : decode prog_7_method_11_code 191 = .ok (.aload_n 0, 1) := by decide +kernel
theorem d_M_needs_192 : decode prog_7_method_11_code 192 = .ok (.getfield 26, 3) := by decide +kernel
theorem d_M_needs_195 : decode prog_7_method_11_code 195 = .ok (.bipush 7, 2) := by decide +kernel
theorem d_M_needs_197 : decode prog_7_method_11_code 197 = .ok (.iload_n 1, 1) := by decide +kernel
theorem d_M_needs_198 : decode prog_7_method_11_code 198 = .ok (.imul, 1) := by decide +kernel
theorem d_M_needs_199 : decode prog_7_method_11_code 199 = .ok (.iload 4, 2) := by decide +kernel
theorem d_M_needs_201 : decode prog_7_method_11_code 201 = .ok (.iadd, 1) := by decide +kernel
theorem d_M_needs_202 : decode prog_7_method_11_code 202 = .ok (.baload, 1) := by decide +kernel
theorem d_M_needs_203 : decode prog_7_method_11_code 203 = .ok (.ifCond .eq 9, 3) := by decide +kernel
theorem d_M_needs_206 : decode prog_7_method_11_code 206 = .ok (.iload_n 3, 1) := by decide +kernel
theorem d_M_needs_207 : decode prog_7_method_11_code 207 = .ok (.iconst 1, 1) := by decide +kernel
theorem d_M_needs_208 : decode prog_7_method_11_code 208 = .ok (.iadd, 1) := by decide +kernel
theorem d_M_needs_209 : decode prog_7_method_11_code 209 = .ok (.goto 4, 3) := by decide +kernel
theorem d_M_needs_212 : decode prog_7_method_11_code 212 = .ok (.iload_n 3, 1) := by decide +kernel
theorem d_M_needs_213 : decode prog_7_method_11_code 213 = .ok (.istore_n 3, 1) := by decide +kernel
theorem d_M_needs_214 : decode prog_7_method_11_code 214 = .ok (.iinc 4 1, 3) := by decide +kernel
theorem d_M_needs_217 : decode prog_7_method_11_code 217 = .ok (.goto (-33), 3) := by decide +kernel
theorem d_M_needs_220 : decode prog_7_method_11_code 220 = .ok (.iload_n 3, 1) := by decide +kernel
theorem d_M_needs_221 : decode prog_7_method_11_code 221 = .ok (.ireturn, 1) := by decide +kernel
theorem d_M_look_0 : decode prog_7_method_12_code 0 = .ok (.iload_n 1, 1) := by decide +kernel
theorem d_M_look_1 : decode prog_7_method_12_code 1 = .ok (.istore_n 2, 1) := by decide +kernel
theorem d_M_look_2 : decode prog_7_method_12_code 2 = .ok (.iconst 1, 1) := by decide +kernel
theorem d_M_look_3 : decode prog_7_method_12_code 3 = .ok (.istore_n 3, 1) := by decide +kernel
theorem d_M_look_4 : decode prog_7_method_12_code 4 = .ok (.iload_n 3, 1) := by decide +kernel
theorem d_M_look_5 : decode prog_7_method_12_code 5 = .ok (.bipush 7, 2) := by decide +kernel
theorem d_M_look_7 : decode prog_7_method_12_code 7 = .ok (.if_icmp .ge 24, 3) := by decide +kernel
theorem d_M_look_10 : decode prog_7_method_12_code 10 = .ok (.aload_n 0, 1) := by decide +kernel
theorem d_M_look_11 : decode prog_7_method_12_code 11 = .ok (.getfield 51, 3) := by decide +kernel
theorem d_M_look_14 : decode prog_7_method_12_code 14 = .ok (.iload_n 3, 1) := by decide +kernel
theorem d_M_look_15 : decode prog_7_method_12_code 15 = .ok (.iload_n 2, 1) := by decide +kernel
theorem d_M_look_16 : decode prog_7_method_12_code 16 = .ok (.iconst 4, 1) := by decide +kernel
theorem d_M_look_17 : decode prog_7_method_12_code 17 = .ok (.irem, 1) := by decide +kernel
theorem d_M_look_18 : decode prog_7_method_12_code 18 = .ok (.iconst 1, 1) := by decide +kernel
theorem d_M_look_19 : decode prog_7_method_12_code 19 = .ok (.isub, 1) := by decide +kernel
theorem d_M_look_20 : decode prog_7_method_12_code 20 = .ok (.iastore, 1) := by decide +kernel
theorem d_M_look_21 : decode prog_7_method_12_code 21 = .ok (.iload_n 2, 1) := by decide +kernel
theorem d_M_look_22 : decode prog_7_method_12_code 22 = .ok (.iconst 4, 1) := by decide +kernel
theorem d_M_look_23 : decode prog_7_method_12_code 23 = .ok (.idiv, 1) := by decide +kernel
theorem d_M_look_24 : decode prog_7_method_12_code 24 = .ok (.istore_n 2, 1) := by decide +kernel
theorem d_M_look_25 : decode prog_7_method_12_code 25 = .ok (.iinc 3 1, 3) := by decide +kernel
theorem d_M_look_28 : decode prog_7_method_12_code 28 = .ok (.goto (-24), 3) := by decide +kernel
theorem d_M_look_31 : decode prog_7_method_12_code 31 = .ok (.iconst 1, 1) := by decide +kernel
theorem d_M_look_32 : decode prog_7_method_12_code 32 = .ok (.istore_n 3, 1) := by decide +kernel
theorem d_M_look_33 : decode prog_7_method_12_code 33 = .ok (.iload_n 3, 1) := by decide +kernel
theorem d_M_look_34 : decode prog_7_method_12_code 34 = .ok (.aload_n 0, 1) := by decide +kernel
theorem d_M_look_35 : decode prog_7_method_12_code 35 = .ok (.getfield 76, 3) := by decide +kernel
theorem d_M_look_38 : decode prog_7_method_12_code 38 = .ok (.if_icmp .gt 109, 3) := by decide +kernel
theorem d_M_look_41 : decode prog_7_method_12_code 41 = .ok (.aload_n 0, 1) := by decide +kernel
theorem d_M_look_42 : decode prog_7_method_12_code 42 = .ok (.getfield 20, 3) := by decide +kernel
theorem d_M_look_45 : decode prog_7_method_12_code 45 = .ok (.iload_n 3, 1) := by decide +kernel
theorem d_M_look_46 : decode prog_7_method_12_code 46 = .ok (.iaload, 1) := by decide +kernel
theorem d_M_look_47 : decode prog_7_method_12_code 47 = .ok (.iconst 5, 1) := by decide +kernel
theorem d_M_look_48 : decode prog_7_method_12_code 48 = .ok (.if_icmp .le 8, 3) := by decide +kernel
theorem d_M_look_51 : decode prog_7_method_12_code 51 = .ok (.bipush 6, 2) := by decide +kernel
theorem d_M_look_53 : decode prog_7_method_12_code 53 = .ok (.goto 11, 3) := by decide +kernel
theorem d_M_look_56 : decode prog_7_method_12_code 56 = .ok (.aload_n 0, 1) := by decide +kernel
theorem d_M_look_57 : decode prog_7_method_12_code 57 = .ok (.getfield 20, 3) := by decide +kernel
theorem d_M_look_60 : decode prog_7_method_12_code 60 = .ok (.iload_n 3, 1) := by decide +kernel
theorem d_M_look_61 : decode prog_7_method_12_code 61 = .ok (.iaload, 1) := by decide +kernel
theorem d_M_look_62 : decode prog_7_method_12_code 62 = .ok (.iconst 1, 1) := by decide +kernel
theorem d_M_look_63 : decode prog_7_method_12_code 63 = .ok (.iadd, 1) := by decide +kernel
theorem d_M_look_64 : decode prog_7_method_12_code 64 = .ok (.istore 4, 2) := by decide +kernel
theorem d_M_look_66 : decode prog_7_method_12_code 66 = .ok (.aload_n 0, 1) := by decide +kernel
theorem d_M_look_67 : decode prog_7_method_12_code 67 = .ok (.getfield 54, 3) := by decide +kernel
theorem d_M_look_70 : decode prog_7_method_12_code 70 = .ok (.iload_n 3, 1) := by decide +kernel
theorem d_M_look_71 : decode prog_7_method_12_code 71 = .ok (.aload_n 0, 1) := by decide +kernel
theorem d_M_look_72 : decode prog_7_method_12_code 72 = .ok (.getfield 16, 3) := by decide +kernel
theorem d_M_look_75 : decode prog_7_method_12_code 75 = .ok (.iload_n 3, 1) := by decide +kernel
theorem d_M_look_76 : decode prog_7_method_12_code 76 = .ok (.laload, 1) := by decide +kernel
theorem d_M_look_77 : decode prog_7_method_12_code 77 = .ok (.iload 4, 2) := by decide +kernel
theorem d_M_look_79 : decode prog_7_method_12_code 79 = .ok (.i2l, 1) := by decide +kernel
theorem d_M_look_80 : decode prog_7_method_12_code 80 = .ok (.lmul, 1) := by decide +kernel
theorem d_M_look_81 : decode prog_7_method_12_code 81 = .ok (.lastore, 1) := by decide +kernel
theorem d_M_look_82 : decode prog_7_method_12_code 82 = .ok (.iconst 1, 1) := by decide +kernel
theorem d_M_look_83 : decode prog_7_method_12_code 83 = .ok (.istore 5, 2) := by decide +kernel
theorem d_M_look_85 : decode prog_7_method_12_code 85 = .ok (.iload 5, 2) := by decide +kernel
theorem d_M_look_87 : decode prog_7_method_12_code 87 = .ok (.bipush 7, 2) := by decide +kernel
theorem d_M_look_89 : decode prog_7_method_12_code 89 = .ok (.if_icmp .ge 52, 3) := by decide +kernel
theorem d_M_look_92 : decode prog_7_method_12_code 92 = .ok (.aload_n 0, 1) := by decide +kernel
theorem d_M_look_93 : decode prog_7_method_12_code 93 = .ok (.getfield 54, 3) := by decide +kernel
theorem d_M_look_96 : decode prog_7_method_12_code 96 = .ok (.iload_n 3, 1) := by decide +kernel
theorem d_M_look_97 : decode prog_7_method_12_code 97 = .ok (.aload_n 0, 1) := by decide +kernel
theorem d_M_look_98 : decode prog_7_method_12_code 98 = .ok (.getfield 54, 3) := by decide +kernel
theorem d_M_look_101 : decode prog_7_method_12_code 101 = .ok (.iload_n 3, 1) := by decide +kernel
theorem d_M_look_102 : decode prog_7_method_12_code 102 = .ok (.laload, 1) := by decide +kernel
theorem d_M_look_103 : decode prog_7_method_12_code 103 = .ok (.aload_n 0, 1) := by decide +kernel
theorem d_M_look_104 : decode prog_7_method_12_code 104 = .ok (.getfield 51, 3) := by decide +kernel
theorem d_M_look_107 : decode prog_7_method_12_code 107 = .ok (.iload 5, 2) := by decide +kernel
theorem d_M_look_109 : decode prog_7_method_12_code 109 = .ok (.iaload, 1) := by decide +kernel
theorem d_M_look_110 : decode prog_7_method_12_code 110 = .ok (.ifCond .ge 8, 3) := by decide +kernel
theorem d_M_look_113 : decode prog_7_method_12_code 113 = .ok (.bipush 12, 2) := by decide +kernel
theorem d_M_look_115 : decode prog_7_method_12_code 115 = .ok (.goto 17, 3) := by decide +kernel
theorem d_M_look_118 : decode prog_7_method_12_code 118 = .ok (.aload_n 0, 1) := by decide +kernel
theorem d_M_look_119 : decode prog_7_method_12_code 119 = .ok (.iload 5, 2) := by decide +kernel
theorem d_M_look_121 : decode prog_7_method_12_code 121 = .ok (.iload_n 3, 1) := by decide +kernel
theorem d_M_look_122 : decode prog_7_method_12_code 122 = .ok (.aload_n 0, 1) := by decide +kernel
theorem d_M_look_123 : decode prog_7_method_12_code 123 = .ok (.getfield 51, 3) := by decide +kernel
theorem d_M_look_126 : decode prog_7_method_12_code 126 = .ok (.iload 5, 2) := by decide +kernel
theorem d_M_look_128 : decode prog_7_method_12_code 128 = .ok (.iaload, 1) := by decide +kernel
theorem d_M_look_129 : decode prog_7_method_12_code 129 = .ok (.invokevirtual 102, 3) := by decide +kernel
theorem d_M_look_132 : decode prog_7_method_12_code 132 = .ok (.i2l, 1) := by decide +kernel
theorem d_M_look_133 : decode prog_7_method_12_code 133 = .ok (.lmul, 1) := by decide +kernel
theorem d_M_look_134 : decode prog_7_method_12_code 134 = .ok (.lastore, 1) := by decide +kernel
theorem d_M_look_135 : decode prog_7_method_12_code 135 = .ok (.iinc 5 1, 3) := by decide +kernel
theorem d_M_look_138 : decode prog_7_method_12_code 138 = .ok (.goto (-53), 3) := by decide +kernel
theorem d_M_look_141 : decode prog_7_method_12_code 141 = .ok (.iinc 3 1, 3) := by decide +kernel
theorem d_M_look_144 : decode prog_7_method_12_code 144 = .ok (.goto (-111), 3) := by decide +kernel
theorem d_M_look_147 : decode prog_7_method_12_code 147 = .ok (.return_, 1) := by decide +kernel
