theorem k_13 : (Jvm.Cond.initialized "java/lang/ArithmeticException") ∈ wg := wgm (i := 42) (by decide +kernel) rfl
theorem k_421 : (Jvm.Cond.classLink "GuideSearchLaw" (13 : Nat) "java/lang/ArithmeticException") ∈ wg := wgm (i := 450) (by decide +kernel) rfl
theorem k_422 : (Jvm.Cond.methodLink "GuideSearchLaw" (7 : Nat) ({ cls := "GuideSearch", name := "odd", desc := "(II)J" } : Jvm.MethodName)) ∈ wg := wgm (i := 451) (by decide +kernel) rfl
theorem k_423 : (Jvm.Cond.instanceMethod ({ cls := "GuideSearch", name := "odd", desc := "(II)J" } : Jvm.MethodName)) ∈ wg := wgm (i := 452) (by decide +kernel) rfl
theorem k_424 : (Jvm.Cond.selects "GuideSearch" ({ cls := "GuideSearch", name := "odd", desc := "(II)J" } : Jvm.MethodName) ({ cls := "GuideSearch", name := "odd", desc := "(II)J" } : Jvm.MethodName)) ∈ wg := wgm (i := 453) (by decide +kernel) rfl
set_option maxRecDepth 20000 in
theorem k_425 : (Jvm.Cond.code ({ cls := "GuideSearch", name := "odd", desc := "(II)J" } : Jvm.MethodName) prog_1_method_8_code (9 : Nat) (Option.some Jvm.ClassFile.FieldType.long)) ∈ wg := wgm (i := 454) rfl rfl
theorem k_426 : (Jvm.Cond.constantLong "GuideSearch" (135 : Nat) (-1 : Int64)) ∈ wg := wgm (i := 455) (by decide +kernel) rfl
theorem k_427 : (Jvm.Cond.methodLink "GuideSearch" (137 : Nat) ({ cls := "GuideSearch$Cases", name := "weight", desc := "(I)J" } : Jvm.MethodName)) ∈ wg := wgm (i := 456) (by decide +kernel) rfl
theorem k_428 : (Jvm.Cond.instanceMethod ({ cls := "GuideSearch$Cases", name := "weight", desc := "(I)J" } : Jvm.MethodName)) ∈ wg := wgm (i := 457) (by decide +kernel) rfl
theorem k_429 : (Jvm.Cond.selects "GuideSearch$Cases" ({ cls := "GuideSearch$Cases", name := "weight", desc := "(I)J" } : Jvm.MethodName) ({ cls := "GuideSearch$Cases", name := "weight", desc := "(I)J" } : Jvm.MethodName)) ∈ wg := wgm (i := 458) (by decide +kernel) rfl
set_option maxRecDepth 20000 in
theorem k_430 : (Jvm.Cond.code ({ cls := "GuideSearch$Cases", name := "weight", desc := "(I)J" } : Jvm.MethodName) prog_2_method_3_code (5 : Nat) (Option.some Jvm.ClassFile.FieldType.long)) ∈ wg := wgm (i := 459) rfl rfl
theorem k_431 : (Jvm.Cond.classLink "GuideSearch" (141 : Nat) "java/lang/ArithmeticException") ∈ wg := wgm (i := 460) (by decide +kernel) rfl
theorem k_432 : (Jvm.Cond.instantiable "java/lang/ArithmeticException" (6 : Nat)) ∈ wg := wgm (i := 461) (by decide +kernel) rfl
theorem k_496 : (Jvm.Cond.methodLink "GuideSearch" (148 : Nat) ({ cls := "GuideSearch$Cases", name := "weightOf", desc := "(II)J" } : Jvm.MethodName)) ∈ wg := wgm (i := 525) (by decide +kernel) rfl
theorem k_497 : (Jvm.Cond.methodLink "GuideSearch" (152 : Nat) ({ cls := "GuideSearch", name := "commonDivisor", desc := "(JJ)J" } : Jvm.MethodName)) ∈ wg := wgm (i := 526) (by decide +kernel) rfl
theorem k_498 : (Jvm.Cond.static ({ cls := "GuideSearch", name := "commonDivisor", desc := "(JJ)J" } : Jvm.MethodName)) ∈ wg := wgm (i := 527) (by decide +kernel) rfl
set_option maxRecDepth 20000 in
theorem k_499 : (Jvm.Cond.code ({ cls := "GuideSearch", name := "commonDivisor", desc := "(JJ)J" } : Jvm.MethodName) prog_1_method_21_code (11 : Nat) (Option.some Jvm.ClassFile.FieldType.long)) ∈ wg := wgm (i := 528) rfl rfl
theorem d_G_odd_0 : decode prog_1_method_8_code 0 = .ok (.aload_n 0, 1) := by decide +kernel
theorem d_G_odd_1 : decode prog_1_method_8_code 1 = .ok (.getfield 12, 3) := by decide +kernel
theorem d_G_odd_4 : decode prog_1_method_8_code 4 = .ok (.iload_n 1, 1) := by decide +kernel
theorem d_G_odd_5 : decode prog_1_method_8_code 5 = .ok (.invokevirtual 74, 3) := by decide +kernel
theorem d_G_odd_8 : decode prog_1_method_8_code 8 = .ok (.ifCond .ne 7, 3) := by decide +kernel
theorem d_G_odd_11 : decode prog_1_method_8_code 11 = .ok (.ldc2_w 135, 3) := by decide +kernel
theorem d_G_odd_14 : decode prog_1_method_8_code 14 = .ok (.lreturn, 1) := by decide +kernel
theorem d_G_odd_15 : decode prog_1_method_8_code 15 = .ok (.aload_n 0, 1) := by decide +kernel
theorem d_G_odd_16 : decode prog_1_method_8_code 16 = .ok (.getfield 28, 3) := by decide +kernel
theorem d_G_odd_19 : decode prog_1_method_8_code 19 = .ok (.aload_n 0, 1) := by decide +kernel
theorem d_G_odd_20 : decode prog_1_method_8_code 20 = .ok (.getfield 41, 3) := by decide +kernel
theorem d_G_odd_23 : decode prog_1_method_8_code 23 = .ok (.invokevirtual 137, 3) := by decide +kernel
theorem d_G_odd_26 : decode prog_1_method_8_code 26 = .ok (.lstore_n 3, 1) := by decide +kernel
theorem d_G_odd_27 : decode prog_1_method_8_code 27 = .ok (.lload_n 3, 1) := by decide +kernel
theorem d_G_odd_28 : decode prog_1_method_8_code 28 = .ok (.lconst 0, 1) := by decide +kernel
theorem d_G_odd_29 : decode prog_1_method_8_code 29 = .ok (.lcmp, 1) := by decide +kernel
theorem d_G_odd_30 : decode prog_1_method_8_code 30 = .ok (.ifCond .gt 13, 3) := by decide +kernel
theorem d_G_odd_33 : decode prog_1_method_8_code 33 = .ok (.new 141, 3) := by decide +kernel
theorem d_G_odd_36 : decode prog_1_method_8_code 36 = .ok (.dup, 1) := by decide +kernel
theorem d_G_odd_37 : decode prog_1_method_8_code 37 = .ok (.ldc 143, 2) := by decide +kernel
theorem d_G_odd_39 : decode prog_1_method_8_code 39 = .ok (.invokespecial 145, 3) := by decide +kernel
theorem d_G_odd_42 : decode prog_1_method_8_code 42 = .ok (.athrow, 1) := by decide +kernel
theorem d_G_odd_43 : decode prog_1_method_8_code 43 = .ok (.aload_n 0, 1) := by decide +kernel
theorem d_G_odd_44 : decode prog_1_method_8_code 44 = .ok (.getfield 28, 3) := by decide +kernel
theorem d_G_odd_47 : decode prog_1_method_8_code 47 = .ok (.iload_n 1, 1) := by decide +kernel
theorem d_G_odd_48 : decode prog_1_method_8_code 48 = .ok (.aload_n 0, 1) := by decide +kernel
theorem d_G_odd_49 : decode prog_1_method_8_code 49 = .ok (.getfield 41, 3) := by decide +kernel
theorem d_G_odd_52 : decode prog_1_method_8_code 52 = .ok (.invokevirtual 148, 3) := by decide +kernel
theorem d_G_odd_55 : decode prog_1_method_8_code 55 = .ok (.lstore 5, 2) := by decide +kernel
theorem d_G_odd_57 : decode prog_1_method_8_code 57 = .ok (.lload_n 3, 1) := by decide +kernel
theorem d_G_odd_58 : decode prog_1_method_8_code 58 = .ok (.lload 5, 2) := by decide +kernel
theorem d_G_odd_60 : decode prog_1_method_8_code 60 = .ok (.invokestatic 152, 3) := by decide +kernel
theorem d_G_odd_63 : decode prog_1_method_8_code 63 = .ok (.lstore 7, 2) := by decide +kernel
theorem d_G_odd_65 : decode prog_1_method_8_code 65 = .ok (.lload 7, 2) := by decide +kernel
theorem d_G_odd_67 : decode prog_1_method_8_code 67 = .ok (.lconst 0, 1) := by decide +kernel
theorem d_G_odd_68 : decode prog_1_method_8_code 68 = .ok (.lcmp, 1) := by decide +kernel
theorem d_G_odd_69 : decode prog_1_method_8_code 69 = .ok (.ifCond .gt 7, 3) := by decide +kernel
theorem d_G_odd_72 : decode prog_1_method_8_code 72 = .ok (.ldc2_w 135, 3) := by decide +kernel
theorem d_G_odd_75 : decode prog_1_method_8_code 75 = .ok (.lreturn, 1) := by decide +kernel
theorem d_G_odd_76 : decode prog_1_method_8_code 76 = .ok (.iload_n 2, 1) := by decide +kernel
theorem d_G_odd_77 : decode prog_1_method_8_code 77 = .ok (.ifCond .ne 11, 3) := by decide +kernel
theorem d_G_odd_80 : decode prog_1_method_8_code 80 = .ok (.lload 5, 2) := by decide +kernel
theorem d_G_odd_82 : decode prog_1_method_8_code 82 = .ok (.lload 7, 2) := by decide +kernel
theorem d_G_odd_84 : decode prog_1_method_8_code 84 = .ok (.ldiv, 1) := by decide +kernel
theorem d_G_odd_85 : decode prog_1_method_8_code 85 = .ok (.goto 7, 3) := by decide +kernel
theorem d_G_odd_88 : decode prog_1_method_8_code 88 = .ok (.lload_n 3, 1) := by decide +kernel
theorem d_G_odd_89 : decode prog_1_method_8_code 89 = .ok (.lload 7, 2) := by decide +kernel
theorem d_G_odd_91 : decode prog_1_method_8_code 91 = .ok (.ldiv, 1) := by decide +kernel
theorem d_G_odd_92 : decode prog_1_method_8_code 92 = .ok (.lreturn, 1) := by decide +kernel
