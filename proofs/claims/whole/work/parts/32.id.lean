theorem k_19 : (Jvm.Cond.methodLink "GuideSearch" (3 : Nat) ({ cls := "java/lang/Object", name := "<init>", desc := "()V" } : Jvm.MethodName)) ∈ wg := wgm (i := 48) (by decide +kernel) rfl
theorem k_22 : (Jvm.Cond.classLink "GuideSearch" (9 : Nat) "GuideSearch$Causes") ∈ wg := wgm (i := 51) (by decide +kernel) rfl
theorem k_23 : (Jvm.Cond.instantiable "GuideSearch$Causes" (5 : Nat)) ∈ wg := wgm (i := 52) (by decide +kernel) rfl
theorem k_24 : (Jvm.Cond.methodLinkNest "GuideSearch" (11 : Nat) ({ cls := "GuideSearch$Causes", name := "<init>", desc := "()V" } : Jvm.MethodName) "GuideSearch") ∈ nw := nwm (i := 53) (by decide +kernel) rfl
theorem k_25 : (Jvm.Cond.instanceMethod ({ cls := "GuideSearch$Causes", name := "<init>", desc := "()V" } : Jvm.MethodName)) ∈ wg := wgm (i := 54) (by decide +kernel) rfl
set_option maxRecDepth 20000 in
theorem k_26 : (Jvm.Cond.code ({ cls := "GuideSearch$Causes", name := "<init>", desc := "()V" } : Jvm.MethodName) prog_3_method_1_code (1 : Nat) (Option.none : Option Jvm.ClassFile.FieldType)) ∈ wg := wgm (i := 55) rfl rfl
theorem k_49 : (Jvm.Cond.classLink "GuideSearch" (16 : Nat) "GuideSearch$Tests") ∈ wg := wgm (i := 78) (by decide +kernel) rfl
theorem k_50 : (Jvm.Cond.instantiable "GuideSearch$Tests" (4 : Nat)) ∈ wg := wgm (i := 79) (by decide +kernel) rfl
theorem k_51 : (Jvm.Cond.methodLink "GuideSearch" (18 : Nat) ({ cls := "GuideSearch$Tests", name := "<init>", desc := "()V" } : Jvm.MethodName)) ∈ wg := wgm (i := 80) (by decide +kernel) rfl
theorem k_52 : (Jvm.Cond.instanceMethod ({ cls := "GuideSearch$Tests", name := "<init>", desc := "()V" } : Jvm.MethodName)) ∈ wg := wgm (i := 81) (by decide +kernel) rfl
set_option maxRecDepth 20000 in
theorem k_53 : (Jvm.Cond.code ({ cls := "GuideSearch$Tests", name := "<init>", desc := "()V" } : Jvm.MethodName) prog_5_method_1_code (2 : Nat) (Option.none : Option Jvm.ClassFile.FieldType)) ∈ wg := wgm (i := 82) rfl rfl
theorem k_75 : (Jvm.Cond.classLink "GuideSearch" (23 : Nat) "GuideSearch$Cases") ∈ wg := wgm (i := 104) (by decide +kernel) rfl
theorem k_76 : (Jvm.Cond.instantiable "GuideSearch$Cases" (2 : Nat)) ∈ wg := wgm (i := 105) (by decide +kernel) rfl
theorem k_77 : (Jvm.Cond.methodLink "GuideSearch" (25 : Nat) ({ cls := "GuideSearch$Cases", name := "<init>", desc := "(LGuideSearch$Causes;LGuideSearch$Tests;)V" } : Jvm.MethodName)) ∈ wg := wgm (i := 106) (by decide +kernel) rfl
theorem k_78 : (Jvm.Cond.instanceMethod ({ cls := "GuideSearch$Cases", name := "<init>", desc := "(LGuideSearch$Causes;LGuideSearch$Tests;)V" } : Jvm.MethodName)) ∈ wg := wgm (i := 107) (by decide +kernel) rfl
set_option maxRecDepth 20000 in
theorem k_79 : (Jvm.Cond.code ({ cls := "GuideSearch$Cases", name := "<init>", desc := "(LGuideSearch$Causes;LGuideSearch$Tests;)V" } : Jvm.MethodName) prog_2_method_1_code (3 : Nat) (Option.none : Option Jvm.ClassFile.FieldType)) ∈ wg := wgm (i := 108) rfl rfl
theorem k_89 : (Jvm.Cond.classLink "GuideSearch" (32 : Nat) "GuideSearch$Plan") ∈ wg := wgm (i := 118) (by decide +kernel) rfl
theorem k_90 : (Jvm.Cond.instantiable "GuideSearch$Plan" (9 : Nat)) ∈ wg := wgm (i := 119) (by decide +kernel) rfl
theorem k_91 : (Jvm.Cond.methodLink "GuideSearch" (34 : Nat) ({ cls := "GuideSearch$Plan", name := "<init>", desc := "(LGuideSearch$Cases;)V" } : Jvm.MethodName)) ∈ wg := wgm (i := 120) (by decide +kernel) rfl
theorem k_92 : (Jvm.Cond.instanceMethod ({ cls := "GuideSearch$Plan", name := "<init>", desc := "(LGuideSearch$Cases;)V" } : Jvm.MethodName)) ∈ wg := wgm (i := 121) (by decide +kernel) rfl
set_option maxRecDepth 20000 in
theorem k_93 : (Jvm.Cond.code ({ cls := "GuideSearch$Plan", name := "<init>", desc := "(LGuideSearch$Cases;)V" } : Jvm.MethodName) prog_4_method_1_code (2 : Nat) (Option.none : Option Jvm.ClassFile.FieldType)) ∈ wg := wgm (i := 122) rfl rfl
theorem k_505 : (Jvm.Cond.methodLink "GuideSearchModel" (1 : Nat) ({ cls := "java/lang/Object", name := "<init>", desc := "()V" } : Jvm.MethodName)) ∈ wg := wgm (i := 534) (by decide +kernel) rfl
theorem k_583 : (Jvm.Cond.arrayClass Jvm.ClassFile.FieldType.boolean) ∈ wg := wgm (i := 612) (by decide +kernel) rfl
theorem d_M_init_0 : decode prog_7_method_1_code 0 = .ok (.aload_n 0, 1) := by decide +kernel
theorem d_M_init_1 : decode prog_7_method_1_code 1 = .ok (.invokespecial 1, 3) := by decide +kernel
theorem d_M_init_4 : decode prog_7_method_1_code 4 = .ok (.aload_n 0, 1) := by decide +kernel
theorem d_M_init_5 : decode prog_7_method_1_code 5 = .ok (.bipush 13, 2) := by decide +kernel
theorem d_M_init_7 : decode prog_7_method_1_code 7 = .ok (.newarray .int, 2) := by decide +kernel
theorem d_M_init_9 : decode prog_7_method_1_code 9 = .ok (.putfield 7, 3) := by decide +kernel
theorem d_M_init_12 : decode prog_7_method_1_code 12 = .ok (.aload_n 0, 1) := by decide +kernel
theorem d_M_init_13 : decode prog_7_method_1_code 13 = .ok (.bipush 13, 2) := by decide +kernel
theorem d_M_init_15 : decode prog_7_method_1_code 15 = .ok (.newarray .int, 2) := by decide +kernel
theorem d_M_init_17 : decode prog_7_method_1_code 17 = .ok (.putfield 13, 3) := by decide +kernel
theorem d_M_init_20 : decode prog_7_method_1_code 20 = .ok (.aload_n 0, 1) := by decide +kernel
theorem d_M_init_21 : decode prog_7_method_1_code 21 = .ok (.bipush 13, 2) := by decide +kernel
theorem d_M_init_23 : decode prog_7_method_1_code 23 = .ok (.newarray .long, 2) := by decide +kernel
theorem d_M_init_25 : decode prog_7_method_1_code 25 = .ok (.putfield 16, 3) := by decide +kernel
theorem d_M_init_28 : decode prog_7_method_1_code 28 = .ok (.aload_n 0, 1) := by decide +kernel
theorem d_M_init_29 : decode prog_7_method_1_code 29 = .ok (.bipush 13, 2) := by decide +kernel
theorem d_M_init_31 : decode prog_7_method_1_code 31 = .ok (.newarray .int, 2) := by decide +kernel
theorem d_M_init_33 : decode prog_7_method_1_code 33 = .ok (.putfield 20, 3) := by decide +kernel
theorem d_M_init_36 : decode prog_7_method_1_code 36 = .ok (.aload_n 0, 1) := by decide +kernel
theorem d_M_init_37 : decode prog_7_method_1_code 37 = .ok (.bipush 7, 2) := by decide +kernel
theorem d_M_init_39 : decode prog_7_method_1_code 39 = .ok (.newarray .long, 2) := by decide +kernel
theorem d_M_init_41 : decode prog_7_method_1_code 41 = .ok (.putfield 23, 3) := by decide +kernel
theorem d_M_init_44 : decode prog_7_method_1_code 44 = .ok (.aload_n 0, 1) := by decide +kernel
theorem d_M_init_45 : decode prog_7_method_1_code 45 = .ok (.bipush 49, 2) := by decide +kernel
theorem d_M_init_47 : decode prog_7_method_1_code 47 = .ok (.newarray .boolean, 2) := by decide +kernel
theorem d_M_init_49 : decode prog_7_method_1_code 49 = .ok (.putfield 26, 3) := by decide +kernel
theorem d_M_init_52 : decode prog_7_method_1_code 52 = .ok (.aload_n 0, 1) := by decide +kernel
theorem d_M_init_53 : decode prog_7_method_1_code 53 = .ok (.sipush 273, 3) := by decide +kernel
theorem d_M_init_56 : decode prog_7_method_1_code 56 = .ok (.newarray .int, 2) := by decide +kernel
theorem d_M_init_58 : decode prog_7_method_1_code 58 = .ok (.putfield 30, 3) := by decide +kernel
theorem d_M_init_61 : decode prog_7_method_1_code 61 = .ok (.aload_n 0, 1) := by decide +kernel
theorem d_M_init_62 : decode prog_7_method_1_code 62 = .ok (.bipush 7, 2) := by decide +kernel
theorem d_M_init_64 : decode prog_7_method_1_code 64 = .ok (.newarray .int, 2) := by decide +kernel
theorem d_M_init_66 : decode prog_7_method_1_code 66 = .ok (.putfield 33, 3) := by decide +kernel
theorem d_M_init_69 : decode prog_7_method_1_code 69 = .ok (.aload_n 0, 1) := by decide +kernel
theorem d_M_init_70 : decode prog_7_method_1_code 70 = .ok (.ldc2_w 36, 3) := by decide +kernel
theorem d_M_init_73 : decode prog_7_method_1_code 73 = .ok (.putfield 38, 3) := by decide +kernel
theorem d_M_init_76 : decode prog_7_method_1_code 76 = .ok (.aload_n 0, 1) := by decide +kernel
theorem d_M_init_77 : decode prog_7_method_1_code 77 = .ok (.sipush 900, 3) := by decide +kernel
theorem d_M_init_80 : decode prog_7_method_1_code 80 = .ok (.newarray .int, 2) := by decide +kernel
theorem d_M_init_82 : decode prog_7_method_1_code 82 = .ok (.putfield 42, 3) := by decide +kernel
theorem d_M_init_85 : decode prog_7_method_1_code 85 = .ok (.aload_n 0, 1) := by decide +kernel
theorem d_M_init_86 : decode prog_7_method_1_code 86 = .ok (.sipush 4096, 3) := by decide +kernel
theorem d_M_init_89 : decode prog_7_method_1_code 89 = .ok (.newarray .long, 2) := by decide +kernel
theorem d_M_init_91 : decode prog_7_method_1_code 91 = .ok (.putfield 45, 3) := by decide +kernel
theorem d_M_init_94 : decode prog_7_method_1_code 94 = .ok (.aload_n 0, 1) := by decide +kernel
theorem d_M_init_95 : decode prog_7_method_1_code 95 = .ok (.sipush 4096, 3) := by decide +kernel
theorem d_M_init_98 : decode prog_7_method_1_code 98 = .ok (.newarray .int, 2) := by decide +kernel
theorem d_M_init_100 : decode prog_7_method_1_code 100 = .ok (.putfield 48, 3) := by decide +kernel
theorem d_M_init_103 : decode prog_7_method_1_code 103 = .ok (.aload_n 0, 1) := by decide +kernel
theorem d_M_init_104 : decode prog_7_method_1_code 104 = .ok (.bipush 7, 2) := by decide +kernel
theorem d_M_init_106 : decode prog_7_method_1_code 106 = .ok (.newarray .int, 2) := by decide +kernel
theorem d_M_init_108 : decode prog_7_method_1_code 108 = .ok (.putfield 51, 3) := by decide +kernel
theorem d_M_init_111 : decode prog_7_method_1_code 111 = .ok (.aload_n 0, 1) := by decide +kernel
theorem d_M_init_112 : decode prog_7_method_1_code 112 = .ok (.bipush 13, 2) := by decide +kernel
theorem d_M_init_114 : decode prog_7_method_1_code 114 = .ok (.newarray .long, 2) := by decide +kernel
theorem d_M_init_116 : decode prog_7_method_1_code 116 = .ok (.putfield 54, 3) := by decide +kernel
theorem d_M_init_119 : decode prog_7_method_1_code 119 = .ok (.aload_n 0, 1) := by decide +kernel
theorem d_M_init_120 : decode prog_7_method_1_code 120 = .ok (.bipush 64, 2) := by decide +kernel
theorem d_M_init_122 : decode prog_7_method_1_code 122 = .ok (.newarray .int, 2) := by decide +kernel
theorem d_M_init_124 : decode prog_7_method_1_code 124 = .ok (.putfield 57, 3) := by decide +kernel
theorem d_M_init_127 : decode prog_7_method_1_code 127 = .ok (.aload_n 0, 1) := by decide +kernel
theorem d_M_init_128 : decode prog_7_method_1_code 128 = .ok (.bipush 64, 2) := by decide +kernel
theorem d_M_init_130 : decode prog_7_method_1_code 130 = .ok (.newarray .int, 2) := by decide +kernel
theorem d_M_init_132 : decode prog_7_method_1_code 132 = .ok (.putfield 60, 3) := by decide +kernel
theorem d_M_init_135 : decode prog_7_method_1_code 135 = .ok (.aload_n 0, 1) := by decide +kernel
theorem d_M_init_136 : decode prog_7_method_1_code 136 = .ok (.bipush 7, 2) := by decide +kernel
theorem d_M_init_138 : decode prog_7_method_1_code 138 = .ok (.newarray .boolean, 2) := by decide +kernel
theorem d_M_init_140 : decode prog_7_method_1_code 140 = .ok (.putfield 63, 3) := by decide +kernel
theorem d_M_init_143 : decode prog_7_method_1_code 143 = .ok (.aload_n 0, 1) := by decide +kernel
theorem d_M_init_144 : decode prog_7_method_1_code 144 = .ok (.bipush 7, 2) := by decide +kernel
theorem d_M_init_146 : decode prog_7_method_1_code 146 = .ok (.newarray .boolean, 2) := by decide +kernel
theorem d_M_init_148 : decode prog_7_method_1_code 148 = .ok (.putfield 66, 3) := by decide +kernel
theorem d_M_init_151 : decode prog_7_method_1_code 151 = .ok (.iconst 0, 1) := by decide +kernel
theorem d_M_init_152 : decode prog_7_method_1_code 152 = .ok (.istore_n 1, 1) := by decide +kernel
theorem d_M_init_153 : decode prog_7_method_1_code 153 = .ok (.iload_n 1, 1) := by decide +kernel
theorem d_M_init_154 : decode prog_7_method_1_code 154 = .ok (.sipush 273, 3) := by decide +kernel
theorem d_M_init_157 : decode prog_7_method_1_code 157 = .ok (.if_icmp .ge 27, 3) := by decide +kernel
theorem d_M_init_160 : decode prog_7_method_1_code 160 = .ok (.aload_n 0, 1) := by decide +kernel
theorem d_M_init_161 : decode prog_7_method_1_code 161 = .ok (.getfield 30, 3) := by decide +kernel
theorem d_M_init_164 : decode prog_7_method_1_code 164 = .ok (.iload_n 1, 1) := by decide +kernel
theorem d_M_init_165 : decode prog_7_method_1_code 165 = .ok (.iload_n 1, 1) := by decide +kernel
theorem d_M_init_166 : decode prog_7_method_1_code 166 = .ok (.iconst 3, 1) := by decide +kernel
theorem d_M_init_167 : decode prog_7_method_1_code 167 = .ok (.irem, 1) := by decide +kernel
theorem d_M_init_168 : decode prog_7_method_1_code 168 = .ok (.ifCond .ne 8, 3) := by decide +kernel
theorem d_M_init_171 : decode prog_7_method_1_code 171 = .ok (.bipush 12, 2) := by decide +kernel
theorem d_M_init_173 : decode prog_7_method_1_code 173 = .ok (.goto 4, 3) := by decide +kernel
theorem d_M_init_176 : decode prog_7_method_1_code 176 = .ok (.iconst 0, 1) := by decide +kernel
theorem d_M_init_177 : decode prog_7_method_1_code 177 = .ok (.iastore, 1) := by decide +kernel
theorem d_M_init_178 : decode prog_7_method_1_code 178 = .ok (.iinc 1 1, 3) := by decide +kernel
theorem d_M_init_181 : decode prog_7_method_1_code 181 = .ok (.goto (-28), 3) := by decide +kernel
theorem d_M_init_184 : decode prog_7_method_1_code 184 = .ok (.iconst 0, 1) := by decide +kernel
theorem d_M_init_185 : decode prog_7_method_1_code 185 = .ok (.istore_n 1, 1) := by decide +kernel
theorem d_M_init_186 : decode prog_7_method_1_code 186 = .ok (.iload_n 1, 1) := by decide +kernel
theorem d_M_init_187 : decode prog_7_method_1_code 187 = .ok (.bipush 7, 2) := by decide +kernel
theorem d_M_init_189 : decode prog_7_method_1_code 189 = .ok (.if_icmp .ge 16, 3) := by decide +kernel
theorem d_M_init_192 : decode prog_7_method_1_code 192 = .ok (.aload_n 0, 1) := by decide +kernel
theorem d_M_init_193 : decode prog_7_method_1_code 193 = .ok (.getfield 33, 3) := by decide +kernel
theorem d_M_init_196 : decode prog_7_method_1_code 196 = .ok (.iload_n 1, 1) := by decide +kernel
theorem d_M_init_197 : decode prog_7_method_1_code 197 = .ok (.iconst (-1), 1) := by decide +kernel
theorem d_M_init_198 : decode prog_7_method_1_code 198 = .ok (.iastore, 1) := by decide +kernel
theorem d_M_init_199 : decode prog_7_method_1_code 199 = .ok (.iinc 1 1, 3) := by decide +kernel
theorem d_M_init_202 : decode prog_7_method_1_code 202 = .ok (.goto (-16), 3) := by decide +kernel
theorem d_M_init_205 : decode prog_7_method_1_code 205 = .ok (.return_, 1) := by decide +kernel
theorem d_G_init_0 : decode prog_1_method_1_code 0 = .ok (.aload_n 0, 1) := by decide +kernel
theorem d_G_init_1 : decode prog_1_method_1_code 1 = .ok (.invokespecial 3, 3) := by decide +kernel
theorem d_G_init_4 : decode prog_1_method_1_code 4 = .ok (.aload_n 0, 1) := by decide +kernel
theorem d_G_init_5 : decode prog_1_method_1_code 5 = .ok (.new 9, 3) := by decide +kernel
theorem d_G_init_8 : decode prog_1_method_1_code 8 = .ok (.dup, 1) := by decide +kernel
theorem d_G_init_9 : decode prog_1_method_1_code 9 = .ok (.invokespecial 11, 3) := by decide +kernel
theorem d_G_init_12 : decode prog_1_method_1_code 12 = .ok (.putfield 12, 3) := by decide +kernel
theorem d_G_init_15 : decode prog_1_method_1_code 15 = .ok (.aload_n 0, 1) := by decide +kernel
theorem d_G_init_16 : decode prog_1_method_1_code 16 = .ok (.new 16, 3) := by decide +kernel
theorem d_G_init_19 : decode prog_1_method_1_code 19 = .ok (.dup, 1) := by decide +kernel
theorem d_G_init_20 : decode prog_1_method_1_code 20 = .ok (.invokespecial 18, 3) := by decide +kernel
theorem d_G_init_23 : decode prog_1_method_1_code 23 = .ok (.putfield 19, 3) := by decide +kernel
theorem d_G_init_26 : decode prog_1_method_1_code 26 = .ok (.aload_n 0, 1) := by decide +kernel
theorem d_G_init_27 : decode prog_1_method_1_code 27 = .ok (.new 23, 3) := by decide +kernel
theorem d_G_init_30 : decode prog_1_method_1_code 30 = .ok (.dup, 1) := by decide +kernel
theorem d_G_init_31 : decode prog_1_method_1_code 31 = .ok (.aload_n 0, 1) := by decide +kernel
theorem d_G_init_32 : decode prog_1_method_1_code 32 = .ok (.getfield 12, 3) := by decide +kernel
theorem d_G_init_35 : decode prog_1_method_1_code 35 = .ok (.aload_n 0, 1) := by decide +kernel
theorem d_G_init_36 : decode prog_1_method_1_code 36 = .ok (.getfield 19, 3) := by decide +kernel
theorem d_G_init_39 : decode prog_1_method_1_code 39 = .ok (.invokespecial 25, 3) := by decide +kernel
theorem d_G_init_42 : decode prog_1_method_1_code 42 = .ok (.putfield 28, 3) := by decide +kernel
theorem d_G_init_45 : decode prog_1_method_1_code 45 = .ok (.aload_n 0, 1) := by decide +kernel
theorem d_G_init_46 : decode prog_1_method_1_code 46 = .ok (.new 32, 3) := by decide +kernel
theorem d_G_init_49 : decode prog_1_method_1_code 49 = .ok (.dup, 1) := by decide +kernel
theorem d_G_init_50 : decode prog_1_method_1_code 50 = .ok (.aload_n 0, 1) := by decide +kernel
theorem d_G_init_51 : decode prog_1_method_1_code 51 = .ok (.getfield 28, 3) := by decide +kernel
theorem d_G_init_54 : decode prog_1_method_1_code 54 = .ok (.invokespecial 34, 3) := by decide +kernel
theorem d_G_init_57 : decode prog_1_method_1_code 57 = .ok (.putfield 37, 3) := by decide +kernel
theorem d_G_init_60 : decode prog_1_method_1_code 60 = .ok (.aload_n 0, 1) := by decide +kernel
theorem d_G_init_61 : decode prog_1_method_1_code 61 = .ok (.iconst 0, 1) := by decide +kernel
theorem d_G_init_62 : decode prog_1_method_1_code 62 = .ok (.putfield 41, 3) := by decide +kernel
theorem d_G_init_65 : decode prog_1_method_1_code 65 = .ok (.aload_n 0, 1) := by decide +kernel
theorem d_G_init_66 : decode prog_1_method_1_code 66 = .ok (.iconst 0, 1) := by decide +kernel
theorem d_G_init_67 : decode prog_1_method_1_code 67 = .ok (.putfield 45, 3) := by decide +kernel
theorem d_G_init_70 : decode prog_1_method_1_code 70 = .ok (.return_, 1) := by decide +kernel
def x_st0 : XS := (0, 0, 0, 0, fun _ => 0, fun _ => 0, fun _ => 0, 0, fun _ => 0, fun _ => 0, fun d => if d = 0 then (fun _ => 0) else (fun j => if j < 13 then 12 else (fun _ => 0) j), 0, -1, fun _ => 0, fun _ => 0, fun _ _ => 0, fun _ => 0, fun _ => 0, fun _ => 0)
def m_st0 : MS := (0, 0, 0, 0, 0, 0, -1, 0, fun _ => 0, fun _ => 0, fun _ => 0, fun _ => 0, fun _ => 0, fun _ => 0, fun _ => 0, fun _ => 0, fun _ => 0, fun _ => 0, fun _ => 0, fun _ => 0, fun _ => 0, fun _ => 0, fun _ => 0, fun _ => 0, fun _ => 0)
theorem x_get (cs : Nat → ClassId) (a : Nat → Nat) (st : XS) : ∀ k : Nat, k < 29 → ∃ e : va_E, (x_W cs a st)[k]? = some (a k, e)
  | 0, _ => ⟨_, rfl⟩
  | 1, _ => ⟨_, rfl⟩
  | 2, _ => ⟨_, rfl⟩
  | 3, _ => ⟨_, rfl⟩
  | 4, _ => ⟨_, rfl⟩
  | 5, _ => ⟨_, rfl⟩
  | 6, _ => ⟨_, rfl⟩
  | 7, _ => ⟨_, rfl⟩
  | 8, _ => ⟨_, rfl⟩
  | 9, _ => ⟨_, rfl⟩
  | 10, _ => ⟨_, rfl⟩
  | 11, _ => ⟨_, rfl⟩
  | 12, _ => ⟨_, rfl⟩
  | 13, _ => ⟨_, rfl⟩
  | 14, _ => ⟨_, rfl⟩
  | 15, _ => ⟨_, rfl⟩
  | 16, _ => ⟨_, rfl⟩
  | 17, _ => ⟨_, rfl⟩
  | 18, _ => ⟨_, rfl⟩
  | 19, _ => ⟨_, rfl⟩
  | 20, _ => ⟨_, rfl⟩
  | 21, _ => ⟨_, rfl⟩
  | 22, _ => ⟨_, rfl⟩
  | 23, _ => ⟨_, rfl⟩
  | 24, _ => ⟨_, rfl⟩
  | 25, _ => ⟨_, rfl⟩
  | 26, _ => ⟨_, rfl⟩
  | 27, _ => ⟨_, rfl⟩
  | 28, _ => ⟨_, rfl⟩
  | k + 29, h => absurd h (by omega)
theorem x_inj {A : Nat → Prop} {cs : Nat → ClassId} {a : Nat → Nat} {st : XS} (hD : va_D A (x_W cs a st)) : ∀ i j : Nat, i < 29 → j < 29 → a i = a j → i = j := fun i j hi hj e => by
  obtain ⟨e1, h1⟩ := x_get cs a st i hi
  obtain ⟨e2, h2⟩ := x_get cs a st j hj
  exact hD.1 i j _ _ h1 h2 e
theorem x_reg {A : Nat → Prop} {cs : Nat → ClassId} {a : Nat → Nat} {st : XS} (hD : va_D A (x_W cs a st)) : ∀ k : Nat, k < 29 → A (a k) := fun k hk => by
  obtain ⟨e1, h1⟩ := x_get cs a st k hk
  exact hD.2 k _ h1
theorem x_D2 {A : Nat → Prop} {a : Nat → Nat} (hi : ∀ i j : Nat, i < 29 → j < 29 → a i = a j → i = j) (hA : ∀ k : Nat, k < 29 → A (a k)) (cs : Nat → ClassId) (st : XS) : va_D A (x_W cs a st) :=
  (x_D hi cs st).weaken (fun k q h _ => by
    obtain ⟨h1, e1⟩ := x_W_at cs a st k q h
    rw [e1]
    exact hA k h1)
theorem m_get (cs : Nat → ClassId) (a : Nat → Nat) (st : MS) : ∀ k : Nat, k < 18 → ∃ e : va_E, (m_W cs a st)[k]? = some (a k, e)
  | 0, _ => ⟨_, rfl⟩
  | 1, _ => ⟨_, rfl⟩
  | 2, _ => ⟨_, rfl⟩
  | 3, _ => ⟨_, rfl⟩
  | 4, _ => ⟨_, rfl⟩
  | 5, _ => ⟨_, rfl⟩
  | 6, _ => ⟨_, rfl⟩
  | 7, _ => ⟨_, rfl⟩
  | 8, _ => ⟨_, rfl⟩
  | 9, _ => ⟨_, rfl⟩
  | 10, _ => ⟨_, rfl⟩
  | 11, _ => ⟨_, rfl⟩
  | 12, _ => ⟨_, rfl⟩
  | 13, _ => ⟨_, rfl⟩
  | 14, _ => ⟨_, rfl⟩
  | 15, _ => ⟨_, rfl⟩
  | 16, _ => ⟨_, rfl⟩
  | 17, _ => ⟨_, rfl⟩
  | k + 18, h => absurd h (by omega)
theorem m_inj {A : Nat → Prop} {cs : Nat → ClassId} {a : Nat → Nat} {st : MS} (hD : va_D A (m_W cs a st)) : ∀ i j : Nat, i < 18 → j < 18 → a i = a j → i = j := fun i j hi hj e => by
  obtain ⟨e1, h1⟩ := m_get cs a st i hi
  obtain ⟨e2, h2⟩ := m_get cs a st j hj
  exact hD.1 i j _ _ h1 h2 e
theorem m_reg {A : Nat → Prop} {cs : Nat → ClassId} {a : Nat → Nat} {st : MS} (hD : va_D A (m_W cs a st)) : ∀ k : Nat, k < 18 → A (a k) := fun k hk => by
  obtain ⟨e1, h1⟩ := m_get cs a st k hk
  exact hD.2 k _ h1
theorem m_D2 {A : Nat → Prop} {a : Nat → Nat} (hi : ∀ i j : Nat, i < 18 → j < 18 → a i = a j → i = j) (hA : ∀ k : Nat, k < 18 → A (a k)) (cs : Nat → ClassId) (st : MS) : va_D A (m_W cs a st) :=
  (m_D hi cs st).weaken (fun k q h _ => by
    obtain ⟨h1, e1⟩ := m_W_at cs a st k q h
    rw [e1]
    exact hA k h1)
