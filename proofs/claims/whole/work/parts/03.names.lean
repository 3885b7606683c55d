def F_G : u_T := fun k => match k with
  | 0 => ("GuideSearch", "causes", "LGuideSearch$Causes;", true)
  | 1 => ("GuideSearch", "tests", "LGuideSearch$Tests;", true)
  | 2 => ("GuideSearch", "cases", "LGuideSearch$Cases;", true)
  | 3 => ("GuideSearch", "plan", "LGuideSearch$Plan;", true)
  | 4 => ("GuideSearch", "open", "I", false)
  | _ => ("GuideSearch", "planned", "Z", false)
def ft_G : Nat → FieldType := fun k => match k with
  | 0 => .object "GuideSearch$Causes"
  | 1 => .object "GuideSearch$Tests"
  | 2 => .object "GuideSearch$Cases"
  | 3 => .object "GuideSearch$Plan"
  | 4 => .int
  | _ => .boolean
theorem n_G : ∀ a, a < 6 → ∀ b, b < 6 → a ≠ b → (F_G a).2.1 ≠ (F_G b).2.1 := by decide +kernel
theorem ft_G_ok : ∀ k, k < 6 → parseFieldDescriptor (F_G k).2.2.1 = some (ft_G k) := by decide +kernel
def F_C : u_T := fun k => match k with
  | 0 => ("GuideSearch$Causes", "priors", "[J", true)
  | 1 => ("GuideSearch$Causes", "members", "[I", true)
  | 2 => ("GuideSearch$Causes", "learned", "[I", true)
  | 3 => ("GuideSearch$Causes", "count", "I", false)
  | _ => ("GuideSearch$Causes", "faults", "I", false)
def ft_C : Nat → FieldType := fun k => match k with
  | 0 => .array .long
  | 1 => .array .int
  | 2 => .array .int
  | 3 => .int
  | _ => .int
theorem n_C : ∀ a, a < 5 → ∀ b, b < 5 → a ≠ b → (F_C a).2.1 ≠ (F_C b).2.1 := by decide +kernel
theorem ft_C_ok : ∀ k, k < 5 → parseFieldDescriptor (F_C k).2.2.1 = some (ft_C k) := by decide +kernel
def F_T : u_T := fun k => match k with
  | 0 => ("GuideSearch$Tests", "costs", "[I", true)
  | 1 => ("GuideSearch$Tests", "needed", "[I", true)
  | 2 => ("GuideSearch$Tests", "table", "[[I", true)
  | _ => ("GuideSearch$Tests", "count", "I", false)
def ft_T : Nat → FieldType := fun k => match k with
  | 0 => .array .int
  | 1 => .array .int
  | 2 => .array (.array .int)
  | _ => .int
theorem n_T : ∀ a, a < 4 → ∀ b, b < 4 → a ≠ b → (F_T a).2.1 ≠ (F_T b).2.1 := by decide +kernel
theorem ft_T_ok : ∀ k, k < 4 → parseFieldDescriptor (F_T k).2.2.1 = some (ft_T k) := by decide +kernel
def F_K : u_T := fun k => match k with
  | 0 => ("GuideSearch$Cases", "causes", "LGuideSearch$Causes;", true)
  | _ => ("GuideSearch$Cases", "tests", "LGuideSearch$Tests;", true)
def ft_K : Nat → FieldType := fun k => match k with
  | 0 => .object "GuideSearch$Causes"
  | _ => .object "GuideSearch$Tests"
theorem n_K : ∀ a, a < 2 → ∀ b, b < 2 → a ≠ b → (F_K a).2.1 ≠ (F_K b).2.1 := by decide +kernel
theorem ft_K_ok : ∀ k, k < 2 → parseFieldDescriptor (F_K k).2.2.1 = some (ft_K k) := by decide +kernel
def F_P : u_T := fun k => match k with
  | 0 => ("GuideSearch$Plan", "cases", "LGuideSearch$Cases;", true)
  | 1 => ("GuideSearch$Plan", "values", "[J", true)
  | 2 => ("GuideSearch$Plan", "picks", "[B", true)
  | 3 => ("GuideSearch$Plan", "weights", "[[J", true)
  | 4 => ("GuideSearch$Plan", "nodeTests", "[B", true)
  | 5 => ("GuideSearch$Plan", "nodeLefts", "[B", true)
  | 6 => ("GuideSearch$Plan", "nodeAnswers", "[B", true)
  | 7 => ("GuideSearch$Plan", "nodes", "I", false)
  | _ => ("GuideSearch$Plan", "thousandths", "J", false)
def ft_P : Nat → FieldType := fun k => match k with
  | 0 => .object "GuideSearch$Cases"
  | 1 => .array .long
  | 2 => .array .byte
  | 3 => .array (.array .long)
  | 4 => .array .byte
  | 5 => .array .byte
  | 6 => .array .byte
  | 7 => .int
  | _ => .long
theorem n_P : ∀ a, a < 9 → ∀ b, b < 9 → a ≠ b → (F_P a).2.1 ≠ (F_P b).2.1 := by decide +kernel
theorem ft_P_ok : ∀ k, k < 9 → parseFieldDescriptor (F_P k).2.2.1 = some (ft_P k) := by decide +kernel
def F_M : u_T := fun k => match k with
  | 0 => ("GuideSearchModel", "code", "I", false)
  | 1 => ("GuideSearchModel", "causes", "I", false)
  | 2 => ("GuideSearchModel", "faults", "I", false)
  | 3 => ("GuideSearchModel", "one", "[I", true)
  | 4 => ("GuideSearchModel", "two", "[I", true)
  | 5 => ("GuideSearchModel", "prior", "[J", true)
  | 6 => ("GuideSearchModel", "learned", "[I", true)
  | 7 => ("GuideSearchModel", "strangers", "I", false)
  | 8 => ("GuideSearchModel", "tests", "I", false)
  | 9 => ("GuideSearchModel", "price", "[J", true)
  | 10 => ("GuideSearchModel", "needs", "[Z", true)
  | 11 => ("GuideSearchModel", "odds", "[I", true)
  | 12 => ("GuideSearchModel", "given", "[I", true)
  | 13 => ("GuideSearchModel", "exact", "Z", false)
  | 14 => ("GuideSearchModel", "cost", "J", false)
  | 15 => ("GuideSearchModel", "nodes", "I", false)
  | 16 => ("GuideSearchModel", "node", "[I", true)
  | 17 => ("GuideSearchModel", "value", "[J", true)
  | 18 => ("GuideSearchModel", "best", "[I", true)
  | 19 => ("GuideSearchModel", "digit", "[I", true)
  | 20 => ("GuideSearchModel", "weight", "[J", true)
  | 21 => ("GuideSearchModel", "wait", "[I", true)
  | 22 => ("GuideSearchModel", "by", "[I", true)
  | 23 => ("GuideSearchModel", "found", "[Z", true)
  | _ => ("GuideSearchModel", "use", "[Z", true)
def ft_M : Nat → FieldType := fun k => match k with
  | 0 => .int
  | 1 => .int
  | 2 => .int
  | 3 => .array .int
  | 4 => .array .int
  | 5 => .array .long
  | 6 => .array .int
  | 7 => .int
  | 8 => .int
  | 9 => .array .long
  | 10 => .array .boolean
  | 11 => .array .int
  | 12 => .array .int
  | 13 => .boolean
  | 14 => .long
  | 15 => .int
  | 16 => .array .int
  | 17 => .array .long
  | 18 => .array .int
  | 19 => .array .int
  | 20 => .array .long
  | 21 => .array .int
  | 22 => .array .int
  | 23 => .array .boolean
  | _ => .array .boolean
theorem n_M : ∀ a, a < 25 → ∀ b, b < 25 → a ≠ b → (F_M a).2.1 ≠ (F_M b).2.1 := by decide +kernel
theorem ft_M_ok : ∀ k, k < 25 → parseFieldDescriptor (F_M k).2.2.1 = some (ft_M k) := by decide +kernel
abbrev vwCl : List vw_C := [("GuideSearch", F_G, 6), ("GuideSearch$Causes", F_C, 5), ("GuideSearch$Tests", F_T, 4), ("GuideSearch$Cases", F_K, 2), ("GuideSearch$Plan", F_P, 9), ("GuideSearchModel", F_M, 25)]
theorem k_1 : (Jvm.Cond.initialized "GuideSearch") ∈ wg := wgm (i := 30) (by decide +kernel) rfl
theorem k_2 : (Jvm.Cond.initialized "GuideSearch$Causes") ∈ wg := wgm (i := 31) (by decide +kernel) rfl
theorem k_3 : (Jvm.Cond.initialized "GuideSearch$Tests") ∈ wg := wgm (i := 32) (by decide +kernel) rfl
theorem k_4 : (Jvm.Cond.initialized "java/util/Arrays") ∈ wg := wgm (i := 33) (by decide +kernel) rfl
theorem k_5 : (Jvm.Cond.initialized "GuideSearch$Cases") ∈ wg := wgm (i := 34) (by decide +kernel) rfl
theorem k_6 : (Jvm.Cond.initialized "GuideSearch$Plan") ∈ wg := wgm (i := 35) (by decide +kernel) rfl
theorem k_7 : (Jvm.Cond.initialized "GuideSearchModel") ∈ wg := wgm (i := 36) (by decide +kernel) rfl
theorem k_8 : (Jvm.Cond.initialized "java/lang/Integer") ∈ wg := wgm (i := 37) (by decide +kernel) rfl
theorem k_9 : (Jvm.Cond.initialized "java/lang/Math") ∈ wg := wgm (i := 38) (by decide +kernel) rfl
theorem k_20 : (Jvm.Cond.instanceMethod ({ cls := "java/lang/Object", name := "<init>", desc := "()V" } : Jvm.MethodName)) ∈ wg := wgm (i := 49) (by decide +kernel) rfl
theorem k_27 : (Jvm.Cond.methodLink "GuideSearch$Causes" (3 : Nat) ({ cls := "java/lang/Object", name := "<init>", desc := "()V" } : Jvm.MethodName)) ∈ wg := wgm (i := 56) (by decide +kernel) rfl
theorem k_28 : (Jvm.Cond.fieldLink "GuideSearch$Causes" (9 : Nat) "GuideSearch$Causes" "priors" "[J") ∈ wg := wgm (i := 57) (by decide +kernel) rfl
theorem k_29 : (Jvm.Cond.fieldLink "GuideSearch$Causes" (15 : Nat) "GuideSearch$Causes" "members" "[I") ∈ wg := wgm (i := 58) (by decide +kernel) rfl
theorem k_30 : (Jvm.Cond.fieldLink "GuideSearch$Causes" (19 : Nat) "GuideSearch$Causes" "learned" "[I") ∈ wg := wgm (i := 59) (by decide +kernel) rfl
theorem k_31 : (Jvm.Cond.fieldLink "GuideSearch$Causes" (22 : Nat) "GuideSearch$Causes" "count" "I") ∈ wg := wgm (i := 60) (by decide +kernel) rfl
theorem k_32 : (Jvm.Cond.fieldLinkNest "GuideSearch" (54 : Nat) "GuideSearch$Causes" "count" "I" "GuideSearch") ∈ nw := nwm (i := 61) (by decide +kernel) rfl
theorem k_33 : (Jvm.Cond.fieldLinkNest "GuideSearch$Cases" (43 : Nat) "GuideSearch$Causes" "count" "I" "GuideSearch") ∈ nw := nwm (i := 62) (by decide +kernel) rfl
theorem k_34 : (Jvm.Cond.fieldLink "GuideSearch$Causes" (26 : Nat) "GuideSearch$Causes" "faults" "I") ∈ wg := wgm (i := 63) (by decide +kernel) rfl
theorem k_35 : (Jvm.Cond.fieldLinkNest "GuideSearch" (51 : Nat) "GuideSearch$Causes" "faults" "I" "GuideSearch") ∈ nw := nwm (i := 64) (by decide +kernel) rfl
theorem k_36 : (Jvm.Cond.laysFinal "GuideSearch$Causes" "GuideSearch$Causes" "priors" "[J") ∈ wg := wgm (i := 65) (by decide +kernel) rfl
theorem k_38 : (Jvm.Cond.laysFinal "GuideSearch$Causes" "GuideSearch$Causes" "members" "[I") ∈ wg := wgm (i := 67) (by decide +kernel) rfl
theorem k_40 : (Jvm.Cond.laysFinal "GuideSearch$Causes" "GuideSearch$Causes" "learned" "[I") ∈ wg := wgm (i := 69) (by decide +kernel) rfl
theorem k_42 : (Jvm.Cond.lays "GuideSearch$Causes" "GuideSearch$Causes" "count" "I") ∈ wg := wgm (i := 71) (by decide +kernel) rfl
theorem k_44 : (Jvm.Cond.lays "GuideSearch$Causes" "GuideSearch$Causes" "faults" "I") ∈ wg := wgm (i := 73) (by decide +kernel) rfl
theorem k_47 : (Jvm.Cond.arrayClass Jvm.ClassFile.FieldType.long) ∈ wg := wgm (i := 76) (by decide +kernel) rfl
theorem k_48 : (Jvm.Cond.arrayClass Jvm.ClassFile.FieldType.int) ∈ wg := wgm (i := 77) (by decide +kernel) rfl
theorem k_54 : (Jvm.Cond.methodLink "GuideSearch$Tests" (3 : Nat) ({ cls := "java/lang/Object", name := "<init>", desc := "()V" } : Jvm.MethodName)) ∈ wg := wgm (i := 83) (by decide +kernel) rfl
theorem k_55 : (Jvm.Cond.classLink "GuideSearch$Tests" (18 : Nat) "[[I") ∈ wg := wgm (i := 84) (by decide +kernel) rfl
theorem k_56 : (Jvm.Cond.arrayOver (Jvm.ClassFile.FieldType.array Jvm.ClassFile.FieldType.int)) ∈ nw := nwm (i := 85) (by decide +kernel) rfl
theorem k_57 : (Jvm.Cond.methodLink "GuideSearch$Tests" (27 : Nat) ({ cls := "java/util/Arrays", name := "fill", desc := "([II)V" } : Jvm.MethodName)) ∈ wg := wgm (i := 86) (by decide +kernel) rfl
theorem k_58 : (Jvm.Cond.static ({ cls := "java/util/Arrays", name := "fill", desc := "([II)V" } : Jvm.MethodName)) ∈ wg := wgm (i := 87) (by decide +kernel) rfl
set_option maxRecDepth 20000 in
theorem k_59 : (Jvm.Cond.code ({ cls := "java/util/Arrays", name := "fill", desc := "([II)V" } : Jvm.MethodName) prog_15_method_103_code (4 : Nat) (Option.none : Option Jvm.ClassFile.FieldType)) ∈ wg := wgm (i := 88) rfl rfl
theorem k_60 : (Jvm.Cond.fieldLink "GuideSearch$Tests" (9 : Nat) "GuideSearch$Tests" "costs" "[I") ∈ wg := wgm (i := 89) (by decide +kernel) rfl
theorem k_61 : (Jvm.Cond.fieldLink "GuideSearch$Tests" (15 : Nat) "GuideSearch$Tests" "needed" "[I") ∈ wg := wgm (i := 90) (by decide +kernel) rfl
theorem k_62 : (Jvm.Cond.fieldLink "GuideSearch$Tests" (20 : Nat) "GuideSearch$Tests" "table" "[[I") ∈ wg := wgm (i := 91) (by decide +kernel) rfl
theorem k_63 : (Jvm.Cond.fieldLink "GuideSearch$Tests" (23 : Nat) "GuideSearch$Tests" "count" "I") ∈ wg := wgm (i := 92) (by decide +kernel) rfl
theorem k_64 : (Jvm.Cond.fieldLinkNest "GuideSearch$Cases" (27 : Nat) "GuideSearch$Tests" "count" "I" "GuideSearch") ∈ nw := nwm (i := 93) (by decide +kernel) rfl
theorem k_65 : (Jvm.Cond.fieldLinkNest "GuideSearch" (65 : Nat) "GuideSearch$Tests" "count" "I" "GuideSearch") ∈ nw := nwm (i := 94) (by decide +kernel) rfl
theorem k_66 : (Jvm.Cond.laysFinal "GuideSearch$Tests" "GuideSearch$Tests" "costs" "[I") ∈ wg := wgm (i := 95) (by decide +kernel) rfl
theorem k_68 : (Jvm.Cond.laysFinal "GuideSearch$Tests" "GuideSearch$Tests" "needed" "[I") ∈ wg := wgm (i := 97) (by decide +kernel) rfl
theorem k_70 : (Jvm.Cond.laysFinal "GuideSearch$Tests" "GuideSearch$Tests" "table" "[[I") ∈ wg := wgm (i := 99) (by decide +kernel) rfl
theorem k_72 : (Jvm.Cond.lays "GuideSearch$Tests" "GuideSearch$Tests" "count" "I") ∈ wg := wgm (i := 101) (by decide +kernel) rfl
theorem k_80 : (Jvm.Cond.methodLink "GuideSearch$Cases" (3 : Nat) ({ cls := "java/lang/Object", name := "<init>", desc := "()V" } : Jvm.MethodName)) ∈ wg := wgm (i := 109) (by decide +kernel) rfl
theorem k_81 : (Jvm.Cond.fieldLink "GuideSearch$Cases" (9 : Nat) "GuideSearch$Cases" "causes" "LGuideSearch$Causes;") ∈ wg := wgm (i := 110) (by decide +kernel) rfl
theorem k_82 : (Jvm.Cond.fieldLink "GuideSearch$Cases" (15 : Nat) "GuideSearch$Cases" "tests" "LGuideSearch$Tests;") ∈ wg := wgm (i := 111) (by decide +kernel) rfl
theorem k_83 : (Jvm.Cond.fieldLinkNest "GuideSearch$Plan" (82 : Nat) "GuideSearch$Cases" "tests" "LGuideSearch$Tests;" "GuideSearch") ∈ nw := nwm (i := 112) (by decide +kernel) rfl
theorem k_84 : (Jvm.Cond.laysFinal "GuideSearch$Cases" "GuideSearch$Cases" "causes" "LGuideSearch$Causes;") ∈ wg := wgm (i := 113) (by decide +kernel) rfl
theorem k_86 : (Jvm.Cond.laysFinal "GuideSearch$Cases" "GuideSearch$Cases" "tests" "LGuideSearch$Tests;") ∈ wg := wgm (i := 115) (by decide +kernel) rfl
theorem k_94 : (Jvm.Cond.methodLink "GuideSearch$Plan" (3 : Nat) ({ cls := "java/lang/Object", name := "<init>", desc := "()V" } : Jvm.MethodName)) ∈ wg := wgm (i := 123) (by decide +kernel) rfl
theorem k_95 : (Jvm.Cond.classLink "GuideSearch$Plan" (19 : Nat) "[[J") ∈ wg := wgm (i := 124) (by decide +kernel) rfl
theorem k_96 : (Jvm.Cond.arrayOver (Jvm.ClassFile.FieldType.array Jvm.ClassFile.FieldType.long)) ∈ nw := nwm (i := 125) (by decide +kernel) rfl
theorem k_97 : (Jvm.Cond.constantLong "GuideSearch$Plan" (37 : Nat) (-1 : Int64)) ∈ wg := wgm (i := 126) (by decide +kernel) rfl
theorem k_98 : (Jvm.Cond.fieldLink "GuideSearch$Plan" (43 : Nat) "GuideSearch$Plan" "cases" "LGuideSearch$Cases;") ∈ wg := wgm (i := 127) (by decide +kernel) rfl
theorem k_99 : (Jvm.Cond.fieldLink "GuideSearch$Plan" (9 : Nat) "GuideSearch$Plan" "values" "[J") ∈ wg := wgm (i := 128) (by decide +kernel) rfl
theorem k_100 : (Jvm.Cond.fieldLink "GuideSearch$Plan" (15 : Nat) "GuideSearch$Plan" "picks" "[B") ∈ wg := wgm (i := 129) (by decide +kernel) rfl
theorem k_101 : (Jvm.Cond.fieldLink "GuideSearch$Plan" (21 : Nat) "GuideSearch$Plan" "weights" "[[J") ∈ wg := wgm (i := 130) (by decide +kernel) rfl
theorem k_102 : (Jvm.Cond.fieldLink "GuideSearch$Plan" (24 : Nat) "GuideSearch$Plan" "nodeTests" "[B") ∈ wg := wgm (i := 131) (by decide +kernel) rfl
theorem k_103 : (Jvm.Cond.fieldLink "GuideSearch$Plan" (27 : Nat) "GuideSearch$Plan" "nodeLefts" "[B") ∈ wg := wgm (i := 132) (by decide +kernel) rfl
theorem k_104 : (Jvm.Cond.fieldLink "GuideSearch$Plan" (30 : Nat) "GuideSearch$Plan" "nodeAnswers" "[B") ∈ wg := wgm (i := 133) (by decide +kernel) rfl
theorem k_105 : (Jvm.Cond.fieldLink "GuideSearch$Plan" (33 : Nat) "GuideSearch$Plan" "nodes" "I") ∈ wg := wgm (i := 134) (by decide +kernel) rfl
theorem k_106 : (Jvm.Cond.fieldLinkNest "GuideSearch" (172 : Nat) "GuideSearch$Plan" "nodes" "I" "GuideSearch") ∈ nw := nwm (i := 135) (by decide +kernel) rfl
theorem k_107 : (Jvm.Cond.fieldLink "GuideSearch$Plan" (39 : Nat) "GuideSearch$Plan" "thousandths" "J") ∈ wg := wgm (i := 136) (by decide +kernel) rfl
theorem k_108 : (Jvm.Cond.fieldLinkNest "GuideSearch" (156 : Nat) "GuideSearch$Plan" "thousandths" "J" "GuideSearch") ∈ nw := nwm (i := 137) (by decide +kernel) rfl
theorem k_109 : (Jvm.Cond.laysFinal "GuideSearch$Plan" "GuideSearch$Plan" "cases" "LGuideSearch$Cases;") ∈ wg := wgm (i := 138) (by decide +kernel) rfl
theorem k_111 : (Jvm.Cond.laysFinal "GuideSearch$Plan" "GuideSearch$Plan" "values" "[J") ∈ wg := wgm (i := 140) (by decide +kernel) rfl
theorem k_113 : (Jvm.Cond.laysFinal "GuideSearch$Plan" "GuideSearch$Plan" "picks" "[B") ∈ wg := wgm (i := 142) (by decide +kernel) rfl
theorem k_115 : (Jvm.Cond.laysFinal "GuideSearch$Plan" "GuideSearch$Plan" "weights" "[[J") ∈ wg := wgm (i := 144) (by decide +kernel) rfl
theorem k_117 : (Jvm.Cond.laysFinal "GuideSearch$Plan" "GuideSearch$Plan" "nodeTests" "[B") ∈ wg := wgm (i := 146) (by decide +kernel) rfl
theorem k_119 : (Jvm.Cond.laysFinal "GuideSearch$Plan" "GuideSearch$Plan" "nodeLefts" "[B") ∈ wg := wgm (i := 148) (by decide +kernel) rfl
theorem k_121 : (Jvm.Cond.laysFinal "GuideSearch$Plan" "GuideSearch$Plan" "nodeAnswers" "[B") ∈ wg := wgm (i := 150) (by decide +kernel) rfl
theorem k_123 : (Jvm.Cond.lays "GuideSearch$Plan" "GuideSearch$Plan" "nodes" "I") ∈ wg := wgm (i := 152) (by decide +kernel) rfl
theorem k_125 : (Jvm.Cond.lays "GuideSearch$Plan" "GuideSearch$Plan" "thousandths" "J") ∈ wg := wgm (i := 154) (by decide +kernel) rfl
theorem k_128 : (Jvm.Cond.arrayClass Jvm.ClassFile.FieldType.byte) ∈ wg := wgm (i := 157) (by decide +kernel) rfl
theorem k_129 : (Jvm.Cond.fieldLink "GuideSearch" (12 : Nat) "GuideSearch" "causes" "LGuideSearch$Causes;") ∈ wg := wgm (i := 158) (by decide +kernel) rfl
theorem k_130 : (Jvm.Cond.fieldLink "GuideSearch" (19 : Nat) "GuideSearch" "tests" "LGuideSearch$Tests;") ∈ wg := wgm (i := 159) (by decide +kernel) rfl
theorem k_131 : (Jvm.Cond.fieldLink "GuideSearch" (28 : Nat) "GuideSearch" "cases" "LGuideSearch$Cases;") ∈ wg := wgm (i := 160) (by decide +kernel) rfl
theorem k_132 : (Jvm.Cond.fieldLink "GuideSearch" (37 : Nat) "GuideSearch" "plan" "LGuideSearch$Plan;") ∈ wg := wgm (i := 161) (by decide +kernel) rfl
theorem k_133 : (Jvm.Cond.fieldLink "GuideSearch" (41 : Nat) "GuideSearch" "open" "I") ∈ wg := wgm (i := 162) (by decide +kernel) rfl
theorem k_134 : (Jvm.Cond.fieldLink "GuideSearch" (45 : Nat) "GuideSearch" "planned" "Z") ∈ wg := wgm (i := 163) (by decide +kernel) rfl
theorem k_135 : (Jvm.Cond.laysFinal "GuideSearch" "GuideSearch" "causes" "LGuideSearch$Causes;") ∈ wg := wgm (i := 164) (by decide +kernel) rfl
theorem k_137 : (Jvm.Cond.laysFinal "GuideSearch" "GuideSearch" "tests" "LGuideSearch$Tests;") ∈ wg := wgm (i := 166) (by decide +kernel) rfl
theorem k_139 : (Jvm.Cond.laysFinal "GuideSearch" "GuideSearch" "cases" "LGuideSearch$Cases;") ∈ wg := wgm (i := 168) (by decide +kernel) rfl
theorem k_141 : (Jvm.Cond.laysFinal "GuideSearch" "GuideSearch" "plan" "LGuideSearch$Plan;") ∈ wg := wgm (i := 170) (by decide +kernel) rfl
theorem k_143 : (Jvm.Cond.lays "GuideSearch" "GuideSearch" "open" "I") ∈ wg := wgm (i := 172) (by decide +kernel) rfl
theorem k_145 : (Jvm.Cond.lays "GuideSearch" "GuideSearch" "planned" "Z") ∈ wg := wgm (i := 174) (by decide +kernel) rfl
theorem k_152 : (Jvm.Cond.constantLong "GuideSearch" (49 : Nat) (10 : Int64)) ∈ wg := wgm (i := 181) (by decide +kernel) rfl
theorem k_153 : (Jvm.Cond.constantLong "GuideSearch" (57 : Nat) (2520 : Int64)) ∈ wg := wgm (i := 182) (by decide +kernel) rfl
theorem k_154 : (Jvm.Cond.methodLink "GuideSearch" (59 : Nat) ({ cls := "GuideSearch$Causes", name := "addFault", desc := "(J)I" } : Jvm.MethodName)) ∈ wg := wgm (i := 183) (by decide +kernel) rfl
theorem k_155 : (Jvm.Cond.instanceMethod ({ cls := "GuideSearch$Causes", name := "addFault", desc := "(J)I" } : Jvm.MethodName)) ∈ wg := wgm (i := 184) (by decide +kernel) rfl
theorem k_156 : (Jvm.Cond.selects "GuideSearch$Causes" ({ cls := "GuideSearch$Causes", name := "addFault", desc := "(J)I" } : Jvm.MethodName) ({ cls := "GuideSearch$Causes", name := "addFault", desc := "(J)I" } : Jvm.MethodName)) ∈ wg := wgm (i := 185) (by decide +kernel) rfl
set_option maxRecDepth 20000 in
theorem k_157 : (Jvm.Cond.code ({ cls := "GuideSearch$Causes", name := "addFault", desc := "(J)I" } : Jvm.MethodName) prog_3_method_5_code (3 : Nat) (Option.some Jvm.ClassFile.FieldType.int)) ∈ wg := wgm (i := 186) rfl rfl
theorem k_158 : (Jvm.Cond.constantLong "GuideSearch$Causes" (33 : Nat) (2520 : Int64)) ∈ wg := wgm (i := 187) (by decide +kernel) rfl
theorem k_163 : (Jvm.Cond.constantLong "GuideSearch" (63 : Nat) (400 : Int64)) ∈ wg := wgm (i := 192) (by decide +kernel) rfl
theorem k_164 : (Jvm.Cond.methodLink "GuideSearch" (66 : Nat) ({ cls := "GuideSearch$Tests", name := "add", desc := "(I)I" } : Jvm.MethodName)) ∈ wg := wgm (i := 193) (by decide +kernel) rfl
theorem k_165 : (Jvm.Cond.instanceMethod ({ cls := "GuideSearch$Tests", name := "add", desc := "(I)I" } : Jvm.MethodName)) ∈ wg := wgm (i := 194) (by decide +kernel) rfl
theorem k_166 : (Jvm.Cond.selects "GuideSearch$Tests" ({ cls := "GuideSearch$Tests", name := "add", desc := "(I)I" } : Jvm.MethodName) ({ cls := "GuideSearch$Tests", name := "add", desc := "(I)I" } : Jvm.MethodName)) ∈ wg := wgm (i := 195) (by decide +kernel) rfl
set_option maxRecDepth 20000 in
theorem k_167 : (Jvm.Cond.code ({ cls := "GuideSearch$Tests", name := "add", desc := "(I)I" } : Jvm.MethodName) prog_5_method_3_code (2 : Nat) (Option.some Jvm.ClassFile.FieldType.int)) ∈ wg := wgm (i := 196) rfl rfl
theorem k_172 : (Jvm.Cond.methodLink "GuideSearch" (70 : Nat) ({ cls := "GuideSearch$Tests", name := "knows", desc := "(I)Z" } : Jvm.MethodName)) ∈ wg := wgm (i := 201) (by decide +kernel) rfl
theorem k_173 : (Jvm.Cond.instanceMethod ({ cls := "GuideSearch$Tests", name := "knows", desc := "(I)Z" } : Jvm.MethodName)) ∈ wg := wgm (i := 202) (by decide +kernel) rfl
theorem k_174 : (Jvm.Cond.selects "GuideSearch$Tests" ({ cls := "GuideSearch$Tests", name := "knows", desc := "(I)Z" } : Jvm.MethodName) ({ cls := "GuideSearch$Tests", name := "knows", desc := "(I)Z" } : Jvm.MethodName)) ∈ wg := wgm (i := 203) (by decide +kernel) rfl
set_option maxRecDepth 20000 in
theorem k_175 : (Jvm.Cond.code ({ cls := "GuideSearch$Tests", name := "knows", desc := "(I)Z" } : Jvm.MethodName) prog_5_method_2_code (2 : Nat) (Option.some Jvm.ClassFile.FieldType.boolean)) ∈ wg := wgm (i := 204) rfl rfl
theorem k_176 : (Jvm.Cond.methodLink "GuideSearch" (74 : Nat) ({ cls := "GuideSearch$Causes", name := "knows", desc := "(I)Z" } : Jvm.MethodName)) ∈ wg := wgm (i := 205) (by decide +kernel) rfl
theorem k_177 : (Jvm.Cond.instanceMethod ({ cls := "GuideSearch$Causes", name := "knows", desc := "(I)Z" } : Jvm.MethodName)) ∈ wg := wgm (i := 206) (by decide +kernel) rfl
theorem k_178 : (Jvm.Cond.selects "GuideSearch$Causes" ({ cls := "GuideSearch$Causes", name := "knows", desc := "(I)Z" } : Jvm.MethodName) ({ cls := "GuideSearch$Causes", name := "knows", desc := "(I)Z" } : Jvm.MethodName)) ∈ wg := wgm (i := 207) (by decide +kernel) rfl
set_option maxRecDepth 20000 in
theorem k_179 : (Jvm.Cond.code ({ cls := "GuideSearch$Causes", name := "knows", desc := "(I)Z" } : Jvm.MethodName) prog_3_method_2_code (2 : Nat) (Option.some Jvm.ClassFile.FieldType.boolean)) ∈ wg := wgm (i := 208) rfl rfl
theorem k_180 : (Jvm.Cond.methodLink "GuideSearch" (75 : Nat) ({ cls := "GuideSearch", name := "isAnswer", desc := "(I)Z" } : Jvm.MethodName)) ∈ wg := wgm (i := 209) (by decide +kernel) rfl
theorem k_181 : (Jvm.Cond.static ({ cls := "GuideSearch", name := "isAnswer", desc := "(I)Z" } : Jvm.MethodName)) ∈ wg := wgm (i := 210) (by decide +kernel) rfl
set_option maxRecDepth 20000 in
theorem k_182 : (Jvm.Cond.code ({ cls := "GuideSearch", name := "isAnswer", desc := "(I)Z" } : Jvm.MethodName) prog_1_method_15_code (1 : Nat) (Option.some Jvm.ClassFile.FieldType.boolean)) ∈ wg := wgm (i := 211) rfl rfl
theorem k_183 : (Jvm.Cond.methodLink "GuideSearch" (78 : Nat) ({ cls := "GuideSearch", name := "isPartOfTwelve", desc := "(JJ)Z" } : Jvm.MethodName)) ∈ wg := wgm (i := 212) (by decide +kernel) rfl
theorem k_184 : (Jvm.Cond.static ({ cls := "GuideSearch", name := "isPartOfTwelve", desc := "(JJ)Z" } : Jvm.MethodName)) ∈ wg := wgm (i := 213) (by decide +kernel) rfl
set_option maxRecDepth 20000 in
theorem k_185 : (Jvm.Cond.code ({ cls := "GuideSearch", name := "isPartOfTwelve", desc := "(JJ)Z" } : Jvm.MethodName) prog_1_method_16_code (4 : Nat) (Option.some Jvm.ClassFile.FieldType.boolean)) ∈ wg := wgm (i := 214) rfl rfl
theorem k_186 : (Jvm.Cond.constantLong "GuideSearch" (82 : Nat) (12 : Int64)) ∈ wg := wgm (i := 215) (by decide +kernel) rfl
theorem k_187 : (Jvm.Cond.methodLink "GuideSearch" (84 : Nat) ({ cls := "GuideSearch$Tests", name := "together", desc := "(II)I" } : Jvm.MethodName)) ∈ wg := wgm (i := 216) (by decide +kernel) rfl
theorem k_188 : (Jvm.Cond.instanceMethod ({ cls := "GuideSearch$Tests", name := "together", desc := "(II)I" } : Jvm.MethodName)) ∈ wg := wgm (i := 217) (by decide +kernel) rfl
theorem k_189 : (Jvm.Cond.selects "GuideSearch$Tests" ({ cls := "GuideSearch$Tests", name := "together", desc := "(II)I" } : Jvm.MethodName) ({ cls := "GuideSearch$Tests", name := "together", desc := "(II)I" } : Jvm.MethodName)) ∈ wg := wgm (i := 218) (by decide +kernel) rfl
set_option maxRecDepth 20000 in
theorem k_190 : (Jvm.Cond.code ({ cls := "GuideSearch$Tests", name := "together", desc := "(II)I" } : Jvm.MethodName) prog_5_method_7_code (5 : Nat) (Option.some Jvm.ClassFile.FieldType.int)) ∈ wg := wgm (i := 219) rfl rfl
theorem k_191 : (Jvm.Cond.methodLink "GuideSearch$Tests" (41 : Nat) ({ cls := "GuideSearch$Tests", name := "twelfths", desc := "(III)I" } : Jvm.MethodName)) ∈ wg := wgm (i := 220) (by decide +kernel) rfl
theorem k_192 : (Jvm.Cond.instanceMethod ({ cls := "GuideSearch$Tests", name := "twelfths", desc := "(III)I" } : Jvm.MethodName)) ∈ wg := wgm (i := 221) (by decide +kernel) rfl
theorem k_193 : (Jvm.Cond.selects "GuideSearch$Tests" ({ cls := "GuideSearch$Tests", name := "twelfths", desc := "(III)I" } : Jvm.MethodName) ({ cls := "GuideSearch$Tests", name := "twelfths", desc := "(III)I" } : Jvm.MethodName)) ∈ wg := wgm (i := 222) (by decide +kernel) rfl
set_option maxRecDepth 20000 in
theorem k_194 : (Jvm.Cond.code ({ cls := "GuideSearch$Tests", name := "twelfths", desc := "(III)I" } : Jvm.MethodName) prog_5_method_5_code (4 : Nat) (Option.some Jvm.ClassFile.FieldType.int)) ∈ wg := wgm (i := 223) rfl rfl
theorem k_195 : (Jvm.Cond.methodLink "GuideSearch$Tests" (37 : Nat) ({ cls := "GuideSearch$Tests", name := "hasPlace", desc := "(II)Z" } : Jvm.MethodName)) ∈ wg := wgm (i := 224) (by decide +kernel) rfl
theorem k_197 : (Jvm.Cond.instanceMethod ({ cls := "GuideSearch$Tests", name := "hasPlace", desc := "(II)Z" } : Jvm.MethodName)) ∈ wg := wgm (i := 226) (by decide +kernel) rfl
set_option maxRecDepth 20000 in
theorem k_198 : (Jvm.Cond.code ({ cls := "GuideSearch$Tests", name := "hasPlace", desc := "(II)Z" } : Jvm.MethodName) prog_5_method_14_code (3 : Nat) (Option.some Jvm.ClassFile.FieldType.boolean)) ∈ wg := wgm (i := 227) rfl rfl
theorem k_199 : (Jvm.Cond.methodLink "GuideSearch$Tests" (33 : Nat) ({ cls := "GuideSearch$Tests", name := "knows", desc := "(I)Z" } : Jvm.MethodName)) ∈ wg := wgm (i := 228) (by decide +kernel) rfl
theorem k_200 : (Jvm.Cond.methodLink "GuideSearch" (88 : Nat) ({ cls := "GuideSearch$Tests", name := "twelfths", desc := "(III)I" } : Jvm.MethodName)) ∈ wg := wgm (i := 229) (by decide +kernel) rfl
theorem k_201 : (Jvm.Cond.methodLink "GuideSearch" (92 : Nat) ({ cls := "GuideSearch", name := "answerIn", desc := "(II)I" } : Jvm.MethodName)) ∈ wg := wgm (i := 230) (by decide +kernel) rfl
theorem k_202 : (Jvm.Cond.static ({ cls := "GuideSearch", name := "answerIn", desc := "(II)I" } : Jvm.MethodName)) ∈ wg := wgm (i := 231) (by decide +kernel) rfl
set_option maxRecDepth 20000 in
theorem k_203 : (Jvm.Cond.code ({ cls := "GuideSearch", name := "answerIn", desc := "(II)I" } : Jvm.MethodName) prog_1_method_19_code (2 : Nat) (Option.some Jvm.ClassFile.FieldType.int)) ∈ wg := wgm (i := 232) rfl rfl
theorem k_204 : (Jvm.Cond.methodLink "GuideSearch" (95 : Nat) ({ cls := "GuideSearch$Tests", name := "setTwelfths", desc := "(IIII)V" } : Jvm.MethodName)) ∈ wg := wgm (i := 233) (by decide +kernel) rfl
theorem k_205 : (Jvm.Cond.instanceMethod ({ cls := "GuideSearch$Tests", name := "setTwelfths", desc := "(IIII)V" } : Jvm.MethodName)) ∈ wg := wgm (i := 234) (by decide +kernel) rfl
theorem k_206 : (Jvm.Cond.selects "GuideSearch$Tests" ({ cls := "GuideSearch$Tests", name := "setTwelfths", desc := "(IIII)V" } : Jvm.MethodName) ({ cls := "GuideSearch$Tests", name := "setTwelfths", desc := "(IIII)V" } : Jvm.MethodName)) ∈ wg := wgm (i := 235) (by decide +kernel) rfl
set_option maxRecDepth 20000 in
theorem k_207 : (Jvm.Cond.code ({ cls := "GuideSearch$Tests", name := "setTwelfths", desc := "(IIII)V" } : Jvm.MethodName) prog_5_method_6_code (6 : Nat) (Option.none : Option Jvm.ClassFile.FieldType)) ∈ wg := wgm (i := 236) rfl rfl
theorem k_212 : (Jvm.Cond.methodLink "GuideSearch" (99 : Nat) ({ cls := "GuideSearch$Tests", name := "allNeededBy", desc := "(I)I" } : Jvm.MethodName)) ∈ wg := wgm (i := 241) (by decide +kernel) rfl
theorem k_213 : (Jvm.Cond.instanceMethod ({ cls := "GuideSearch$Tests", name := "allNeededBy", desc := "(I)I" } : Jvm.MethodName)) ∈ wg := wgm (i := 242) (by decide +kernel) rfl
theorem k_214 : (Jvm.Cond.selects "GuideSearch$Tests" ({ cls := "GuideSearch$Tests", name := "allNeededBy", desc := "(I)I" } : Jvm.MethodName) ({ cls := "GuideSearch$Tests", name := "allNeededBy", desc := "(I)I" } : Jvm.MethodName)) ∈ wg := wgm (i := 243) (by decide +kernel) rfl
set_option maxRecDepth 20000 in
theorem k_215 : (Jvm.Cond.code ({ cls := "GuideSearch$Tests", name := "allNeededBy", desc := "(I)I" } : Jvm.MethodName) prog_5_method_9_code (5 : Nat) (Option.some Jvm.ClassFile.FieldType.int)) ∈ wg := wgm (i := 244) rfl rfl
theorem k_216 : (Jvm.Cond.methodLinkNest "GuideSearch$Tests" (54 : Nat) ({ cls := "GuideSearch", name := "holds", desc := "(II)Z" } : Jvm.MethodName) "GuideSearch") ∈ nw := nwm (i := 245) (by decide +kernel) rfl
theorem k_217 : (Jvm.Cond.static ({ cls := "GuideSearch", name := "holds", desc := "(II)Z" } : Jvm.MethodName)) ∈ wg := wgm (i := 246) (by decide +kernel) rfl
set_option maxRecDepth 20000 in
theorem k_218 : (Jvm.Cond.code ({ cls := "GuideSearch", name := "holds", desc := "(II)Z" } : Jvm.MethodName) prog_1_method_18_code (2 : Nat) (Option.some Jvm.ClassFile.FieldType.boolean)) ∈ wg := wgm (i := 247) rfl rfl
theorem k_219 : (Jvm.Cond.methodLink "GuideSearch" (102 : Nat) ({ cls := "GuideSearch", name := "bit", desc := "(I)I" } : Jvm.MethodName)) ∈ wg := wgm (i := 248) (by decide +kernel) rfl
theorem k_220 : (Jvm.Cond.static ({ cls := "GuideSearch", name := "bit", desc := "(I)I" } : Jvm.MethodName)) ∈ wg := wgm (i := 249) (by decide +kernel) rfl
set_option maxRecDepth 20000 in
theorem k_221 : (Jvm.Cond.code ({ cls := "GuideSearch", name := "bit", desc := "(I)I" } : Jvm.MethodName) prog_1_method_17_code (1 : Nat) (Option.some Jvm.ClassFile.FieldType.int)) ∈ wg := wgm (i := 250) rfl rfl
theorem k_222 : (Jvm.Cond.methodLink "GuideSearch" (105 : Nat) ({ cls := "GuideSearch$Tests", name := "addNeed", desc := "(II)I" } : Jvm.MethodName)) ∈ wg := wgm (i := 251) (by decide +kernel) rfl
theorem k_223 : (Jvm.Cond.instanceMethod ({ cls := "GuideSearch$Tests", name := "addNeed", desc := "(II)I" } : Jvm.MethodName)) ∈ wg := wgm (i := 252) (by decide +kernel) rfl
theorem k_224 : (Jvm.Cond.selects "GuideSearch$Tests" ({ cls := "GuideSearch$Tests", name := "addNeed", desc := "(II)I" } : Jvm.MethodName) ({ cls := "GuideSearch$Tests", name := "addNeed", desc := "(II)I" } : Jvm.MethodName)) ∈ wg := wgm (i := 253) (by decide +kernel) rfl
set_option maxRecDepth 20000 in
theorem k_225 : (Jvm.Cond.code ({ cls := "GuideSearch$Tests", name := "addNeed", desc := "(II)I" } : Jvm.MethodName) prog_5_method_8_code (3 : Nat) (Option.some Jvm.ClassFile.FieldType.int)) ∈ wg := wgm (i := 254) rfl rfl
theorem k_226 : (Jvm.Cond.methodLinkNest "GuideSearch$Tests" (45 : Nat) ({ cls := "GuideSearch", name := "bit", desc := "(I)I" } : Jvm.MethodName) "GuideSearch") ∈ nw := nwm (i := 255) (by decide +kernel) rfl
theorem k_227 : (Jvm.Cond.methodLink "GuideSearch$Tests" (49 : Nat) ({ cls := "java/lang/Integer", name := "bitCount", desc := "(I)I" } : Jvm.MethodName)) ∈ wg := wgm (i := 256) (by decide +kernel) rfl
theorem k_228 : (Jvm.Cond.static ({ cls := "java/lang/Integer", name := "bitCount", desc := "(I)I" } : Jvm.MethodName)) ∈ wg := wgm (i := 257) (by decide +kernel) rfl
set_option maxRecDepth 20000 in
theorem k_229 : (Jvm.Cond.code ({ cls := "java/lang/Integer", name := "bitCount", desc := "(I)I" } : Jvm.MethodName) prog_10_method_49_code (1 : Nat) (Option.some Jvm.ClassFile.FieldType.int)) ∈ wg := wgm (i := 258) rfl rfl
theorem k_230 : (Jvm.Cond.constant "java/lang/Integer" (265 : Nat) (1431655765 : Int32)) ∈ wg := wgm (i := 259) (by decide +kernel) rfl
theorem k_231 : (Jvm.Cond.constant "java/lang/Integer" (266 : Nat) (858993459 : Int32)) ∈ wg := wgm (i := 260) (by decide +kernel) rfl
theorem k_232 : (Jvm.Cond.constant "java/lang/Integer" (267 : Nat) (252645135 : Int32)) ∈ wg := wgm (i := 261) (by decide +kernel) rfl
theorem k_237 : (Jvm.Cond.methodLink "GuideSearch" (108 : Nat) ({ cls := "GuideSearch$Tests", name := "unanswered", desc := "(I)I" } : Jvm.MethodName)) ∈ wg := wgm (i := 266) (by decide +kernel) rfl
theorem k_238 : (Jvm.Cond.instanceMethod ({ cls := "GuideSearch$Tests", name := "unanswered", desc := "(I)I" } : Jvm.MethodName)) ∈ wg := wgm (i := 267) (by decide +kernel) rfl
theorem k_239 : (Jvm.Cond.selects "GuideSearch$Tests" ({ cls := "GuideSearch$Tests", name := "unanswered", desc := "(I)I" } : Jvm.MethodName) ({ cls := "GuideSearch$Tests", name := "unanswered", desc := "(I)I" } : Jvm.MethodName)) ∈ wg := wgm (i := 268) (by decide +kernel) rfl
set_option maxRecDepth 20000 in
theorem k_240 : (Jvm.Cond.code ({ cls := "GuideSearch$Tests", name := "unanswered", desc := "(I)I" } : Jvm.MethodName) prog_5_method_10_code (4 : Nat) (Option.some Jvm.ClassFile.FieldType.int)) ∈ wg := wgm (i := 269) rfl rfl
theorem k_241 : (Jvm.Cond.methodLinkNest "GuideSearch$Tests" (57 : Nat) ({ cls := "GuideSearch", name := "answerIn", desc := "(II)I" } : Jvm.MethodName) "GuideSearch") ∈ nw := nwm (i := 270) (by decide +kernel) rfl
theorem k_242 : (Jvm.Cond.methodLink "GuideSearch" (111 : Nat) ({ cls := "GuideSearch$Plan", name := "make", desc := "(I)I" } : Jvm.MethodName)) ∈ wg := wgm (i := 271) (by decide +kernel) rfl
theorem k_243 : (Jvm.Cond.instanceMethod ({ cls := "GuideSearch$Plan", name := "make", desc := "(I)I" } : Jvm.MethodName)) ∈ wg := wgm (i := 272) (by decide +kernel) rfl
theorem k_244 : (Jvm.Cond.selects "GuideSearch$Plan" ({ cls := "GuideSearch$Plan", name := "make", desc := "(I)I" } : Jvm.MethodName) ({ cls := "GuideSearch$Plan", name := "make", desc := "(I)I" } : Jvm.MethodName)) ∈ wg := wgm (i := 273) (by decide +kernel) rfl
set_option maxRecDepth 20000 in
theorem k_245 : (Jvm.Cond.code ({ cls := "GuideSearch$Plan", name := "make", desc := "(I)I" } : Jvm.MethodName) prog_4_method_3_code (4 : Nat) (Option.some Jvm.ClassFile.FieldType.int)) ∈ wg := wgm (i := 274) rfl rfl
theorem k_246 : (Jvm.Cond.methodLink "GuideSearch$Plan" (47 : Nat) ({ cls := "GuideSearch$Plan", name := "drop", desc := "()V" } : Jvm.MethodName)) ∈ wg := wgm (i := 275) (by decide +kernel) rfl
theorem k_247 : (Jvm.Cond.instanceMethod ({ cls := "GuideSearch$Plan", name := "drop", desc := "()V" } : Jvm.MethodName)) ∈ wg := wgm (i := 276) (by decide +kernel) rfl
theorem k_248 : (Jvm.Cond.selects "GuideSearch$Plan" ({ cls := "GuideSearch$Plan", name := "drop", desc := "()V" } : Jvm.MethodName) ({ cls := "GuideSearch$Plan", name := "drop", desc := "()V" } : Jvm.MethodName)) ∈ wg := wgm (i := 277) (by decide +kernel) rfl
set_option maxRecDepth 20000 in
theorem k_249 : (Jvm.Cond.code ({ cls := "GuideSearch$Plan", name := "drop", desc := "()V" } : Jvm.MethodName) prog_4_method_2_code (1 : Nat) (Option.none : Option Jvm.ClassFile.FieldType)) ∈ wg := wgm (i := 278) rfl rfl
theorem k_250 : (Jvm.Cond.methodLink "GuideSearch$Plan" (50 : Nat) ({ cls := "java/util/Arrays", name := "fill", desc := "([JJ)V" } : Jvm.MethodName)) ∈ wg := wgm (i := 279) (by decide +kernel) rfl
theorem k_251 : (Jvm.Cond.static ({ cls := "java/util/Arrays", name := "fill", desc := "([JJ)V" } : Jvm.MethodName)) ∈ wg := wgm (i := 280) (by decide +kernel) rfl
set_option maxRecDepth 20000 in
theorem k_252 : (Jvm.Cond.code ({ cls := "java/util/Arrays", name := "fill", desc := "([JJ)V" } : Jvm.MethodName) prog_15_method_101_code (5 : Nat) (Option.none : Option Jvm.ClassFile.FieldType)) ∈ wg := wgm (i := 281) rfl rfl
theorem k_253 : (Jvm.Cond.methodLink "GuideSearch$Plan" (56 : Nat) ({ cls := "GuideSearch$Plan", name := "weighFirst", desc := "(I)V" } : Jvm.MethodName)) ∈ wg := wgm (i := 282) (by decide +kernel) rfl
theorem k_255 : (Jvm.Cond.instanceMethod ({ cls := "GuideSearch$Plan", name := "weighFirst", desc := "(I)V" } : Jvm.MethodName)) ∈ wg := wgm (i := 284) (by decide +kernel) rfl
set_option maxRecDepth 20000 in
theorem k_256 : (Jvm.Cond.code ({ cls := "GuideSearch$Plan", name := "weighFirst", desc := "(I)V" } : Jvm.MethodName) prog_4_method_5_code (3 : Nat) (Option.none : Option Jvm.ClassFile.FieldType)) ∈ wg := wgm (i := 285) rfl rfl
theorem k_257 : (Jvm.Cond.methodLink "GuideSearch$Plan" (74 : Nat) ({ cls := "GuideSearch$Cases", name := "weightOf", desc := "(II)J" } : Jvm.MethodName)) ∈ wg := wgm (i := 286) (by decide +kernel) rfl
theorem k_258 : (Jvm.Cond.instanceMethod ({ cls := "GuideSearch$Cases", name := "weightOf", desc := "(II)J" } : Jvm.MethodName)) ∈ wg := wgm (i := 287) (by decide +kernel) rfl
theorem k_259 : (Jvm.Cond.selects "GuideSearch$Cases" ({ cls := "GuideSearch$Cases", name := "weightOf", desc := "(II)J" } : Jvm.MethodName) ({ cls := "GuideSearch$Cases", name := "weightOf", desc := "(II)J" } : Jvm.MethodName)) ∈ wg := wgm (i := 288) (by decide +kernel) rfl
set_option maxRecDepth 20000 in
theorem k_260 : (Jvm.Cond.code ({ cls := "GuideSearch$Cases", name := "weightOf", desc := "(II)J" } : Jvm.MethodName) prog_2_method_2_code (7 : Nat) (Option.some Jvm.ClassFile.FieldType.long)) ∈ wg := wgm (i := 289) rfl rfl
theorem k_261 : (Jvm.Cond.methodLink "GuideSearch$Cases" (19 : Nat) ({ cls := "GuideSearch$Causes", name := "prior", desc := "(I)J" } : Jvm.MethodName)) ∈ wg := wgm (i := 290) (by decide +kernel) rfl
theorem k_262 : (Jvm.Cond.instanceMethod ({ cls := "GuideSearch$Causes", name := "prior", desc := "(I)J" } : Jvm.MethodName)) ∈ wg := wgm (i := 291) (by decide +kernel) rfl
theorem k_263 : (Jvm.Cond.selects "GuideSearch$Causes" ({ cls := "GuideSearch$Causes", name := "prior", desc := "(I)J" } : Jvm.MethodName) ({ cls := "GuideSearch$Causes", name := "prior", desc := "(I)J" } : Jvm.MethodName)) ∈ wg := wgm (i := 292) (by decide +kernel) rfl
set_option maxRecDepth 20000 in
theorem k_264 : (Jvm.Cond.code ({ cls := "GuideSearch$Causes", name := "prior", desc := "(I)J" } : Jvm.MethodName) prog_3_method_8_code (2 : Nat) (Option.some Jvm.ClassFile.FieldType.long)) ∈ wg := wgm (i := 293) rfl rfl
theorem k_265 : (Jvm.Cond.methodLink "GuideSearch$Causes" (29 : Nat) ({ cls := "GuideSearch$Causes", name := "knows", desc := "(I)Z" } : Jvm.MethodName)) ∈ wg := wgm (i := 294) (by decide +kernel) rfl
theorem k_266 : (Jvm.Cond.methodLink "GuideSearch$Causes" (39 : Nat) ({ cls := "java/lang/Math", name := "min", desc := "(II)I" } : Jvm.MethodName)) ∈ wg := wgm (i := 295) (by decide +kernel) rfl
theorem k_267 : (Jvm.Cond.static ({ cls := "java/lang/Math", name := "min", desc := "(II)I" } : Jvm.MethodName)) ∈ wg := wgm (i := 296) (by decide +kernel) rfl
set_option maxRecDepth 20000 in
theorem k_268 : (Jvm.Cond.code ({ cls := "java/lang/Math", name := "min", desc := "(II)I" } : Jvm.MethodName) prog_11_method_69_code (2 : Nat) (Option.some Jvm.ClassFile.FieldType.int)) ∈ wg := wgm (i := 297) rfl rfl
theorem k_269 : (Jvm.Cond.constantLong "GuideSearch$Cases" (25 : Nat) (248832 : Int64)) ∈ wg := wgm (i := 298) (by decide +kernel) rfl
theorem k_270 : (Jvm.Cond.methodLinkNest "GuideSearch$Cases" (33 : Nat) ({ cls := "GuideSearch", name := "answerIn", desc := "(II)I" } : Jvm.MethodName) "GuideSearch") ∈ nw := nwm (i := 299) (by decide +kernel) rfl
theorem k_271 : (Jvm.Cond.constantLong "GuideSearch$Cases" (37 : Nat) (12 : Int64)) ∈ wg := wgm (i := 300) (by decide +kernel) rfl
theorem k_272 : (Jvm.Cond.methodLink "GuideSearch$Cases" (39 : Nat) ({ cls := "GuideSearch$Tests", name := "twelfths", desc := "(III)I" } : Jvm.MethodName)) ∈ wg := wgm (i := 301) (by decide +kernel) rfl
theorem k_273 : (Jvm.Cond.methodLink "GuideSearch$Plan" (60 : Nat) ({ cls := "GuideSearch$Plan", name := "choose", desc := "(II)V" } : Jvm.MethodName)) ∈ wg := wgm (i := 302) (by decide +kernel) rfl
theorem k_275 : (Jvm.Cond.instanceMethod ({ cls := "GuideSearch$Plan", name := "choose", desc := "(II)V" } : Jvm.MethodName)) ∈ wg := wgm (i := 304) (by decide +kernel) rfl
set_option maxRecDepth 20000 in
theorem k_276 : (Jvm.Cond.code ({ cls := "GuideSearch$Plan", name := "choose", desc := "(II)V" } : Jvm.MethodName) prog_4_method_9_code (15 : Nat) (Option.none : Option Jvm.ClassFile.FieldType)) ∈ wg := wgm (i := 305) rfl rfl
theorem k_277 : (Jvm.Cond.methodLink "GuideSearch$Plan" (96 : Nat) ({ cls := "GuideSearch$Plan", name := "leftAt", desc := "(I)I" } : Jvm.MethodName)) ∈ wg := wgm (i := 306) (by decide +kernel) rfl
theorem k_279 : (Jvm.Cond.instanceMethod ({ cls := "GuideSearch$Plan", name := "leftAt", desc := "(I)I" } : Jvm.MethodName)) ∈ wg := wgm (i := 308) (by decide +kernel) rfl
set_option maxRecDepth 20000 in
theorem k_280 : (Jvm.Cond.code ({ cls := "GuideSearch$Plan", name := "leftAt", desc := "(I)I" } : Jvm.MethodName) prog_4_method_8_code (4 : Nat) (Option.some Jvm.ClassFile.FieldType.int)) ∈ wg := wgm (i := 309) rfl rfl
theorem k_281 : (Jvm.Cond.methodLinkNest "GuideSearch$Plan" (92 : Nat) ({ cls := "GuideSearch", name := "bit", desc := "(I)I" } : Jvm.MethodName) "GuideSearch") ∈ nw := nwm (i := 310) (by decide +kernel) rfl
theorem k_282 : (Jvm.Cond.methodLink "GuideSearch$Plan" (99 : Nat) ({ cls := "GuideSearch$Cases", name := "usable", desc := "(II)I" } : Jvm.MethodName)) ∈ wg := wgm (i := 311) (by decide +kernel) rfl
theorem k_283 : (Jvm.Cond.instanceMethod ({ cls := "GuideSearch$Cases", name := "usable", desc := "(II)I" } : Jvm.MethodName)) ∈ wg := wgm (i := 312) (by decide +kernel) rfl
theorem k_284 : (Jvm.Cond.selects "GuideSearch$Cases" ({ cls := "GuideSearch$Cases", name := "usable", desc := "(II)I" } : Jvm.MethodName) ({ cls := "GuideSearch$Cases", name := "usable", desc := "(II)I" } : Jvm.MethodName)) ∈ wg := wgm (i := 313) (by decide +kernel) rfl
set_option maxRecDepth 20000 in
theorem k_285 : (Jvm.Cond.code ({ cls := "GuideSearch$Cases", name := "usable", desc := "(II)I" } : Jvm.MethodName) prog_2_method_6_code (5 : Nat) (Option.some Jvm.ClassFile.FieldType.int)) ∈ wg := wgm (i := 314) rfl rfl
theorem k_286 : (Jvm.Cond.methodLink "GuideSearch$Cases" (58 : Nat) ({ cls := "java/lang/Integer", name := "bitCount", desc := "(I)I" } : Jvm.MethodName)) ∈ wg := wgm (i := 315) (by decide +kernel) rfl
theorem k_287 : (Jvm.Cond.methodLink "GuideSearch$Cases" (63 : Nat) ({ cls := "GuideSearch$Tests", name := "isOpen", desc := "(II)Z" } : Jvm.MethodName)) ∈ wg := wgm (i := 316) (by decide +kernel) rfl
theorem k_288 : (Jvm.Cond.instanceMethod ({ cls := "GuideSearch$Tests", name := "isOpen", desc := "(II)Z" } : Jvm.MethodName)) ∈ wg := wgm (i := 317) (by decide +kernel) rfl
theorem k_289 : (Jvm.Cond.selects "GuideSearch$Tests" ({ cls := "GuideSearch$Tests", name := "isOpen", desc := "(II)Z" } : Jvm.MethodName) ({ cls := "GuideSearch$Tests", name := "isOpen", desc := "(II)Z" } : Jvm.MethodName)) ∈ wg := wgm (i := 318) (by decide +kernel) rfl
set_option maxRecDepth 20000 in
theorem k_290 : (Jvm.Cond.code ({ cls := "GuideSearch$Tests", name := "isOpen", desc := "(II)Z" } : Jvm.MethodName) prog_5_method_11_code (4 : Nat) (Option.some Jvm.ClassFile.FieldType.boolean)) ∈ wg := wgm (i := 319) rfl rfl
theorem k_291 : (Jvm.Cond.methodLink "GuideSearch$Cases" (67 : Nat) ({ cls := "GuideSearch$Tests", name := "tellsApart", desc := "(II)Z" } : Jvm.MethodName)) ∈ wg := wgm (i := 320) (by decide +kernel) rfl
theorem k_292 : (Jvm.Cond.instanceMethod ({ cls := "GuideSearch$Tests", name := "tellsApart", desc := "(II)Z" } : Jvm.MethodName)) ∈ wg := wgm (i := 321) (by decide +kernel) rfl
theorem k_293 : (Jvm.Cond.selects "GuideSearch$Tests" ({ cls := "GuideSearch$Tests", name := "tellsApart", desc := "(II)Z" } : Jvm.MethodName) ({ cls := "GuideSearch$Tests", name := "tellsApart", desc := "(II)Z" } : Jvm.MethodName)) ∈ wg := wgm (i := 322) (by decide +kernel) rfl
set_option maxRecDepth 20000 in
theorem k_294 : (Jvm.Cond.code ({ cls := "GuideSearch$Tests", name := "tellsApart", desc := "(II)Z" } : Jvm.MethodName) prog_5_method_13_code (5 : Nat) (Option.some Jvm.ClassFile.FieldType.boolean)) ∈ wg := wgm (i := 323) rfl rfl
theorem k_295 : (Jvm.Cond.methodLinkNest "GuideSearch$Cases" (54 : Nat) ({ cls := "GuideSearch", name := "bit", desc := "(I)I" } : Jvm.MethodName) "GuideSearch") ∈ nw := nwm (i := 324) (by decide +kernel) rfl
theorem k_296 : (Jvm.Cond.methodLink "GuideSearch$Plan" (103 : Nat) ({ cls := "GuideSearch$Cases", name := "firstFree", desc := "(I)I" } : Jvm.MethodName)) ∈ wg := wgm (i := 325) (by decide +kernel) rfl
theorem k_297 : (Jvm.Cond.instanceMethod ({ cls := "GuideSearch$Cases", name := "firstFree", desc := "(I)I" } : Jvm.MethodName)) ∈ wg := wgm (i := 326) (by decide +kernel) rfl
theorem k_298 : (Jvm.Cond.selects "GuideSearch$Cases" ({ cls := "GuideSearch$Cases", name := "firstFree", desc := "(I)I" } : Jvm.MethodName) ({ cls := "GuideSearch$Cases", name := "firstFree", desc := "(I)I" } : Jvm.MethodName)) ∈ wg := wgm (i := 327) (by decide +kernel) rfl
set_option maxRecDepth 20000 in
theorem k_299 : (Jvm.Cond.code ({ cls := "GuideSearch$Cases", name := "firstFree", desc := "(I)I" } : Jvm.MethodName) prog_2_method_7_code (3 : Nat) (Option.some Jvm.ClassFile.FieldType.int)) ∈ wg := wgm (i := 328) rfl rfl
theorem k_300 : (Jvm.Cond.methodLinkNest "GuideSearch$Cases" (70 : Nat) ({ cls := "GuideSearch", name := "holds", desc := "(II)Z" } : Jvm.MethodName) "GuideSearch") ∈ nw := nwm (i := 329) (by decide +kernel) rfl
theorem k_301 : (Jvm.Cond.methodLink "GuideSearch$Cases" (73 : Nat) ({ cls := "GuideSearch$Tests", name := "price", desc := "(I)I" } : Jvm.MethodName)) ∈ wg := wgm (i := 330) (by decide +kernel) rfl
theorem k_302 : (Jvm.Cond.instanceMethod ({ cls := "GuideSearch$Tests", name := "price", desc := "(I)I" } : Jvm.MethodName)) ∈ wg := wgm (i := 331) (by decide +kernel) rfl
theorem k_303 : (Jvm.Cond.selects "GuideSearch$Tests" ({ cls := "GuideSearch$Tests", name := "price", desc := "(I)I" } : Jvm.MethodName) ({ cls := "GuideSearch$Tests", name := "price", desc := "(I)I" } : Jvm.MethodName)) ∈ wg := wgm (i := 332) (by decide +kernel) rfl
set_option maxRecDepth 20000 in
theorem k_304 : (Jvm.Cond.code ({ cls := "GuideSearch$Tests", name := "price", desc := "(I)I" } : Jvm.MethodName) prog_5_method_4_code (2 : Nat) (Option.some Jvm.ClassFile.FieldType.int)) ∈ wg := wgm (i := 333) rfl rfl
theorem k_305 : (Jvm.Cond.methodLink "GuideSearch$Plan" (64 : Nat) ({ cls := "GuideSearch$Plan", name := "weightAt", desc := "(I)J" } : Jvm.MethodName)) ∈ wg := wgm (i := 334) (by decide +kernel) rfl
theorem k_307 : (Jvm.Cond.instanceMethod ({ cls := "GuideSearch$Plan", name := "weightAt", desc := "(I)J" } : Jvm.MethodName)) ∈ wg := wgm (i := 336) (by decide +kernel) rfl
set_option maxRecDepth 20000 in
theorem k_308 : (Jvm.Cond.code ({ cls := "GuideSearch$Plan", name := "weightAt", desc := "(I)J" } : Jvm.MethodName) prog_4_method_7_code (5 : Nat) (Option.some Jvm.ClassFile.FieldType.long)) ∈ wg := wgm (i := 337) rfl rfl
theorem k_309 : (Jvm.Cond.methodLink "GuideSearch$Plan" (106 : Nat) ({ cls := "java/lang/Integer", name := "bitCount", desc := "(I)I" } : Jvm.MethodName)) ∈ wg := wgm (i := 338) (by decide +kernel) rfl
theorem k_310 : (Jvm.Cond.methodLink "GuideSearch$Plan" (111 : Nat) ({ cls := "java/lang/Math", name := "max", desc := "(II)I" } : Jvm.MethodName)) ∈ wg := wgm (i := 339) (by decide +kernel) rfl
theorem k_311 : (Jvm.Cond.static ({ cls := "java/lang/Math", name := "max", desc := "(II)I" } : Jvm.MethodName)) ∈ wg := wgm (i := 340) (by decide +kernel) rfl
set_option maxRecDepth 20000 in
theorem k_312 : (Jvm.Cond.code ({ cls := "java/lang/Math", name := "max", desc := "(II)I" } : Jvm.MethodName) prog_11_method_65_code (2 : Nat) (Option.some Jvm.ClassFile.FieldType.int)) ∈ wg := wgm (i := 341) rfl rfl
theorem k_313 : (Jvm.Cond.methodLinkNest "GuideSearch$Plan" (116 : Nat) ({ cls := "GuideSearch", name := "holds", desc := "(II)Z" } : Jvm.MethodName) "GuideSearch") ∈ nw := nwm (i := 342) (by decide +kernel) rfl
theorem k_314 : (Jvm.Cond.methodLink "GuideSearch$Plan" (120 : Nat) ({ cls := "GuideSearch$Tests", name := "price", desc := "(I)I" } : Jvm.MethodName)) ∈ wg := wgm (i := 343) (by decide +kernel) rfl
theorem k_315 : (Jvm.Cond.methodLink "GuideSearch$Plan" (123 : Nat) ({ cls := "GuideSearch$Plan", name := "valuesBehind", desc := "(III)J" } : Jvm.MethodName)) ∈ wg := wgm (i := 344) (by decide +kernel) rfl
theorem k_317 : (Jvm.Cond.instanceMethod ({ cls := "GuideSearch$Plan", name := "valuesBehind", desc := "(III)J" } : Jvm.MethodName)) ∈ wg := wgm (i := 346) (by decide +kernel) rfl
set_option maxRecDepth 20000 in
theorem k_318 : (Jvm.Cond.code ({ cls := "GuideSearch$Plan", name := "valuesBehind", desc := "(III)J" } : Jvm.MethodName) prog_4_method_10_code (8 : Nat) (Option.some Jvm.ClassFile.FieldType.long)) ∈ wg := wgm (i := 347) rfl rfl
theorem k_319 : (Jvm.Cond.methodLinkNest "GuideSearch$Plan" (127 : Nat) ({ cls := "GuideSearch", name := "withAnswer", desc := "(III)I" } : Jvm.MethodName) "GuideSearch") ∈ nw := nwm (i := 348) (by decide +kernel) rfl
theorem k_320 : (Jvm.Cond.static ({ cls := "GuideSearch", name := "withAnswer", desc := "(III)I" } : Jvm.MethodName)) ∈ wg := wgm (i := 349) (by decide +kernel) rfl
set_option maxRecDepth 20000 in
theorem k_321 : (Jvm.Cond.code ({ cls := "GuideSearch", name := "withAnswer", desc := "(III)I" } : Jvm.MethodName) prog_1_method_20_code (3 : Nat) (Option.some Jvm.ClassFile.FieldType.int)) ∈ wg := wgm (i := 350) rfl rfl
theorem k_322 : (Jvm.Cond.methodLink "GuideSearch$Plan" (130 : Nat) ({ cls := "GuideSearch$Plan", name := "weighBehind", desc := "(III)V" } : Jvm.MethodName)) ∈ wg := wgm (i := 351) (by decide +kernel) rfl
theorem k_324 : (Jvm.Cond.instanceMethod ({ cls := "GuideSearch$Plan", name := "weighBehind", desc := "(III)V" } : Jvm.MethodName)) ∈ wg := wgm (i := 353) (by decide +kernel) rfl
set_option maxRecDepth 20000 in
theorem k_325 : (Jvm.Cond.code ({ cls := "GuideSearch$Plan", name := "weighBehind", desc := "(III)V" } : Jvm.MethodName) prog_4_method_6_code (7 : Nat) (Option.none : Option Jvm.ClassFile.FieldType)) ∈ wg := wgm (i := 354) rfl rfl
theorem k_326 : (Jvm.Cond.constantLong "GuideSearch$Plan" (80 : Nat) (12 : Int64)) ∈ wg := wgm (i := 355) (by decide +kernel) rfl
theorem k_327 : (Jvm.Cond.methodLink "GuideSearch$Plan" (86 : Nat) ({ cls := "GuideSearch$Tests", name := "twelfths", desc := "(III)I" } : Jvm.MethodName)) ∈ wg := wgm (i := 356) (by decide +kernel) rfl
theorem k_328 : (Jvm.Cond.constantLong "GuideSearch$Plan" (68 : Nat) (1000 : Int64)) ∈ wg := wgm (i := 357) (by decide +kernel) rfl
theorem k_329 : (Jvm.Cond.methodLink "GuideSearch$Plan" (70 : Nat) ({ cls := "GuideSearch$Plan", name := "keep", desc := "(III)V" } : Jvm.MethodName)) ∈ wg := wgm (i := 358) (by decide +kernel) rfl
theorem k_331 : (Jvm.Cond.instanceMethod ({ cls := "GuideSearch$Plan", name := "keep", desc := "(III)V" } : Jvm.MethodName)) ∈ wg := wgm (i := 360) (by decide +kernel) rfl
set_option maxRecDepth 20000 in
theorem k_332 : (Jvm.Cond.code ({ cls := "GuideSearch$Plan", name := "keep", desc := "(III)V" } : Jvm.MethodName) prog_4_method_11_code (7 : Nat) (Option.none : Option Jvm.ClassFile.FieldType)) ∈ wg := wgm (i := 361) rfl rfl
theorem k_333 : (Jvm.Cond.methodLink "GuideSearch" (114 : Nat) ({ cls := "GuideSearch$Plan", name := "drop", desc := "()V" } : Jvm.MethodName)) ∈ wg := wgm (i := 362) (by decide +kernel) rfl
theorem k_334 : (Jvm.Cond.methodLink "GuideSearch" (117 : Nat) ({ cls := "GuideSearch$Cases", name := "oneStep", desc := "(I)I" } : Jvm.MethodName)) ∈ wg := wgm (i := 363) (by decide +kernel) rfl
theorem k_335 : (Jvm.Cond.instanceMethod ({ cls := "GuideSearch$Cases", name := "oneStep", desc := "(I)I" } : Jvm.MethodName)) ∈ wg := wgm (i := 364) (by decide +kernel) rfl
theorem k_336 : (Jvm.Cond.selects "GuideSearch$Cases" ({ cls := "GuideSearch$Cases", name := "oneStep", desc := "(I)I" } : Jvm.MethodName) ({ cls := "GuideSearch$Cases", name := "oneStep", desc := "(I)I" } : Jvm.MethodName)) ∈ wg := wgm (i := 365) (by decide +kernel) rfl
set_option maxRecDepth 20000 in
theorem k_337 : (Jvm.Cond.code ({ cls := "GuideSearch$Cases", name := "oneStep", desc := "(I)I" } : Jvm.MethodName) prog_2_method_8_code (4 : Nat) (Option.some Jvm.ClassFile.FieldType.int)) ∈ wg := wgm (i := 366) rfl rfl
theorem k_338 : (Jvm.Cond.methodLink "GuideSearch$Cases" (76 : Nat) ({ cls := "GuideSearch$Cases", name := "left", desc := "(I)I" } : Jvm.MethodName)) ∈ wg := wgm (i := 367) (by decide +kernel) rfl
theorem k_339 : (Jvm.Cond.instanceMethod ({ cls := "GuideSearch$Cases", name := "left", desc := "(I)I" } : Jvm.MethodName)) ∈ wg := wgm (i := 368) (by decide +kernel) rfl
theorem k_340 : (Jvm.Cond.selects "GuideSearch$Cases" ({ cls := "GuideSearch$Cases", name := "left", desc := "(I)I" } : Jvm.MethodName) ({ cls := "GuideSearch$Cases", name := "left", desc := "(I)I" } : Jvm.MethodName)) ∈ wg := wgm (i := 369) (by decide +kernel) rfl
set_option maxRecDepth 20000 in
theorem k_341 : (Jvm.Cond.code ({ cls := "GuideSearch$Cases", name := "left", desc := "(I)I" } : Jvm.MethodName) prog_2_method_5_code (4 : Nat) (Option.some Jvm.ClassFile.FieldType.int)) ∈ wg := wgm (i := 370) rfl rfl
theorem k_342 : (Jvm.Cond.methodLink "GuideSearch$Cases" (44 : Nat) ({ cls := "GuideSearch$Cases", name := "weightOf", desc := "(II)J" } : Jvm.MethodName)) ∈ wg := wgm (i := 371) (by decide +kernel) rfl
theorem k_343 : (Jvm.Cond.methodLink "GuideSearch$Cases" (79 : Nat) ({ cls := "GuideSearch$Cases", name := "usable", desc := "(II)I" } : Jvm.MethodName)) ∈ wg := wgm (i := 372) (by decide +kernel) rfl
theorem k_344 : (Jvm.Cond.methodLink "GuideSearch$Cases" (82 : Nat) ({ cls := "GuideSearch$Cases", name := "firstFree", desc := "(I)I" } : Jvm.MethodName)) ∈ wg := wgm (i := 373) (by decide +kernel) rfl
theorem k_345 : (Jvm.Cond.methodLink "GuideSearch$Cases" (85 : Nat) ({ cls := "GuideSearch$Cases", name := "bestGain", desc := "(II)I" } : Jvm.MethodName)) ∈ wg := wgm (i := 374) (by decide +kernel) rfl
theorem k_347 : (Jvm.Cond.instanceMethod ({ cls := "GuideSearch$Cases", name := "bestGain", desc := "(II)I" } : Jvm.MethodName)) ∈ wg := wgm (i := 376) (by decide +kernel) rfl
set_option maxRecDepth 20000 in
theorem k_348 : (Jvm.Cond.code ({ cls := "GuideSearch$Cases", name := "bestGain", desc := "(II)I" } : Jvm.MethodName) prog_2_method_9_code (9 : Nat) (Option.some Jvm.ClassFile.FieldType.int)) ∈ wg := wgm (i := 377) rfl rfl
theorem k_349 : (Jvm.Cond.methodLink "GuideSearch$Cases" (88 : Nat) ({ cls := "GuideSearch$Cases", name := "gain", desc := "(II)J" } : Jvm.MethodName)) ∈ wg := wgm (i := 378) (by decide +kernel) rfl
theorem k_351 : (Jvm.Cond.instanceMethod ({ cls := "GuideSearch$Cases", name := "gain", desc := "(II)J" } : Jvm.MethodName)) ∈ wg := wgm (i := 380) (by decide +kernel) rfl
set_option maxRecDepth 20000 in
theorem k_352 : (Jvm.Cond.code ({ cls := "GuideSearch$Cases", name := "gain", desc := "(II)J" } : Jvm.MethodName) prog_2_method_10_code (6 : Nat) (Option.some Jvm.ClassFile.FieldType.long)) ∈ wg := wgm (i := 381) rfl rfl
theorem k_353 : (Jvm.Cond.methodLink "GuideSearch$Cases" (91 : Nat) ({ cls := "GuideSearch$Cases", name := "greatestWeight", desc := "(I)J" } : Jvm.MethodName)) ∈ wg := wgm (i := 382) (by decide +kernel) rfl
theorem k_355 : (Jvm.Cond.instanceMethod ({ cls := "GuideSearch$Cases", name := "greatestWeight", desc := "(I)J" } : Jvm.MethodName)) ∈ wg := wgm (i := 384) (by decide +kernel) rfl
set_option maxRecDepth 20000 in
theorem k_356 : (Jvm.Cond.code ({ cls := "GuideSearch$Cases", name := "greatestWeight", desc := "(I)J" } : Jvm.MethodName) prog_2_method_4_code (5 : Nat) (Option.some Jvm.ClassFile.FieldType.long)) ∈ wg := wgm (i := 385) rfl rfl
theorem k_357 : (Jvm.Cond.methodLink "GuideSearch$Cases" (48 : Nat) ({ cls := "java/lang/Math", name := "max", desc := "(JJ)J" } : Jvm.MethodName)) ∈ wg := wgm (i := 386) (by decide +kernel) rfl
theorem k_358 : (Jvm.Cond.static ({ cls := "java/lang/Math", name := "max", desc := "(JJ)J" } : Jvm.MethodName)) ∈ wg := wgm (i := 387) (by decide +kernel) rfl
set_option maxRecDepth 20000 in
theorem k_359 : (Jvm.Cond.code ({ cls := "java/lang/Math", name := "max", desc := "(JJ)J" } : Jvm.MethodName) prog_11_method_66_code (4 : Nat) (Option.some Jvm.ClassFile.FieldType.long)) ∈ wg := wgm (i := 388) rfl rfl
theorem k_360 : (Jvm.Cond.methodLinkNest "GuideSearch$Cases" (94 : Nat) ({ cls := "GuideSearch", name := "withAnswer", desc := "(III)I" } : Jvm.MethodName) "GuideSearch") ∈ nw := nwm (i := 389) (by decide +kernel) rfl
theorem k_365 : (Jvm.Cond.methodLink "GuideSearch" (120 : Nat) ({ cls := "GuideSearch$Tests", name := "isOpen", desc := "(II)Z" } : Jvm.MethodName)) ∈ wg := wgm (i := 394) (by decide +kernel) rfl
theorem k_366 : (Jvm.Cond.methodLink "GuideSearch" (124 : Nat) ({ cls := "GuideSearch", name := "withAnswer", desc := "(III)I" } : Jvm.MethodName)) ∈ wg := wgm (i := 395) (by decide +kernel) rfl
theorem k_367 : (Jvm.Cond.methodLink "GuideSearch" (127 : Nat) ({ cls := "GuideSearch$Cases", name := "left", desc := "(I)I" } : Jvm.MethodName)) ∈ wg := wgm (i := 396) (by decide +kernel) rfl
theorem k_368 : (Jvm.Cond.methodLink "GuideSearch" (130 : Nat) ({ cls := "java/lang/Integer", name := "bitCount", desc := "(I)I" } : Jvm.MethodName)) ∈ wg := wgm (i := 397) (by decide +kernel) rfl
theorem k_381 : (Jvm.Cond.methodLink "GuideSearch" (160 : Nat) ({ cls := "GuideSearch$Causes", name := "isFault", desc := "(I)Z" } : Jvm.MethodName)) ∈ wg := wgm (i := 410) (by decide +kernel) rfl
theorem k_382 : (Jvm.Cond.instanceMethod ({ cls := "GuideSearch$Causes", name := "isFault", desc := "(I)Z" } : Jvm.MethodName)) ∈ wg := wgm (i := 411) (by decide +kernel) rfl
theorem k_383 : (Jvm.Cond.selects "GuideSearch$Causes" ({ cls := "GuideSearch$Causes", name := "isFault", desc := "(I)Z" } : Jvm.MethodName) ({ cls := "GuideSearch$Causes", name := "isFault", desc := "(I)Z" } : Jvm.MethodName)) ∈ wg := wgm (i := 412) (by decide +kernel) rfl
set_option maxRecDepth 20000 in
theorem k_384 : (Jvm.Cond.code ({ cls := "GuideSearch$Causes", name := "isFault", desc := "(I)Z" } : Jvm.MethodName) prog_3_method_3_code (2 : Nat) (Option.some Jvm.ClassFile.FieldType.boolean)) ∈ wg := wgm (i := 413) rfl rfl
theorem k_385 : (Jvm.Cond.methodLink "GuideSearch" (163 : Nat) ({ cls := "GuideSearch$Causes", name := "hasPair", desc := "(I)Z" } : Jvm.MethodName)) ∈ wg := wgm (i := 414) (by decide +kernel) rfl
theorem k_386 : (Jvm.Cond.instanceMethod ({ cls := "GuideSearch$Causes", name := "hasPair", desc := "(I)Z" } : Jvm.MethodName)) ∈ wg := wgm (i := 415) (by decide +kernel) rfl
theorem k_387 : (Jvm.Cond.selects "GuideSearch$Causes" ({ cls := "GuideSearch$Causes", name := "hasPair", desc := "(I)Z" } : Jvm.MethodName) ({ cls := "GuideSearch$Causes", name := "hasPair", desc := "(I)Z" } : Jvm.MethodName)) ∈ wg := wgm (i := 416) (by decide +kernel) rfl
set_option maxRecDepth 20000 in
theorem k_388 : (Jvm.Cond.code ({ cls := "GuideSearch$Causes", name := "hasPair", desc := "(I)Z" } : Jvm.MethodName) prog_3_method_4_code (3 : Nat) (Option.some Jvm.ClassFile.FieldType.boolean)) ∈ wg := wgm (i := 417) rfl rfl
theorem k_389 : (Jvm.Cond.methodLink "GuideSearch" (166 : Nat) ({ cls := "GuideSearch$Causes", name := "addPair", desc := "(II)I" } : Jvm.MethodName)) ∈ wg := wgm (i := 418) (by decide +kernel) rfl
theorem k_390 : (Jvm.Cond.instanceMethod ({ cls := "GuideSearch$Causes", name := "addPair", desc := "(II)I" } : Jvm.MethodName)) ∈ wg := wgm (i := 419) (by decide +kernel) rfl
theorem k_391 : (Jvm.Cond.selects "GuideSearch$Causes" ({ cls := "GuideSearch$Causes", name := "addPair", desc := "(II)I" } : Jvm.MethodName) ({ cls := "GuideSearch$Causes", name := "addPair", desc := "(II)I" } : Jvm.MethodName)) ∈ wg := wgm (i := 420) (by decide +kernel) rfl
set_option maxRecDepth 20000 in
theorem k_392 : (Jvm.Cond.code ({ cls := "GuideSearch$Causes", name := "addPair", desc := "(II)I" } : Jvm.MethodName) prog_3_method_6_code (3 : Nat) (Option.some Jvm.ClassFile.FieldType.int)) ∈ wg := wgm (i := 421) rfl rfl
theorem k_393 : (Jvm.Cond.methodLinkNest "GuideSearch$Causes" (35 : Nat) ({ cls := "GuideSearch", name := "bit", desc := "(I)I" } : Jvm.MethodName) "GuideSearch") ∈ nw := nwm (i := 422) (by decide +kernel) rfl
theorem k_398 : (Jvm.Cond.methodLink "GuideSearch" (169 : Nat) ({ cls := "GuideSearch$Causes", name := "countLearned", desc := "(I)I" } : Jvm.MethodName)) ∈ wg := wgm (i := 427) (by decide +kernel) rfl
theorem k_399 : (Jvm.Cond.instanceMethod ({ cls := "GuideSearch$Causes", name := "countLearned", desc := "(I)I" } : Jvm.MethodName)) ∈ wg := wgm (i := 428) (by decide +kernel) rfl
theorem k_400 : (Jvm.Cond.selects "GuideSearch$Causes" ({ cls := "GuideSearch$Causes", name := "countLearned", desc := "(I)I" } : Jvm.MethodName) ({ cls := "GuideSearch$Causes", name := "countLearned", desc := "(I)I" } : Jvm.MethodName)) ∈ wg := wgm (i := 429) (by decide +kernel) rfl
set_option maxRecDepth 20000 in
theorem k_401 : (Jvm.Cond.code ({ cls := "GuideSearch$Causes", name := "countLearned", desc := "(I)I" } : Jvm.MethodName) prog_3_method_7_code (2 : Nat) (Option.some Jvm.ClassFile.FieldType.int)) ∈ wg := wgm (i := 430) rfl rfl
theorem k_406 : (Jvm.Cond.methodLink "GuideSearch" (175 : Nat) ({ cls := "GuideSearch$Plan", name := "tell", desc := "(II)I" } : Jvm.MethodName)) ∈ wg := wgm (i := 435) (by decide +kernel) rfl
theorem k_407 : (Jvm.Cond.instanceMethod ({ cls := "GuideSearch$Plan", name := "tell", desc := "(II)I" } : Jvm.MethodName)) ∈ wg := wgm (i := 436) (by decide +kernel) rfl
theorem k_408 : (Jvm.Cond.selects "GuideSearch$Plan" ({ cls := "GuideSearch$Plan", name := "tell", desc := "(II)I" } : Jvm.MethodName) ({ cls := "GuideSearch$Plan", name := "tell", desc := "(II)I" } : Jvm.MethodName)) ∈ wg := wgm (i := 437) (by decide +kernel) rfl
set_option maxRecDepth 20000 in
theorem k_409 : (Jvm.Cond.code ({ cls := "GuideSearch$Plan", name := "tell", desc := "(II)I" } : Jvm.MethodName) prog_4_method_4_code (3 : Nat) (Option.some Jvm.ClassFile.FieldType.int)) ∈ wg := wgm (i := 438) rfl rfl
theorem k_414 : (Jvm.Cond.methodLink "GuideSearch" (178 : Nat) ({ cls := "GuideSearch$Tests", name := "canAnswer", desc := "(III)Z" } : Jvm.MethodName)) ∈ wg := wgm (i := 443) (by decide +kernel) rfl
theorem k_415 : (Jvm.Cond.instanceMethod ({ cls := "GuideSearch$Tests", name := "canAnswer", desc := "(III)Z" } : Jvm.MethodName)) ∈ wg := wgm (i := 444) (by decide +kernel) rfl
theorem k_416 : (Jvm.Cond.selects "GuideSearch$Tests" ({ cls := "GuideSearch$Tests", name := "canAnswer", desc := "(III)Z" } : Jvm.MethodName) ({ cls := "GuideSearch$Tests", name := "canAnswer", desc := "(III)Z" } : Jvm.MethodName)) ∈ wg := wgm (i := 445) (by decide +kernel) rfl
set_option maxRecDepth 20000 in
theorem k_417 : (Jvm.Cond.code ({ cls := "GuideSearch$Tests", name := "canAnswer", desc := "(III)Z" } : Jvm.MethodName) prog_5_method_12_code (5 : Nat) (Option.some Jvm.ClassFile.FieldType.boolean)) ∈ wg := wgm (i := 446) rfl rfl
theorem k_506 : (Jvm.Cond.constantLong "GuideSearchModel" (36 : Nat) (-1 : Int64)) ∈ wg := wgm (i := 535) (by decide +kernel) rfl
theorem k_507 : (Jvm.Cond.fieldLink "GuideSearchModel" (69 : Nat) "GuideSearchModel" "code" "I") ∈ wg := wgm (i := 536) (by decide +kernel) rfl
theorem k_508 : (Jvm.Cond.fieldLink "GuideSearchModel" (76 : Nat) "GuideSearchModel" "causes" "I") ∈ wg := wgm (i := 537) (by decide +kernel) rfl
theorem k_509 : (Jvm.Cond.fieldLink "GuideSearchModel" (85 : Nat) "GuideSearchModel" "faults" "I") ∈ wg := wgm (i := 538) (by decide +kernel) rfl
theorem k_510 : (Jvm.Cond.fieldLink "GuideSearchModel" (7 : Nat) "GuideSearchModel" "one" "[I") ∈ wg := wgm (i := 539) (by decide +kernel) rfl
theorem k_511 : (Jvm.Cond.fieldLink "GuideSearchModel" (13 : Nat) "GuideSearchModel" "two" "[I") ∈ wg := wgm (i := 540) (by decide +kernel) rfl
theorem k_512 : (Jvm.Cond.fieldLink "GuideSearchModel" (16 : Nat) "GuideSearchModel" "prior" "[J") ∈ wg := wgm (i := 541) (by decide +kernel) rfl
theorem k_513 : (Jvm.Cond.fieldLink "GuideSearchModel" (20 : Nat) "GuideSearchModel" "learned" "[I") ∈ wg := wgm (i := 542) (by decide +kernel) rfl
theorem k_514 : (Jvm.Cond.fieldLink "GuideSearchModel" (181 : Nat) "GuideSearchModel" "strangers" "I") ∈ wg := wgm (i := 543) (by decide +kernel) rfl
theorem k_515 : (Jvm.Cond.fieldLink "GuideSearchModel" (73 : Nat) "GuideSearchModel" "tests" "I") ∈ wg := wgm (i := 544) (by decide +kernel) rfl
theorem k_516 : (Jvm.Cond.fieldLink "GuideSearchModel" (23 : Nat) "GuideSearchModel" "price" "[J") ∈ wg := wgm (i := 545) (by decide +kernel) rfl
theorem k_517 : (Jvm.Cond.fieldLink "GuideSearchModel" (26 : Nat) "GuideSearchModel" "needs" "[Z") ∈ wg := wgm (i := 546) (by decide +kernel) rfl
theorem k_518 : (Jvm.Cond.fieldLink "GuideSearchModel" (30 : Nat) "GuideSearchModel" "odds" "[I") ∈ wg := wgm (i := 547) (by decide +kernel) rfl
theorem k_519 : (Jvm.Cond.fieldLink "GuideSearchModel" (33 : Nat) "GuideSearchModel" "given" "[I") ∈ wg := wgm (i := 548) (by decide +kernel) rfl
theorem k_520 : (Jvm.Cond.fieldLink "GuideSearchModel" (141 : Nat) "GuideSearchModel" "exact" "Z") ∈ wg := wgm (i := 549) (by decide +kernel) rfl
theorem k_521 : (Jvm.Cond.fieldLink "GuideSearchModel" (38 : Nat) "GuideSearchModel" "cost" "J") ∈ wg := wgm (i := 550) (by decide +kernel) rfl
theorem k_522 : (Jvm.Cond.fieldLink "GuideSearchModel" (138 : Nat) "GuideSearchModel" "nodes" "I") ∈ wg := wgm (i := 551) (by decide +kernel) rfl
theorem k_523 : (Jvm.Cond.fieldLink "GuideSearchModel" (42 : Nat) "GuideSearchModel" "node" "[I") ∈ wg := wgm (i := 552) (by decide +kernel) rfl
theorem k_524 : (Jvm.Cond.fieldLink "GuideSearchModel" (45 : Nat) "GuideSearchModel" "value" "[J") ∈ wg := wgm (i := 553) (by decide +kernel) rfl
theorem k_525 : (Jvm.Cond.fieldLink "GuideSearchModel" (48 : Nat) "GuideSearchModel" "best" "[I") ∈ wg := wgm (i := 554) (by decide +kernel) rfl
theorem k_526 : (Jvm.Cond.fieldLink "GuideSearchModel" (51 : Nat) "GuideSearchModel" "digit" "[I") ∈ wg := wgm (i := 555) (by decide +kernel) rfl
theorem k_527 : (Jvm.Cond.fieldLink "GuideSearchModel" (54 : Nat) "GuideSearchModel" "weight" "[J") ∈ wg := wgm (i := 556) (by decide +kernel) rfl
theorem k_528 : (Jvm.Cond.fieldLink "GuideSearchModel" (57 : Nat) "GuideSearchModel" "wait" "[I") ∈ wg := wgm (i := 557) (by decide +kernel) rfl
theorem k_529 : (Jvm.Cond.fieldLink "GuideSearchModel" (60 : Nat) "GuideSearchModel" "by" "[I") ∈ wg := wgm (i := 558) (by decide +kernel) rfl
theorem k_530 : (Jvm.Cond.fieldLink "GuideSearchModel" (63 : Nat) "GuideSearchModel" "found" "[Z") ∈ wg := wgm (i := 559) (by decide +kernel) rfl
theorem k_531 : (Jvm.Cond.fieldLink "GuideSearchModel" (66 : Nat) "GuideSearchModel" "use" "[Z") ∈ wg := wgm (i := 560) (by decide +kernel) rfl
theorem k_532 : (Jvm.Cond.lays "GuideSearchModel" "GuideSearchModel" "code" "I") ∈ wg := wgm (i := 561) (by decide +kernel) rfl
theorem k_534 : (Jvm.Cond.lays "GuideSearchModel" "GuideSearchModel" "causes" "I") ∈ wg := wgm (i := 563) (by decide +kernel) rfl
theorem k_536 : (Jvm.Cond.lays "GuideSearchModel" "GuideSearchModel" "faults" "I") ∈ wg := wgm (i := 565) (by decide +kernel) rfl
theorem k_538 : (Jvm.Cond.laysFinal "GuideSearchModel" "GuideSearchModel" "one" "[I") ∈ wg := wgm (i := 567) (by decide +kernel) rfl
theorem k_540 : (Jvm.Cond.laysFinal "GuideSearchModel" "GuideSearchModel" "two" "[I") ∈ wg := wgm (i := 569) (by decide +kernel) rfl
theorem k_542 : (Jvm.Cond.laysFinal "GuideSearchModel" "GuideSearchModel" "prior" "[J") ∈ wg := wgm (i := 571) (by decide +kernel) rfl
theorem k_544 : (Jvm.Cond.laysFinal "GuideSearchModel" "GuideSearchModel" "learned" "[I") ∈ wg := wgm (i := 573) (by decide +kernel) rfl
theorem k_546 : (Jvm.Cond.lays "GuideSearchModel" "GuideSearchModel" "strangers" "I") ∈ wg := wgm (i := 575) (by decide +kernel) rfl
theorem k_548 : (Jvm.Cond.lays "GuideSearchModel" "GuideSearchModel" "tests" "I") ∈ wg := wgm (i := 577) (by decide +kernel) rfl
theorem k_550 : (Jvm.Cond.laysFinal "GuideSearchModel" "GuideSearchModel" "price" "[J") ∈ wg := wgm (i := 579) (by decide +kernel) rfl
theorem k_552 : (Jvm.Cond.laysFinal "GuideSearchModel" "GuideSearchModel" "needs" "[Z") ∈ wg := wgm (i := 581) (by decide +kernel) rfl
theorem k_554 : (Jvm.Cond.laysFinal "GuideSearchModel" "GuideSearchModel" "odds" "[I") ∈ wg := wgm (i := 583) (by decide +kernel) rfl
theorem k_556 : (Jvm.Cond.laysFinal "GuideSearchModel" "GuideSearchModel" "given" "[I") ∈ wg := wgm (i := 585) (by decide +kernel) rfl
theorem k_558 : (Jvm.Cond.lays "GuideSearchModel" "GuideSearchModel" "exact" "Z") ∈ wg := wgm (i := 587) (by decide +kernel) rfl
theorem k_560 : (Jvm.Cond.lays "GuideSearchModel" "GuideSearchModel" "cost" "J") ∈ wg := wgm (i := 589) (by decide +kernel) rfl
theorem k_562 : (Jvm.Cond.lays "GuideSearchModel" "GuideSearchModel" "nodes" "I") ∈ wg := wgm (i := 591) (by decide +kernel) rfl
theorem k_564 : (Jvm.Cond.laysFinal "GuideSearchModel" "GuideSearchModel" "node" "[I") ∈ wg := wgm (i := 593) (by decide +kernel) rfl
theorem k_566 : (Jvm.Cond.laysFinal "GuideSearchModel" "GuideSearchModel" "value" "[J") ∈ wg := wgm (i := 595) (by decide +kernel) rfl
theorem k_568 : (Jvm.Cond.laysFinal "GuideSearchModel" "GuideSearchModel" "best" "[I") ∈ wg := wgm (i := 597) (by decide +kernel) rfl
theorem k_570 : (Jvm.Cond.laysFinal "GuideSearchModel" "GuideSearchModel" "digit" "[I") ∈ wg := wgm (i := 599) (by decide +kernel) rfl
theorem k_572 : (Jvm.Cond.laysFinal "GuideSearchModel" "GuideSearchModel" "weight" "[J") ∈ wg := wgm (i := 601) (by decide +kernel) rfl
theorem k_574 : (Jvm.Cond.laysFinal "GuideSearchModel" "GuideSearchModel" "wait" "[I") ∈ wg := wgm (i := 603) (by decide +kernel) rfl
theorem k_576 : (Jvm.Cond.laysFinal "GuideSearchModel" "GuideSearchModel" "by" "[I") ∈ wg := wgm (i := 605) (by decide +kernel) rfl
theorem k_578 : (Jvm.Cond.laysFinal "GuideSearchModel" "GuideSearchModel" "found" "[Z") ∈ wg := wgm (i := 607) (by decide +kernel) rfl
theorem k_580 : (Jvm.Cond.laysFinal "GuideSearchModel" "GuideSearchModel" "use" "[Z") ∈ wg := wgm (i := 609) (by decide +kernel) rfl
theorem k_592 : (Jvm.Cond.constantLong "GuideSearchModel" (83 : Nat) (10 : Int64)) ∈ wg := wgm (i := 621) (by decide +kernel) rfl
theorem k_593 : (Jvm.Cond.constantLong "GuideSearchModel" (88 : Nat) (6350400 : Int64)) ∈ wg := wgm (i := 622) (by decide +kernel) rfl
theorem k_598 : (Jvm.Cond.methodLink "GuideSearchModel" (90 : Nat) ({ cls := "GuideSearchModel", name := "noFault", desc := "(I)Z" } : Jvm.MethodName)) ∈ wg := wgm (i := 627) (by decide +kernel) rfl
theorem k_600 : (Jvm.Cond.instanceMethod ({ cls := "GuideSearchModel", name := "noFault", desc := "(I)Z" } : Jvm.MethodName)) ∈ wg := wgm (i := 629) (by decide +kernel) rfl
set_option maxRecDepth 20000 in
theorem k_601 : (Jvm.Cond.code ({ cls := "GuideSearchModel", name := "noFault", desc := "(I)Z" } : Jvm.MethodName) prog_7_method_5_code (2 : Nat) (Option.some Jvm.ClassFile.FieldType.boolean)) ∈ wg := wgm (i := 630) rfl rfl
theorem k_602 : (Jvm.Cond.methodLink "GuideSearchModel" (79 : Nat) ({ cls := "GuideSearchModel", name := "noCause", desc := "(I)Z" } : Jvm.MethodName)) ∈ wg := wgm (i := 631) (by decide +kernel) rfl
theorem k_604 : (Jvm.Cond.instanceMethod ({ cls := "GuideSearchModel", name := "noCause", desc := "(I)Z" } : Jvm.MethodName)) ∈ wg := wgm (i := 633) (by decide +kernel) rfl
set_option maxRecDepth 20000 in
theorem k_605 : (Jvm.Cond.code ({ cls := "GuideSearchModel", name := "noCause", desc := "(I)Z" } : Jvm.MethodName) prog_7_method_4_code (2 : Nat) (Option.some Jvm.ClassFile.FieldType.boolean)) ∈ wg := wgm (i := 634) rfl rfl
theorem k_606 : (Jvm.Cond.constantLong "GuideSearchModel" (93 : Nat) (2520 : Int64)) ∈ wg := wgm (i := 635) (by decide +kernel) rfl
theorem k_611 : (Jvm.Cond.constantLong "GuideSearchModel" (95 : Nat) (400 : Int64)) ∈ wg := wgm (i := 640) (by decide +kernel) rfl
theorem k_616 : (Jvm.Cond.methodLink "GuideSearchModel" (97 : Nat) ({ cls := "GuideSearchModel", name := "noTest", desc := "(I)Z" } : Jvm.MethodName)) ∈ wg := wgm (i := 645) (by decide +kernel) rfl
theorem k_618 : (Jvm.Cond.instanceMethod ({ cls := "GuideSearchModel", name := "noTest", desc := "(I)Z" } : Jvm.MethodName)) ∈ wg := wgm (i := 647) (by decide +kernel) rfl
set_option maxRecDepth 20000 in
theorem k_619 : (Jvm.Cond.code ({ cls := "GuideSearchModel", name := "noTest", desc := "(I)Z" } : Jvm.MethodName) prog_7_method_3_code (2 : Nat) (Option.some Jvm.ClassFile.FieldType.boolean)) ∈ wg := wgm (i := 648) rfl rfl
theorem k_620 : (Jvm.Cond.constantLong "GuideSearchModel" (100 : Nat) (12 : Int64)) ∈ wg := wgm (i := 649) (by decide +kernel) rfl
theorem k_621 : (Jvm.Cond.methodLink "GuideSearchModel" (102 : Nat) ({ cls := "GuideSearchModel", name := "oddsOf", desc := "(III)I" } : Jvm.MethodName)) ∈ wg := wgm (i := 650) (by decide +kernel) rfl
theorem k_623 : (Jvm.Cond.instanceMethod ({ cls := "GuideSearchModel", name := "oddsOf", desc := "(III)I" } : Jvm.MethodName)) ∈ wg := wgm (i := 652) (by decide +kernel) rfl
set_option maxRecDepth 20000 in
theorem k_624 : (Jvm.Cond.code ({ cls := "GuideSearchModel", name := "oddsOf", desc := "(III)I" } : Jvm.MethodName) prog_7_method_9_code (4 : Nat) (Option.some Jvm.ClassFile.FieldType.int)) ∈ wg := wgm (i := 653) rfl rfl
theorem k_633 : (Jvm.Cond.methodLink "GuideSearchModel" (133 : Nat) ({ cls := "GuideSearchModel", name := "stateNow", desc := "()I" } : Jvm.MethodName)) ∈ wg := wgm (i := 662) (by decide +kernel) rfl
theorem k_635 : (Jvm.Cond.instanceMethod ({ cls := "GuideSearchModel", name := "stateNow", desc := "()I" } : Jvm.MethodName)) ∈ wg := wgm (i := 664) (by decide +kernel) rfl
set_option maxRecDepth 20000 in
theorem k_636 : (Jvm.Cond.code ({ cls := "GuideSearchModel", name := "stateNow", desc := "()I" } : Jvm.MethodName) prog_7_method_13_code (3 : Nat) (Option.some Jvm.ClassFile.FieldType.int)) ∈ wg := wgm (i := 665) rfl rfl
theorem k_637 : (Jvm.Cond.constantLong "GuideSearchModel" (136 : Nat) (4 : Int64)) ∈ wg := wgm (i := 666) (by decide +kernel) rfl
theorem k_638 : (Jvm.Cond.methodLink "GuideSearchModel" (145 : Nat) ({ cls := "GuideSearchModel", name := "oneStep", desc := "(I)I" } : Jvm.MethodName)) ∈ wg := wgm (i := 667) (by decide +kernel) rfl
theorem k_640 : (Jvm.Cond.instanceMethod ({ cls := "GuideSearchModel", name := "oneStep", desc := "(I)I" } : Jvm.MethodName)) ∈ wg := wgm (i := 669) (by decide +kernel) rfl
set_option maxRecDepth 20000 in
theorem k_641 : (Jvm.Cond.code ({ cls := "GuideSearchModel", name := "oneStep", desc := "(I)I" } : Jvm.MethodName) prog_7_method_28_code (5 : Nat) (Option.some Jvm.ClassFile.FieldType.int)) ∈ wg := wgm (i := 670) rfl rfl
theorem k_642 : (Jvm.Cond.methodLink "GuideSearchModel" (109 : Nat) ({ cls := "GuideSearchModel", name := "look", desc := "(I)V" } : Jvm.MethodName)) ∈ wg := wgm (i := 671) (by decide +kernel) rfl
theorem k_644 : (Jvm.Cond.instanceMethod ({ cls := "GuideSearchModel", name := "look", desc := "(I)V" } : Jvm.MethodName)) ∈ wg := wgm (i := 673) (by decide +kernel) rfl
set_option maxRecDepth 20000 in
theorem k_645 : (Jvm.Cond.code ({ cls := "GuideSearchModel", name := "look", desc := "(I)V" } : Jvm.MethodName) prog_7_method_12_code (6 : Nat) (Option.none : Option Jvm.ClassFile.FieldType)) ∈ wg := wgm (i := 674) rfl rfl
theorem k_646 : (Jvm.Cond.methodLink "GuideSearchModel" (113 : Nat) ({ cls := "GuideSearchModel", name := "left", desc := "()I" } : Jvm.MethodName)) ∈ wg := wgm (i := 675) (by decide +kernel) rfl
theorem k_648 : (Jvm.Cond.instanceMethod ({ cls := "GuideSearchModel", name := "left", desc := "()I" } : Jvm.MethodName)) ∈ wg := wgm (i := 677) (by decide +kernel) rfl
set_option maxRecDepth 20000 in
theorem k_649 : (Jvm.Cond.code ({ cls := "GuideSearchModel", name := "left", desc := "()I" } : Jvm.MethodName) prog_7_method_17_code (3 : Nat) (Option.some Jvm.ClassFile.FieldType.int)) ∈ wg := wgm (i := 678) rfl rfl
theorem k_650 : (Jvm.Cond.methodLink "GuideSearchModel" (123 : Nat) ({ cls := "GuideSearchModel", name := "findUse", desc := "()V" } : Jvm.MethodName)) ∈ wg := wgm (i := 679) (by decide +kernel) rfl
theorem k_652 : (Jvm.Cond.instanceMethod ({ cls := "GuideSearchModel", name := "findUse", desc := "()V" } : Jvm.MethodName)) ∈ wg := wgm (i := 681) (by decide +kernel) rfl
set_option maxRecDepth 20000 in
theorem k_653 : (Jvm.Cond.code ({ cls := "GuideSearchModel", name := "findUse", desc := "()V" } : Jvm.MethodName) prog_7_method_19_code (6 : Nat) (Option.none : Option Jvm.ClassFile.FieldType)) ∈ wg := wgm (i := 682) rfl rfl
theorem k_654 : (Jvm.Cond.methodLink "GuideSearchModel" (106 : Nat) ({ cls := "GuideSearchModel", name := "may", desc := "(I)Z" } : Jvm.MethodName)) ∈ wg := wgm (i := 683) (by decide +kernel) rfl
theorem k_656 : (Jvm.Cond.instanceMethod ({ cls := "GuideSearchModel", name := "may", desc := "(I)Z" } : Jvm.MethodName)) ∈ wg := wgm (i := 685) (by decide +kernel) rfl
set_option maxRecDepth 20000 in
theorem k_657 : (Jvm.Cond.code ({ cls := "GuideSearchModel", name := "may", desc := "(I)Z" } : Jvm.MethodName) prog_7_method_18_code (4 : Nat) (Option.some Jvm.ClassFile.FieldType.boolean)) ∈ wg := wgm (i := 686) rfl rfl
theorem k_658 : (Jvm.Cond.methodLink "GuideSearchModel" (126 : Nat) ({ cls := "GuideSearchModel", name := "free", desc := "()I" } : Jvm.MethodName)) ∈ wg := wgm (i := 687) (by decide +kernel) rfl
theorem k_660 : (Jvm.Cond.instanceMethod ({ cls := "GuideSearchModel", name := "free", desc := "()I" } : Jvm.MethodName)) ∈ wg := wgm (i := 689) (by decide +kernel) rfl
set_option maxRecDepth 20000 in
theorem k_661 : (Jvm.Cond.code ({ cls := "GuideSearchModel", name := "free", desc := "()I" } : Jvm.MethodName) prog_7_method_20_code (2 : Nat) (Option.some Jvm.ClassFile.FieldType.int)) ∈ wg := wgm (i := 690) rfl rfl
theorem k_662 : (Jvm.Cond.methodLink "GuideSearchModel" (174 : Nat) ({ cls := "GuideSearchModel", name := "gain", desc := "(II)J" } : Jvm.MethodName)) ∈ wg := wgm (i := 691) (by decide +kernel) rfl
theorem k_664 : (Jvm.Cond.instanceMethod ({ cls := "GuideSearchModel", name := "gain", desc := "(II)J" } : Jvm.MethodName)) ∈ wg := wgm (i := 693) (by decide +kernel) rfl
set_option maxRecDepth 20000 in
theorem k_665 : (Jvm.Cond.code ({ cls := "GuideSearchModel", name := "gain", desc := "(II)J" } : Jvm.MethodName) prog_7_method_27_code (6 : Nat) (Option.some Jvm.ClassFile.FieldType.long)) ∈ wg := wgm (i := 694) rfl rfl
theorem k_666 : (Jvm.Cond.methodLink "GuideSearchModel" (171 : Nat) ({ cls := "GuideSearchModel", name := "most", desc := "()J" } : Jvm.MethodName)) ∈ wg := wgm (i := 695) (by decide +kernel) rfl
theorem k_668 : (Jvm.Cond.instanceMethod ({ cls := "GuideSearchModel", name := "most", desc := "()J" } : Jvm.MethodName)) ∈ wg := wgm (i := 697) (by decide +kernel) rfl
set_option maxRecDepth 20000 in
theorem k_669 : (Jvm.Cond.code ({ cls := "GuideSearchModel", name := "most", desc := "()J" } : Jvm.MethodName) prog_7_method_16_code (4 : Nat) (Option.some Jvm.ClassFile.FieldType.long)) ∈ wg := wgm (i := 698) rfl rfl
theorem k_670 : (Jvm.Cond.methodLink "GuideSearchModel" (129 : Nat) ({ cls := "GuideSearchModel", name := "unit", desc := "(I)I" } : Jvm.MethodName)) ∈ wg := wgm (i := 699) (by decide +kernel) rfl
theorem k_671 : (Jvm.Cond.static ({ cls := "GuideSearchModel", name := "unit", desc := "(I)I" } : Jvm.MethodName)) ∈ wg := wgm (i := 700) (by decide +kernel) rfl
set_option maxRecDepth 20000 in
theorem k_672 : (Jvm.Cond.code ({ cls := "GuideSearchModel", name := "unit", desc := "(I)I" } : Jvm.MethodName) prog_7_method_14_code (1 : Nat) (Option.some Jvm.ClassFile.FieldType.int)) ∈ wg := wgm (i := 701) rfl rfl
theorem k_673 : (Jvm.Cond.methodLink "GuideSearchModel" (148 : Nat) ({ cls := "GuideSearchModel", name := "answers", desc := "(I)I" } : Jvm.MethodName)) ∈ wg := wgm (i := 702) (by decide +kernel) rfl
theorem k_674 : (Jvm.Cond.static ({ cls := "GuideSearchModel", name := "answers", desc := "(I)I" } : Jvm.MethodName)) ∈ wg := wgm (i := 703) (by decide +kernel) rfl
set_option maxRecDepth 20000 in
theorem k_675 : (Jvm.Cond.code ({ cls := "GuideSearchModel", name := "answers", desc := "(I)I" } : Jvm.MethodName) prog_7_method_23_code (3 : Nat) (Option.some Jvm.ClassFile.FieldType.int)) ∈ wg := wgm (i := 704) rfl rfl
theorem k_676 : (Jvm.Cond.methodLink "GuideSearchModel" (151 : Nat) ({ cls := "GuideSearchModel", name := "isBehind", desc := "(II)Z" } : Jvm.MethodName)) ∈ wg := wgm (i := 705) (by decide +kernel) rfl
theorem k_678 : (Jvm.Cond.instanceMethod ({ cls := "GuideSearchModel", name := "isBehind", desc := "(II)Z" } : Jvm.MethodName)) ∈ wg := wgm (i := 707) (by decide +kernel) rfl
set_option maxRecDepth 20000 in
theorem k_679 : (Jvm.Cond.code ({ cls := "GuideSearchModel", name := "isBehind", desc := "(II)Z" } : Jvm.MethodName) prog_7_method_22_code (7 : Nat) (Option.some Jvm.ClassFile.FieldType.boolean)) ∈ wg := wgm (i := 708) rfl rfl
theorem k_680 : (Jvm.Cond.methodLink "GuideSearchModel" (155 : Nat) ({ cls := "GuideSearchModel", name := "find", desc := "(I)V" } : Jvm.MethodName)) ∈ wg := wgm (i := 709) (by decide +kernel) rfl
theorem k_682 : (Jvm.Cond.instanceMethod ({ cls := "GuideSearchModel", name := "find", desc := "(I)V" } : Jvm.MethodName)) ∈ wg := wgm (i := 711) (by decide +kernel) rfl
set_option maxRecDepth 20000 in
theorem k_683 : (Jvm.Cond.code ({ cls := "GuideSearchModel", name := "find", desc := "(I)V" } : Jvm.MethodName) prog_7_method_21_code (10 : Nat) (Option.none : Option Jvm.ClassFile.FieldType)) ∈ wg := wgm (i := 712) rfl rfl
theorem k_684 : (Jvm.Cond.methodLink "GuideSearchModel" (117 : Nat) ({ cls := "GuideSearchModel", name := "sum", desc := "()J" } : Jvm.MethodName)) ∈ wg := wgm (i := 713) (by decide +kernel) rfl
theorem k_686 : (Jvm.Cond.instanceMethod ({ cls := "GuideSearchModel", name := "sum", desc := "()J" } : Jvm.MethodName)) ∈ wg := wgm (i := 715) (by decide +kernel) rfl
set_option maxRecDepth 20000 in
theorem k_687 : (Jvm.Cond.code ({ cls := "GuideSearchModel", name := "sum", desc := "()J" } : Jvm.MethodName) prog_7_method_15_code (4 : Nat) (Option.some Jvm.ClassFile.FieldType.long)) ∈ wg := wgm (i := 716) rfl rfl
theorem k_688 : (Jvm.Cond.constantLong "GuideSearchModel" (121 : Nat) (300 : Int64)) ∈ wg := wgm (i := 717) (by decide +kernel) rfl
theorem k_689 : (Jvm.Cond.methodLink "GuideSearchModel" (158 : Nat) ({ cls := "GuideSearchModel", name := "thousandth", desc := "(JJ)J" } : Jvm.MethodName)) ∈ wg := wgm (i := 718) (by decide +kernel) rfl
theorem k_690 : (Jvm.Cond.static ({ cls := "GuideSearchModel", name := "thousandth", desc := "(JJ)J" } : Jvm.MethodName)) ∈ wg := wgm (i := 719) (by decide +kernel) rfl
set_option maxRecDepth 20000 in
theorem k_691 : (Jvm.Cond.code ({ cls := "GuideSearchModel", name := "thousandth", desc := "(JJ)J" } : Jvm.MethodName) prog_7_method_25_code (10 : Nat) (Option.some Jvm.ClassFile.FieldType.long)) ∈ wg := wgm (i := 720) rfl rfl
theorem k_692 : (Jvm.Cond.constantLong "GuideSearchModel" (165 : Nat) (1000 : Int64)) ∈ wg := wgm (i := 721) (by decide +kernel) rfl
theorem k_693 : (Jvm.Cond.constantLong "GuideSearchModel" (167 : Nat) (8 : Int64)) ∈ wg := wgm (i := 722) (by decide +kernel) rfl
theorem k_694 : (Jvm.Cond.constantLong "GuideSearchModel" (169 : Nat) (125 : Int64)) ∈ wg := wgm (i := 723) (by decide +kernel) rfl
theorem k_695 : (Jvm.Cond.methodLink "GuideSearchModel" (162 : Nat) ({ cls := "GuideSearchModel", name := "write", desc := "(I)V" } : Jvm.MethodName)) ∈ wg := wgm (i := 724) (by decide +kernel) rfl
theorem k_697 : (Jvm.Cond.instanceMethod ({ cls := "GuideSearchModel", name := "write", desc := "(I)V" } : Jvm.MethodName)) ∈ wg := wgm (i := 726) (by decide +kernel) rfl
set_option maxRecDepth 20000 in
theorem k_698 : (Jvm.Cond.code ({ cls := "GuideSearchModel", name := "write", desc := "(I)V" } : Jvm.MethodName) prog_7_method_26_code (6 : Nat) (Option.none : Option Jvm.ClassFile.FieldType)) ∈ wg := wgm (i := 727) rfl rfl
theorem k_707 : (Jvm.Cond.methodLink "GuideSearchModel" (178 : Nat) ({ cls := "GuideSearchModel", name := "common", desc := "(JJ)J" } : Jvm.MethodName)) ∈ wg := wgm (i := 736) (by decide +kernel) rfl
theorem k_708 : (Jvm.Cond.static ({ cls := "GuideSearchModel", name := "common", desc := "(JJ)J" } : Jvm.MethodName)) ∈ wg := wgm (i := 737) (by decide +kernel) rfl
set_option maxRecDepth 20000 in
theorem k_709 : (Jvm.Cond.code ({ cls := "GuideSearchModel", name := "common", desc := "(JJ)J" } : Jvm.MethodName) prog_7_method_30_code (10 : Nat) (Option.some Jvm.ClassFile.FieldType.long)) ∈ wg := wgm (i := 738) rfl rfl
theorem ks_0 : Cond.selects "GuideSearch$Tests" ⟨"GuideSearch$Tests", "hasPlace", "(II)Z"⟩ ⟨"GuideSearch$Tests", "hasPlace", "(II)Z"⟩ ∈ wg := wgm (i := 0) (by decide +kernel) rfl
theorem ks_1 : Cond.selects "GuideSearch$Plan" ⟨"GuideSearch$Plan", "weighFirst", "(I)V"⟩ ⟨"GuideSearch$Plan", "weighFirst", "(I)V"⟩ ∈ wg := wgm (i := 1) (by decide +kernel) rfl
theorem ks_2 : Cond.selects "GuideSearch$Plan" ⟨"GuideSearch$Plan", "choose", "(II)V"⟩ ⟨"GuideSearch$Plan", "choose", "(II)V"⟩ ∈ wg := wgm (i := 2) (by decide +kernel) rfl
theorem ks_3 : Cond.selects "GuideSearch$Plan" ⟨"GuideSearch$Plan", "leftAt", "(I)I"⟩ ⟨"GuideSearch$Plan", "leftAt", "(I)I"⟩ ∈ wg := wgm (i := 3) (by decide +kernel) rfl
theorem ks_4 : Cond.selects "GuideSearch$Plan" ⟨"GuideSearch$Plan", "weightAt", "(I)J"⟩ ⟨"GuideSearch$Plan", "weightAt", "(I)J"⟩ ∈ wg := wgm (i := 4) (by decide +kernel) rfl
theorem ks_5 : Cond.selects "GuideSearch$Plan" ⟨"GuideSearch$Plan", "valuesBehind", "(III)J"⟩ ⟨"GuideSearch$Plan", "valuesBehind", "(III)J"⟩ ∈ wg := wgm (i := 5) (by decide +kernel) rfl
theorem ks_6 : Cond.selects "GuideSearch$Plan" ⟨"GuideSearch$Plan", "weighBehind", "(III)V"⟩ ⟨"GuideSearch$Plan", "weighBehind", "(III)V"⟩ ∈ wg := wgm (i := 6) (by decide +kernel) rfl
theorem ks_7 : Cond.selects "GuideSearch$Plan" ⟨"GuideSearch$Plan", "keep", "(III)V"⟩ ⟨"GuideSearch$Plan", "keep", "(III)V"⟩ ∈ wg := wgm (i := 7) (by decide +kernel) rfl
theorem ks_8 : Cond.selects "GuideSearch$Cases" ⟨"GuideSearch$Cases", "bestGain", "(II)I"⟩ ⟨"GuideSearch$Cases", "bestGain", "(II)I"⟩ ∈ wg := wgm (i := 8) (by decide +kernel) rfl
theorem ks_9 : Cond.selects "GuideSearch$Cases" ⟨"GuideSearch$Cases", "gain", "(II)J"⟩ ⟨"GuideSearch$Cases", "gain", "(II)J"⟩ ∈ wg := wgm (i := 9) (by decide +kernel) rfl
theorem ks_10 : Cond.selects "GuideSearch$Cases" ⟨"GuideSearch$Cases", "greatestWeight", "(I)J"⟩ ⟨"GuideSearch$Cases", "greatestWeight", "(I)J"⟩ ∈ wg := wgm (i := 10) (by decide +kernel) rfl
theorem ks_12 : Cond.selects "GuideSearchModel" ⟨"GuideSearchModel", "noFault", "(I)Z"⟩ ⟨"GuideSearchModel", "noFault", "(I)Z"⟩ ∈ wg := wgm (i := 12) (by decide +kernel) rfl
theorem ks_13 : Cond.selects "GuideSearchModel" ⟨"GuideSearchModel", "noCause", "(I)Z"⟩ ⟨"GuideSearchModel", "noCause", "(I)Z"⟩ ∈ wg := wgm (i := 13) (by decide +kernel) rfl
theorem ks_14 : Cond.selects "GuideSearchModel" ⟨"GuideSearchModel", "noTest", "(I)Z"⟩ ⟨"GuideSearchModel", "noTest", "(I)Z"⟩ ∈ wg := wgm (i := 14) (by decide +kernel) rfl
theorem ks_15 : Cond.selects "GuideSearchModel" ⟨"GuideSearchModel", "oddsOf", "(III)I"⟩ ⟨"GuideSearchModel", "oddsOf", "(III)I"⟩ ∈ wg := wgm (i := 15) (by decide +kernel) rfl
theorem ks_16 : Cond.selects "GuideSearchModel" ⟨"GuideSearchModel", "stateNow", "()I"⟩ ⟨"GuideSearchModel", "stateNow", "()I"⟩ ∈ wg := wgm (i := 16) (by decide +kernel) rfl
theorem ks_17 : Cond.selects "GuideSearchModel" ⟨"GuideSearchModel", "oneStep", "(I)I"⟩ ⟨"GuideSearchModel", "oneStep", "(I)I"⟩ ∈ wg := wgm (i := 17) (by decide +kernel) rfl
theorem ks_18 : Cond.selects "GuideSearchModel" ⟨"GuideSearchModel", "look", "(I)V"⟩ ⟨"GuideSearchModel", "look", "(I)V"⟩ ∈ wg := wgm (i := 18) (by decide +kernel) rfl
theorem ks_19 : Cond.selects "GuideSearchModel" ⟨"GuideSearchModel", "left", "()I"⟩ ⟨"GuideSearchModel", "left", "()I"⟩ ∈ wg := wgm (i := 19) (by decide +kernel) rfl
theorem ks_20 : Cond.selects "GuideSearchModel" ⟨"GuideSearchModel", "findUse", "()V"⟩ ⟨"GuideSearchModel", "findUse", "()V"⟩ ∈ wg := wgm (i := 20) (by decide +kernel) rfl
theorem ks_21 : Cond.selects "GuideSearchModel" ⟨"GuideSearchModel", "may", "(I)Z"⟩ ⟨"GuideSearchModel", "may", "(I)Z"⟩ ∈ wg := wgm (i := 21) (by decide +kernel) rfl
theorem ks_22 : Cond.selects "GuideSearchModel" ⟨"GuideSearchModel", "free", "()I"⟩ ⟨"GuideSearchModel", "free", "()I"⟩ ∈ wg := wgm (i := 22) (by decide +kernel) rfl
theorem ks_23 : Cond.selects "GuideSearchModel" ⟨"GuideSearchModel", "gain", "(II)J"⟩ ⟨"GuideSearchModel", "gain", "(II)J"⟩ ∈ wg := wgm (i := 23) (by decide +kernel) rfl
theorem ks_24 : Cond.selects "GuideSearchModel" ⟨"GuideSearchModel", "most", "()J"⟩ ⟨"GuideSearchModel", "most", "()J"⟩ ∈ wg := wgm (i := 24) (by decide +kernel) rfl
theorem ks_25 : Cond.selects "GuideSearchModel" ⟨"GuideSearchModel", "isBehind", "(II)Z"⟩ ⟨"GuideSearchModel", "isBehind", "(II)Z"⟩ ∈ wg := wgm (i := 25) (by decide +kernel) rfl
theorem ks_26 : Cond.selects "GuideSearchModel" ⟨"GuideSearchModel", "find", "(I)V"⟩ ⟨"GuideSearchModel", "find", "(I)V"⟩ ∈ wg := wgm (i := 26) (by decide +kernel) rfl
theorem ks_27 : Cond.selects "GuideSearchModel" ⟨"GuideSearchModel", "sum", "()J"⟩ ⟨"GuideSearchModel", "sum", "()J"⟩ ∈ wg := wgm (i := 27) (by decide +kernel) rfl
theorem ks_28 : Cond.selects "GuideSearchModel" ⟨"GuideSearchModel", "write", "(I)V"⟩ ⟨"GuideSearchModel", "write", "(I)V"⟩ ∈ wg := wgm (i := 28) (by decide +kernel) rfl
set_option maxRecDepth 20000 in
theorem i_G : ∀ w ∈ u_ws "GuideSearch" F_G 6, w ∈ wg := by
  have h : u_ws "GuideSearch" F_G 6 = [(Jvm.Cond.laysFinal "GuideSearch" "GuideSearch" "causes" "LGuideSearch$Causes;"), (Jvm.Cond.laysFinal "GuideSearch" "GuideSearch" "tests" "LGuideSearch$Tests;"), (Jvm.Cond.laysFinal "GuideSearch" "GuideSearch" "cases" "LGuideSearch$Cases;"), (Jvm.Cond.laysFinal "GuideSearch" "GuideSearch" "plan" "LGuideSearch$Plan;"), (Jvm.Cond.lays "GuideSearch" "GuideSearch" "open" "I"), (Jvm.Cond.lays "GuideSearch" "GuideSearch" "planned" "Z")] := by decide +kernel
  rw [h]
  exact List.forall_mem_cons.mpr ⟨k_135, List.forall_mem_cons.mpr ⟨k_137, List.forall_mem_cons.mpr ⟨k_139, List.forall_mem_cons.mpr ⟨k_141, List.forall_mem_cons.mpr ⟨k_143, List.forall_mem_cons.mpr ⟨k_145, fun _ h => absurd h List.not_mem_nil⟩⟩⟩⟩⟩⟩
set_option maxRecDepth 20000 in
theorem i_C : ∀ w ∈ u_ws "GuideSearch$Causes" F_C 5, w ∈ wg := by
  have h : u_ws "GuideSearch$Causes" F_C 5 = [(Jvm.Cond.laysFinal "GuideSearch$Causes" "GuideSearch$Causes" "priors" "[J"), (Jvm.Cond.laysFinal "GuideSearch$Causes" "GuideSearch$Causes" "members" "[I"), (Jvm.Cond.laysFinal "GuideSearch$Causes" "GuideSearch$Causes" "learned" "[I"), (Jvm.Cond.lays "GuideSearch$Causes" "GuideSearch$Causes" "count" "I"), (Jvm.Cond.lays "GuideSearch$Causes" "GuideSearch$Causes" "faults" "I")] := by decide +kernel
  rw [h]
  exact List.forall_mem_cons.mpr ⟨k_36, List.forall_mem_cons.mpr ⟨k_38, List.forall_mem_cons.mpr ⟨k_40, List.forall_mem_cons.mpr ⟨k_42, List.forall_mem_cons.mpr ⟨k_44, fun _ h => absurd h List.not_mem_nil⟩⟩⟩⟩⟩
set_option maxRecDepth 20000 in
theorem i_T : ∀ w ∈ u_ws "GuideSearch$Tests" F_T 4, w ∈ wg := by
  have h : u_ws "GuideSearch$Tests" F_T 4 = [(Jvm.Cond.laysFinal "GuideSearch$Tests" "GuideSearch$Tests" "costs" "[I"), (Jvm.Cond.laysFinal "GuideSearch$Tests" "GuideSearch$Tests" "needed" "[I"), (Jvm.Cond.laysFinal "GuideSearch$Tests" "GuideSearch$Tests" "table" "[[I"), (Jvm.Cond.lays "GuideSearch$Tests" "GuideSearch$Tests" "count" "I")] := by decide +kernel
  rw [h]
  exact List.forall_mem_cons.mpr ⟨k_66, List.forall_mem_cons.mpr ⟨k_68, List.forall_mem_cons.mpr ⟨k_70, List.forall_mem_cons.mpr ⟨k_72, fun _ h => absurd h List.not_mem_nil⟩⟩⟩⟩
set_option maxRecDepth 20000 in
theorem i_K : ∀ w ∈ u_ws "GuideSearch$Cases" F_K 2, w ∈ wg := by
  have h : u_ws "GuideSearch$Cases" F_K 2 = [(Jvm.Cond.laysFinal "GuideSearch$Cases" "GuideSearch$Cases" "causes" "LGuideSearch$Causes;"), (Jvm.Cond.laysFinal "GuideSearch$Cases" "GuideSearch$Cases" "tests" "LGuideSearch$Tests;")] := by decide +kernel
  rw [h]
  exact List.forall_mem_cons.mpr ⟨k_84, List.forall_mem_cons.mpr ⟨k_86, fun _ h => absurd h List.not_mem_nil⟩⟩
set_option maxRecDepth 20000 in
theorem i_P : ∀ w ∈ u_ws "GuideSearch$Plan" F_P 9, w ∈ wg := by
  have h : u_ws "GuideSearch$Plan" F_P 9 = [(Jvm.Cond.laysFinal "GuideSearch$Plan" "GuideSearch$Plan" "cases" "LGuideSearch$Cases;"), (Jvm.Cond.laysFinal "GuideSearch$Plan" "GuideSearch$Plan" "values" "[J"), (Jvm.Cond.laysFinal "GuideSearch$Plan" "GuideSearch$Plan" "picks" "[B"), (Jvm.Cond.laysFinal "GuideSearch$Plan" "GuideSearch$Plan" "weights" "[[J"), (Jvm.Cond.laysFinal "GuideSearch$Plan" "GuideSearch$Plan" "nodeTests" "[B"), (Jvm.Cond.laysFinal "GuideSearch$Plan" "GuideSearch$Plan" "nodeLefts" "[B"), (Jvm.Cond.laysFinal "GuideSearch$Plan" "GuideSearch$Plan" "nodeAnswers" "[B"), (Jvm.Cond.lays "GuideSearch$Plan" "GuideSearch$Plan" "nodes" "I"), (Jvm.Cond.lays "GuideSearch$Plan" "GuideSearch$Plan" "thousandths" "J")] := by decide +kernel
  rw [h]
  exact List.forall_mem_cons.mpr ⟨k_109, List.forall_mem_cons.mpr ⟨k_111, List.forall_mem_cons.mpr ⟨k_113, List.forall_mem_cons.mpr ⟨k_115, List.forall_mem_cons.mpr ⟨k_117, List.forall_mem_cons.mpr ⟨k_119, List.forall_mem_cons.mpr ⟨k_121, List.forall_mem_cons.mpr ⟨k_123, List.forall_mem_cons.mpr ⟨k_125, fun _ h => absurd h List.not_mem_nil⟩⟩⟩⟩⟩⟩⟩⟩⟩
set_option maxRecDepth 20000 in
theorem i_M : ∀ w ∈ u_ws "GuideSearchModel" F_M 25, w ∈ wg := by
  have h : u_ws "GuideSearchModel" F_M 25 = [(Jvm.Cond.lays "GuideSearchModel" "GuideSearchModel" "code" "I"), (Jvm.Cond.lays "GuideSearchModel" "GuideSearchModel" "causes" "I"), (Jvm.Cond.lays "GuideSearchModel" "GuideSearchModel" "faults" "I"), (Jvm.Cond.laysFinal "GuideSearchModel" "GuideSearchModel" "one" "[I"), (Jvm.Cond.laysFinal "GuideSearchModel" "GuideSearchModel" "two" "[I"), (Jvm.Cond.laysFinal "GuideSearchModel" "GuideSearchModel" "prior" "[J"), (Jvm.Cond.laysFinal "GuideSearchModel" "GuideSearchModel" "learned" "[I"), (Jvm.Cond.lays "GuideSearchModel" "GuideSearchModel" "strangers" "I"), (Jvm.Cond.lays "GuideSearchModel" "GuideSearchModel" "tests" "I"), (Jvm.Cond.laysFinal "GuideSearchModel" "GuideSearchModel" "price" "[J"), (Jvm.Cond.laysFinal "GuideSearchModel" "GuideSearchModel" "needs" "[Z"), (Jvm.Cond.laysFinal "GuideSearchModel" "GuideSearchModel" "odds" "[I"), (Jvm.Cond.laysFinal "GuideSearchModel" "GuideSearchModel" "given" "[I"), (Jvm.Cond.lays "GuideSearchModel" "GuideSearchModel" "exact" "Z"), (Jvm.Cond.lays "GuideSearchModel" "GuideSearchModel" "cost" "J"), (Jvm.Cond.lays "GuideSearchModel" "GuideSearchModel" "nodes" "I"), (Jvm.Cond.laysFinal "GuideSearchModel" "GuideSearchModel" "node" "[I"), (Jvm.Cond.laysFinal "GuideSearchModel" "GuideSearchModel" "value" "[J"), (Jvm.Cond.laysFinal "GuideSearchModel" "GuideSearchModel" "best" "[I"), (Jvm.Cond.laysFinal "GuideSearchModel" "GuideSearchModel" "digit" "[I"), (Jvm.Cond.laysFinal "GuideSearchModel" "GuideSearchModel" "weight" "[J"), (Jvm.Cond.laysFinal "GuideSearchModel" "GuideSearchModel" "wait" "[I"), (Jvm.Cond.laysFinal "GuideSearchModel" "GuideSearchModel" "by" "[I"), (Jvm.Cond.laysFinal "GuideSearchModel" "GuideSearchModel" "found" "[Z"), (Jvm.Cond.laysFinal "GuideSearchModel" "GuideSearchModel" "use" "[Z")] := by decide +kernel
  rw [h]
  exact List.forall_mem_cons.mpr ⟨k_532, List.forall_mem_cons.mpr ⟨k_534, List.forall_mem_cons.mpr ⟨k_536, List.forall_mem_cons.mpr ⟨k_538, List.forall_mem_cons.mpr ⟨k_540, List.forall_mem_cons.mpr ⟨k_542, List.forall_mem_cons.mpr ⟨k_544, List.forall_mem_cons.mpr ⟨k_546, List.forall_mem_cons.mpr ⟨k_548, List.forall_mem_cons.mpr ⟨k_550, List.forall_mem_cons.mpr ⟨k_552, List.forall_mem_cons.mpr ⟨k_554, List.forall_mem_cons.mpr ⟨k_556, List.forall_mem_cons.mpr ⟨k_558, List.forall_mem_cons.mpr ⟨k_560, List.forall_mem_cons.mpr ⟨k_562, List.forall_mem_cons.mpr ⟨k_564, List.forall_mem_cons.mpr ⟨k_566, List.forall_mem_cons.mpr ⟨k_568, List.forall_mem_cons.mpr ⟨k_570, List.forall_mem_cons.mpr ⟨k_572, List.forall_mem_cons.mpr ⟨k_574, List.forall_mem_cons.mpr ⟨k_576, List.forall_mem_cons.mpr ⟨k_578, List.forall_mem_cons.mpr ⟨k_580, fun _ h => absurd h List.not_mem_nil⟩⟩⟩⟩⟩⟩⟩⟩⟩⟩⟩⟩⟩⟩⟩⟩⟩⟩⟩⟩⟩⟩⟩⟩⟩
