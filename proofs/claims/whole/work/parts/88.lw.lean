theorem k_148 : (Jvm.Cond.methodLink "GuideSearchLaw" (21 : Nat) ({ cls := "GuideSearch", name := "fault", desc := "(JJ)I" } : Jvm.MethodName)) ∈ wg := wgm (i := 177) (by decide +kernel) rfl
theorem k_149 : (Jvm.Cond.instanceMethod ({ cls := "GuideSearch", name := "fault", desc := "(JJ)I" } : Jvm.MethodName)) ∈ wg := wgm (i := 178) (by decide +kernel) rfl
theorem k_150 : (Jvm.Cond.selects "GuideSearch" ({ cls := "GuideSearch", name := "fault", desc := "(JJ)I" } : Jvm.MethodName) ({ cls := "GuideSearch", name := "fault", desc := "(JJ)I" } : Jvm.MethodName)) ∈ wg := wgm (i := 179) (by decide +kernel) rfl
set_option maxRecDepth 20000 in
theorem k_151 : (Jvm.Cond.code ({ cls := "GuideSearch", name := "fault", desc := "(JJ)I" } : Jvm.MethodName) prog_1_method_2_code (5 : Nat) (Option.some Jvm.ClassFile.FieldType.int)) ∈ wg := wgm (i := 180) rfl rfl
theorem k_159 : (Jvm.Cond.methodLink "GuideSearchLaw" (26 : Nat) ({ cls := "GuideSearch", name := "test", desc := "(J)I" } : Jvm.MethodName)) ∈ wg := wgm (i := 188) (by decide +kernel) rfl
theorem k_160 : (Jvm.Cond.instanceMethod ({ cls := "GuideSearch", name := "test", desc := "(J)I" } : Jvm.MethodName)) ∈ wg := wgm (i := 189) (by decide +kernel) rfl
theorem k_161 : (Jvm.Cond.selects "GuideSearch" ({ cls := "GuideSearch", name := "test", desc := "(J)I" } : Jvm.MethodName) ({ cls := "GuideSearch", name := "test", desc := "(J)I" } : Jvm.MethodName)) ∈ wg := wgm (i := 190) (by decide +kernel) rfl
set_option maxRecDepth 20000 in
theorem k_162 : (Jvm.Cond.code ({ cls := "GuideSearch", name := "test", desc := "(J)I" } : Jvm.MethodName) prog_1_method_3_code (3 : Nat) (Option.some Jvm.ClassFile.FieldType.int)) ∈ wg := wgm (i := 191) rfl rfl
theorem k_168 : (Jvm.Cond.methodLink "GuideSearchLaw" (31 : Nat) ({ cls := "GuideSearch", name := "odds", desc := "(IIIJJ)I" } : Jvm.MethodName)) ∈ wg := wgm (i := 197) (by decide +kernel) rfl
theorem k_169 : (Jvm.Cond.instanceMethod ({ cls := "GuideSearch", name := "odds", desc := "(IIIJJ)I" } : Jvm.MethodName)) ∈ wg := wgm (i := 198) (by decide +kernel) rfl
theorem k_170 : (Jvm.Cond.selects "GuideSearch" ({ cls := "GuideSearch", name := "odds", desc := "(IIIJJ)I" } : Jvm.MethodName) ({ cls := "GuideSearch", name := "odds", desc := "(IIIJJ)I" } : Jvm.MethodName)) ∈ wg := wgm (i := 199) (by decide +kernel) rfl
set_option maxRecDepth 20000 in
theorem k_171 : (Jvm.Cond.code ({ cls := "GuideSearch", name := "odds", desc := "(IIIJJ)I" } : Jvm.MethodName) prog_1_method_4_code (10 : Nat) (Option.some Jvm.ClassFile.FieldType.int)) ∈ wg := wgm (i := 200) rfl rfl
theorem k_208 : (Jvm.Cond.methodLink "GuideSearchLaw" (36 : Nat) ({ cls := "GuideSearch", name := "needs", desc := "(II)I" } : Jvm.MethodName)) ∈ wg := wgm (i := 237) (by decide +kernel) rfl
theorem k_209 : (Jvm.Cond.instanceMethod ({ cls := "GuideSearch", name := "needs", desc := "(II)I" } : Jvm.MethodName)) ∈ wg := wgm (i := 238) (by decide +kernel) rfl
theorem k_210 : (Jvm.Cond.selects "GuideSearch" ({ cls := "GuideSearch", name := "needs", desc := "(II)I" } : Jvm.MethodName) ({ cls := "GuideSearch", name := "needs", desc := "(II)I" } : Jvm.MethodName)) ∈ wg := wgm (i := 239) (by decide +kernel) rfl
set_option maxRecDepth 20000 in
theorem k_211 : (Jvm.Cond.code ({ cls := "GuideSearch", name := "needs", desc := "(II)I" } : Jvm.MethodName) prog_1_method_5_code (3 : Nat) (Option.some Jvm.ClassFile.FieldType.int)) ∈ wg := wgm (i := 240) rfl rfl
theorem k_233 : (Jvm.Cond.methodLink "GuideSearchLaw" (41 : Nat) ({ cls := "GuideSearch", name := "next", desc := "(J)I" } : Jvm.MethodName)) ∈ wg := wgm (i := 262) (by decide +kernel) rfl
theorem k_234 : (Jvm.Cond.instanceMethod ({ cls := "GuideSearch", name := "next", desc := "(J)I" } : Jvm.MethodName)) ∈ wg := wgm (i := 263) (by decide +kernel) rfl
theorem k_235 : (Jvm.Cond.selects "GuideSearch" ({ cls := "GuideSearch", name := "next", desc := "(J)I" } : Jvm.MethodName) ({ cls := "GuideSearch", name := "next", desc := "(J)I" } : Jvm.MethodName)) ∈ wg := wgm (i := 264) (by decide +kernel) rfl
set_option maxRecDepth 20000 in
theorem k_236 : (Jvm.Cond.code ({ cls := "GuideSearch", name := "next", desc := "(J)I" } : Jvm.MethodName) prog_1_method_6_code (3 : Nat) (Option.some Jvm.ClassFile.FieldType.int)) ∈ wg := wgm (i := 265) rfl rfl
theorem k_361 : (Jvm.Cond.methodLink "GuideSearchLaw" (45 : Nat) ({ cls := "GuideSearch", name := "answer", desc := "(II)I" } : Jvm.MethodName)) ∈ wg := wgm (i := 390) (by decide +kernel) rfl
theorem k_362 : (Jvm.Cond.instanceMethod ({ cls := "GuideSearch", name := "answer", desc := "(II)I" } : Jvm.MethodName)) ∈ wg := wgm (i := 391) (by decide +kernel) rfl
theorem k_363 : (Jvm.Cond.selects "GuideSearch" ({ cls := "GuideSearch", name := "answer", desc := "(II)I" } : Jvm.MethodName) ({ cls := "GuideSearch", name := "answer", desc := "(II)I" } : Jvm.MethodName)) ∈ wg := wgm (i := 392) (by decide +kernel) rfl
set_option maxRecDepth 20000 in
theorem k_364 : (Jvm.Cond.code ({ cls := "GuideSearch", name := "answer", desc := "(II)I" } : Jvm.MethodName) prog_1_method_7_code (3 : Nat) (Option.some Jvm.ClassFile.FieldType.int)) ∈ wg := wgm (i := 393) rfl rfl
theorem k_369 : (Jvm.Cond.methodLink "GuideSearchLaw" (59 : Nat) ({ cls := "GuideSearch", name := "exact", desc := "()Z" } : Jvm.MethodName)) ∈ wg := wgm (i := 398) (by decide +kernel) rfl
theorem k_370 : (Jvm.Cond.instanceMethod ({ cls := "GuideSearch", name := "exact", desc := "()Z" } : Jvm.MethodName)) ∈ wg := wgm (i := 399) (by decide +kernel) rfl
theorem k_371 : (Jvm.Cond.selects "GuideSearch" ({ cls := "GuideSearch", name := "exact", desc := "()Z" } : Jvm.MethodName) ({ cls := "GuideSearch", name := "exact", desc := "()Z" } : Jvm.MethodName)) ∈ wg := wgm (i := 400) (by decide +kernel) rfl
set_option maxRecDepth 20000 in
theorem k_372 : (Jvm.Cond.code ({ cls := "GuideSearch", name := "exact", desc := "()Z" } : Jvm.MethodName) prog_1_method_9_code (1 : Nat) (Option.some Jvm.ClassFile.FieldType.boolean)) ∈ wg := wgm (i := 401) rfl rfl
theorem k_373 : (Jvm.Cond.methodLink "GuideSearchLaw" (64 : Nat) ({ cls := "GuideSearch", name := "cost", desc := "()J" } : Jvm.MethodName)) ∈ wg := wgm (i := 402) (by decide +kernel) rfl
theorem k_374 : (Jvm.Cond.instanceMethod ({ cls := "GuideSearch", name := "cost", desc := "()J" } : Jvm.MethodName)) ∈ wg := wgm (i := 403) (by decide +kernel) rfl
theorem k_375 : (Jvm.Cond.selects "GuideSearch" ({ cls := "GuideSearch", name := "cost", desc := "()J" } : Jvm.MethodName) ({ cls := "GuideSearch", name := "cost", desc := "()J" } : Jvm.MethodName)) ∈ wg := wgm (i := 404) (by decide +kernel) rfl
set_option maxRecDepth 20000 in
theorem k_376 : (Jvm.Cond.code ({ cls := "GuideSearch", name := "cost", desc := "()J" } : Jvm.MethodName) prog_1_method_10_code (1 : Nat) (Option.some Jvm.ClassFile.FieldType.long)) ∈ wg := wgm (i := 405) rfl rfl
theorem k_377 : (Jvm.Cond.methodLink "GuideSearchLaw" (69 : Nat) ({ cls := "GuideSearch", name := "pair", desc := "(II)I" } : Jvm.MethodName)) ∈ wg := wgm (i := 406) (by decide +kernel) rfl
theorem k_378 : (Jvm.Cond.instanceMethod ({ cls := "GuideSearch", name := "pair", desc := "(II)I" } : Jvm.MethodName)) ∈ wg := wgm (i := 407) (by decide +kernel) rfl
theorem k_379 : (Jvm.Cond.selects "GuideSearch" ({ cls := "GuideSearch", name := "pair", desc := "(II)I" } : Jvm.MethodName) ({ cls := "GuideSearch", name := "pair", desc := "(II)I" } : Jvm.MethodName)) ∈ wg := wgm (i := 408) (by decide +kernel) rfl
set_option maxRecDepth 20000 in
theorem k_380 : (Jvm.Cond.code ({ cls := "GuideSearch", name := "pair", desc := "(II)I" } : Jvm.MethodName) prog_1_method_11_code (3 : Nat) (Option.some Jvm.ClassFile.FieldType.int)) ∈ wg := wgm (i := 409) rfl rfl
theorem k_394 : (Jvm.Cond.methodLink "GuideSearchLaw" (73 : Nat) ({ cls := "GuideSearch", name := "learn", desc := "(I)I" } : Jvm.MethodName)) ∈ wg := wgm (i := 423) (by decide +kernel) rfl
theorem k_395 : (Jvm.Cond.instanceMethod ({ cls := "GuideSearch", name := "learn", desc := "(I)I" } : Jvm.MethodName)) ∈ wg := wgm (i := 424) (by decide +kernel) rfl
theorem k_396 : (Jvm.Cond.selects "GuideSearch" ({ cls := "GuideSearch", name := "learn", desc := "(I)I" } : Jvm.MethodName) ({ cls := "GuideSearch", name := "learn", desc := "(I)I" } : Jvm.MethodName)) ∈ wg := wgm (i := 425) (by decide +kernel) rfl
set_option maxRecDepth 20000 in
theorem k_397 : (Jvm.Cond.code ({ cls := "GuideSearch", name := "learn", desc := "(I)I" } : Jvm.MethodName) prog_1_method_12_code (2 : Nat) (Option.some Jvm.ClassFile.FieldType.int)) ∈ wg := wgm (i := 426) rfl rfl
theorem k_402 : (Jvm.Cond.methodLink "GuideSearchLaw" (78 : Nat) ({ cls := "GuideSearch", name := "tree", desc := "(II)I" } : Jvm.MethodName)) ∈ wg := wgm (i := 431) (by decide +kernel) rfl
theorem k_403 : (Jvm.Cond.instanceMethod ({ cls := "GuideSearch", name := "tree", desc := "(II)I" } : Jvm.MethodName)) ∈ wg := wgm (i := 432) (by decide +kernel) rfl
theorem k_404 : (Jvm.Cond.selects "GuideSearch" ({ cls := "GuideSearch", name := "tree", desc := "(II)I" } : Jvm.MethodName) ({ cls := "GuideSearch", name := "tree", desc := "(II)I" } : Jvm.MethodName)) ∈ wg := wgm (i := 433) (by decide +kernel) rfl
set_option maxRecDepth 20000 in
theorem k_405 : (Jvm.Cond.code ({ cls := "GuideSearch", name := "tree", desc := "(II)I" } : Jvm.MethodName) prog_1_method_13_code (3 : Nat) (Option.some Jvm.ClassFile.FieldType.int)) ∈ wg := wgm (i := 434) rfl rfl
theorem k_410 : (Jvm.Cond.methodLink "GuideSearchLaw" (82 : Nat) ({ cls := "GuideSearch", name := "never", desc := "(I)I" } : Jvm.MethodName)) ∈ wg := wgm (i := 439) (by decide +kernel) rfl
theorem k_411 : (Jvm.Cond.instanceMethod ({ cls := "GuideSearch", name := "never", desc := "(I)I" } : Jvm.MethodName)) ∈ wg := wgm (i := 440) (by decide +kernel) rfl
theorem k_412 : (Jvm.Cond.selects "GuideSearch" ({ cls := "GuideSearch", name := "never", desc := "(I)I" } : Jvm.MethodName) ({ cls := "GuideSearch", name := "never", desc := "(I)I" } : Jvm.MethodName)) ∈ wg := wgm (i := 441) (by decide +kernel) rfl
set_option maxRecDepth 20000 in
theorem k_413 : (Jvm.Cond.code ({ cls := "GuideSearch", name := "never", desc := "(I)I" } : Jvm.MethodName) prog_1_method_14_code (4 : Nat) (Option.some Jvm.ClassFile.FieldType.int)) ∈ wg := wgm (i := 442) rfl rfl
theorem k_588 : (Jvm.Cond.methodLink "GuideSearchLaw" (25 : Nat) ({ cls := "GuideSearchModel", name := "fault", desc := "(JJ)I" } : Jvm.MethodName)) ∈ wg := wgm (i := 617) (by decide +kernel) rfl
theorem k_589 : (Jvm.Cond.instanceMethod ({ cls := "GuideSearchModel", name := "fault", desc := "(JJ)I" } : Jvm.MethodName)) ∈ wg := wgm (i := 618) (by decide +kernel) rfl
theorem k_590 : (Jvm.Cond.selects "GuideSearchModel" ({ cls := "GuideSearchModel", name := "fault", desc := "(JJ)I" } : Jvm.MethodName) ({ cls := "GuideSearchModel", name := "fault", desc := "(JJ)I" } : Jvm.MethodName)) ∈ wg := wgm (i := 619) (by decide +kernel) rfl
set_option maxRecDepth 20000 in
theorem k_591 : (Jvm.Cond.code ({ cls := "GuideSearchModel", name := "fault", desc := "(JJ)I" } : Jvm.MethodName) prog_7_method_6_code (5 : Nat) (Option.some Jvm.ClassFile.FieldType.int)) ∈ wg := wgm (i := 620) rfl rfl
theorem k_594 : (Jvm.Cond.methodLink "GuideSearchLaw" (72 : Nat) ({ cls := "GuideSearchModel", name := "pair", desc := "(II)I" } : Jvm.MethodName)) ∈ wg := wgm (i := 623) (by decide +kernel) rfl
theorem k_595 : (Jvm.Cond.instanceMethod ({ cls := "GuideSearchModel", name := "pair", desc := "(II)I" } : Jvm.MethodName)) ∈ wg := wgm (i := 624) (by decide +kernel) rfl
theorem k_596 : (Jvm.Cond.selects "GuideSearchModel" ({ cls := "GuideSearchModel", name := "pair", desc := "(II)I" } : Jvm.MethodName) ({ cls := "GuideSearchModel", name := "pair", desc := "(II)I" } : Jvm.MethodName)) ∈ wg := wgm (i := 625) (by decide +kernel) rfl
set_option maxRecDepth 20000 in
theorem k_597 : (Jvm.Cond.code ({ cls := "GuideSearchModel", name := "pair", desc := "(II)I" } : Jvm.MethodName) prog_7_method_7_code (6 : Nat) (Option.some Jvm.ClassFile.FieldType.int)) ∈ wg := wgm (i := 626) rfl rfl
theorem k_607 : (Jvm.Cond.methodLink "GuideSearchLaw" (30 : Nat) ({ cls := "GuideSearchModel", name := "test", desc := "(J)I" } : Jvm.MethodName)) ∈ wg := wgm (i := 636) (by decide +kernel) rfl
theorem k_608 : (Jvm.Cond.instanceMethod ({ cls := "GuideSearchModel", name := "test", desc := "(J)I" } : Jvm.MethodName)) ∈ wg := wgm (i := 637) (by decide +kernel) rfl
theorem k_609 : (Jvm.Cond.selects "GuideSearchModel" ({ cls := "GuideSearchModel", name := "test", desc := "(J)I" } : Jvm.MethodName) ({ cls := "GuideSearchModel", name := "test", desc := "(J)I" } : Jvm.MethodName)) ∈ wg := wgm (i := 638) (by decide +kernel) rfl
set_option maxRecDepth 20000 in
theorem k_610 : (Jvm.Cond.code ({ cls := "GuideSearchModel", name := "test", desc := "(J)I" } : Jvm.MethodName) prog_7_method_8_code (3 : Nat) (Option.some Jvm.ClassFile.FieldType.int)) ∈ wg := wgm (i := 639) rfl rfl
theorem k_612 : (Jvm.Cond.methodLink "GuideSearchLaw" (35 : Nat) ({ cls := "GuideSearchModel", name := "odds", desc := "(IIIJJ)I" } : Jvm.MethodName)) ∈ wg := wgm (i := 641) (by decide +kernel) rfl
theorem k_613 : (Jvm.Cond.instanceMethod ({ cls := "GuideSearchModel", name := "odds", desc := "(IIIJJ)I" } : Jvm.MethodName)) ∈ wg := wgm (i := 642) (by decide +kernel) rfl
theorem k_614 : (Jvm.Cond.selects "GuideSearchModel" ({ cls := "GuideSearchModel", name := "odds", desc := "(IIIJJ)I" } : Jvm.MethodName) ({ cls := "GuideSearchModel", name := "odds", desc := "(IIIJJ)I" } : Jvm.MethodName)) ∈ wg := wgm (i := 643) (by decide +kernel) rfl
set_option maxRecDepth 20000 in
theorem k_615 : (Jvm.Cond.code ({ cls := "GuideSearchModel", name := "odds", desc := "(IIIJJ)I" } : Jvm.MethodName) prog_7_method_10_code (11 : Nat) (Option.some Jvm.ClassFile.FieldType.int)) ∈ wg := wgm (i := 644) rfl rfl
theorem k_625 : (Jvm.Cond.methodLink "GuideSearchLaw" (40 : Nat) ({ cls := "GuideSearchModel", name := "needs", desc := "(II)I" } : Jvm.MethodName)) ∈ wg := wgm (i := 654) (by decide +kernel) rfl
theorem k_626 : (Jvm.Cond.instanceMethod ({ cls := "GuideSearchModel", name := "needs", desc := "(II)I" } : Jvm.MethodName)) ∈ wg := wgm (i := 655) (by decide +kernel) rfl
theorem k_627 : (Jvm.Cond.selects "GuideSearchModel" ({ cls := "GuideSearchModel", name := "needs", desc := "(II)I" } : Jvm.MethodName) ({ cls := "GuideSearchModel", name := "needs", desc := "(II)I" } : Jvm.MethodName)) ∈ wg := wgm (i := 656) (by decide +kernel) rfl
set_option maxRecDepth 20000 in
theorem k_628 : (Jvm.Cond.code ({ cls := "GuideSearchModel", name := "needs", desc := "(II)I" } : Jvm.MethodName) prog_7_method_11_code (6 : Nat) (Option.some Jvm.ClassFile.FieldType.int)) ∈ wg := wgm (i := 657) rfl rfl
theorem k_629 : (Jvm.Cond.methodLink "GuideSearchLaw" (44 : Nat) ({ cls := "GuideSearchModel", name := "next", desc := "(J)I" } : Jvm.MethodName)) ∈ wg := wgm (i := 658) (by decide +kernel) rfl
theorem k_630 : (Jvm.Cond.instanceMethod ({ cls := "GuideSearchModel", name := "next", desc := "(J)I" } : Jvm.MethodName)) ∈ wg := wgm (i := 659) (by decide +kernel) rfl
theorem k_631 : (Jvm.Cond.selects "GuideSearchModel" ({ cls := "GuideSearchModel", name := "next", desc := "(J)I" } : Jvm.MethodName) ({ cls := "GuideSearchModel", name := "next", desc := "(J)I" } : Jvm.MethodName)) ∈ wg := wgm (i := 660) (by decide +kernel) rfl
set_option maxRecDepth 20000 in
theorem k_632 : (Jvm.Cond.code ({ cls := "GuideSearchModel", name := "next", desc := "(J)I" } : Jvm.MethodName) prog_7_method_24_code (8 : Nat) (Option.some Jvm.ClassFile.FieldType.int)) ∈ wg := wgm (i := 661) rfl rfl
theorem k_699 : (Jvm.Cond.methodLink "GuideSearchLaw" (48 : Nat) ({ cls := "GuideSearchModel", name := "answer", desc := "(II)I" } : Jvm.MethodName)) ∈ wg := wgm (i := 728) (by decide +kernel) rfl
theorem k_700 : (Jvm.Cond.instanceMethod ({ cls := "GuideSearchModel", name := "answer", desc := "(II)I" } : Jvm.MethodName)) ∈ wg := wgm (i := 729) (by decide +kernel) rfl
theorem k_701 : (Jvm.Cond.selects "GuideSearchModel" ({ cls := "GuideSearchModel", name := "answer", desc := "(II)I" } : Jvm.MethodName) ({ cls := "GuideSearchModel", name := "answer", desc := "(II)I" } : Jvm.MethodName)) ∈ wg := wgm (i := 730) (by decide +kernel) rfl
set_option maxRecDepth 20000 in
theorem k_702 : (Jvm.Cond.code ({ cls := "GuideSearchModel", name := "answer", desc := "(II)I" } : Jvm.MethodName) prog_7_method_29_code (3 : Nat) (Option.some Jvm.ClassFile.FieldType.int)) ∈ wg := wgm (i := 731) rfl rfl
theorem k_710 : (Jvm.Cond.methodLink "GuideSearchLaw" (63 : Nat) ({ cls := "GuideSearchModel", name := "exact", desc := "()Z" } : Jvm.MethodName)) ∈ wg := wgm (i := 739) (by decide +kernel) rfl
theorem k_711 : (Jvm.Cond.instanceMethod ({ cls := "GuideSearchModel", name := "exact", desc := "()Z" } : Jvm.MethodName)) ∈ wg := wgm (i := 740) (by decide +kernel) rfl
theorem k_712 : (Jvm.Cond.selects "GuideSearchModel" ({ cls := "GuideSearchModel", name := "exact", desc := "()Z" } : Jvm.MethodName) ({ cls := "GuideSearchModel", name := "exact", desc := "()Z" } : Jvm.MethodName)) ∈ wg := wgm (i := 741) (by decide +kernel) rfl
set_option maxRecDepth 20000 in
theorem k_713 : (Jvm.Cond.code ({ cls := "GuideSearchModel", name := "exact", desc := "()Z" } : Jvm.MethodName) prog_7_method_32_code (1 : Nat) (Option.some Jvm.ClassFile.FieldType.boolean)) ∈ wg := wgm (i := 742) rfl rfl
theorem k_714 : (Jvm.Cond.methodLink "GuideSearchLaw" (68 : Nat) ({ cls := "GuideSearchModel", name := "cost", desc := "()J" } : Jvm.MethodName)) ∈ wg := wgm (i := 743) (by decide +kernel) rfl
theorem k_715 : (Jvm.Cond.instanceMethod ({ cls := "GuideSearchModel", name := "cost", desc := "()J" } : Jvm.MethodName)) ∈ wg := wgm (i := 744) (by decide +kernel) rfl
theorem k_716 : (Jvm.Cond.selects "GuideSearchModel" ({ cls := "GuideSearchModel", name := "cost", desc := "()J" } : Jvm.MethodName) ({ cls := "GuideSearchModel", name := "cost", desc := "()J" } : Jvm.MethodName)) ∈ wg := wgm (i := 745) (by decide +kernel) rfl
set_option maxRecDepth 20000 in
theorem k_717 : (Jvm.Cond.code ({ cls := "GuideSearchModel", name := "cost", desc := "()J" } : Jvm.MethodName) prog_7_method_33_code (1 : Nat) (Option.some Jvm.ClassFile.FieldType.long)) ∈ wg := wgm (i := 746) rfl rfl
theorem k_718 : (Jvm.Cond.methodLink "GuideSearchLaw" (77 : Nat) ({ cls := "GuideSearchModel", name := "learn", desc := "(I)I" } : Jvm.MethodName)) ∈ wg := wgm (i := 747) (by decide +kernel) rfl
theorem k_719 : (Jvm.Cond.instanceMethod ({ cls := "GuideSearchModel", name := "learn", desc := "(I)I" } : Jvm.MethodName)) ∈ wg := wgm (i := 748) (by decide +kernel) rfl
theorem k_720 : (Jvm.Cond.selects "GuideSearchModel" ({ cls := "GuideSearchModel", name := "learn", desc := "(I)I" } : Jvm.MethodName) ({ cls := "GuideSearchModel", name := "learn", desc := "(I)I" } : Jvm.MethodName)) ∈ wg := wgm (i := 749) (by decide +kernel) rfl
set_option maxRecDepth 20000 in
theorem k_721 : (Jvm.Cond.code ({ cls := "GuideSearchModel", name := "learn", desc := "(I)I" } : Jvm.MethodName) prog_7_method_34_code (3 : Nat) (Option.some Jvm.ClassFile.FieldType.int)) ∈ wg := wgm (i := 750) rfl rfl
theorem k_722 : (Jvm.Cond.methodLink "GuideSearchLaw" (81 : Nat) ({ cls := "GuideSearchModel", name := "tree", desc := "(II)I" } : Jvm.MethodName)) ∈ wg := wgm (i := 751) (by decide +kernel) rfl
theorem k_723 : (Jvm.Cond.instanceMethod ({ cls := "GuideSearchModel", name := "tree", desc := "(II)I" } : Jvm.MethodName)) ∈ wg := wgm (i := 752) (by decide +kernel) rfl
theorem k_724 : (Jvm.Cond.selects "GuideSearchModel" ({ cls := "GuideSearchModel", name := "tree", desc := "(II)I" } : Jvm.MethodName) ({ cls := "GuideSearchModel", name := "tree", desc := "(II)I" } : Jvm.MethodName)) ∈ wg := wgm (i := 753) (by decide +kernel) rfl
set_option maxRecDepth 20000 in
theorem k_725 : (Jvm.Cond.code ({ cls := "GuideSearchModel", name := "tree", desc := "(II)I" } : Jvm.MethodName) prog_7_method_35_code (3 : Nat) (Option.some Jvm.ClassFile.FieldType.int)) ∈ wg := wgm (i := 754) rfl rfl
theorem k_726 : (Jvm.Cond.methodLink "GuideSearchLaw" (85 : Nat) ({ cls := "GuideSearchModel", name := "never", desc := "(I)I" } : Jvm.MethodName)) ∈ wg := wgm (i := 755) (by decide +kernel) rfl
theorem k_727 : (Jvm.Cond.instanceMethod ({ cls := "GuideSearchModel", name := "never", desc := "(I)I" } : Jvm.MethodName)) ∈ wg := wgm (i := 756) (by decide +kernel) rfl
theorem k_728 : (Jvm.Cond.selects "GuideSearchModel" ({ cls := "GuideSearchModel", name := "never", desc := "(I)I" } : Jvm.MethodName) ({ cls := "GuideSearchModel", name := "never", desc := "(I)I" } : Jvm.MethodName)) ∈ wg := wgm (i := 757) (by decide +kernel) rfl
set_option maxRecDepth 20000 in
theorem k_729 : (Jvm.Cond.code ({ cls := "GuideSearchModel", name := "never", desc := "(I)I" } : Jvm.MethodName) prog_7_method_36_code (6 : Nat) (Option.some Jvm.ClassFile.FieldType.int)) ∈ wg := wgm (i := 758) rfl rfl
theorem k_730 : (Jvm.Cond.constantLong "GuideSearchLaw" (19 : Nat) (4294967295 : Int64)) ∈ wg := wgm (i := 759) (by decide +kernel) rfl
theorem d_L_law_0 : decode code 0 = .ok (.new 8, 3) := by decide +kernel
theorem d_L_law_3 : decode code 3 = .ok (.dup, 1) := by decide +kernel
theorem d_L_law_4 : decode code 4 = .ok (.invokespecial 15, 3) := by decide +kernel
theorem d_L_law_7 : decode code 7 = .ok (.astore_n 1, 1) := by decide +kernel
theorem d_L_law_8 : decode code 8 = .ok (.new 16, 3) := by decide +kernel
theorem d_L_law_11 : decode code 11 = .ok (.dup, 1) := by decide +kernel
theorem d_L_law_12 : decode code 12 = .ok (.invokespecial 18, 3) := by decide +kernel
theorem d_L_law_15 : decode code 15 = .ok (.astore_n 2, 1) := by decide +kernel
theorem d_L_law_16 : decode code 16 = .ok (.iconst 1, 1) := by decide +kernel
theorem d_L_law_17 : decode code 17 = .ok (.newarray .long, 2) := by decide +kernel
theorem d_L_law_19 : decode code 19 = .ok (.astore_n 3, 1) := by decide +kernel
theorem d_L_law_20 : decode code 20 = .ok (.iconst 0, 1) := by decide +kernel
theorem d_L_law_21 : decode code 21 = .ok (.istore 4, 2) := by decide +kernel
theorem d_L_law_23 : decode code 23 = .ok (.iload 4, 2) := by decide +kernel
theorem d_L_law_25 : decode code 25 = .ok (.aload_n 0, 1) := by decide +kernel
theorem d_L_law_26 : decode code 26 = .ok (.arraylength, 1) := by decide +kernel
theorem d_L_law_27 : decode code 27 = .ok (.bipush 8, 2) := by decide +kernel
theorem d_L_law_29 : decode code 29 = .ok (.isub, 1) := by decide +kernel
theorem d_L_law_30 : decode code 30 = .ok (.if_icmp .gt 732, 3) := by decide +kernel
theorem d_L_law_33 : decode code 33 = .ok (.aload_n 0, 1) := by decide +kernel
theorem d_L_law_34 : decode code 34 = .ok (.iload 4, 2) := by decide +kernel
theorem d_L_law_36 : decode code 36 = .ok (.iaload, 1) := by decide +kernel
theorem d_L_law_37 : decode code 37 = .ok (.bipush 15, 2) := by decide +kernel
theorem d_L_law_39 : decode code 39 = .ok (.iand, 1) := by decide +kernel
theorem d_L_law_40 : decode code 40 = .ok (.tableswitch 716 0 12 #[68, 169, 226, 367, 404, 461, 498, 565, 578, 592, 629, 654, 691], 68) := by decide +kernel
theorem d_L_law_108 : decode code 108 = .ok (.aload_n 1, 1) := by decide +kernel
theorem d_L_law_109 : decode code 109 = .ok (.aload_n 0, 1) := by decide +kernel
theorem d_L_law_110 : decode code 110 = .ok (.iload 4, 2) := by decide +kernel
theorem d_L_law_112 : decode code 112 = .ok (.iconst 1, 1) := by decide +kernel
theorem d_L_law_113 : decode code 113 = .ok (.iadd, 1) := by decide +kernel
theorem d_L_law_114 : decode code 114 = .ok (.iaload, 1) := by decide +kernel
theorem d_L_law_115 : decode code 115 = .ok (.i2l, 1) := by decide +kernel
theorem d_L_law_116 : decode code 116 = .ok (.bipush 32, 2) := by decide +kernel
theorem d_L_law_118 : decode code 118 = .ok (.lshl, 1) := by decide +kernel
theorem d_L_law_119 : decode code 119 = .ok (.aload_n 0, 1) := by decide +kernel
theorem d_L_law_120 : decode code 120 = .ok (.iload 4, 2) := by decide +kernel
theorem d_L_law_122 : decode code 122 = .ok (.iconst 2, 1) := by decide +kernel
theorem d_L_law_123 : decode code 123 = .ok (.iadd, 1) := by decide +kernel
theorem d_L_law_124 : decode code 124 = .ok (.iaload, 1) := by decide +kernel
theorem d_L_law_125 : decode code 125 = .ok (.i2l, 1) := by decide +kernel
theorem d_L_law_126 : decode code 126 = .ok (.ldc2_w 19, 3) := by decide +kernel
theorem d_L_law_129 : decode code 129 = .ok (.land, 1) := by decide +kernel
theorem d_L_law_130 : decode code 130 = .ok (.lor, 1) := by decide +kernel
theorem d_L_law_131 : decode code 131 = .ok (.aload_n 0, 1) := by decide +kernel
theorem d_L_law_132 : decode code 132 = .ok (.iload 4, 2) := by decide +kernel
theorem d_L_law_134 : decode code 134 = .ok (.iconst 3, 1) := by decide +kernel
theorem d_L_law_135 : decode code 135 = .ok (.iadd, 1) := by decide +kernel
theorem d_L_law_136 : decode code 136 = .ok (.iaload, 1) := by decide +kernel
theorem d_L_law_137 : decode code 137 = .ok (.i2l, 1) := by decide +kernel
theorem d_L_law_138 : decode code 138 = .ok (.bipush 32, 2) := by decide +kernel
theorem d_L_law_140 : decode code 140 = .ok (.lshl, 1) := by decide +kernel
theorem d_L_law_141 : decode code 141 = .ok (.aload_n 0, 1) := by decide +kernel
theorem d_L_law_142 : decode code 142 = .ok (.iload 4, 2) := by decide +kernel
theorem d_L_law_144 : decode code 144 = .ok (.iconst 4, 1) := by decide +kernel
theorem d_L_law_145 : decode code 145 = .ok (.iadd, 1) := by decide +kernel
theorem d_L_law_146 : decode code 146 = .ok (.iaload, 1) := by decide +kernel
theorem d_L_law_147 : decode code 147 = .ok (.i2l, 1) := by decide +kernel
theorem d_L_law_148 : decode code 148 = .ok (.ldc2_w 19, 3) := by decide +kernel
theorem d_L_law_151 : decode code 151 = .ok (.land, 1) := by decide +kernel
theorem d_L_law_152 : decode code 152 = .ok (.lor, 1) := by decide +kernel
theorem d_L_law_153 : decode code 153 = .ok (.invokevirtual 21, 3) := by decide +kernel
theorem d_L_law_156 : decode code 156 = .ok (.aload_n 2, 1) := by decide +kernel
theorem d_L_law_157 : decode code 157 = .ok (.aload_n 0, 1) := by decide +kernel
theorem d_L_law_158 : decode code 158 = .ok (.iload 4, 2) := by decide +kernel
theorem d_L_law_160 : decode code 160 = .ok (.iconst 1, 1) := by decide +kernel
theorem d_L_law_161 : decode code 161 = .ok (.iadd, 1) := by decide +kernel
theorem d_L_law_162 : decode code 162 = .ok (.iaload, 1) := by decide +kernel
theorem d_L_law_163 : decode code 163 = .ok (.i2l, 1) := by decide +kernel
theorem d_L_law_164 : decode code 164 = .ok (.bipush 32, 2) := by decide +kernel
theorem d_L_law_166 : decode code 166 = .ok (.lshl, 1) := by decide +kernel
theorem d_L_law_167 : decode code 167 = .ok (.aload_n 0, 1) := by decide +kernel
theorem d_L_law_168 : decode code 168 = .ok (.iload 4, 2) := by decide +kernel
theorem d_L_law_170 : decode code 170 = .ok (.iconst 2, 1) := by decide +kernel
theorem d_L_law_171 : decode code 171 = .ok (.iadd, 1) := by decide +kernel
theorem d_L_law_172 : decode code 172 = .ok (.iaload, 1) := by decide +kernel
theorem d_L_law_173 : decode code 173 = .ok (.i2l, 1) := by decide +kernel
theorem d_L_law_174 : decode code 174 = .ok (.ldc2_w 19, 3) := by decide +kernel
theorem d_L_law_177 : decode code 177 = .ok (.land, 1) := by decide +kernel
theorem d_L_law_178 : decode code 178 = .ok (.lor, 1) := by decide +kernel
theorem d_L_law_179 : decode code 179 = .ok (.aload_n 0, 1) := by decide +kernel
theorem d_L_law_180 : decode code 180 = .ok (.iload 4, 2) := by decide +kernel
theorem d_L_law_182 : decode code 182 = .ok (.iconst 3, 1) := by decide +kernel
theorem d_L_law_183 : decode code 183 = .ok (.iadd, 1) := by decide +kernel
theorem d_L_law_184 : decode code 184 = .ok (.iaload, 1) := by decide +kernel
theorem d_L_law_185 : decode code 185 = .ok (.i2l, 1) := by decide +kernel
theorem d_L_law_186 : decode code 186 = .ok (.bipush 32, 2) := by decide +kernel
theorem d_L_law_188 : decode code 188 = .ok (.lshl, 1) := by decide +kernel
theorem d_L_law_189 : decode code 189 = .ok (.aload_n 0, 1) := by decide +kernel
theorem d_L_law_190 : decode code 190 = .ok (.iload 4, 2) := by decide +kernel
theorem d_L_law_192 : decode code 192 = .ok (.iconst 4, 1) := by decide +kernel
theorem d_L_law_193 : decode code 193 = .ok (.iadd, 1) := by decide +kernel
theorem d_L_law_194 : decode code 194 = .ok (.iaload, 1) := by decide +kernel
theorem d_L_law_195 : decode code 195 = .ok (.i2l, 1) := by decide +kernel
theorem d_L_law_196 : decode code 196 = .ok (.ldc2_w 19, 3) := by decide +kernel
theorem d_L_law_199 : decode code 199 = .ok (.land, 1) := by decide +kernel
theorem d_L_law_200 : decode code 200 = .ok (.lor, 1) := by decide +kernel
theorem d_L_law_201 : decode code 201 = .ok (.invokevirtual 25, 3) := by decide +kernel
theorem d_L_law_204 : decode code 204 = .ok (.if_icmp .eq 552, 3) := by decide +kernel
theorem d_L_law_207 : decode code 207 = .ok (.iconst 0, 1) := by decide +kernel
theorem d_L_law_208 : decode code 208 = .ok (.ireturn, 1) := by decide +kernel
theorem d_L_law_209 : decode code 209 = .ok (.aload_n 1, 1) := by decide +kernel
theorem d_L_law_210 : decode code 210 = .ok (.aload_n 0, 1) := by decide +kernel
theorem d_L_law_211 : decode code 211 = .ok (.iload 4, 2) := by decide +kernel
theorem d_L_law_213 : decode code 213 = .ok (.iconst 1, 1) := by decide +kernel
theorem d_L_law_214 : decode code 214 = .ok (.iadd, 1) := by decide +kernel
theorem d_L_law_215 : decode code 215 = .ok (.iaload, 1) := by decide +kernel
theorem d_L_law_216 : decode code 216 = .ok (.i2l, 1) := by decide +kernel
theorem d_L_law_217 : decode code 217 = .ok (.bipush 32, 2) := by decide +kernel
theorem d_L_law_219 : decode code 219 = .ok (.lshl, 1) := by decide +kernel
theorem d_L_law_220 : decode code 220 = .ok (.aload_n 0, 1) := by decide +kernel
theorem d_L_law_221 : decode code 221 = .ok (.iload 4, 2) := by decide +kernel
theorem d_L_law_223 : decode code 223 = .ok (.iconst 2, 1) := by decide +kernel
theorem d_L_law_224 : decode code 224 = .ok (.iadd, 1) := by decide +kernel
theorem d_L_law_225 : decode code 225 = .ok (.iaload, 1) := by decide +kernel
theorem d_L_law_226 : decode code 226 = .ok (.i2l, 1) := by decide +kernel
theorem d_L_law_227 : decode code 227 = .ok (.ldc2_w 19, 3) := by decide +kernel
theorem d_L_law_230 : decode code 230 = .ok (.land, 1) := by decide +kernel
theorem d_L_law_231 : decode code 231 = .ok (.lor, 1) := by decide +kernel
theorem d_L_law_232 : decode code 232 = .ok (.invokevirtual 26, 3) := by decide +kernel
theorem d_L_law_235 : decode code 235 = .ok (.aload_n 2, 1) := by decide +kernel
theorem d_L_law_236 : decode code 236 = .ok (.aload_n 0, 1) := by decide +kernel
theorem d_L_law_237 : decode code 237 = .ok (.iload 4, 2) := by decide +kernel
theorem d_L_law_239 : decode code 239 = .ok (.iconst 1, 1) := by decide +kernel
theorem d_L_law_240 : decode code 240 = .ok (.iadd, 1) := by decide +kernel
theorem d_L_law_241 : decode code 241 = .ok (.iaload, 1) := by decide +kernel
theorem d_L_law_242 : decode code 242 = .ok (.i2l, 1) := by decide +kernel
theorem d_L_law_243 : decode code 243 = .ok (.bipush 32, 2) := by decide +kernel
theorem d_L_law_245 : decode code 245 = .ok (.lshl, 1) := by decide +kernel
theorem d_L_law_246 : decode code 246 = .ok (.aload_n 0, 1) := by decide +kernel
theorem d_L_law_247 : decode code 247 = .ok (.iload 4, 2) := by decide +kernel
theorem d_L_law_249 : decode code 249 = .ok (.iconst 2, 1) := by decide +kernel
theorem d_L_law_250 : decode code 250 = .ok (.iadd, 1) := by decide +kernel
theorem d_L_law_251 : decode code 251 = .ok (.iaload, 1) := by decide +kernel
theorem d_L_law_252 : decode code 252 = .ok (.i2l, 1) := by decide +kernel
theorem d_L_law_253 : decode code 253 = .ok (.ldc2_w 19, 3) := by decide +kernel
theorem d_L_law_256 : decode code 256 = .ok (.land, 1) := by decide +kernel
theorem d_L_law_257 : decode code 257 = .ok (.lor, 1) := by decide +kernel
theorem d_L_law_258 : decode code 258 = .ok (.invokevirtual 30, 3) := by decide +kernel
theorem d_L_law_261 : decode code 261 = .ok (.if_icmp .eq 495, 3) := by decide +kernel
theorem d_L_law_264 : decode code 264 = .ok (.iconst 0, 1) := by decide +kernel
theorem d_L_law_265 : decode code 265 = .ok (.ireturn, 1) := by decide +kernel
theorem d_L_law_266 : decode code 266 = .ok (.aload_n 1, 1) := by decide +kernel
theorem d_L_law_267 : decode code 267 = .ok (.aload_n 0, 1) := by decide +kernel
theorem d_L_law_268 : decode code 268 = .ok (.iload 4, 2) := by decide +kernel
theorem d_L_law_270 : decode code 270 = .ok (.iconst 1, 1) := by decide +kernel
theorem d_L_law_271 : decode code 271 = .ok (.iadd, 1) := by decide +kernel
theorem d_L_law_272 : decode code 272 = .ok (.iaload, 1) := by decide +kernel
theorem d_L_law_273 : decode code 273 = .ok (.aload_n 0, 1) := by decide +kernel
theorem d_L_law_274 : decode code 274 = .ok (.iload 4, 2) := by decide +kernel
theorem d_L_law_276 : decode code 276 = .ok (.iconst 2, 1) := by decide +kernel
theorem d_L_law_277 : decode code 277 = .ok (.iadd, 1) := by decide +kernel
theorem d_L_law_278 : decode code 278 = .ok (.iaload, 1) := by decide +kernel
theorem d_L_law_279 : decode code 279 = .ok (.aload_n 0, 1) := by decide +kernel
theorem d_L_law_280 : decode code 280 = .ok (.iload 4, 2) := by decide +kernel
theorem d_L_law_282 : decode code 282 = .ok (.iconst 3, 1) := by decide +kernel
theorem d_L_law_283 : decode code 283 = .ok (.iadd, 1) := by decide +kernel
theorem d_L_law_284 : decode code 284 = .ok (.iaload, 1) := by decide +kernel
theorem d_L_law_285 : decode code 285 = .ok (.aload_n 0, 1) := by decide +kernel
theorem d_L_law_286 : decode code 286 = .ok (.iload 4, 2) := by decide +kernel
theorem d_L_law_288 : decode code 288 = .ok (.iconst 4, 1) := by decide +kernel
theorem d_L_law_289 : decode code 289 = .ok (.iadd, 1) := by decide +kernel
theorem d_L_law_290 : decode code 290 = .ok (.iaload, 1) := by decide +kernel
theorem d_L_law_291 : decode code 291 = .ok (.i2l, 1) := by decide +kernel
theorem d_L_law_292 : decode code 292 = .ok (.bipush 32, 2) := by decide +kernel
theorem d_L_law_294 : decode code 294 = .ok (.lshl, 1) := by decide +kernel
theorem d_L_law_295 : decode code 295 = .ok (.aload_n 0, 1) := by decide +kernel
theorem d_L_law_296 : decode code 296 = .ok (.iload 4, 2) := by decide +kernel
theorem d_L_law_298 : decode code 298 = .ok (.iconst 5, 1) := by decide +kernel
theorem d_L_law_299 : decode code 299 = .ok (.iadd, 1) := by decide +kernel
theorem d_L_law_300 : decode code 300 = .ok (.iaload, 1) := by decide +kernel
theorem d_L_law_301 : decode code 301 = .ok (.i2l, 1) := by decide +kernel
theorem d_L_law_302 : decode code 302 = .ok (.ldc2_w 19, 3) := by decide +kernel
theorem d_L_law_305 : decode code 305 = .ok (.land, 1) := by decide +kernel
theorem d_L_law_306 : decode code 306 = .ok (.lor, 1) := by decide +kernel
theorem d_L_law_307 : decode code 307 = .ok (.aload_n 0, 1) := by decide +kernel
theorem d_L_law_308 : decode code 308 = .ok (.iload 4, 2) := by decide +kernel
theorem d_L_law_310 : decode code 310 = .ok (.bipush 6, 2) := by decide +kernel
theorem d_L_law_312 : decode code 312 = .ok (.iadd, 1) := by decide +kernel
theorem d_L_law_313 : decode code 313 = .ok (.iaload, 1) := by decide +kernel
theorem d_L_law_314 : decode code 314 = .ok (.i2l, 1) := by decide +kernel
theorem d_L_law_315 : decode code 315 = .ok (.bipush 32, 2) := by decide +kernel
theorem d_L_law_317 : decode code 317 = .ok (.lshl, 1) := by decide +kernel
theorem d_L_law_318 : decode code 318 = .ok (.aload_n 0, 1) := by decide +kernel
theorem d_L_law_319 : decode code 319 = .ok (.iload 4, 2) := by decide +kernel
theorem d_L_law_321 : decode code 321 = .ok (.bipush 7, 2) := by decide +kernel
theorem d_L_law_323 : decode code 323 = .ok (.iadd, 1) := by decide +kernel
theorem d_L_law_324 : decode code 324 = .ok (.iaload, 1) := by decide +kernel
theorem d_L_law_325 : decode code 325 = .ok (.i2l, 1) := by decide +kernel
theorem d_L_law_326 : decode code 326 = .ok (.ldc2_w 19, 3) := by decide +kernel
theorem d_L_law_329 : decode code 329 = .ok (.land, 1) := by decide +kernel
theorem d_L_law_330 : decode code 330 = .ok (.lor, 1) := by decide +kernel
theorem d_L_law_331 : decode code 331 = .ok (.invokevirtual 31, 3) := by decide +kernel
theorem d_L_law_334 : decode code 334 = .ok (.aload_n 2, 1) := by decide +kernel
theorem d_L_law_335 : decode code 335 = .ok (.aload_n 0, 1) := by decide +kernel
theorem d_L_law_336 : decode code 336 = .ok (.iload 4, 2) := by decide +kernel
theorem d_L_law_338 : decode code 338 = .ok (.iconst 1, 1) := by decide +kernel
theorem d_L_law_339 : decode code 339 = .ok (.iadd, 1) := by decide +kernel
theorem d_L_law_340 : decode code 340 = .ok (.iaload, 1) := by decide +kernel
theorem d_L_law_341 : decode code 341 = .ok (.aload_n 0, 1) := by decide +kernel
theorem d_L_law_342 : decode code 342 = .ok (.iload 4, 2) := by decide +kernel
theorem d_L_law_344 : decode code 344 = .ok (.iconst 2, 1) := by decide +kernel
theorem d_L_law_345 : decode code 345 = .ok (.iadd, 1) := by decide +kernel
theorem d_L_law_346 : decode code 346 = .ok (.iaload, 1) := by decide +kernel
theorem d_L_law_347 : decode code 347 = .ok (.aload_n 0, 1) := by decide +kernel
theorem d_L_law_348 : decode code 348 = .ok (.iload 4, 2) := by decide +kernel
theorem d_L_law_350 : decode code 350 = .ok (.iconst 3, 1) := by decide +kernel
theorem d_L_law_351 : decode code 351 = .ok (.iadd, 1) := by decide +kernel
theorem d_L_law_352 : decode code 352 = .ok (.iaload, 1) := by decide +kernel
theorem d_L_law_353 : decode code 353 = .ok (.aload_n 0, 1) := by decide +kernel
theorem d_L_law_354 : decode code 354 = .ok (.iload 4, 2) := by decide +kernel
theorem d_L_law_356 : decode code 356 = .ok (.iconst 4, 1) := by decide +kernel
theorem d_L_law_357 : decode code 357 = .ok (.iadd, 1) := by decide +kernel
theorem d_L_law_358 : decode code 358 = .ok (.iaload, 1) := by decide +kernel
theorem d_L_law_359 : decode code 359 = .ok (.i2l, 1) := by decide +kernel
theorem d_L_law_360 : decode code 360 = .ok (.bipush 32, 2) := by decide +kernel
theorem d_L_law_362 : decode code 362 = .ok (.lshl, 1) := by decide +kernel
theorem d_L_law_363 : decode code 363 = .ok (.aload_n 0, 1) := by decide +kernel
theorem d_L_law_364 : decode code 364 = .ok (.iload 4, 2) := by decide +kernel
theorem d_L_law_366 : decode code 366 = .ok (.iconst 5, 1) := by decide +kernel
theorem d_L_law_367 : decode code 367 = .ok (.iadd, 1) := by decide +kernel
theorem d_L_law_368 : decode code 368 = .ok (.iaload, 1) := by decide +kernel
theorem d_L_law_369 : decode code 369 = .ok (.i2l, 1) := by decide +kernel
theorem d_L_law_370 : decode code 370 = .ok (.ldc2_w 19, 3) := by decide +kernel
theorem d_L_law_373 : decode code 373 = .ok (.land, 1) := by decide +kernel
theorem d_L_law_374 : decode code 374 = .ok (.lor, 1) := by decide +kernel
theorem d_L_law_375 : decode code 375 = .ok (.aload_n 0, 1) := by decide +kernel
theorem d_L_law_376 : decode code 376 = .ok (.iload 4, 2) := by decide +kernel
theorem d_L_law_378 : decode code 378 = .ok (.bipush 6, 2) := by decide +kernel
theorem d_L_law_380 : decode code 380 = .ok (.iadd, 1) := by decide +kernel
theorem d_L_law_381 : decode code 381 = .ok (.iaload, 1) := by decide +kernel
theorem d_L_law_382 : decode code 382 = .ok (.i2l, 1) := by decide +kernel
theorem d_L_law_383 : decode code 383 = .ok (.bipush 32, 2) := by decide +kernel
theorem d_L_law_385 : decode code 385 = .ok (.lshl, 1) := by decide +kernel
theorem d_L_law_386 : decode code 386 = .ok (.aload_n 0, 1) := by decide +kernel
theorem d_L_law_387 : decode code 387 = .ok (.iload 4, 2) := by decide +kernel
theorem d_L_law_389 : decode code 389 = .ok (.bipush 7, 2) := by decide +kernel
theorem d_L_law_391 : decode code 391 = .ok (.iadd, 1) := by decide +kernel
theorem d_L_law_392 : decode code 392 = .ok (.iaload, 1) := by decide +kernel
theorem d_L_law_393 : decode code 393 = .ok (.i2l, 1) := by decide +kernel
theorem d_L_law_394 : decode code 394 = .ok (.ldc2_w 19, 3) := by decide +kernel
theorem d_L_law_397 : decode code 397 = .ok (.land, 1) := by decide +kernel
theorem d_L_law_398 : decode code 398 = .ok (.lor, 1) := by decide +kernel
theorem d_L_law_399 : decode code 399 = .ok (.invokevirtual 35, 3) := by decide +kernel
theorem d_L_law_402 : decode code 402 = .ok (.if_icmp .eq 354, 3) := by decide +kernel
theorem d_L_law_405 : decode code 405 = .ok (.iconst 0, 1) := by decide +kernel
theorem d_L_law_406 : decode code 406 = .ok (.ireturn, 1) := by decide +kernel
theorem d_L_law_407 : decode code 407 = .ok (.aload_n 1, 1) := by decide +kernel
theorem d_L_law_408 : decode code 408 = .ok (.aload_n 0, 1) := by decide +kernel
theorem d_L_law_409 : decode code 409 = .ok (.iload 4, 2) := by decide +kernel
theorem d_L_law_411 : decode code 411 = .ok (.iconst 1, 1) := by decide +kernel
theorem d_L_law_412 : decode code 412 = .ok (.iadd, 1) := by decide +kernel
theorem d_L_law_413 : decode code 413 = .ok (.iaload, 1) := by decide +kernel
theorem d_L_law_414 : decode code 414 = .ok (.aload_n 0, 1) := by decide +kernel
theorem d_L_law_415 : decode code 415 = .ok (.iload 4, 2) := by decide +kernel
theorem d_L_law_417 : decode code 417 = .ok (.iconst 2, 1) := by decide +kernel
theorem d_L_law_418 : decode code 418 = .ok (.iadd, 1) := by decide +kernel
theorem d_L_law_419 : decode code 419 = .ok (.iaload, 1) := by decide +kernel
theorem d_L_law_420 : decode code 420 = .ok (.invokevirtual 36, 3) := by decide +kernel
theorem d_L_law_423 : decode code 423 = .ok (.aload_n 2, 1) := by decide +kernel
theorem d_L_law_424 : decode code 424 = .ok (.aload_n 0, 1) := by decide +kernel
theorem d_L_law_425 : decode code 425 = .ok (.iload 4, 2) := by decide +kernel
theorem d_L_law_427 : decode code 427 = .ok (.iconst 1, 1) := by decide +kernel
theorem d_L_law_428 : decode code 428 = .ok (.iadd, 1) := by decide +kernel
theorem d_L_law_429 : decode code 429 = .ok (.iaload, 1) := by decide +kernel
theorem d_L_law_430 : decode code 430 = .ok (.aload_n 0, 1) := by decide +kernel
theorem d_L_law_431 : decode code 431 = .ok (.iload 4, 2) := by decide +kernel
theorem d_L_law_433 : decode code 433 = .ok (.iconst 2, 1) := by decide +kernel
theorem d_L_law_434 : decode code 434 = .ok (.iadd, 1) := by decide +kernel
theorem d_L_law_435 : decode code 435 = .ok (.iaload, 1) := by decide +kernel
theorem d_L_law_436 : decode code 436 = .ok (.invokevirtual 40, 3) := by decide +kernel
theorem d_L_law_439 : decode code 439 = .ok (.if_icmp .eq 317, 3) := by decide +kernel
theorem d_L_law_442 : decode code 442 = .ok (.iconst 0, 1) := by decide +kernel
theorem d_L_law_443 : decode code 443 = .ok (.ireturn, 1) := by decide +kernel
theorem d_L_law_444 : decode code 444 = .ok (.aload_n 1, 1) := by decide +kernel
theorem d_L_law_445 : decode code 445 = .ok (.aload_n 0, 1) := by decide +kernel
theorem d_L_law_446 : decode code 446 = .ok (.iload 4, 2) := by decide +kernel
theorem d_L_law_448 : decode code 448 = .ok (.iconst 1, 1) := by decide +kernel
theorem d_L_law_449 : decode code 449 = .ok (.iadd, 1) := by decide +kernel
theorem d_L_law_450 : decode code 450 = .ok (.iaload, 1) := by decide +kernel
theorem d_L_law_451 : decode code 451 = .ok (.i2l, 1) := by decide +kernel
theorem d_L_law_452 : decode code 452 = .ok (.bipush 32, 2) := by decide +kernel
theorem d_L_law_454 : decode code 454 = .ok (.lshl, 1) := by decide +kernel
theorem d_L_law_455 : decode code 455 = .ok (.aload_n 0, 1) := by decide +kernel
theorem d_L_law_456 : decode code 456 = .ok (.iload 4, 2) := by decide +kernel
theorem d_L_law_458 : decode code 458 = .ok (.iconst 2, 1) := by decide +kernel
theorem d_L_law_459 : decode code 459 = .ok (.iadd, 1) := by decide +kernel
theorem d_L_law_460 : decode code 460 = .ok (.iaload, 1) := by decide +kernel
theorem d_L_law_461 : decode code 461 = .ok (.i2l, 1) := by decide +kernel
theorem d_L_law_462 : decode code 462 = .ok (.ldc2_w 19, 3) := by decide +kernel
theorem d_L_law_465 : decode code 465 = .ok (.land, 1) := by decide +kernel
theorem d_L_law_466 : decode code 466 = .ok (.lor, 1) := by decide +kernel
theorem d_L_law_467 : decode code 467 = .ok (.invokevirtual 41, 3) := by decide +kernel
theorem d_L_law_470 : decode code 470 = .ok (.aload_n 2, 1) := by decide +kernel
theorem d_L_law_471 : decode code 471 = .ok (.aload_n 0, 1) := by decide +kernel
theorem d_L_law_472 : decode code 472 = .ok (.iload 4, 2) := by decide +kernel
theorem d_L_law_474 : decode code 474 = .ok (.iconst 1, 1) := by decide +kernel
theorem d_L_law_475 : decode code 475 = .ok (.iadd, 1) := by decide +kernel
theorem d_L_law_476 : decode code 476 = .ok (.iaload, 1) := by decide +kernel
theorem d_L_law_477 : decode code 477 = .ok (.i2l, 1) := by decide +kernel
theorem d_L_law_478 : decode code 478 = .ok (.bipush 32, 2) := by decide +kernel
theorem d_L_law_480 : decode code 480 = .ok (.lshl, 1) := by decide +kernel
theorem d_L_law_481 : decode code 481 = .ok (.aload_n 0, 1) := by decide +kernel
theorem d_L_law_482 : decode code 482 = .ok (.iload 4, 2) := by decide +kernel
theorem d_L_law_484 : decode code 484 = .ok (.iconst 2, 1) := by decide +kernel
theorem d_L_law_485 : decode code 485 = .ok (.iadd, 1) := by decide +kernel
theorem d_L_law_486 : decode code 486 = .ok (.iaload, 1) := by decide +kernel
theorem d_L_law_487 : decode code 487 = .ok (.i2l, 1) := by decide +kernel
theorem d_L_law_488 : decode code 488 = .ok (.ldc2_w 19, 3) := by decide +kernel
theorem d_L_law_491 : decode code 491 = .ok (.land, 1) := by decide +kernel
theorem d_L_law_492 : decode code 492 = .ok (.lor, 1) := by decide +kernel
theorem d_L_law_493 : decode code 493 = .ok (.invokevirtual 44, 3) := by decide +kernel
theorem d_L_law_496 : decode code 496 = .ok (.if_icmp .eq 260, 3) := by decide +kernel
theorem d_L_law_499 : decode code 499 = .ok (.iconst 0, 1) := by decide +kernel
theorem d_L_law_500 : decode code 500 = .ok (.ireturn, 1) := by decide +kernel
theorem d_L_law_501 : decode code 501 = .ok (.aload_n 1, 1) := by decide +kernel
theorem d_L_law_502 : decode code 502 = .ok (.aload_n 0, 1) := by decide +kernel
theorem d_L_law_503 : decode code 503 = .ok (.iload 4, 2) := by decide +kernel
theorem d_L_law_505 : decode code 505 = .ok (.iconst 1, 1) := by decide +kernel
theorem d_L_law_506 : decode code 506 = .ok (.iadd, 1) := by decide +kernel
theorem d_L_law_507 : decode code 507 = .ok (.iaload, 1) := by decide +kernel
theorem d_L_law_508 : decode code 508 = .ok (.aload_n 0, 1) := by decide +kernel
theorem d_L_law_509 : decode code 509 = .ok (.iload 4, 2) := by decide +kernel
theorem d_L_law_511 : decode code 511 = .ok (.iconst 2, 1) := by decide +kernel
theorem d_L_law_512 : decode code 512 = .ok (.iadd, 1) := by decide +kernel
theorem d_L_law_513 : decode code 513 = .ok (.iaload, 1) := by decide +kernel
theorem d_L_law_514 : decode code 514 = .ok (.invokevirtual 45, 3) := by decide +kernel
theorem d_L_law_517 : decode code 517 = .ok (.aload_n 2, 1) := by decide +kernel
theorem d_L_law_518 : decode code 518 = .ok (.aload_n 0, 1) := by decide +kernel
theorem d_L_law_519 : decode code 519 = .ok (.iload 4, 2) := by decide +kernel
theorem d_L_law_521 : decode code 521 = .ok (.iconst 1, 1) := by decide +kernel
theorem d_L_law_522 : decode code 522 = .ok (.iadd, 1) := by decide +kernel
theorem d_L_law_523 : decode code 523 = .ok (.iaload, 1) := by decide +kernel
theorem d_L_law_524 : decode code 524 = .ok (.aload_n 0, 1) := by decide +kernel
theorem d_L_law_525 : decode code 525 = .ok (.iload 4, 2) := by decide +kernel
theorem d_L_law_527 : decode code 527 = .ok (.iconst 2, 1) := by decide +kernel
theorem d_L_law_528 : decode code 528 = .ok (.iadd, 1) := by decide +kernel
theorem d_L_law_529 : decode code 529 = .ok (.iaload, 1) := by decide +kernel
theorem d_L_law_530 : decode code 530 = .ok (.invokevirtual 48, 3) := by decide +kernel
theorem d_L_law_533 : decode code 533 = .ok (.if_icmp .eq 223, 3) := by decide +kernel
theorem d_L_law_536 : decode code 536 = .ok (.iconst 0, 1) := by decide +kernel
theorem d_L_law_537 : decode code 537 = .ok (.ireturn, 1) := by decide +kernel
theorem d_L_law_538 : decode code 538 = .ok (.aload_n 1, 1) := by decide +kernel
theorem d_L_law_539 : decode code 539 = .ok (.aload_n 0, 1) := by decide +kernel
theorem d_L_law_540 : decode code 540 = .ok (.iload 4, 2) := by decide +kernel
theorem d_L_law_542 : decode code 542 = .ok (.iconst 1, 1) := by decide +kernel
theorem d_L_law_543 : decode code 543 = .ok (.iadd, 1) := by decide +kernel
theorem d_L_law_544 : decode code 544 = .ok (.iaload, 1) := by decide +kernel
theorem d_L_law_545 : decode code 545 = .ok (.aload_n 0, 1) := by decide +kernel
theorem d_L_law_546 : decode code 546 = .ok (.iload 4, 2) := by decide +kernel
theorem d_L_law_548 : decode code 548 = .ok (.iconst 2, 1) := by decide +kernel
theorem d_L_law_549 : decode code 549 = .ok (.iadd, 1) := by decide +kernel
theorem d_L_law_550 : decode code 550 = .ok (.iaload, 1) := by decide +kernel
theorem d_L_law_551 : decode code 551 = .ok (.aload_n 3, 1) := by decide +kernel
theorem d_L_law_552 : decode code 552 = .ok (.invokestatic 49, 3) := by decide +kernel
theorem d_L_law_555 : decode code 555 = .ok (.istore 5, 2) := by decide +kernel
theorem d_L_law_557 : decode code 557 = .ok (.aload_n 2, 1) := by decide +kernel
theorem d_L_law_558 : decode code 558 = .ok (.aload_n 0, 1) := by decide +kernel
theorem d_L_law_559 : decode code 559 = .ok (.iload 4, 2) := by decide +kernel
theorem d_L_law_561 : decode code 561 = .ok (.iconst 1, 1) := by decide +kernel
theorem d_L_law_562 : decode code 562 = .ok (.iadd, 1) := by decide +kernel
theorem d_L_law_563 : decode code 563 = .ok (.iaload, 1) := by decide +kernel
theorem d_L_law_564 : decode code 564 = .ok (.aload_n 0, 1) := by decide +kernel
theorem d_L_law_565 : decode code 565 = .ok (.iload 4, 2) := by decide +kernel
theorem d_L_law_567 : decode code 567 = .ok (.iconst 2, 1) := by decide +kernel
theorem d_L_law_568 : decode code 568 = .ok (.iadd, 1) := by decide +kernel
theorem d_L_law_569 : decode code 569 = .ok (.iaload, 1) := by decide +kernel
theorem d_L_law_570 : decode code 570 = .ok (.invokevirtual 54, 3) := by decide +kernel
theorem d_L_law_573 : decode code 573 = .ok (.lstore 6, 2) := by decide +kernel
theorem d_L_law_575 : decode code 575 = .ok (.aload_n 2, 1) := by decide +kernel
theorem d_L_law_576 : decode code 576 = .ok (.invokevirtual 55, 3) := by decide +kernel
theorem d_L_law_579 : decode code 579 = .ok (.iload 5, 2) := by decide +kernel
theorem d_L_law_581 : decode code 581 = .ok (.if_icmp .eq 5, 3) := by decide +kernel
theorem d_L_law_584 : decode code 584 = .ok (.iconst 0, 1) := by decide +kernel
theorem d_L_law_585 : decode code 585 = .ok (.ireturn, 1) := by decide +kernel
theorem d_L_law_586 : decode code 586 = .ok (.iload 5, 2) := by decide +kernel
theorem d_L_law_588 : decode code 588 = .ok (.ifCond .ne 14, 3) := by decide +kernel
theorem d_L_law_591 : decode code 591 = .ok (.aload_n 3, 1) := by decide +kernel
theorem d_L_law_592 : decode code 592 = .ok (.iconst 0, 1) := by decide +kernel
theorem d_L_law_593 : decode code 593 = .ok (.laload, 1) := by decide +kernel
theorem d_L_law_594 : decode code 594 = .ok (.lload 6, 2) := by decide +kernel
theorem d_L_law_596 : decode code 596 = .ok (.lcmp, 1) := by decide +kernel
theorem d_L_law_597 : decode code 597 = .ok (.ifCond .eq 5, 3) := by decide +kernel
theorem d_L_law_600 : decode code 600 = .ok (.iconst 0, 1) := by decide +kernel
theorem d_L_law_601 : decode code 601 = .ok (.ireturn, 1) := by decide +kernel
theorem d_L_law_602 : decode code 602 = .ok (.goto 154, 3) := by decide +kernel
theorem d_L_law_605 : decode code 605 = .ok (.aload_n 1, 1) := by decide +kernel
theorem d_L_law_606 : decode code 606 = .ok (.invokevirtual 59, 3) := by decide +kernel
theorem d_L_law_609 : decode code 609 = .ok (.aload_n 2, 1) := by decide +kernel
theorem d_L_law_610 : decode code 610 = .ok (.invokevirtual 63, 3) := by decide +kernel
theorem d_L_law_613 : decode code 613 = .ok (.if_icmp .eq 143, 3) := by decide +kernel
theorem d_L_law_616 : decode code 616 = .ok (.iconst 0, 1) := by decide +kernel
theorem d_L_law_617 : decode code 617 = .ok (.ireturn, 1) := by decide +kernel
theorem d_L_law_618 : decode code 618 = .ok (.aload_n 1, 1) := by decide +kernel
theorem d_L_law_619 : decode code 619 = .ok (.invokevirtual 64, 3) := by decide +kernel
theorem d_L_law_622 : decode code 622 = .ok (.aload_n 2, 1) := by decide +kernel
theorem d_L_law_623 : decode code 623 = .ok (.invokevirtual 68, 3) := by decide +kernel
theorem d_L_law_626 : decode code 626 = .ok (.lcmp, 1) := by decide +kernel
theorem d_L_law_627 : decode code 627 = .ok (.ifCond .eq 129, 3) := by decide +kernel
theorem d_L_law_630 : decode code 630 = .ok (.iconst 0, 1) := by decide +kernel
theorem d_L_law_631 : decode code 631 = .ok (.ireturn, 1) := by decide +kernel
theorem d_L_law_632 : decode code 632 = .ok (.aload_n 1, 1) := by decide +kernel
theorem d_L_law_633 : decode code 633 = .ok (.aload_n 0, 1) := by decide +kernel
theorem d_L_law_634 : decode code 634 = .ok (.iload 4, 2) := by decide +kernel
theorem d_L_law_636 : decode code 636 = .ok (.iconst 1, 1) := by decide +kernel
theorem d_L_law_637 : decode code 637 = .ok (.iadd, 1) := by decide +kernel
theorem d_L_law_638 : decode code 638 = .ok (.iaload, 1) := by decide +kernel
theorem d_L_law_639 : decode code 639 = .ok (.aload_n 0, 1) := by decide +kernel
theorem d_L_law_640 : decode code 640 = .ok (.iload 4, 2) := by decide +kernel
theorem d_L_law_642 : decode code 642 = .ok (.iconst 2, 1) := by decide +kernel
theorem d_L_law_643 : decode code 643 = .ok (.iadd, 1) := by decide +kernel
theorem d_L_law_644 : decode code 644 = .ok (.iaload, 1) := by decide +kernel
theorem d_L_law_645 : decode code 645 = .ok (.invokevirtual 69, 3) := by decide +kernel
theorem d_L_law_648 : decode code 648 = .ok (.aload_n 2, 1) := by decide +kernel
theorem d_L_law_649 : decode code 649 = .ok (.aload_n 0, 1) := by decide +kernel
theorem d_L_law_650 : decode code 650 = .ok (.iload 4, 2) := by decide +kernel
theorem d_L_law_652 : decode code 652 = .ok (.iconst 1, 1) := by decide +kernel
theorem d_L_law_653 : decode code 653 = .ok (.iadd, 1) := by decide +kernel
theorem d_L_law_654 : decode code 654 = .ok (.iaload, 1) := by decide +kernel
theorem d_L_law_655 : decode code 655 = .ok (.aload_n 0, 1) := by decide +kernel
theorem d_L_law_656 : decode code 656 = .ok (.iload 4, 2) := by decide +kernel
theorem d_L_law_658 : decode code 658 = .ok (.iconst 2, 1) := by decide +kernel
theorem d_L_law_659 : decode code 659 = .ok (.iadd, 1) := by decide +kernel
theorem d_L_law_660 : decode code 660 = .ok (.iaload, 1) := by decide +kernel
theorem d_L_law_661 : decode code 661 = .ok (.invokevirtual 72, 3) := by decide +kernel
theorem d_L_law_664 : decode code 664 = .ok (.if_icmp .eq 92, 3) := by decide +kernel
theorem d_L_law_667 : decode code 667 = .ok (.iconst 0, 1) := by decide +kernel
theorem d_L_law_668 : decode code 668 = .ok (.ireturn, 1) := by decide +kernel
theorem d_L_law_669 : decode code 669 = .ok (.aload_n 1, 1) := by decide +kernel
theorem d_L_law_670 : decode code 670 = .ok (.aload_n 0, 1) := by decide +kernel
theorem d_L_law_671 : decode code 671 = .ok (.iload 4, 2) := by decide +kernel
theorem d_L_law_673 : decode code 673 = .ok (.iconst 1, 1) := by decide +kernel
theorem d_L_law_674 : decode code 674 = .ok (.iadd, 1) := by decide +kernel
theorem d_L_law_675 : decode code 675 = .ok (.iaload, 1) := by decide +kernel
theorem d_L_law_676 : decode code 676 = .ok (.invokevirtual 73, 3) := by decide +kernel
theorem d_L_law_679 : decode code 679 = .ok (.aload_n 2, 1) := by decide +kernel
theorem d_L_law_680 : decode code 680 = .ok (.aload_n 0, 1) := by decide +kernel
theorem d_L_law_681 : decode code 681 = .ok (.iload 4, 2) := by decide +kernel
theorem d_L_law_683 : decode code 683 = .ok (.iconst 1, 1) := by decide +kernel
theorem d_L_law_684 : decode code 684 = .ok (.iadd, 1) := by decide +kernel
theorem d_L_law_685 : decode code 685 = .ok (.iaload, 1) := by decide +kernel
theorem d_L_law_686 : decode code 686 = .ok (.invokevirtual 77, 3) := by decide +kernel
theorem d_L_law_689 : decode code 689 = .ok (.if_icmp .eq 67, 3) := by decide +kernel
theorem d_L_law_692 : decode code 692 = .ok (.iconst 0, 1) := by decide +kernel
theorem d_L_law_693 : decode code 693 = .ok (.ireturn, 1) := by decide +kernel
theorem d_L_law_694 : decode code 694 = .ok (.aload_n 1, 1) := by decide +kernel
theorem d_L_law_695 : decode code 695 = .ok (.aload_n 0, 1) := by decide +kernel
theorem d_L_law_696 : decode code 696 = .ok (.iload 4, 2) := by decide +kernel
theorem d_L_law_698 : decode code 698 = .ok (.iconst 1, 1) := by decide +kernel
theorem d_L_law_699 : decode code 699 = .ok (.iadd, 1) := by decide +kernel
theorem d_L_law_700 : decode code 700 = .ok (.iaload, 1) := by decide +kernel
theorem d_L_law_701 : decode code 701 = .ok (.aload_n 0, 1) := by decide +kernel
theorem d_L_law_702 : decode code 702 = .ok (.iload 4, 2) := by decide +kernel
theorem d_L_law_704 : decode code 704 = .ok (.iconst 2, 1) := by decide +kernel
theorem d_L_law_705 : decode code 705 = .ok (.iadd, 1) := by decide +kernel
theorem d_L_law_706 : decode code 706 = .ok (.iaload, 1) := by decide +kernel
theorem d_L_law_707 : decode code 707 = .ok (.invokevirtual 78, 3) := by decide +kernel
theorem d_L_law_710 : decode code 710 = .ok (.aload_n 2, 1) := by decide +kernel
theorem d_L_law_711 : decode code 711 = .ok (.aload_n 0, 1) := by decide +kernel
theorem d_L_law_712 : decode code 712 = .ok (.iload 4, 2) := by decide +kernel
theorem d_L_law_714 : decode code 714 = .ok (.iconst 1, 1) := by decide +kernel
theorem d_L_law_715 : decode code 715 = .ok (.iadd, 1) := by decide +kernel
theorem d_L_law_716 : decode code 716 = .ok (.iaload, 1) := by decide +kernel
theorem d_L_law_717 : decode code 717 = .ok (.aload_n 0, 1) := by decide +kernel
theorem d_L_law_718 : decode code 718 = .ok (.iload 4, 2) := by decide +kernel
theorem d_L_law_720 : decode code 720 = .ok (.iconst 2, 1) := by decide +kernel
theorem d_L_law_721 : decode code 721 = .ok (.iadd, 1) := by decide +kernel
theorem d_L_law_722 : decode code 722 = .ok (.iaload, 1) := by decide +kernel
theorem d_L_law_723 : decode code 723 = .ok (.invokevirtual 81, 3) := by decide +kernel
theorem d_L_law_726 : decode code 726 = .ok (.if_icmp .eq 30, 3) := by decide +kernel
theorem d_L_law_729 : decode code 729 = .ok (.iconst 0, 1) := by decide +kernel
theorem d_L_law_730 : decode code 730 = .ok (.ireturn, 1) := by decide +kernel
theorem d_L_law_731 : decode code 731 = .ok (.aload_n 1, 1) := by decide +kernel
theorem d_L_law_732 : decode code 732 = .ok (.aload_n 0, 1) := by decide +kernel
theorem d_L_law_733 : decode code 733 = .ok (.iload 4, 2) := by decide +kernel
theorem d_L_law_735 : decode code 735 = .ok (.iconst 1, 1) := by decide +kernel
theorem d_L_law_736 : decode code 736 = .ok (.iadd, 1) := by decide +kernel
theorem d_L_law_737 : decode code 737 = .ok (.iaload, 1) := by decide +kernel
theorem d_L_law_738 : decode code 738 = .ok (.invokevirtual 82, 3) := by decide +kernel
theorem d_L_law_741 : decode code 741 = .ok (.aload_n 2, 1) := by decide +kernel
theorem d_L_law_742 : decode code 742 = .ok (.aload_n 0, 1) := by decide +kernel
theorem d_L_law_743 : decode code 743 = .ok (.iload 4, 2) := by decide +kernel
theorem d_L_law_745 : decode code 745 = .ok (.iconst 1, 1) := by decide +kernel
theorem d_L_law_746 : decode code 746 = .ok (.iadd, 1) := by decide +kernel
theorem d_L_law_747 : decode code 747 = .ok (.iaload, 1) := by decide +kernel
theorem d_L_law_748 : decode code 748 = .ok (.invokevirtual 85, 3) := by decide +kernel
theorem d_L_law_751 : decode code 751 = .ok (.if_icmp .eq 5, 3) := by decide +kernel
theorem d_L_law_754 : decode code 754 = .ok (.iconst 0, 1) := by decide +kernel
theorem d_L_law_755 : decode code 755 = .ok (.ireturn, 1) := by decide +kernel
theorem d_L_law_756 : decode code 756 = .ok (.iinc 4 8, 3) := by decide +kernel
theorem d_L_law_759 : decode code 759 = .ok (.goto (-736), 3) := by decide +kernel
theorem d_L_law_762 : decode code 762 = .ok (.iconst 1, 1) := by decide +kernel
theorem d_L_law_763 : decode code 763 = .ok (.ireturn, 1) := by decide +kernel
