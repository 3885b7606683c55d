set_option maxHeartbeats 4000000 in
set_option maxRecDepth 100000 in
theorem c_G_isAnswer (l : Launch) (p0 : Int32) (res : Int32) (hf : x_G_isAnswer p0 = some res) : Met l (⟨"GuideSearch", "isAnswer", "(I)Z"⟩ : MethodName) (Cond.code (⟨"GuideSearch", "isAnswer", "(I)Z"⟩ : MethodName) prog_1_method_15_code 1 (some .boolean) :: wg) { frames := 0, cells := 0, slots := 0, locals := 0 } (va_Pc ([.int p0] : List Value) (fun _ => True)) (vp_Si (fun r => r = res)) 0 0 (fun _ => False) := by
  refine ro_start (cc := prog_1_method_15_code) (maxL := 1) (ret := (some .boolean)) (by decide) (Nat.le_of_ble_eq_true rfl) ?_
  intro p e s m below meth c hx hb hr hml hT hown hlocks hB ls hl
  replace hown : s.vm.findClass "GuideSearch" = some m.cls := hown
  replace hl : lv_has ls 1 [(0, .int p0)] := hl
  unfold x_G_isAnswer at hf
  refine lv_iload_n hx hb d_G_isAnswer_0 rfl (lv_at hl 0 rfl) ?_
  refine lv_if_lt (tgt := 13) hx hb d_G_isAnswer_1 (by decide) (fun c1 => ?_) (fun c1 => ?_)
  · rw [if_pos c1] at hf
    refine lv_iconst (v := (0 : Int32)) hx hb d_G_isAnswer_13 (by decide) ?_
    exact W.zret (ty := .boolean) hx hb hr (rfl) (fun t ht _ => ⟨_, rfl, Option.some.inj hf, ht⟩) (fun _ h => absurd h List.not_mem_nil) d_G_isAnswer_14
  · rw [if_neg c1] at hf
    refine lv_iload_n hx hb d_G_isAnswer_4 rfl (lv_at hl 0 rfl) ?_
    refine lv_iconst (v := (3 : Int32)) hx hb d_G_isAnswer_5 (by decide) ?_
    refine lv_icmp_ge (tgt := 13) hx hb d_G_isAnswer_6 (by decide) (fun c2 => ?_) (fun c2 => ?_)
    · rw [if_pos c2] at hf
      refine lv_iconst (v := (0 : Int32)) hx hb d_G_isAnswer_13 (by decide) ?_
      exact W.zret (ty := .boolean) hx hb hr (rfl) (fun t ht _ => ⟨_, rfl, Option.some.inj hf, ht⟩) (fun _ h => absurd h List.not_mem_nil) d_G_isAnswer_14
    · rw [if_neg c2] at hf
      refine lv_iconst (v := (1 : Int32)) hx hb d_G_isAnswer_9 (by decide) ?_
      refine lv_goto (tgt := 14) hx hb d_G_isAnswer_10 (by decide) ?_
      exact W.zret (ty := .boolean) hx hb hr (rfl) (fun t ht _ => ⟨_, rfl, Option.some.inj hf, ht⟩) (fun _ h => absurd h List.not_mem_nil) d_G_isAnswer_14
set_option maxHeartbeats 4000000 in
set_option maxRecDepth 100000 in
theorem c_G_isPartOfTwelve (l : Launch) (p0 : Int64) (p2 : Int64) (res : Int32) (hf : x_G_isPartOfTwelve p0 p2 = some res) : Met l (⟨"GuideSearch", "isPartOfTwelve", "(JJ)Z"⟩ : MethodName) (Cond.code (⟨"GuideSearch", "isPartOfTwelve", "(JJ)Z"⟩ : MethodName) prog_1_method_16_code 4 (some .boolean) :: wg) { frames := 0, cells := 0, slots := 0, locals := 0 } (va_Pc ([.long p0, .long p2] : List Value) (fun _ => True)) (vp_Si (fun r => r = res)) 0 0 (fun _ => False) := by
  refine ro_start (cc := prog_1_method_16_code) (maxL := 4) (ret := (some .boolean)) (by decide) (Nat.le_of_ble_eq_true rfl) ?_
  intro p e s m below meth c hx hb hr hml hT hown hlocks hB ls hl
  replace hown : s.vm.findClass "GuideSearch" = some m.cls := hown
  replace hl : lv_has ls 4 [(0, .long p0), (2, .long p2)] := hl
  unfold x_G_isPartOfTwelve at hf
  refine lv_lload_n hx hb d_G_isPartOfTwelve_0 rfl (lv_at hl 1 rfl) ?_
  refine lv_lconst (v := (1 : Int64)) hx hb d_G_isPartOfTwelve_1 (by decide) ?_
  refine W.lcmp hx hb d_G_isPartOfTwelve_2 ?_
  refine lv_if_lt (tgt := 32) hx hb d_G_isPartOfTwelve_3 (by decide) (fun c1 => ?_) (fun c1 => ?_)
  · rw [if_pos ((lg_cmp_lt _ _).mp c1)] at hf
    refine lv_iconst (v := (0 : Int32)) hx hb d_G_isPartOfTwelve_32 (by decide) ?_
    exact W.zret (ty := .boolean) hx hb hr (rfl) (fun t ht _ => ⟨_, rfl, Option.some.inj hf, ht⟩) (fun _ h => absurd h List.not_mem_nil) d_G_isPartOfTwelve_33
  · rw [if_neg (mt (lg_cmp_lt _ _).mpr c1)] at hf
    refine lv_ldc2 (v := (12 : Int64)) hx hb hown (hT _ k_186) d_G_isPartOfTwelve_6 ?_
    refine lv_lload_n hx hb d_G_isPartOfTwelve_9 rfl (lv_at hl 1 rfl) ?_
    obtain ⟨hz2, hf⟩ := dzl_some hf
    refine lv_lrem hx hb d_G_isPartOfTwelve_10 hz2 ?_
    refine lv_lconst (v := (0 : Int64)) hx hb d_G_isPartOfTwelve_11 (by decide) ?_
    refine W.lcmp hx hb d_G_isPartOfTwelve_12 ?_
    refine lv_if_ne (tgt := 32) hx hb d_G_isPartOfTwelve_13 (by decide) (fun c3 => ?_) (fun c3 => ?_)
    · rw [if_neg (mt (lg_cmp_eq _ _).mpr c3)] at hf
      refine lv_iconst (v := (0 : Int32)) hx hb d_G_isPartOfTwelve_32 (by decide) ?_
      exact W.zret (ty := .boolean) hx hb hr (rfl) (fun t ht _ => ⟨_, rfl, Option.some.inj hf, ht⟩) (fun _ h => absurd h List.not_mem_nil) d_G_isPartOfTwelve_33
    · rw [if_pos ((lg_cmp_eq _ _).mp c3)] at hf
      refine lv_lload_n hx hb d_G_isPartOfTwelve_16 rfl (lv_at hl 0 rfl) ?_
      refine lv_lconst (v := (0 : Int64)) hx hb d_G_isPartOfTwelve_17 (by decide) ?_
      refine W.lcmp hx hb d_G_isPartOfTwelve_18 ?_
      refine lv_if_lt (tgt := 32) hx hb d_G_isPartOfTwelve_19 (by decide) (fun c4 => ?_) (fun c4 => ?_)
      · rw [if_pos ((lg_cmp_lt _ _).mp c4)] at hf
        refine lv_iconst (v := (0 : Int32)) hx hb d_G_isPartOfTwelve_32 (by decide) ?_
        exact W.zret (ty := .boolean) hx hb hr (rfl) (fun t ht _ => ⟨_, rfl, Option.some.inj hf, ht⟩) (fun _ h => absurd h List.not_mem_nil) d_G_isPartOfTwelve_33
      · rw [if_neg (mt (lg_cmp_lt _ _).mpr c4)] at hf
        refine lv_lload_n hx hb d_G_isPartOfTwelve_22 rfl (lv_at hl 0 rfl) ?_
        refine lv_lload_n hx hb d_G_isPartOfTwelve_23 rfl (lv_at hl 1 rfl) ?_
        refine W.lcmp hx hb d_G_isPartOfTwelve_24 ?_
        refine lv_if_gt (tgt := 32) hx hb d_G_isPartOfTwelve_25 (by decide) (fun c5 => ?_) (fun c5 => ?_)
        · rw [if_pos ((lg_cmp_gt _ _).mp c5)] at hf
          refine lv_iconst (v := (0 : Int32)) hx hb d_G_isPartOfTwelve_32 (by decide) ?_
          exact W.zret (ty := .boolean) hx hb hr (rfl) (fun t ht _ => ⟨_, rfl, Option.some.inj hf, ht⟩) (fun _ h => absurd h List.not_mem_nil) d_G_isPartOfTwelve_33
        · rw [if_neg (mt (lg_cmp_gt _ _).mpr c5)] at hf
          refine lv_iconst (v := (1 : Int32)) hx hb d_G_isPartOfTwelve_28 (by decide) ?_
          refine lv_goto (tgt := 33) hx hb d_G_isPartOfTwelve_29 (by decide) ?_
          exact W.zret (ty := .boolean) hx hb hr (rfl) (fun t ht _ => ⟨_, rfl, Option.some.inj hf, ht⟩) (fun _ h => absurd h List.not_mem_nil) d_G_isPartOfTwelve_33
set_option maxHeartbeats 4000000 in
set_option maxRecDepth 100000 in
theorem c_G_answerIn (l : Launch) (p0 : Int32) (p1 : Int32) (res : Int32) (hf : x_G_answerIn p0 p1 = some res) : Met l (⟨"GuideSearch", "answerIn", "(II)I"⟩ : MethodName) (Cond.code (⟨"GuideSearch", "answerIn", "(II)I"⟩ : MethodName) prog_1_method_19_code 2 (some .int) :: wg) { frames := 0, cells := 0, slots := 0, locals := 0 } (va_Pc ([.int p0, .int p1] : List Value) (fun _ => True)) (vp_Si (fun r => r = res)) 0 0 (fun _ => False) := by
  refine ro_start (cc := prog_1_method_19_code) (maxL := 2) (ret := (some .int)) (by decide) (Nat.le_of_ble_eq_true rfl) ?_
  intro p e s m below meth c hx hb hr hml hT hown hlocks hB ls hl
  replace hown : s.vm.findClass "GuideSearch" = some m.cls := hown
  replace hl : lv_has ls 2 [(0, .int p0), (1, .int p1)] := hl
  unfold x_G_answerIn at hf
  refine lv_iload_n hx hb d_G_answerIn_0 rfl (lv_at hl 0 rfl) ?_
  refine lv_iconst (v := (2 : Int32)) hx hb d_G_answerIn_1 (by decide) ?_
  refine lv_iload_n hx hb d_G_answerIn_2 rfl (lv_at hl 1 rfl) ?_
  refine lv_iconst (v := (1 : Int32)) hx hb d_G_answerIn_3 (by decide) ?_
  refine lv_isub hx hb d_G_answerIn_4 ?_
  refine lv_imul hx hb d_G_answerIn_5 ?_
  refine lv_ishr hx hb d_G_answerIn_6 ?_
  refine lv_iconst (v := (3 : Int32)) hx hb d_G_answerIn_7 (by decide) ?_
  refine lv_iand hx hb d_G_answerIn_8 ?_
  refine lv_iconst (v := (1 : Int32)) hx hb d_G_answerIn_9 (by decide) ?_
  refine lv_isub hx hb d_G_answerIn_10 ?_
  exact W.iret hx hb hr (fun t ht _ => ⟨_, rfl, Option.some.inj hf, ht⟩) (fun _ h => absurd h List.not_mem_nil) d_G_answerIn_11
set_option maxHeartbeats 4000000 in
set_option maxRecDepth 100000 in
theorem c_G_bit (l : Launch) (p0 : Int32) (res : Int32) (hf : x_G_bit p0 = some res) : Met l (⟨"GuideSearch", "bit", "(I)I"⟩ : MethodName) (Cond.code (⟨"GuideSearch", "bit", "(I)I"⟩ : MethodName) prog_1_method_17_code 1 (some .int) :: wg) { frames := 0, cells := 0, slots := 0, locals := 0 } (va_Pc ([.int p0] : List Value) (fun _ => True)) (vp_Si (fun r => r = res)) 0 0 (fun _ => False) := by
  refine ro_start (cc := prog_1_method_17_code) (maxL := 1) (ret := (some .int)) (by decide) (Nat.le_of_ble_eq_true rfl) ?_
  intro p e s m below meth c hx hb hr hml hT hown hlocks hB ls hl
  replace hown : s.vm.findClass "GuideSearch" = some m.cls := hown
  replace hl : lv_has ls 1 [(0, .int p0)] := hl
  unfold x_G_bit at hf
  refine lv_iconst (v := (1 : Int32)) hx hb d_G_bit_0 (by decide) ?_
  refine lv_iload_n hx hb d_G_bit_1 rfl (lv_at hl 0 rfl) ?_
  refine lv_ishl hx hb d_G_bit_2 ?_
  exact W.iret hx hb hr (fun t ht _ => ⟨_, rfl, Option.some.inj hf, ht⟩) (fun _ h => absurd h List.not_mem_nil) d_G_bit_3
set_option maxHeartbeats 4000000 in
set_option maxRecDepth 100000 in
theorem c_G_holds (l : Launch) (p0 : Int32) (p1 : Int32) (res : Int32) (hf : x_G_holds p0 p1 = some res) : Met l (⟨"GuideSearch", "holds", "(II)Z"⟩ : MethodName) (Cond.code (⟨"GuideSearch", "holds", "(II)Z"⟩ : MethodName) prog_1_method_18_code 2 (some .boolean) :: wg) { frames := 1, cells := 0, slots := 0, locals := 20 } (va_Pc ([.int p0, .int p1] : List Value) (fun _ => True)) (vp_Si (fun r => r = res)) 0 0 (fun _ => False) := by
  refine ro_start (cc := prog_1_method_18_code) (maxL := 2) (ret := (some .boolean)) (by decide) (Nat.le_of_ble_eq_true rfl) ?_
  intro p e s m below meth c hx hb hr hml hT hown hlocks hB ls hl
  replace hown : s.vm.findClass "GuideSearch" = some m.cls := hown
  replace hl : lv_has ls 2 [(0, .int p0), (1, .int p1)] := hl
  unfold x_G_holds at hf
  refine lv_iload_n hx hb d_G_holds_0 rfl (lv_at hl 0 rfl) ?_
  refine lv_iload_n hx hb d_G_holds_1 rfl (lv_at hl 1 rfl) ?_
  obtain ⟨r2, hr1, hf⟩ := ob hf
  refine ro_calli (va_runS (As := [.int p1]) (rest := [.int p0]) ⟨hx, hb, hml, hown, hT⟩ (c_G_bit l p1 r2 hr1) (va_cwS 1 hT (gS k_219 k_220 k_1 k_221) rfl rfl rfl (by decide +kernel) ⟨Nat.le_of_ble_eq_true rfl, Nat.le_of_ble_eq_true rfl⟩) ⟨fun _ _ _ _ q => q, fun _ _ _ => ⟨rfl, trivial⟩⟩ rfl rfl hl.1 rfl (lv_room (Nat.le_of_ble_eq_true rfl)) d_G_holds_2 ⟨Nat.le_of_ble_eq_true rfl, Nat.le_of_ble_eq_true rfl⟩) ?_
  refine lv_iand hx hb d_G_holds_5 ?_
  refine lv_if_eq (tgt := 13) hx hb d_G_holds_6 (by decide) (fun c3 => ?_) (fun c3 => ?_)
  · rw [if_pos c3] at hf
    refine lv_iconst (v := (0 : Int32)) hx hb d_G_holds_13 (by decide) ?_
    exact W.zret (ty := .boolean) hx hb hr (rfl) (fun t ht _ => ⟨_, rfl, Option.some.inj hf, ht⟩) (fun _ h => absurd h List.not_mem_nil) d_G_holds_14
  · rw [if_neg c3] at hf
    refine lv_iconst (v := (1 : Int32)) hx hb d_G_holds_9 (by decide) ?_
    refine lv_goto (tgt := 14) hx hb d_G_holds_10 (by decide) ?_
    exact W.zret (ty := .boolean) hx hb hr (rfl) (fun t ht _ => ⟨_, rfl, Option.some.inj hf, ht⟩) (fun _ h => absurd h List.not_mem_nil) d_G_holds_14
set_option maxHeartbeats 4000000 in
set_option maxRecDepth 100000 in
theorem c_JI_bitCount (l : Launch) (p0 : Int32) (res : Int32) (hf : x_JI_bitCount p0 = some res) : Met l (⟨"java/lang/Integer", "bitCount", "(I)I"⟩ : MethodName) (Cond.code (⟨"java/lang/Integer", "bitCount", "(I)I"⟩ : MethodName) prog_10_method_49_code 1 (some .int) :: wg) { frames := 0, cells := 0, slots := 0, locals := 0 } (va_Pc ([.int p0] : List Value) (fun _ => True)) (vp_Si (fun r => r = res)) 0 0 (fun _ => False) := by
  refine ro_start (cc := prog_10_method_49_code) (maxL := 1) (ret := (some .int)) (by decide) (Nat.le_of_ble_eq_true rfl) ?_
  intro p e s m below meth c hx hb hr hml hT hown hlocks hB ls hl
  replace hown : s.vm.findClass "java/lang/Integer" = some m.cls := hown
  replace hl : lv_has ls 1 [(0, .int p0)] := hl
  unfold x_JI_bitCount at hf
  refine lv_iload_n hx hb d_JI_bitCount_0 rfl (lv_at hl 0 rfl) ?_
  refine lv_iload_n hx hb d_JI_bitCount_1 rfl (lv_at hl 0 rfl) ?_
  refine lv_iconst (v := (1 : Int32)) hx hb d_JI_bitCount_2 (by decide) ?_
  refine lv_iushr (v := (p0.toUInt32 >>> ((1 : Int32).toUInt32 &&& Int32.toUInt32 31)).toInt32) hx hb d_JI_bitCount_3 rfl ?_
  refine lv_ldcw (v := (1431655765 : Int32)) hx hb hown (hT _ k_230) d_JI_bitCount_4 ?_
  refine lv_iand hx hb d_JI_bitCount_7 ?_
  refine lv_isub hx hb d_JI_bitCount_8 ?_
  refine lv_istore_n (lv' := [(0, .int (p0 - ((p0.toUInt32 >>> ((1 : Int32).toUInt32 &&& Int32.toUInt32 31)).toInt32 &&& (1431655765 : Int32))))]) hx hb d_JI_bitCount_9 rfl hl (by decide) rfl (fun ls hl => ?_)
  refine lv_iload_n hx hb d_JI_bitCount_10 rfl (lv_at hl 0 rfl) ?_
  refine lv_ldcw (v := (858993459 : Int32)) hx hb hown (hT _ k_231) d_JI_bitCount_11 ?_
  refine lv_iand hx hb d_JI_bitCount_14 ?_
  refine lv_iload_n hx hb d_JI_bitCount_15 rfl (lv_at hl 0 rfl) ?_
  refine lv_iconst (v := (2 : Int32)) hx hb d_JI_bitCount_16 (by decide) ?_
  refine lv_iushr (v := ((p0 - ((p0.toUInt32 >>> ((1 : Int32).toUInt32 &&& Int32.toUInt32 31)).toInt32 &&& (1431655765 : Int32))).toUInt32 >>> ((2 : Int32).toUInt32 &&& Int32.toUInt32 31)).toInt32) hx hb d_JI_bitCount_17 rfl ?_
  refine lv_ldcw (v := (858993459 : Int32)) hx hb hown (hT _ k_231) d_JI_bitCount_18 ?_
  refine lv_iand hx hb d_JI_bitCount_21 ?_
  refine lv_iadd hx hb d_JI_bitCount_22 ?_
  refine lv_istore_n (lv' := [(0, .int (((p0 - ((p0.toUInt32 >>> ((1 : Int32).toUInt32 &&& Int32.toUInt32 31)).toInt32 &&& (1431655765 : Int32))) &&& (858993459 : Int32)) + (((p0 - ((p0.toUInt32 >>> ((1 : Int32).toUInt32 &&& Int32.toUInt32 31)).toInt32 &&& (1431655765 : Int32))).toUInt32 >>> ((2 : Int32).toUInt32 &&& Int32.toUInt32 31)).toInt32 &&& (858993459 : Int32))))]) hx hb d_JI_bitCount_23 rfl hl (by decide) rfl (fun ls hl => ?_)
  refine lv_iload_n hx hb d_JI_bitCount_24 rfl (lv_at hl 0 rfl) ?_
  refine lv_iload_n hx hb d_JI_bitCount_25 rfl (lv_at hl 0 rfl) ?_
  refine lv_iconst (v := (4 : Int32)) hx hb d_JI_bitCount_26 (by decide) ?_
  refine lv_iushr (v := ((((p0 - ((p0.toUInt32 >>> ((1 : Int32).toUInt32 &&& Int32.toUInt32 31)).toInt32 &&& (1431655765 : Int32))) &&& (858993459 : Int32)) + (((p0 - ((p0.toUInt32 >>> ((1 : Int32).toUInt32 &&& Int32.toUInt32 31)).toInt32 &&& (1431655765 : Int32))).toUInt32 >>> ((2 : Int32).toUInt32 &&& Int32.toUInt32 31)).toInt32 &&& (858993459 : Int32))).toUInt32 >>> ((4 : Int32).toUInt32 &&& Int32.toUInt32 31)).toInt32) hx hb d_JI_bitCount_27 rfl ?_
  refine lv_iadd hx hb d_JI_bitCount_28 ?_
  refine lv_ldcw (v := (252645135 : Int32)) hx hb hown (hT _ k_232) d_JI_bitCount_29 ?_
  refine lv_iand hx hb d_JI_bitCount_32 ?_
  refine lv_istore_n (lv' := [(0, .int (((((p0 - ((p0.toUInt32 >>> ((1 : Int32).toUInt32 &&& Int32.toUInt32 31)).toInt32 &&& (1431655765 : Int32))) &&& (858993459 : Int32)) + (((p0 - ((p0.toUInt32 >>> ((1 : Int32).toUInt32 &&& Int32.toUInt32 31)).toInt32 &&& (1431655765 : Int32))).toUInt32 >>> ((2 : Int32).toUInt32 &&& Int32.toUInt32 31)).toInt32 &&& (858993459 : Int32))) + ((((p0 - ((p0.toUInt32 >>> ((1 : Int32).toUInt32 &&& Int32.toUInt32 31)).toInt32 &&& (1431655765 : Int32))) &&& (858993459 : Int32)) + (((p0 - ((p0.toUInt32 >>> ((1 : Int32).toUInt32 &&& Int32.toUInt32 31)).toInt32 &&& (1431655765 : Int32))).toUInt32 >>> ((2 : Int32).toUInt32 &&& Int32.toUInt32 31)).toInt32 &&& (858993459 : Int32))).toUInt32 >>> ((4 : Int32).toUInt32 &&& Int32.toUInt32 31)).toInt32) &&& (252645135 : Int32)))]) hx hb d_JI_bitCount_33 rfl hl (by decide) rfl (fun ls hl => ?_)
  refine lv_iload_n hx hb d_JI_bitCount_34 rfl (lv_at hl 0 rfl) ?_
  refine lv_iload_n hx hb d_JI_bitCount_35 rfl (lv_at hl 0 rfl) ?_
  refine lv_bipush (v := (8 : Int32)) hx hb d_JI_bitCount_36 (by decide) ?_
  refine lv_iushr (v := ((((((p0 - ((p0.toUInt32 >>> ((1 : Int32).toUInt32 &&& Int32.toUInt32 31)).toInt32 &&& (1431655765 : Int32))) &&& (858993459 : Int32)) + (((p0 - ((p0.toUInt32 >>> ((1 : Int32).toUInt32 &&& Int32.toUInt32 31)).toInt32 &&& (1431655765 : Int32))).toUInt32 >>> ((2 : Int32).toUInt32 &&& Int32.toUInt32 31)).toInt32 &&& (858993459 : Int32))) + ((((p0 - ((p0.toUInt32 >>> ((1 : Int32).toUInt32 &&& Int32.toUInt32 31)).toInt32 &&& (1431655765 : Int32))) &&& (858993459 : Int32)) + (((p0 - ((p0.toUInt32 >>> ((1 : Int32).toUInt32 &&& Int32.toUInt32 31)).toInt32 &&& (1431655765 : Int32))).toUInt32 >>> ((2 : Int32).toUInt32 &&& Int32.toUInt32 31)).toInt32 &&& (858993459 : Int32))).toUInt32 >>> ((4 : Int32).toUInt32 &&& Int32.toUInt32 31)).toInt32) &&& (252645135 : Int32)).toUInt32 >>> ((8 : Int32).toUInt32 &&& Int32.toUInt32 31)).toInt32) hx hb d_JI_bitCount_38 rfl ?_
  refine lv_iadd hx hb d_JI_bitCount_39 ?_
  refine lv_istore_n (lv' := [(0, .int ((((((p0 - ((p0.toUInt32 >>> ((1 : Int32).toUInt32 &&& Int32.toUInt32 31)).toInt32 &&& (1431655765 : Int32))) &&& (858993459 : Int32)) + (((p0 - ((p0.toUInt32 >>> ((1 : Int32).toUInt32 &&& Int32.toUInt32 31)).toInt32 &&& (1431655765 : Int32))).toUInt32 >>> ((2 : Int32).toUInt32 &&& Int32.toUInt32 31)).toInt32 &&& (858993459 : Int32))) + ((((p0 - ((p0.toUInt32 >>> ((1 : Int32).toUInt32 &&& Int32.toUInt32 31)).toInt32 &&& (1431655765 : Int32))) &&& (858993459 : Int32)) + (((p0 - ((p0.toUInt32 >>> ((1 : Int32).toUInt32 &&& Int32.toUInt32 31)).toInt32 &&& (1431655765 : Int32))).toUInt32 >>> ((2 : Int32).toUInt32 &&& Int32.toUInt32 31)).toInt32 &&& (858993459 : Int32))).toUInt32 >>> ((4 : Int32).toUInt32 &&& Int32.toUInt32 31)).toInt32) &&& (252645135 : Int32)) + ((((((p0 - ((p0.toUInt32 >>> ((1 : Int32).toUInt32 &&& Int32.toUInt32 31)).toInt32 &&& (1431655765 : Int32))) &&& (858993459 : Int32)) + (((p0 - ((p0.toUInt32 >>> ((1 : Int32).toUInt32 &&& Int32.toUInt32 31)).toInt32 &&& (1431655765 : Int32))).toUInt32 >>> ((2 : Int32).toUInt32 &&& Int32.toUInt32 31)).toInt32 &&& (858993459 : Int32))) + ((((p0 - ((p0.toUInt32 >>> ((1 : Int32).toUInt32 &&& Int32.toUInt32 31)).toInt32 &&& (1431655765 : Int32))) &&& (858993459 : Int32)) + (((p0 - ((p0.toUInt32 >>> ((1 : Int32).toUInt32 &&& Int32.toUInt32 31)).toInt32 &&& (1431655765 : Int32))).toUInt32 >>> ((2 : Int32).toUInt32 &&& Int32.toUInt32 31)).toInt32 &&& (858993459 : Int32))).toUInt32 >>> ((4 : Int32).toUInt32 &&& Int32.toUInt32 31)).toInt32) &&& (252645135 : Int32)).toUInt32 >>> ((8 : Int32).toUInt32 &&& Int32.toUInt32 31)).toInt32))]) hx hb d_JI_bitCount_40 rfl hl (by decide) rfl (fun ls hl => ?_)
  refine lv_iload_n hx hb d_JI_bitCount_41 rfl (lv_at hl 0 rfl) ?_
  refine lv_iload_n hx hb d_JI_bitCount_42 rfl (lv_at hl 0 rfl) ?_
  refine lv_bipush (v := (16 : Int32)) hx hb d_JI_bitCount_43 (by decide) ?_
  refine lv_iushr (v := (((((((p0 - ((p0.toUInt32 >>> ((1 : Int32).toUInt32 &&& Int32.toUInt32 31)).toInt32 &&& (1431655765 : Int32))) &&& (858993459 : Int32)) + (((p0 - ((p0.toUInt32 >>> ((1 : Int32).toUInt32 &&& Int32.toUInt32 31)).toInt32 &&& (1431655765 : Int32))).toUInt32 >>> ((2 : Int32).toUInt32 &&& Int32.toUInt32 31)).toInt32 &&& (858993459 : Int32))) + ((((p0 - ((p0.toUInt32 >>> ((1 : Int32).toUInt32 &&& Int32.toUInt32 31)).toInt32 &&& (1431655765 : Int32))) &&& (858993459 : Int32)) + (((p0 - ((p0.toUInt32 >>> ((1 : Int32).toUInt32 &&& Int32.toUInt32 31)).toInt32 &&& (1431655765 : Int32))).toUInt32 >>> ((2 : Int32).toUInt32 &&& Int32.toUInt32 31)).toInt32 &&& (858993459 : Int32))).toUInt32 >>> ((4 : Int32).toUInt32 &&& Int32.toUInt32 31)).toInt32) &&& (252645135 : Int32)) + ((((((p0 - ((p0.toUInt32 >>> ((1 : Int32).toUInt32 &&& Int32.toUInt32 31)).toInt32 &&& (1431655765 : Int32))) &&& (858993459 : Int32)) + (((p0 - ((p0.toUInt32 >>> ((1 : Int32).toUInt32 &&& Int32.toUInt32 31)).toInt32 &&& (1431655765 : Int32))).toUInt32 >>> ((2 : Int32).toUInt32 &&& Int32.toUInt32 31)).toInt32 &&& (858993459 : Int32))) + ((((p0 - ((p0.toUInt32 >>> ((1 : Int32).toUInt32 &&& Int32.toUInt32 31)).toInt32 &&& (1431655765 : Int32))) &&& (858993459 : Int32)) + (((p0 - ((p0.toUInt32 >>> ((1 : Int32).toUInt32 &&& Int32.toUInt32 31)).toInt32 &&& (1431655765 : Int32))).toUInt32 >>> ((2 : Int32).toUInt32 &&& Int32.toUInt32 31)).toInt32 &&& (858993459 : Int32))).toUInt32 >>> ((4 : Int32).toUInt32 &&& Int32.toUInt32 31)).toInt32) &&& (252645135 : Int32)).toUInt32 >>> ((8 : Int32).toUInt32 &&& Int32.toUInt32 31)).toInt32).toUInt32 >>> ((16 : Int32).toUInt32 &&& Int32.toUInt32 31)).toInt32) hx hb d_JI_bitCount_45 rfl ?_
  refine lv_iadd hx hb d_JI_bitCount_46 ?_
  refine lv_istore_n (lv' := [(0, .int (((((((p0 - ((p0.toUInt32 >>> ((1 : Int32).toUInt32 &&& Int32.toUInt32 31)).toInt32 &&& (1431655765 : Int32))) &&& (858993459 : Int32)) + (((p0 - ((p0.toUInt32 >>> ((1 : Int32).toUInt32 &&& Int32.toUInt32 31)).toInt32 &&& (1431655765 : Int32))).toUInt32 >>> ((2 : Int32).toUInt32 &&& Int32.toUInt32 31)).toInt32 &&& (858993459 : Int32))) + ((((p0 - ((p0.toUInt32 >>> ((1 : Int32).toUInt32 &&& Int32.toUInt32 31)).toInt32 &&& (1431655765 : Int32))) &&& (858993459 : Int32)) + (((p0 - ((p0.toUInt32 >>> ((1 : Int32).toUInt32 &&& Int32.toUInt32 31)).toInt32 &&& (1431655765 : Int32))).toUInt32 >>> ((2 : Int32).toUInt32 &&& Int32.toUInt32 31)).toInt32 &&& (858993459 : Int32))).toUInt32 >>> ((4 : Int32).toUInt32 &&& Int32.toUInt32 31)).toInt32) &&& (252645135 : Int32)) + ((((((p0 - ((p0.toUInt32 >>> ((1 : Int32).toUInt32 &&& Int32.toUInt32 31)).toInt32 &&& (1431655765 : Int32))) &&& (858993459 : Int32)) + (((p0 - ((p0.toUInt32 >>> ((1 : Int32).toUInt32 &&& Int32.toUInt32 31)).toInt32 &&& (1431655765 : Int32))).toUInt32 >>> ((2 : Int32).toUInt32 &&& Int32.toUInt32 31)).toInt32 &&& (858993459 : Int32))) + ((((p0 - ((p0.toUInt32 >>> ((1 : Int32).toUInt32 &&& Int32.toUInt32 31)).toInt32 &&& (1431655765 : Int32))) &&& (858993459 : Int32)) + (((p0 - ((p0.toUInt32 >>> ((1 : Int32).toUInt32 &&& Int32.toUInt32 31)).toInt32 &&& (1431655765 : Int32))).toUInt32 >>> ((2 : Int32).toUInt32 &&& Int32.toUInt32 31)).toInt32 &&& (858993459 : Int32))).toUInt32 >>> ((4 : Int32).toUInt32 &&& Int32.toUInt32 31)).toInt32) &&& (252645135 : Int32)).toUInt32 >>> ((8 : Int32).toUInt32 &&& Int32.toUInt32 31)).toInt32) + (((((((p0 - ((p0.toUInt32 >>> ((1 : Int32).toUInt32 &&& Int32.toUInt32 31)).toInt32 &&& (1431655765 : Int32))) &&& (858993459 : Int32)) + (((p0 - ((p0.toUInt32 >>> ((1 : Int32).toUInt32 &&& Int32.toUInt32 31)).toInt32 &&& (1431655765 : Int32))).toUInt32 >>> ((2 : Int32).toUInt32 &&& Int32.toUInt32 31)).toInt32 &&& (858993459 : Int32))) + ((((p0 - ((p0.toUInt32 >>> ((1 : Int32).toUInt32 &&& Int32.toUInt32 31)).toInt32 &&& (1431655765 : Int32))) &&& (858993459 : Int32)) + (((p0 - ((p0.toUInt32 >>> ((1 : Int32).toUInt32 &&& Int32.toUInt32 31)).toInt32 &&& (1431655765 : Int32))).toUInt32 >>> ((2 : Int32).toUInt32 &&& Int32.toUInt32 31)).toInt32 &&& (858993459 : Int32))).toUInt32 >>> ((4 : Int32).toUInt32 &&& Int32.toUInt32 31)).toInt32) &&& (252645135 : Int32)) + ((((((p0 - ((p0.toUInt32 >>> ((1 : Int32).toUInt32 &&& Int32.toUInt32 31)).toInt32 &&& (1431655765 : Int32))) &&& (858993459 : Int32)) + (((p0 - ((p0.toUInt32 >>> ((1 : Int32).toUInt32 &&& Int32.toUInt32 31)).toInt32 &&& (1431655765 : Int32))).toUInt32 >>> ((2 : Int32).toUInt32 &&& Int32.toUInt32 31)).toInt32 &&& (858993459 : Int32))) + ((((p0 - ((p0.toUInt32 >>> ((1 : Int32).toUInt32 &&& Int32.toUInt32 31)).toInt32 &&& (1431655765 : Int32))) &&& (858993459 : Int32)) + (((p0 - ((p0.toUInt32 >>> ((1 : Int32).toUInt32 &&& Int32.toUInt32 31)).toInt32 &&& (1431655765 : Int32))).toUInt32 >>> ((2 : Int32).toUInt32 &&& Int32.toUInt32 31)).toInt32 &&& (858993459 : Int32))).toUInt32 >>> ((4 : Int32).toUInt32 &&& Int32.toUInt32 31)).toInt32) &&& (252645135 : Int32)).toUInt32 >>> ((8 : Int32).toUInt32 &&& Int32.toUInt32 31)).toInt32).toUInt32 >>> ((16 : Int32).toUInt32 &&& Int32.toUInt32 31)).toInt32))]) hx hb d_JI_bitCount_47 rfl hl (by decide) rfl (fun ls hl => ?_)
  refine lv_iload_n hx hb d_JI_bitCount_48 rfl (lv_at hl 0 rfl) ?_
  refine lv_bipush (v := (63 : Int32)) hx hb d_JI_bitCount_49 (by decide) ?_
  refine lv_iand hx hb d_JI_bitCount_51 ?_
  exact W.iret hx hb hr (fun t ht _ => ⟨_, rfl, Option.some.inj hf, ht⟩) (fun _ h => absurd h List.not_mem_nil) d_JI_bitCount_52
set_option maxHeartbeats 4000000 in
set_option maxRecDepth 100000 in
theorem c_G_withAnswer (l : Launch) (p0 : Int32) (p1 : Int32) (p2 : Int32) (res : Int32) (hf : x_G_withAnswer p0 p1 p2 = some res) : Met l (⟨"GuideSearch", "withAnswer", "(III)I"⟩ : MethodName) (Cond.code (⟨"GuideSearch", "withAnswer", "(III)I"⟩ : MethodName) prog_1_method_20_code 3 (some .int) :: wg) { frames := 0, cells := 0, slots := 0, locals := 0 } (va_Pc ([.int p0, .int p1, .int p2] : List Value) (fun _ => True)) (vp_Si (fun r => r = res)) 0 0 (fun _ => False) := by
  refine ro_start (cc := prog_1_method_20_code) (maxL := 3) (ret := (some .int)) (by decide) (Nat.le_of_ble_eq_true rfl) ?_
  intro p e s m below meth c hx hb hr hml hT hown hlocks hB ls hl
  replace hown : s.vm.findClass "GuideSearch" = some m.cls := hown
  replace hl : lv_has ls 3 [(0, .int p0), (1, .int p1), (2, .int p2)] := hl
  unfold x_G_withAnswer at hf
  refine lv_iload_n hx hb d_G_withAnswer_0 rfl (lv_at hl 0 rfl) ?_
  refine lv_iload_n hx hb d_G_withAnswer_1 rfl (lv_at hl 2 rfl) ?_
  refine lv_iconst (v := (1 : Int32)) hx hb d_G_withAnswer_2 (by decide) ?_
  refine lv_iadd hx hb d_G_withAnswer_3 ?_
  refine lv_iconst (v := (2 : Int32)) hx hb d_G_withAnswer_4 (by decide) ?_
  refine lv_iload_n hx hb d_G_withAnswer_5 rfl (lv_at hl 1 rfl) ?_
  refine lv_iconst (v := (1 : Int32)) hx hb d_G_withAnswer_6 (by decide) ?_
  refine lv_isub hx hb d_G_withAnswer_7 ?_
  refine lv_imul hx hb d_G_withAnswer_8 ?_
  refine lv_ishl hx hb d_G_withAnswer_9 ?_
  refine lv_ior hx hb d_G_withAnswer_10 ?_
  exact W.iret hx hb hr (fun t ht _ => ⟨_, rfl, Option.some.inj hf, ht⟩) (fun _ h => absurd h List.not_mem_nil) d_G_withAnswer_11
set_option maxHeartbeats 4000000 in
set_option maxRecDepth 100000 in
theorem c_G_commonDivisor (l : Launch) (p0 : Int64) (p2 : Int64) (res : Int64) (hf : x_G_commonDivisor p0 p2 = some res) : Met l (⟨"GuideSearch", "commonDivisor", "(JJ)J"⟩ : MethodName) (Cond.code (⟨"GuideSearch", "commonDivisor", "(JJ)J"⟩ : MethodName) prog_1_method_21_code 11 (some .long) :: wg) { frames := 0, cells := 0, slots := 0, locals := 0 } (va_Pc ([.long p0, .long p2] : List Value) (fun _ => True)) (vp_Sl (fun r => r = res)) 0 0 (fun _ => False) := by
  refine ro_start (cc := prog_1_method_21_code) (maxL := 11) (ret := (some .long)) (by decide) (Nat.le_of_ble_eq_true rfl) ?_
  intro p e s m below meth c hx hb hr hml hT hown hlocks hB ls hl
  replace hown : s.vm.findClass "GuideSearch" = some m.cls := hown
  replace hl : lv_has ls 11 [(0, .long p0), (2, .long p2)] := hl
  unfold x_G_commonDivisor at hf
  refine lv_lload_n hx hb d_G_commonDivisor_0 rfl (lv_at hl 0 rfl) ?_
  refine lv_lstore (lv' := [(4, .long p0), (0, .long p0), (2, .long p2)]) hx hb d_G_commonDivisor_1 hl (by decide) rfl (fun ls hl => ?_)
  refine lv_lload_n hx hb d_G_commonDivisor_3 rfl (lv_at hl 2 rfl) ?_
  refine lv_lstore (lv' := [(6, .long p2), (4, .long p0), (0, .long p0), (2, .long p2)]) hx hb d_G_commonDivisor_4 hl (by decide) rfl (fun ls hl => ?_)
  refine lv_iconst (v := (0 : Int32)) hx hb d_G_commonDivisor_6 (by decide) ?_
  refine lv_istore (lv' := [(8, .int (0 : Int32)), (6, .long p2), (4, .long p0), (0, .long p0), (2, .long p2)]) hx hb d_G_commonDivisor_7 hl (by decide) rfl (fun ls hl => ?_)
  have loop1 : ∀ (n : Nat) (v1 : Int32) (v2 : Int64) (v3 : Int64), xl3 x_G_commonDivisor_B1 n v1 v2 v3 = some res → ∀ (ls : Array Slot), lv_has ls 11 [(8, .int v1), (6, .long v2), (4, .long v3)] → W p l e { frames := 0, cells := 0, slots := 0, locals := 0 } s m ([.long p0, .long p2] : List Value).toArray below meth c s.heap [] 0 0 (MQ below (vp_Sl (fun r => r = res)) ([.long p0, .long p2] : List Value).toArray s 0 0 (fun _ => False)) (F0 m 9 ls []) := by
    intro n
    induction n with
    | zero => intro v1 v2 v3 hf; exact absurd hf (by simp [xl3])
    | succ n ih1 =>
      intro v1 v2 v3 hf ls hl
      replace hf : x_G_commonDivisor_B1 (xl3 x_G_commonDivisor_B1 n) v1 v2 v3 = some res := hf
      generalize xl3 x_G_commonDivisor_B1 n = self1 at hf ih1
      unfold x_G_commonDivisor_B1 at hf
      refine lv_iload hx hb d_G_commonDivisor_9 (lv_at hl 0 rfl) ?_
      refine lv_sipush (v := (200 : Int32)) hx hb d_G_commonDivisor_11 (by decide) ?_
      refine lv_icmp_ge (tgt := 45) hx hb d_G_commonDivisor_14 (by decide) (fun c4 => ?_) (fun c4 => ?_)
      · rw [if_pos c4] at hf
        refine lv_lload hx hb d_G_commonDivisor_45 (lv_at hl 2 rfl) ?_
        exact W.lret hx hb hr (fun t ht _ => ⟨_, rfl, Option.some.inj hf, ht⟩) (fun _ h => absurd h List.not_mem_nil) d_G_commonDivisor_47
      · rw [if_neg c4] at hf
        refine lv_lload hx hb d_G_commonDivisor_17 (lv_at hl 1 rfl) ?_
        refine lv_lconst (v := (0 : Int64)) hx hb d_G_commonDivisor_19 (by decide) ?_
        refine W.lcmp hx hb d_G_commonDivisor_20 ?_
        refine lv_if_eq (tgt := 45) hx hb d_G_commonDivisor_21 (by decide) (fun c5 => ?_) (fun c5 => ?_)
        · rw [if_pos ((lg_cmp_eq _ _).mp c5)] at hf
          refine lv_lload hx hb d_G_commonDivisor_45 (lv_at hl 2 rfl) ?_
          exact W.lret hx hb hr (fun t ht _ => ⟨_, rfl, Option.some.inj hf, ht⟩) (fun _ h => absurd h List.not_mem_nil) d_G_commonDivisor_47
        · rw [if_neg (mt (lg_cmp_eq _ _).mpr c5)] at hf
          refine lv_lload hx hb d_G_commonDivisor_24 (lv_at hl 2 rfl) ?_
          refine lv_lload hx hb d_G_commonDivisor_26 (lv_at hl 1 rfl) ?_
          obtain ⟨hz6, hf⟩ := dzl_some hf
          refine lv_lrem hx hb d_G_commonDivisor_28 hz6 ?_
          refine lv_lstore (lv' := [(9, .long (v3 - v3 / v2 * v2)), (8, .int v1), (6, .long v2), (4, .long v3)]) hx hb d_G_commonDivisor_29 hl (by decide) rfl (fun ls hl => ?_)
          refine lv_lload hx hb d_G_commonDivisor_31 (lv_at hl 2 rfl) ?_
          refine lv_lstore (lv' := [(4, .long v2), (9, .long (v3 - v3 / v2 * v2)), (8, .int v1), (6, .long v2)]) hx hb d_G_commonDivisor_33 hl (by decide) rfl (fun ls hl => ?_)
          refine lv_lload hx hb d_G_commonDivisor_35 (lv_at hl 1 rfl) ?_
          refine lv_lstore (lv' := [(6, .long (v3 - v3 / v2 * v2)), (4, .long v2), (9, .long (v3 - v3 / v2 * v2)), (8, .int v1)]) hx hb d_G_commonDivisor_37 hl (by decide) rfl (fun ls hl => ?_)
          refine lv_iinc (v := (v1 + 1)) (lv' := [(8, .int (v1 + 1)), (6, .long (v3 - v3 / v2 * v2)), (4, .long v2), (9, .long (v3 - v3 / v2 * v2))]) hx hb d_G_commonDivisor_39 hl (k := 3) rfl rfl (by decide) rfl (fun ls hl => ?_)
          refine lv_goto (tgt := 9) hx hb d_G_commonDivisor_42 (by decide) ?_
          exact ih1 (v1 + 1) (v3 - v3 / v2 * v2) v2 hf ls (lv_sub hl [0, 1, 2] rfl)
  exact loop1 _ (0 : Int32) p2 p0 hf ls (lv_sub hl [0, 1, 2] rfl)
