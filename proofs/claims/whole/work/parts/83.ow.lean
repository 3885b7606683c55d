set_option maxHeartbeats 4000000 in
set_option maxRecDepth 100000 in
theorem c_G_odd (l : Launch) (dC : Nat → ClassId) (dI : Nat → Nat → Nat) (cs : Nat → ClassId) (a : Nat → Nat) (st : XS) (p1 : Int32) (p2 : Int32) (res : Int64) (hf : x_G_odd st p1 p2 = some res) : Met l (⟨"GuideSearch", "odd", "(II)J"⟩ : MethodName) (Cond.code (⟨"GuideSearch", "odd", "(II)J"⟩ : MethodName) prog_1_method_8_code 9 (some .long) :: wg) { frames := 5, cells := 0, slots := 0, locals := 116 } (va_Pc ([.ref (a 0), .int p1, .int p2] : List Value) (x_pre dC dI cs a st)) (vp_Sl (fun r => r = res)) 0 0 (fun _ => False) := by
  refine ro_start (cc := prog_1_method_8_code) (maxL := 9) (ret := (some .long)) (by decide) (Nat.le_of_ble_eq_true rfl) ?_
  intro p e s m below meth c hx hb hr hml hT hown hlocks hB ls hl
  replace hown : s.vm.findClass "GuideSearch" = some m.cls := hown
  obtain ⟨hP, hK, hN⟩ := hB
  replace hl : lv_has ls 9 [(0, .ref (a 0)), (1, .int p1), (2, .int p2)] := hl
  unfold x_G_odd at hf
  refine lv_aload_n hx hb d_G_odd_0 rfl (lv_at hl 0 rfl) ?_
  refine va_get (D := (dC, dI)) (ci := 0) (v := .ref (a 1)) (C := "GuideSearch") (T := F_G) (N := 6) hx hb hT i_G hown hK hP 0 rfl rfl 0 (by decide) (hT _ k_129) (fun _ h9 => h9) rfl d_G_odd_1 ?_
  refine lv_iload_n hx hb d_G_odd_4 rfl (lv_at hl 1 rfl) ?_
  obtain ⟨r2, hr1, hf⟩ := ob hf
  refine ro_calli (va_runV (C := "GuideSearch$Causes") (As := [.int p1]) (rest := []) ⟨hx, hb, hml, hown, hT⟩ (c_C_knows l dC dI cs a st p1 r2 hr1) (cwV 1 hT (gV k_176 k_177 k_178 k_2 k_179) rfl rfl rfl (by decide +kernel) ⟨Nat.le_of_ble_eq_true rfl, Nat.le_of_ble_eq_true rfl⟩) (ro_preV hP hK hN (va_recv hK hP (ci := 1) (q0 := 1) rfl rfl)) rfl rfl hl.1 rfl (lv_room (Nat.le_of_ble_eq_true rfl)) d_G_odd_5 ⟨Nat.le_of_ble_eq_true rfl, Nat.le_of_ble_eq_true rfl⟩) ?_
  refine lv_if_ne (tgt := 15) hx hb d_G_odd_8 (by decide) (fun c3 => ?_) (fun c3 => ?_)
  · rw [if_neg c3] at hf
    refine lv_aload_n hx hb d_G_odd_15 rfl (lv_at hl 0 rfl) ?_
    refine va_get (D := (dC, dI)) (ci := 0) (v := .ref (a 15)) (C := "GuideSearch") (T := F_G) (N := 6) hx hb hT i_G hown hK hP 0 rfl rfl 2 (by decide) (hT _ k_131) (fun _ h9 => h9) rfl d_G_odd_16 ?_
    refine lv_aload_n hx hb d_G_odd_19 rfl (lv_at hl 0 rfl) ?_
    refine va_get (D := (dC, dI)) (ci := 0) (v := .int (x_opn st)) (C := "GuideSearch") (T := F_G) (N := 6) hx hb hT i_G hown hK hP 0 rfl rfl 4 (by decide) (hT _ k_133) (fun _ h9 => h9) rfl d_G_odd_20 ?_
    obtain ⟨r5, hr4, hf⟩ := ob hf
    refine ro_calll (va_runV (C := "GuideSearch$Cases") (As := [.int (x_opn st)]) (rest := []) ⟨hx, hb, hml, hown, hT⟩ (c_K_weight l dC dI cs a st (x_opn st) r5 hr4) (cwV 1 hT (gV k_427 k_428 k_429 k_5 k_430) rfl rfl rfl (by decide +kernel) ⟨Nat.le_of_ble_eq_true rfl, Nat.le_of_ble_eq_true rfl⟩) (ro_preV hP hK hN (va_recv hK hP (ci := 3) (q0 := 15) rfl rfl)) rfl rfl hl.1 rfl (lv_room (Nat.le_of_ble_eq_true rfl)) d_G_odd_23 ⟨Nat.le_of_ble_eq_true rfl, Nat.le_of_ble_eq_true rfl⟩) ?_
    refine lv_lstore_n (lv' := [(3, .long r5), (0, .ref (a 0)), (1, .int p1), (2, .int p2)]) hx hb d_G_odd_26 rfl hl (by decide) rfl (fun ls hl => ?_)
    refine lv_lload_n hx hb d_G_odd_27 rfl (lv_at hl 0 rfl) ?_
    refine lv_lconst (v := (0 : Int64)) hx hb d_G_odd_28 (by decide) ?_
    refine W.lcmp hx hb d_G_odd_29 ?_
    refine lv_if_gt (tgt := 43) hx hb d_G_odd_30 (by decide) (fun c6 => ?_) (fun c6 => ?_)
    · rw [if_pos ((lg_cmp_gt _ _).mp c6)] at hf
      refine lv_aload_n hx hb d_G_odd_43 rfl (lv_at hl 1 rfl) ?_
      refine va_get (D := (dC, dI)) (ci := 0) (v := .ref (a 15)) (C := "GuideSearch") (T := F_G) (N := 6) hx hb hT i_G hown hK hP 0 rfl rfl 2 (by decide) (hT _ k_131) (fun _ h9 => h9) rfl d_G_odd_44 ?_
      refine lv_iload_n hx hb d_G_odd_47 rfl (lv_at hl 2 rfl) ?_
      refine lv_aload_n hx hb d_G_odd_48 rfl (lv_at hl 1 rfl) ?_
      refine va_get (D := (dC, dI)) (ci := 0) (v := .int (x_opn st)) (C := "GuideSearch") (T := F_G) (N := 6) hx hb hT i_G hown hK hP 0 rfl rfl 4 (by decide) (hT _ k_133) (fun _ h9 => h9) rfl d_G_odd_49 ?_
      obtain ⟨r8, hr7, hf⟩ := ob hf
      refine ro_calll (va_runV (C := "GuideSearch$Cases") (As := [.int p1, .int (x_opn st)]) (rest := []) ⟨hx, hb, hml, hown, hT⟩ (c_K_weightOf l dC dI cs a st p1 (x_opn st) r8 hr7) (cwV 2 hT (gV k_496 k_258 k_259 k_5 k_260) rfl rfl rfl (by decide +kernel) ⟨Nat.le_of_ble_eq_true rfl, Nat.le_of_ble_eq_true rfl⟩) (ro_preV hP hK hN (va_recv hK hP (ci := 3) (q0 := 15) rfl rfl)) rfl rfl hl.1 rfl (lv_room (Nat.le_of_ble_eq_true rfl)) d_G_odd_52 ⟨Nat.le_of_ble_eq_true rfl, Nat.le_of_ble_eq_true rfl⟩) ?_
      refine lv_lstore (lv' := [(5, .long r8), (3, .long r5), (0, .ref (a 0)), (1, .int p1), (2, .int p2)]) hx hb d_G_odd_55 hl (by decide) rfl (fun ls hl => ?_)
      refine lv_lload_n hx hb d_G_odd_57 rfl (lv_at hl 1 rfl) ?_
      refine lv_lload hx hb d_G_odd_58 (lv_at hl 0 rfl) ?_
      obtain ⟨r10, hr9, hf⟩ := ob hf
      refine ro_calll (va_runS (As := [.long r5, .long r8]) (rest := []) ⟨hx, hb, hml, hown, hT⟩ (c_G_commonDivisor l r5 r8 r10 hr9) (va_cwS 2 hT (gS k_497 k_498 k_1 k_499) rfl rfl rfl (by decide +kernel) ⟨Nat.le_of_ble_eq_true rfl, Nat.le_of_ble_eq_true rfl⟩) ⟨fun _ _ _ _ q => q, fun _ _ _ => ⟨rfl, trivial⟩⟩ rfl rfl hl.1 rfl (lv_room (Nat.le_of_ble_eq_true rfl)) d_G_odd_60 ⟨Nat.le_of_ble_eq_true rfl, Nat.le_of_ble_eq_true rfl⟩) ?_
      refine lv_lstore (lv' := [(7, .long r10), (5, .long r8), (3, .long r5), (0, .ref (a 0)), (1, .int p1), (2, .int p2)]) hx hb d_G_odd_63 hl (by decide) rfl (fun ls hl => ?_)
      refine lv_lload hx hb d_G_odd_65 (lv_at hl 0 rfl) ?_
      refine lv_lconst (v := (0 : Int64)) hx hb d_G_odd_67 (by decide) ?_
      refine W.lcmp hx hb d_G_odd_68 ?_
      refine lv_if_gt (tgt := 76) hx hb d_G_odd_69 (by decide) (fun c11 => ?_) (fun c11 => ?_)
      · rw [if_pos ((lg_cmp_gt _ _).mp c11)] at hf
        refine lv_iload_n hx hb d_G_odd_76 rfl (lv_at hl 5 rfl) ?_
        refine lv_if_ne (tgt := 88) hx hb d_G_odd_77 (by decide) (fun c12 => ?_) (fun c12 => ?_)
        · rw [if_neg c12] at hf
          refine lv_lload_n hx hb d_G_odd_88 rfl (lv_at hl 2 rfl) ?_
          refine lv_lload hx hb d_G_odd_89 (lv_at hl 0 rfl) ?_
          obtain ⟨hz13, hf⟩ := dzl_some hf
          refine lv_ldiv hx hb d_G_odd_91 hz13 ?_
          exact W.lret hx hb hr (fun t ht _ => ⟨_, rfl, Option.some.inj hf, ht⟩) (fun _ h => absurd h List.not_mem_nil) d_G_odd_92
        · rw [if_pos c12] at hf
          refine lv_lload hx hb d_G_odd_80 (lv_at hl 1 rfl) ?_
          refine lv_lload hx hb d_G_odd_82 (lv_at hl 0 rfl) ?_
          obtain ⟨hz14, hf⟩ := dzl_some hf
          refine lv_ldiv hx hb d_G_odd_84 hz14 ?_
          refine lv_goto (tgt := 92) hx hb d_G_odd_85 (by decide) ?_
          exact W.lret hx hb hr (fun t ht _ => ⟨_, rfl, Option.some.inj hf, ht⟩) (fun _ h => absurd h List.not_mem_nil) d_G_odd_92
      · rw [if_neg (mt (lg_cmp_gt _ _).mpr c11)] at hf
        refine lv_ldc2 (v := (-1 : Int64)) hx hb hown (hT _ k_426) d_G_odd_72 ?_
        exact W.lret hx hb hr (fun t ht _ => ⟨_, rfl, Option.some.inj hf, ht⟩) (fun _ h => absurd h List.not_mem_nil) d_G_odd_75
    · rw [if_neg (mt (lg_cmp_gt _ _).mpr c6)] at hf
      cases hf
  · rw [if_pos c3] at hf
    refine lv_ldc2 (v := (-1 : Int64)) hx hb hown (hT _ k_426) d_G_odd_11 ?_
    exact W.lret hx hb hr (fun t ht _ => ⟨_, rfl, Option.some.inj hf, ht⟩) (fun _ h => absurd h List.not_mem_nil) d_G_odd_14
