set_option maxHeartbeats 4000000 in
set_option maxRecDepth 100000 in
theorem c_K_weightOf (l : Launch) (dC : Nat → ClassId) (dI : Nat → Nat → Nat) (cs : Nat → ClassId) (a : Nat → Nat) (st : XS) (p1 : Int32) (p2 : Int32) (res : Int64) (hf : x_K_weightOf st p1 p2 = some res) : Met l (⟨"GuideSearch$Cases", "weightOf", "(II)J"⟩ : MethodName) (Cond.code (⟨"GuideSearch$Cases", "weightOf", "(II)J"⟩ : MethodName) prog_2_method_2_code 7 (some .long) :: wg) { frames := 3, cells := 0, slots := 0, locals := 66 } (va_Pc ([.ref (a 15), .int p1, .int p2] : List Value) (x_pre dC dI cs a st)) (vp_Sl (fun r => r = res)) 0 0 (fun _ => False) := by
  refine ro_start (cc := prog_2_method_2_code) (maxL := 7) (ret := (some .long)) (by decide) (Nat.le_of_ble_eq_true rfl) ?_
  intro p e s m below meth c hx hb hr hml hT hown hlocks hB ls hl
  replace hown : s.vm.findClass "GuideSearch$Cases" = some m.cls := hown
  obtain ⟨hP, hK, hN⟩ := hB
  replace hl : lv_has ls 7 [(0, .ref (a 15)), (1, .int p1), (2, .int p2)] := hl
  unfold x_K_weightOf at hf
  refine lv_aload_n hx hb d_K_weightOf_0 rfl (lv_at hl 0 rfl) ?_
  refine va_get (D := (dC, dI)) (ci := 3) (v := .ref (a 1)) (C := "GuideSearch$Cases") (T := F_K) (N := 2) hx hb hT i_K hown hK hP 15 rfl rfl 0 (by decide) (hT _ k_81) (fun _ h9 => h9) rfl d_K_weightOf_1 ?_
  refine lv_iload_n hx hb d_K_weightOf_4 rfl (lv_at hl 1 rfl) ?_
  obtain ⟨r2, hr1, hf⟩ := ob hf
  refine ro_calll (va_runV (C := "GuideSearch$Causes") (As := [.int p1]) (rest := []) ⟨hx, hb, hml, hown, hT⟩ (c_C_prior l dC dI cs a st p1 r2 hr1) (cwV 1 hT (gV k_261 k_262 k_263 k_2 k_264) rfl rfl rfl (by decide +kernel) ⟨Nat.le_of_ble_eq_true rfl, Nat.le_of_ble_eq_true rfl⟩) (ro_preV hP hK hN (va_recv hK hP (ci := 1) (q0 := 1) rfl rfl)) rfl rfl hl.1 rfl (lv_room (Nat.le_of_ble_eq_true rfl)) d_K_weightOf_5 ⟨Nat.le_of_ble_eq_true rfl, Nat.le_of_ble_eq_true rfl⟩) ?_
  refine lv_ldc2 (v := (248832 : Int64)) hx hb hown (hT _ k_269) d_K_weightOf_8 ?_
  refine lv_lmul hx hb d_K_weightOf_11 ?_
  refine lv_lstore_n (lv' := [(3, .long (r2 * (248832 : Int64))), (0, .ref (a 15)), (1, .int p1), (2, .int p2)]) hx hb d_K_weightOf_12 rfl hl (by decide) rfl (fun ls hl => ?_)
  refine lv_iconst (v := (1 : Int32)) hx hb d_K_weightOf_13 (by decide) ?_
  refine lv_istore (lv' := [(5, .int (1 : Int32)), (3, .long (r2 * (248832 : Int64))), (0, .ref (a 15)), (1, .int p1), (2, .int p2)]) hx hb d_K_weightOf_14 hl (by decide) rfl (fun ls hl => ?_)
  have loop1 : ∀ (n : Nat) (v3 : Int32) (v4 : Int64), xl2 (x_K_weightOf_B1 st p1 p2) n v3 v4 = some res → ∀ (ls : Array Slot), lv_has ls 7 [(5, .int v3), (3, .long v4), (0, .ref (a 15)), (1, .int p1), (2, .int p2)] → W p l e { frames := 3, cells := 0, slots := 0, locals := 66 } s m ([.ref (a 15), .int p1, .int p2] : List Value).toArray below meth c s.heap [] 0 0 (MQ below (vp_Sl (fun r => r = res)) ([.ref (a 15), .int p1, .int p2] : List Value).toArray s 0 0 (fun _ => False)) (F0 m 16 ls []) := by
    intro n
    induction n with
    | zero => intro v3 v4 hf; exact absurd hf (by simp [xl2])
    | succ n ih1 =>
      intro v3 v4 hf ls hl
      replace hf : (x_K_weightOf_B1 st p1 p2) (xl2 (x_K_weightOf_B1 st p1 p2) n) v3 v4 = some res := hf
      generalize xl2 (x_K_weightOf_B1 st p1 p2) n = self1 at hf ih1
      unfold x_K_weightOf_B1 at hf
      refine lv_iload hx hb d_K_weightOf_16 (lv_at hl 0 rfl) ?_
      refine lv_aload_n hx hb d_K_weightOf_18 rfl (lv_at hl 2 rfl) ?_
      refine va_get (D := (dC, dI)) (ci := 3) (v := .ref (a 5)) (C := "GuideSearch$Cases") (T := F_K) (N := 2) hx hb hT i_K hown hK hP 15 rfl rfl 1 (by decide) (hT _ k_82) (fun _ h9 => h9) rfl d_K_weightOf_19 ?_
      refine va_getN (D := (dC, dI)) (ci := 2) (v := .int (x_tN st)) (C := "GuideSearch$Tests") (T := F_T) (N := 4) hx hb hT i_T hown hK hP 5 rfl rfl 3 (by decide) (va_Nw.use rfl (hN _ k_64)) (fun _ h9 => h9) rfl d_K_weightOf_22 ?_
      refine lv_icmp_gt (tgt := 68) hx hb d_K_weightOf_25 (by decide) (fun c5 => ?_) (fun c5 => ?_)
      · rw [if_pos c5] at hf
        refine lv_lload_n hx hb d_K_weightOf_68 rfl (lv_at hl 1 rfl) ?_
        exact W.lret hx hb hr (fun t ht _ => ⟨_, rfl, Option.some.inj hf, ht⟩) (fun _ h => absurd h List.not_mem_nil) d_K_weightOf_69
      · rw [if_neg c5] at hf
        refine lv_iload_n hx hb d_K_weightOf_28 rfl (lv_at hl 4 rfl) ?_
        refine lv_iload hx hb d_K_weightOf_29 (lv_at hl 0 rfl) ?_
        obtain ⟨r7, hr6, hf⟩ := ob hf
        refine ro_calli (va_runSN (As := [.int p2, .int v3]) (rest := []) ⟨hx, hb, hml, hown, hT⟩ (c_G_answerIn l p2 v3 r7 hr6) ⟨va_cnB 2 hT (gcode k_203) rfl rfl rfl (hN _ k_270) (hT _ k_1) (by decide +kernel) ⟨Nat.le_of_ble_eq_true rfl, Nat.le_of_ble_eq_true rfl⟩, hT _ k_202, trivial⟩ ⟨fun _ _ _ _ q => q, fun _ _ _ => ⟨rfl, trivial⟩⟩ rfl rfl hl.1 rfl (lv_room (Nat.le_of_ble_eq_true rfl)) d_K_weightOf_31 ⟨Nat.le_of_ble_eq_true rfl, Nat.le_of_ble_eq_true rfl⟩) ?_
        refine lv_istore (lv' := [(6, .int r7), (5, .int v3), (3, .long v4), (0, .ref (a 15)), (1, .int p1), (2, .int p2)]) hx hb d_K_weightOf_34 hl (by decide) rfl (fun ls hl => ?_)
        refine lv_iload hx hb d_K_weightOf_36 (lv_at hl 0 rfl) ?_
        refine lv_iconst (v := (-1 : Int32)) hx hb d_K_weightOf_38 (by decide) ?_
        refine lv_icmp_eq (tgt := 62) hx hb d_K_weightOf_39 (by decide) (fun c8 => ?_) (fun c8 => ?_)
        · rw [if_pos c8] at hf
          refine lv_iinc (v := (v3 + 1)) (lv' := [(5, .int (v3 + 1)), (6, .int r7), (3, .long v4), (0, .ref (a 15)), (1, .int p1), (2, .int p2)]) hx hb d_K_weightOf_62 hl (k := 1) rfl rfl (by decide) rfl (fun ls hl => ?_)
          refine lv_goto (tgt := 16) hx hb d_K_weightOf_65 (by decide) ?_
          exact ih1 (v3 + 1) v4 hf ls (lv_sub hl [0, 2, 3, 4, 5] rfl)
        · rw [if_neg c8] at hf
          refine lv_lload_n hx hb d_K_weightOf_42 rfl (lv_at hl 2 rfl) ?_
          refine lv_ldc2 (v := (12 : Int64)) hx hb hown (hT _ k_271) d_K_weightOf_43 ?_
          refine lv_ldiv hx hb d_K_weightOf_46 (by decide) ?_
          refine lv_aload_n hx hb d_K_weightOf_47 rfl (lv_at hl 3 rfl) ?_
          refine va_get (D := (dC, dI)) (ci := 3) (v := .ref (a 5)) (C := "GuideSearch$Cases") (T := F_K) (N := 2) hx hb hT i_K hown hK hP 15 rfl rfl 1 (by decide) (hT _ k_82) (fun _ h9 => h9) rfl d_K_weightOf_48 ?_
          refine lv_iload hx hb d_K_weightOf_51 (lv_at hl 1 rfl) ?_
          refine lv_iload_n hx hb d_K_weightOf_53 rfl (lv_at hl 4 rfl) ?_
          refine lv_iload hx hb d_K_weightOf_54 (lv_at hl 0 rfl) ?_
          obtain ⟨r10, hr9, hf⟩ := ob hf
          refine ro_calli (va_runV (C := "GuideSearch$Tests") (As := [.int v3, .int p1, .int r7]) (rest := [.long (v4 / (12 : Int64))]) ⟨hx, hb, hml, hown, hT⟩ (c_T_twelfths l dC dI cs a st v3 p1 r7 r10 hr9) (cwV 3 hT (gV k_272 k_192 k_193 k_3 k_194) rfl rfl rfl (by decide +kernel) ⟨Nat.le_of_ble_eq_true rfl, Nat.le_of_ble_eq_true rfl⟩) (ro_preV hP hK hN (va_recv hK hP (ci := 2) (q0 := 5) rfl rfl)) rfl rfl hl.1 rfl (lv_room (Nat.le_of_ble_eq_true rfl)) d_K_weightOf_56 ⟨Nat.le_of_ble_eq_true rfl, Nat.le_of_ble_eq_true rfl⟩) ?_
          refine lv_i2l (v := r10.toInt64) hx hb d_K_weightOf_59 rfl ?_
          refine lv_lmul hx hb d_K_weightOf_60 ?_
          refine lv_lstore_n (lv' := [(3, .long ((v4 / (12 : Int64)) * r10.toInt64)), (6, .int r7), (5, .int v3), (0, .ref (a 15)), (1, .int p1), (2, .int p2)]) hx hb d_K_weightOf_61 rfl hl (by decide) rfl (fun ls hl => ?_)
          refine lv_iinc (v := (v3 + 1)) (lv' := [(5, .int (v3 + 1)), (3, .long ((v4 / (12 : Int64)) * r10.toInt64)), (6, .int r7), (0, .ref (a 15)), (1, .int p1), (2, .int p2)]) hx hb d_K_weightOf_62 hl (k := 2) rfl rfl (by decide) rfl (fun ls hl => ?_)
          refine lv_goto (tgt := 16) hx hb d_K_weightOf_65 (by decide) ?_
          exact ih1 (v3 + 1) ((v4 / (12 : Int64)) * r10.toInt64) hf ls (lv_sub hl [0, 1, 3, 4, 5] rfl)
  exact loop1 _ (1 : Int32) (r2 * (248832 : Int64)) hf ls (lv_sub hl [0, 1, 2, 3, 4] rfl)
set_option maxHeartbeats 4000000 in
set_option maxRecDepth 100000 in
theorem c_K_left (l : Launch) (dC : Nat → ClassId) (dI : Nat → Nat → Nat) (cs : Nat → ClassId) (a : Nat → Nat) (st : XS) (p1 : Int32) (res : Int32) (hf : x_K_left st p1 = some res) : Met l (⟨"GuideSearch$Cases", "left", "(I)I"⟩ : MethodName) (Cond.code (⟨"GuideSearch$Cases", "left", "(I)I"⟩ : MethodName) prog_2_method_5_code 4 (some .int) :: wg) { frames := 4, cells := 0, slots := 0, locals := 92 } (va_Pc ([.ref (a 15), .int p1] : List Value) (x_pre dC dI cs a st)) (vp_Si (fun r => r = res)) 0 0 (fun _ => False) := by
  refine ro_start (cc := prog_2_method_5_code) (maxL := 4) (ret := (some .int)) (by decide) (Nat.le_of_ble_eq_true rfl) ?_
  intro p e s m below meth c hx hb hr hml hT hown hlocks hB ls hl
  replace hown : s.vm.findClass "GuideSearch$Cases" = some m.cls := hown
  obtain ⟨hP, hK, hN⟩ := hB
  replace hl : lv_has ls 4 [(0, .ref (a 15)), (1, .int p1)] := hl
  unfold x_K_left at hf
  refine lv_iconst (v := (0 : Int32)) hx hb d_K_left_0 (by decide) ?_
  refine lv_istore_n (lv' := [(2, .int (0 : Int32)), (0, .ref (a 15)), (1, .int p1)]) hx hb d_K_left_1 rfl hl (by decide) rfl (fun ls hl => ?_)
  refine lv_iconst (v := (1 : Int32)) hx hb d_K_left_2 (by decide) ?_
  refine lv_istore_n (lv' := [(3, .int (1 : Int32)), (2, .int (0 : Int32)), (0, .ref (a 15)), (1, .int p1)]) hx hb d_K_left_3 rfl hl (by decide) rfl (fun ls hl => ?_)
  have loop1 : ∀ (n : Nat) (v1 : Int32) (v2 : Int32), xl2 (x_K_left_B1 st p1) n v1 v2 = some res → ∀ (ls : Array Slot), lv_has ls 4 [(3, .int v1), (2, .int v2), (0, .ref (a 15)), (1, .int p1)] → W p l e { frames := 4, cells := 0, slots := 0, locals := 92 } s m ([.ref (a 15), .int p1] : List Value).toArray below meth c s.heap [] 0 0 (MQ below (vp_Si (fun r => r = res)) ([.ref (a 15), .int p1] : List Value).toArray s 0 0 (fun _ => False)) (F0 m 4 ls []) := by
    intro n
    induction n with
    | zero => intro v1 v2 hf; exact absurd hf (by simp [xl2])
    | succ n ih1 =>
      intro v1 v2 hf ls hl
      replace hf : (x_K_left_B1 st p1) (xl2 (x_K_left_B1 st p1) n) v1 v2 = some res := hf
      generalize xl2 (x_K_left_B1 st p1) n = self1 at hf ih1
      unfold x_K_left_B1 at hf
      refine lv_iload_n hx hb d_K_left_4 rfl (lv_at hl 0 rfl) ?_
      refine lv_aload_n hx hb d_K_left_5 rfl (lv_at hl 2 rfl) ?_
      refine va_get (D := (dC, dI)) (ci := 3) (v := .ref (a 1)) (C := "GuideSearch$Cases") (T := F_K) (N := 2) hx hb hT i_K hown hK hP 15 rfl rfl 0 (by decide) (hT _ k_81) (fun _ h9 => h9) rfl d_K_left_6 ?_
      refine va_getN (D := (dC, dI)) (ci := 1) (v := .int (x_cN st)) (C := "GuideSearch$Causes") (T := F_C) (N := 5) hx hb hT i_C hown hK hP 1 rfl rfl 3 (by decide) (va_Nw.use rfl (hN _ k_33)) (fun _ h9 => h9) rfl d_K_left_9 ?_
      refine lv_icmp_gt (tgt := 43) hx hb d_K_left_12 (by decide) (fun c3 => ?_) (fun c3 => ?_)
      · rw [if_pos c3] at hf
        refine lv_iload_n hx hb d_K_left_43 rfl (lv_at hl 1 rfl) ?_
        exact W.iret hx hb hr (fun t ht _ => ⟨_, rfl, Option.some.inj hf, ht⟩) (fun _ h => absurd h List.not_mem_nil) d_K_left_44
      · rw [if_neg c3] at hf
        refine lv_iload_n hx hb d_K_left_15 rfl (lv_at hl 1 rfl) ?_
        refine lv_aload_n hx hb d_K_left_16 rfl (lv_at hl 2 rfl) ?_
        refine lv_iload_n hx hb d_K_left_17 rfl (lv_at hl 0 rfl) ?_
        refine lv_iload_n hx hb d_K_left_18 rfl (lv_at hl 3 rfl) ?_
        obtain ⟨r5, hr4, hf⟩ := ob hf
        refine ro_calll (va_runV (C := "GuideSearch$Cases") (As := [.int v1, .int p1]) (rest := [.int v2]) ⟨hx, hb, hml, hown, hT⟩ (c_K_weightOf l dC dI cs a st v1 p1 r5 hr4) (cwV 2 hT (gV k_342 k_258 k_259 k_5 k_260) rfl rfl rfl (by decide +kernel) ⟨Nat.le_of_ble_eq_true rfl, Nat.le_of_ble_eq_true rfl⟩) (ro_preV hP hK hN (va_recv hK hP (ci := 3) (q0 := 15) rfl rfl)) rfl rfl hl.1 rfl (lv_room (Nat.le_of_ble_eq_true rfl)) d_K_left_19 ⟨Nat.le_of_ble_eq_true rfl, Nat.le_of_ble_eq_true rfl⟩) ?_
        refine lv_lconst (v := (0 : Int64)) hx hb d_K_left_22 (by decide) ?_
        refine W.lcmp hx hb d_K_left_23 ?_
        refine lv_if_le (tgt := 34) hx hb d_K_left_24 (by decide) (fun c6 => ?_) (fun c6 => ?_)
        · rw [if_pos ((lg_cmp_le _ _).mp c6)] at hf
          refine lv_iconst (v := (0 : Int32)) hx hb d_K_left_34 (by decide) ?_
          refine lv_ior hx hb d_K_left_35 ?_
          refine lv_istore_n (lv' := [(2, .int (v2 ||| (0 : Int32))), (3, .int v1), (0, .ref (a 15)), (1, .int p1)]) hx hb d_K_left_36 rfl hl (by decide) rfl (fun ls hl => ?_)
          refine lv_iinc (v := (v1 + 1)) (lv' := [(3, .int (v1 + 1)), (2, .int (v2 ||| (0 : Int32))), (0, .ref (a 15)), (1, .int p1)]) hx hb d_K_left_37 hl (k := 1) rfl rfl (by decide) rfl (fun ls hl => ?_)
          refine lv_goto (tgt := 4) hx hb d_K_left_40 (by decide) ?_
          exact ih1 (v1 + 1) (v2 ||| (0 : Int32)) hf ls (lv_sub hl [0, 1, 2, 3] rfl)
        · rw [if_neg (mt (lg_cmp_le _ _).mpr c6)] at hf
          refine lv_iload_n hx hb d_K_left_27 rfl (lv_at hl 0 rfl) ?_
          obtain ⟨r8, hr7, hf⟩ := ob hf
          refine ro_calli (va_runSN (As := [.int v1]) (rest := [.int v2]) ⟨hx, hb, hml, hown, hT⟩ (c_G_bit l v1 r8 hr7) ⟨va_cnB 1 hT (gcode k_221) rfl rfl rfl (hN _ k_295) (hT _ k_1) (by decide +kernel) ⟨Nat.le_of_ble_eq_true rfl, Nat.le_of_ble_eq_true rfl⟩, hT _ k_220, trivial⟩ ⟨fun _ _ _ _ q => q, fun _ _ _ => ⟨rfl, trivial⟩⟩ rfl rfl hl.1 rfl (lv_room (Nat.le_of_ble_eq_true rfl)) d_K_left_28 ⟨Nat.le_of_ble_eq_true rfl, Nat.le_of_ble_eq_true rfl⟩) ?_
          refine lv_goto (tgt := 35) hx hb d_K_left_31 (by decide) ?_
          refine lv_ior hx hb d_K_left_35 ?_
          refine lv_istore_n (lv' := [(2, .int (v2 ||| r8)), (3, .int v1), (0, .ref (a 15)), (1, .int p1)]) hx hb d_K_left_36 rfl hl (by decide) rfl (fun ls hl => ?_)
          refine lv_iinc (v := (v1 + 1)) (lv' := [(3, .int (v1 + 1)), (2, .int (v2 ||| r8)), (0, .ref (a 15)), (1, .int p1)]) hx hb d_K_left_37 hl (k := 1) rfl rfl (by decide) rfl (fun ls hl => ?_)
          refine lv_goto (tgt := 4) hx hb d_K_left_40 (by decide) ?_
          exact ih1 (v1 + 1) (v2 ||| r8) hf ls (lv_sub hl [0, 1, 2, 3] rfl)
  exact loop1 _ (1 : Int32) (0 : Int32) hf ls (lv_sub hl [0, 1, 2, 3] rfl)
set_option maxHeartbeats 4000000 in
set_option maxRecDepth 100000 in
theorem c_K_weight (l : Launch) (dC : Nat → ClassId) (dI : Nat → Nat → Nat) (cs : Nat → ClassId) (a : Nat → Nat) (st : XS) (p1 : Int32) (res : Int64) (hf : x_K_weight st p1 = some res) : Met l (⟨"GuideSearch$Cases", "weight", "(I)J"⟩ : MethodName) (Cond.code (⟨"GuideSearch$Cases", "weight", "(I)J"⟩ : MethodName) prog_2_method_3_code 5 (some .long) :: wg) { frames := 4, cells := 0, slots := 0, locals := 92 } (va_Pc ([.ref (a 15), .int p1] : List Value) (x_pre dC dI cs a st)) (vp_Sl (fun r => r = res)) 0 0 (fun _ => False) := by
  refine ro_start (cc := prog_2_method_3_code) (maxL := 5) (ret := (some .long)) (by decide) (Nat.le_of_ble_eq_true rfl) ?_
  intro p e s m below meth c hx hb hr hml hT hown hlocks hB ls hl
  replace hown : s.vm.findClass "GuideSearch$Cases" = some m.cls := hown
  obtain ⟨hP, hK, hN⟩ := hB
  replace hl : lv_has ls 5 [(0, .ref (a 15)), (1, .int p1)] := hl
  unfold x_K_weight at hf
  refine lv_lconst (v := (0 : Int64)) hx hb d_K_weight_0 (by decide) ?_
  refine lv_lstore_n (lv' := [(2, .long (0 : Int64)), (0, .ref (a 15)), (1, .int p1)]) hx hb d_K_weight_1 rfl hl (by decide) rfl (fun ls hl => ?_)
  refine lv_iconst (v := (1 : Int32)) hx hb d_K_weight_2 (by decide) ?_
  refine lv_istore (lv' := [(4, .int (1 : Int32)), (2, .long (0 : Int64)), (0, .ref (a 15)), (1, .int p1)]) hx hb d_K_weight_3 hl (by decide) rfl (fun ls hl => ?_)
  have loop1 : ∀ (n : Nat) (v1 : Int32) (v2 : Int64), xl2 (x_K_weight_B1 st p1) n v1 v2 = some res → ∀ (ls : Array Slot), lv_has ls 5 [(4, .int v1), (2, .long v2), (0, .ref (a 15)), (1, .int p1)] → W p l e { frames := 4, cells := 0, slots := 0, locals := 92 } s m ([.ref (a 15), .int p1] : List Value).toArray below meth c s.heap [] 0 0 (MQ below (vp_Sl (fun r => r = res)) ([.ref (a 15), .int p1] : List Value).toArray s 0 0 (fun _ => False)) (F0 m 5 ls []) := by
    intro n
    induction n with
    | zero => intro v1 v2 hf; exact absurd hf (by simp [xl2])
    | succ n ih1 =>
      intro v1 v2 hf ls hl
      replace hf : (x_K_weight_B1 st p1) (xl2 (x_K_weight_B1 st p1) n) v1 v2 = some res := hf
      generalize xl2 (x_K_weight_B1 st p1) n = self1 at hf ih1
      unfold x_K_weight_B1 at hf
      refine lv_iload hx hb d_K_weight_5 (lv_at hl 0 rfl) ?_
      refine lv_aload_n hx hb d_K_weight_7 rfl (lv_at hl 2 rfl) ?_
      refine va_get (D := (dC, dI)) (ci := 3) (v := .ref (a 1)) (C := "GuideSearch$Cases") (T := F_K) (N := 2) hx hb hT i_K hown hK hP 15 rfl rfl 0 (by decide) (hT _ k_81) (fun _ h9 => h9) rfl d_K_weight_8 ?_
      refine va_getN (D := (dC, dI)) (ci := 1) (v := .int (x_cN st)) (C := "GuideSearch$Causes") (T := F_C) (N := 5) hx hb hT i_C hown hK hP 1 rfl rfl 3 (by decide) (va_Nw.use rfl (hN _ k_33)) (fun _ h9 => h9) rfl d_K_weight_11 ?_
      refine lv_icmp_gt (tgt := 33) hx hb d_K_weight_14 (by decide) (fun c3 => ?_) (fun c3 => ?_)
      · rw [if_pos c3] at hf
        refine lv_lload_n hx hb d_K_weight_33 rfl (lv_at hl 1 rfl) ?_
        exact W.lret hx hb hr (fun t ht _ => ⟨_, rfl, Option.some.inj hf, ht⟩) (fun _ h => absurd h List.not_mem_nil) d_K_weight_34
      · rw [if_neg c3] at hf
        refine lv_lload_n hx hb d_K_weight_17 rfl (lv_at hl 1 rfl) ?_
        refine lv_aload_n hx hb d_K_weight_18 rfl (lv_at hl 2 rfl) ?_
        refine lv_iload hx hb d_K_weight_19 (lv_at hl 0 rfl) ?_
        refine lv_iload_n hx hb d_K_weight_21 rfl (lv_at hl 3 rfl) ?_
        obtain ⟨r5, hr4, hf⟩ := ob hf
        refine ro_calll (va_runV (C := "GuideSearch$Cases") (As := [.int v1, .int p1]) (rest := [.long v2]) ⟨hx, hb, hml, hown, hT⟩ (c_K_weightOf l dC dI cs a st v1 p1 r5 hr4) (cwV 2 hT (gV k_342 k_258 k_259 k_5 k_260) rfl rfl rfl (by decide +kernel) ⟨Nat.le_of_ble_eq_true rfl, Nat.le_of_ble_eq_true rfl⟩) (ro_preV hP hK hN (va_recv hK hP (ci := 3) (q0 := 15) rfl rfl)) rfl rfl hl.1 rfl (lv_room (Nat.le_of_ble_eq_true rfl)) d_K_weight_22 ⟨Nat.le_of_ble_eq_true rfl, Nat.le_of_ble_eq_true rfl⟩) ?_
        refine lv_ladd hx hb d_K_weight_25 ?_
        refine lv_lstore_n (lv' := [(2, .long (v2 + r5)), (4, .int v1), (0, .ref (a 15)), (1, .int p1)]) hx hb d_K_weight_26 rfl hl (by decide) rfl (fun ls hl => ?_)
        refine lv_iinc (v := (v1 + 1)) (lv' := [(4, .int (v1 + 1)), (2, .long (v2 + r5)), (0, .ref (a 15)), (1, .int p1)]) hx hb d_K_weight_27 hl (k := 1) rfl rfl (by decide) rfl (fun ls hl => ?_)
        refine lv_goto (tgt := 5) hx hb d_K_weight_30 (by decide) ?_
        exact ih1 (v1 + 1) (v2 + r5) hf ls (lv_sub hl [0, 1, 2, 3] rfl)
  exact loop1 _ (1 : Int32) (0 : Int64) hf ls (lv_sub hl [0, 1, 2, 3] rfl)
set_option maxHeartbeats 4000000 in
set_option maxRecDepth 100000 in
theorem c_K_greatestWeight (l : Launch) (dC : Nat → ClassId) (dI : Nat → Nat → Nat) (cs : Nat → ClassId) (a : Nat → Nat) (st : XS) (p1 : Int32) (res : Int64) (hf : x_K_greatestWeight st p1 = some res) : Met l (⟨"GuideSearch$Cases", "greatestWeight", "(I)J"⟩ : MethodName) (Cond.code (⟨"GuideSearch$Cases", "greatestWeight", "(I)J"⟩ : MethodName) prog_2_method_4_code 5 (some .long) :: wg) { frames := 4, cells := 0, slots := 0, locals := 92 } (va_Pc ([.ref (a 15), .int p1] : List Value) (x_pre dC dI cs a st)) (vp_Sl (fun r => r = res)) 0 0 (fun _ => False) := by
  refine ro_start (cc := prog_2_method_4_code) (maxL := 5) (ret := (some .long)) (by decide) (Nat.le_of_ble_eq_true rfl) ?_
  intro p e s m below meth c hx hb hr hml hT hown hlocks hB ls hl
  replace hown : s.vm.findClass "GuideSearch$Cases" = some m.cls := hown
  obtain ⟨hP, hK, hN⟩ := hB
  replace hl : lv_has ls 5 [(0, .ref (a 15)), (1, .int p1)] := hl
  unfold x_K_greatestWeight at hf
  refine lv_lconst (v := (0 : Int64)) hx hb d_K_greatestWeight_0 (by decide) ?_
  refine lv_lstore_n (lv' := [(2, .long (0 : Int64)), (0, .ref (a 15)), (1, .int p1)]) hx hb d_K_greatestWeight_1 rfl hl (by decide) rfl (fun ls hl => ?_)
  refine lv_iconst (v := (1 : Int32)) hx hb d_K_greatestWeight_2 (by decide) ?_
  refine lv_istore (lv' := [(4, .int (1 : Int32)), (2, .long (0 : Int64)), (0, .ref (a 15)), (1, .int p1)]) hx hb d_K_greatestWeight_3 hl (by decide) rfl (fun ls hl => ?_)
  have loop1 : ∀ (n : Nat) (v1 : Int32) (v2 : Int64), xl2 (x_K_greatestWeight_B1 st p1) n v1 v2 = some res → ∀ (ls : Array Slot), lv_has ls 5 [(4, .int v1), (2, .long v2), (0, .ref (a 15)), (1, .int p1)] → W p l e { frames := 4, cells := 0, slots := 0, locals := 92 } s m ([.ref (a 15), .int p1] : List Value).toArray below meth c s.heap [] 0 0 (MQ below (vp_Sl (fun r => r = res)) ([.ref (a 15), .int p1] : List Value).toArray s 0 0 (fun _ => False)) (F0 m 5 ls []) := by
    intro n
    induction n with
    | zero => intro v1 v2 hf; exact absurd hf (by simp [xl2])
    | succ n ih1 =>
      intro v1 v2 hf ls hl
      replace hf : (x_K_greatestWeight_B1 st p1) (xl2 (x_K_greatestWeight_B1 st p1) n) v1 v2 = some res := hf
      generalize xl2 (x_K_greatestWeight_B1 st p1) n = self1 at hf ih1
      unfold x_K_greatestWeight_B1 at hf
      refine lv_iload hx hb d_K_greatestWeight_5 (lv_at hl 0 rfl) ?_
      refine lv_aload_n hx hb d_K_greatestWeight_7 rfl (lv_at hl 2 rfl) ?_
      refine va_get (D := (dC, dI)) (ci := 3) (v := .ref (a 1)) (C := "GuideSearch$Cases") (T := F_K) (N := 2) hx hb hT i_K hown hK hP 15 rfl rfl 0 (by decide) (hT _ k_81) (fun _ h9 => h9) rfl d_K_greatestWeight_8 ?_
      refine va_getN (D := (dC, dI)) (ci := 1) (v := .int (x_cN st)) (C := "GuideSearch$Causes") (T := F_C) (N := 5) hx hb hT i_C hown hK hP 1 rfl rfl 3 (by decide) (va_Nw.use rfl (hN _ k_33)) (fun _ h9 => h9) rfl d_K_greatestWeight_11 ?_
      refine lv_icmp_gt (tgt := 35) hx hb d_K_greatestWeight_14 (by decide) (fun c3 => ?_) (fun c3 => ?_)
      · rw [if_pos c3] at hf
        refine lv_lload_n hx hb d_K_greatestWeight_35 rfl (lv_at hl 1 rfl) ?_
        exact W.lret hx hb hr (fun t ht _ => ⟨_, rfl, Option.some.inj hf, ht⟩) (fun _ h => absurd h List.not_mem_nil) d_K_greatestWeight_36
      · rw [if_neg c3] at hf
        refine lv_lload_n hx hb d_K_greatestWeight_17 rfl (lv_at hl 1 rfl) ?_
        refine lv_aload_n hx hb d_K_greatestWeight_18 rfl (lv_at hl 2 rfl) ?_
        refine lv_iload hx hb d_K_greatestWeight_19 (lv_at hl 0 rfl) ?_
        refine lv_iload_n hx hb d_K_greatestWeight_21 rfl (lv_at hl 3 rfl) ?_
        obtain ⟨r5, hr4, hf⟩ := ob hf
        refine ro_calll (va_runV (C := "GuideSearch$Cases") (As := [.int v1, .int p1]) (rest := [.long v2]) ⟨hx, hb, hml, hown, hT⟩ (c_K_weightOf l dC dI cs a st v1 p1 r5 hr4) (cwV 2 hT (gV k_342 k_258 k_259 k_5 k_260) rfl rfl rfl (by decide +kernel) ⟨Nat.le_of_ble_eq_true rfl, Nat.le_of_ble_eq_true rfl⟩) (ro_preV hP hK hN (va_recv hK hP (ci := 3) (q0 := 15) rfl rfl)) rfl rfl hl.1 rfl (lv_room (Nat.le_of_ble_eq_true rfl)) d_K_greatestWeight_22 ⟨Nat.le_of_ble_eq_true rfl, Nat.le_of_ble_eq_true rfl⟩) ?_
        refine va_mmax_long hx hb (hml.trans hl.1.symm) hown (hT _ k_357) (hT _ k_358) (hT _ k_9) (hT _ k_359) (Nat.le_of_ble_eq_true rfl) (Nat.le_of_ble_eq_true rfl) (Nat.le_of_ble_eq_true rfl) (Nat.le_of_ble_eq_true rfl) d_K_greatestWeight_25 ?_
        refine lv_lstore_n (lv' := [(2, .long (if r5 < v2 then v2 else r5)), (4, .int v1), (0, .ref (a 15)), (1, .int p1)]) hx hb d_K_greatestWeight_28 rfl hl (by decide) rfl (fun ls hl => ?_)
        refine lv_iinc (v := (v1 + 1)) (lv' := [(4, .int (v1 + 1)), (2, .long (if r5 < v2 then v2 else r5)), (0, .ref (a 15)), (1, .int p1)]) hx hb d_K_greatestWeight_29 hl (k := 1) rfl rfl (by decide) rfl (fun ls hl => ?_)
        refine lv_goto (tgt := 5) hx hb d_K_greatestWeight_32 (by decide) ?_
        exact ih1 (v1 + 1) (if r5 < v2 then v2 else r5) hf ls (lv_sub hl [0, 1, 2, 3] rfl)
  exact loop1 _ (1 : Int32) (0 : Int64) hf ls (lv_sub hl [0, 1, 2, 3] rfl)
set_option maxHeartbeats 4000000 in
set_option maxRecDepth 100000 in
theorem c_K_usable (l : Launch) (dC : Nat → ClassId) (dI : Nat → Nat → Nat) (cs : Nat → ClassId) (a : Nat → Nat) (st : XS) (p1 : Int32) (p2 : Int32) (res : Int32) (hf : x_K_usable st p1 p2 = some res) : Met l (⟨"GuideSearch$Cases", "usable", "(II)I"⟩ : MethodName) (Cond.code (⟨"GuideSearch$Cases", "usable", "(II)I"⟩ : MethodName) prog_2_method_6_code 5 (some .int) :: wg) { frames := 3, cells := 0, slots := 0, locals := 65 } (va_Pc ([.ref (a 15), .int p1, .int p2] : List Value) (x_pre dC dI cs a st)) (vp_Si (fun r => r = res)) 0 0 (fun _ => False) := by
  refine ro_start (cc := prog_2_method_6_code) (maxL := 5) (ret := (some .int)) (by decide) (Nat.le_of_ble_eq_true rfl) ?_
  intro p e s m below meth c hx hb hr hml hT hown hlocks hB ls hl
  replace hown : s.vm.findClass "GuideSearch$Cases" = some m.cls := hown
  obtain ⟨hP, hK, hN⟩ := hB
  replace hl : lv_has ls 5 [(0, .ref (a 15)), (1, .int p1), (2, .int p2)] := hl
  unfold x_K_usable at hf
  refine lv_iload_n hx hb d_K_usable_0 rfl (lv_at hl 2 rfl) ?_
  obtain ⟨r2, hr1, hf⟩ := ob hf
  refine ro_calli (va_runS (As := [.int p2]) (rest := []) ⟨hx, hb, hml, hown, hT⟩ (c_JI_bitCount l p2 r2 hr1) (va_cwS 1 hT (gS k_286 k_228 k_8 k_229) rfl rfl rfl (by decide +kernel) ⟨Nat.le_of_ble_eq_true rfl, Nat.le_of_ble_eq_true rfl⟩) ⟨fun _ _ _ _ q => q, fun _ _ _ => ⟨rfl, trivial⟩⟩ rfl rfl hl.1 rfl (lv_room (Nat.le_of_ble_eq_true rfl)) d_K_usable_1 ⟨Nat.le_of_ble_eq_true rfl, Nat.le_of_ble_eq_true rfl⟩) ?_
  refine lv_iconst (v := (2 : Int32)) hx hb d_K_usable_4 (by decide) ?_
  refine lv_icmp_ge (tgt := 10) hx hb d_K_usable_5 (by decide) (fun c3 => ?_) (fun c3 => ?_)
  · rw [if_pos c3] at hf
    refine lv_iconst (v := (0 : Int32)) hx hb d_K_usable_10 (by decide) ?_
    refine lv_istore_n (lv' := [(3, .int (0 : Int32)), (0, .ref (a 15)), (1, .int p1), (2, .int p2)]) hx hb d_K_usable_11 rfl hl (by decide) rfl (fun ls hl => ?_)
    refine lv_iconst (v := (1 : Int32)) hx hb d_K_usable_12 (by decide) ?_
    refine lv_istore (lv' := [(4, .int (1 : Int32)), (3, .int (0 : Int32)), (0, .ref (a 15)), (1, .int p1), (2, .int p2)]) hx hb d_K_usable_13 hl (by decide) rfl (fun ls hl => ?_)
    have loop1 : ∀ (n : Nat) (v4 : Int32) (v5 : Int32), xl2 (x_K_usable_B1 st p1 p2) n v4 v5 = some res → ∀ (ls : Array Slot), lv_has ls 5 [(4, .int v4), (3, .int v5), (0, .ref (a 15)), (1, .int p1), (2, .int p2)] → W p l e { frames := 3, cells := 0, slots := 0, locals := 65 } s m ([.ref (a 15), .int p1, .int p2] : List Value).toArray below meth c s.heap [] 0 0 (MQ below (vp_Si (fun r => r = res)) ([.ref (a 15), .int p1, .int p2] : List Value).toArray s 0 0 (fun _ => False)) (F0 m 15 ls []) := by
      intro n
      induction n with
      | zero => intro v4 v5 hf; exact absurd hf (by simp [xl2])
      | succ n ih1 =>
        intro v4 v5 hf ls hl
        replace hf : (x_K_usable_B1 st p1 p2) (xl2 (x_K_usable_B1 st p1 p2) n) v4 v5 = some res := hf
        generalize xl2 (x_K_usable_B1 st p1 p2) n = self1 at hf ih1
        unfold x_K_usable_B1 at hf
        refine lv_iload hx hb d_K_usable_15 (lv_at hl 0 rfl) ?_
        refine lv_aload_n hx hb d_K_usable_17 rfl (lv_at hl 2 rfl) ?_
        refine va_get (D := (dC, dI)) (ci := 3) (v := .ref (a 5)) (C := "GuideSearch$Cases") (T := F_K) (N := 2) hx hb hT i_K hown hK hP 15 rfl rfl 1 (by decide) (hT _ k_82) (fun _ h9 => h9) rfl d_K_usable_18 ?_
        refine va_getN (D := (dC, dI)) (ci := 2) (v := .int (x_tN st)) (C := "GuideSearch$Tests") (T := F_T) (N := 4) hx hb hT i_T hown hK hP 5 rfl rfl 3 (by decide) (va_Nw.use rfl (hN _ k_64)) (fun _ h9 => h9) rfl d_K_usable_21 ?_
        refine lv_icmp_gt (tgt := 67) hx hb d_K_usable_24 (by decide) (fun c6 => ?_) (fun c6 => ?_)
        · rw [if_pos c6] at hf
          refine lv_iload_n hx hb d_K_usable_67 rfl (lv_at hl 1 rfl) ?_
          exact W.iret hx hb hr (fun t ht _ => ⟨_, rfl, Option.some.inj hf, ht⟩) (fun _ h => absurd h List.not_mem_nil) d_K_usable_68
        · rw [if_neg c6] at hf
          refine lv_aload_n hx hb d_K_usable_27 rfl (lv_at hl 2 rfl) ?_
          refine va_get (D := (dC, dI)) (ci := 3) (v := .ref (a 5)) (C := "GuideSearch$Cases") (T := F_K) (N := 2) hx hb hT i_K hown hK hP 15 rfl rfl 1 (by decide) (hT _ k_82) (fun _ h9 => h9) rfl d_K_usable_28 ?_
          refine lv_iload hx hb d_K_usable_31 (lv_at hl 0 rfl) ?_
          refine lv_iload_n hx hb d_K_usable_33 rfl (lv_at hl 3 rfl) ?_
          obtain ⟨r8, hr7, hf⟩ := ob hf
          refine ro_calli (va_runV (C := "GuideSearch$Tests") (As := [.int v4, .int p1]) (rest := []) ⟨hx, hb, hml, hown, hT⟩ (c_T_isOpen l dC dI cs a st v4 p1 r8 hr7) (cwV 2 hT (gV k_287 k_288 k_289 k_3 k_290) rfl rfl rfl (by decide +kernel) ⟨Nat.le_of_ble_eq_true rfl, Nat.le_of_ble_eq_true rfl⟩) (ro_preV hP hK hN (va_recv hK hP (ci := 2) (q0 := 5) rfl rfl)) rfl rfl hl.1 rfl (lv_room (Nat.le_of_ble_eq_true rfl)) d_K_usable_34 ⟨Nat.le_of_ble_eq_true rfl, Nat.le_of_ble_eq_true rfl⟩) ?_
          refine lv_if_eq (tgt := 61) hx hb d_K_usable_37 (by decide) (fun c9 => ?_) (fun c9 => ?_)
          · rw [if_pos c9] at hf
            refine lv_iinc (v := (v4 + 1)) (lv' := [(4, .int (v4 + 1)), (3, .int v5), (0, .ref (a 15)), (1, .int p1), (2, .int p2)]) hx hb d_K_usable_61 hl (k := 0) rfl rfl (by decide) rfl (fun ls hl => ?_)
            refine lv_goto (tgt := 15) hx hb d_K_usable_64 (by decide) ?_
            exact ih1 (v4 + 1) v5 hf ls (lv_sub hl [0, 1, 2, 3, 4] rfl)
          · rw [if_neg c9] at hf
            refine lv_aload_n hx hb d_K_usable_40 rfl (lv_at hl 2 rfl) ?_
            refine va_get (D := (dC, dI)) (ci := 3) (v := .ref (a 5)) (C := "GuideSearch$Cases") (T := F_K) (N := 2) hx hb hT i_K hown hK hP 15 rfl rfl 1 (by decide) (hT _ k_82) (fun _ h9 => h9) rfl d_K_usable_41 ?_
            refine lv_iload hx hb d_K_usable_44 (lv_at hl 0 rfl) ?_
            refine lv_iload_n hx hb d_K_usable_46 rfl (lv_at hl 4 rfl) ?_
            obtain ⟨r11, hr10, hf⟩ := ob hf
            refine ro_calli (va_runV (C := "GuideSearch$Tests") (As := [.int v4, .int p2]) (rest := []) ⟨hx, hb, hml, hown, hT⟩ (c_T_tellsApart l dC dI cs a st v4 p2 r11 hr10) (cwV 2 hT (gV k_291 k_292 k_293 k_3 k_294) rfl rfl rfl (by decide +kernel) ⟨Nat.le_of_ble_eq_true rfl, Nat.le_of_ble_eq_true rfl⟩) (ro_preV hP hK hN (va_recv hK hP (ci := 2) (q0 := 5) rfl rfl)) rfl rfl hl.1 rfl (lv_room (Nat.le_of_ble_eq_true rfl)) d_K_usable_47 ⟨Nat.le_of_ble_eq_true rfl, Nat.le_of_ble_eq_true rfl⟩) ?_
            refine lv_if_eq (tgt := 61) hx hb d_K_usable_50 (by decide) (fun c12 => ?_) (fun c12 => ?_)
            · rw [if_pos c12] at hf
              refine lv_iinc (v := (v4 + 1)) (lv' := [(4, .int (v4 + 1)), (3, .int v5), (0, .ref (a 15)), (1, .int p1), (2, .int p2)]) hx hb d_K_usable_61 hl (k := 0) rfl rfl (by decide) rfl (fun ls hl => ?_)
              refine lv_goto (tgt := 15) hx hb d_K_usable_64 (by decide) ?_
              exact ih1 (v4 + 1) v5 hf ls (lv_sub hl [0, 1, 2, 3, 4] rfl)
            · rw [if_neg c12] at hf
              refine lv_iload_n hx hb d_K_usable_53 rfl (lv_at hl 1 rfl) ?_
              refine lv_iload hx hb d_K_usable_54 (lv_at hl 0 rfl) ?_
              obtain ⟨r14, hr13, hf⟩ := ob hf
              refine ro_calli (va_runSN (As := [.int v4]) (rest := [.int v5]) ⟨hx, hb, hml, hown, hT⟩ (c_G_bit l v4 r14 hr13) ⟨va_cnB 1 hT (gcode k_221) rfl rfl rfl (hN _ k_295) (hT _ k_1) (by decide +kernel) ⟨Nat.le_of_ble_eq_true rfl, Nat.le_of_ble_eq_true rfl⟩, hT _ k_220, trivial⟩ ⟨fun _ _ _ _ q => q, fun _ _ _ => ⟨rfl, trivial⟩⟩ rfl rfl hl.1 rfl (lv_room (Nat.le_of_ble_eq_true rfl)) d_K_usable_56 ⟨Nat.le_of_ble_eq_true rfl, Nat.le_of_ble_eq_true rfl⟩) ?_
              refine lv_ior hx hb d_K_usable_59 ?_
              refine lv_istore_n (lv' := [(3, .int (v5 ||| r14)), (4, .int v4), (0, .ref (a 15)), (1, .int p1), (2, .int p2)]) hx hb d_K_usable_60 rfl hl (by decide) rfl (fun ls hl => ?_)
              refine lv_iinc (v := (v4 + 1)) (lv' := [(4, .int (v4 + 1)), (3, .int (v5 ||| r14)), (0, .ref (a 15)), (1, .int p1), (2, .int p2)]) hx hb d_K_usable_61 hl (k := 1) rfl rfl (by decide) rfl (fun ls hl => ?_)
              refine lv_goto (tgt := 15) hx hb d_K_usable_64 (by decide) ?_
              exact ih1 (v4 + 1) (v5 ||| r14) hf ls (lv_sub hl [0, 1, 2, 3, 4] rfl)
    exact loop1 _ (1 : Int32) (0 : Int32) hf ls (lv_sub hl [0, 1, 2, 3, 4] rfl)
  · rw [if_neg c3] at hf
    refine lv_iconst (v := (0 : Int32)) hx hb d_K_usable_8 (by decide) ?_
    exact W.iret hx hb hr (fun t ht _ => ⟨_, rfl, Option.some.inj hf, ht⟩) (fun _ h => absurd h List.not_mem_nil) d_K_usable_9
set_option maxHeartbeats 4000000 in
set_option maxRecDepth 100000 in
theorem c_K_firstFree (l : Launch) (dC : Nat → ClassId) (dI : Nat → Nat → Nat) (cs : Nat → ClassId) (a : Nat → Nat) (st : XS) (p1 : Int32) (res : Int32) (hf : x_K_firstFree st p1 = some res) : Met l (⟨"GuideSearch$Cases", "firstFree", "(I)I"⟩ : MethodName) (Cond.code (⟨"GuideSearch$Cases", "firstFree", "(I)I"⟩ : MethodName) prog_2_method_7_code 3 (some .int) :: wg) { frames := 2, cells := 0, slots := 0, locals := 42 } (va_Pc ([.ref (a 15), .int p1] : List Value) (x_pre dC dI cs a st)) (vp_Si (fun r => r = res)) 0 0 (fun _ => False) := by
  refine ro_start (cc := prog_2_method_7_code) (maxL := 3) (ret := (some .int)) (by decide) (Nat.le_of_ble_eq_true rfl) ?_
  intro p e s m below meth c hx hb hr hml hT hown hlocks hB ls hl
  replace hown : s.vm.findClass "GuideSearch$Cases" = some m.cls := hown
  obtain ⟨hP, hK, hN⟩ := hB
  replace hl : lv_has ls 3 [(0, .ref (a 15)), (1, .int p1)] := hl
  unfold x_K_firstFree at hf
  refine lv_iconst (v := (1 : Int32)) hx hb d_K_firstFree_0 (by decide) ?_
  refine lv_istore_n (lv' := [(2, .int (1 : Int32)), (0, .ref (a 15)), (1, .int p1)]) hx hb d_K_firstFree_1 rfl hl (by decide) rfl (fun ls hl => ?_)
  have loop1 : ∀ (n : Nat) (v1 : Int32), xl1 (x_K_firstFree_B1 st p1) n v1 = some res → ∀ (ls : Array Slot), lv_has ls 3 [(2, .int v1), (0, .ref (a 15)), (1, .int p1)] → W p l e { frames := 2, cells := 0, slots := 0, locals := 42 } s m ([.ref (a 15), .int p1] : List Value).toArray below meth c s.heap [] 0 0 (MQ below (vp_Si (fun r => r = res)) ([.ref (a 15), .int p1] : List Value).toArray s 0 0 (fun _ => False)) (F0 m 2 ls []) := by
    intro n
    induction n with
    | zero => intro v1 hf; exact absurd hf (by simp [xl1])
    | succ n ih1 =>
      intro v1 hf ls hl
      replace hf : (x_K_firstFree_B1 st p1) (xl1 (x_K_firstFree_B1 st p1) n) v1 = some res := hf
      generalize xl1 (x_K_firstFree_B1 st p1) n = self1 at hf ih1
      unfold x_K_firstFree_B1 at hf
      refine lv_iload_n hx hb d_K_firstFree_2 rfl (lv_at hl 0 rfl) ?_
      refine lv_aload_n hx hb d_K_firstFree_3 rfl (lv_at hl 1 rfl) ?_
      refine va_get (D := (dC, dI)) (ci := 3) (v := .ref (a 5)) (C := "GuideSearch$Cases") (T := F_K) (N := 2) hx hb hT i_K hown hK hP 15 rfl rfl 1 (by decide) (hT _ k_82) (fun _ h9 => h9) rfl d_K_firstFree_4 ?_
      refine va_getN (D := (dC, dI)) (ci := 2) (v := .int (x_tN st)) (C := "GuideSearch$Tests") (T := F_T) (N := 4) hx hb hT i_T hown hK hP 5 rfl rfl 3 (by decide) (va_Nw.use rfl (hN _ k_64)) (fun _ h9 => h9) rfl d_K_firstFree_7 ?_
      refine lv_icmp_gt (tgt := 40) hx hb d_K_firstFree_10 (by decide) (fun c2 => ?_) (fun c2 => ?_)
      · rw [if_pos c2] at hf
        refine lv_iconst (v := (0 : Int32)) hx hb d_K_firstFree_40 (by decide) ?_
        exact W.iret hx hb hr (fun t ht _ => ⟨_, rfl, Option.some.inj hf, ht⟩) (fun _ h => absurd h List.not_mem_nil) d_K_firstFree_41
      · rw [if_neg c2] at hf
        refine lv_iload_n hx hb d_K_firstFree_13 rfl (lv_at hl 2 rfl) ?_
        refine lv_iload_n hx hb d_K_firstFree_14 rfl (lv_at hl 0 rfl) ?_
        obtain ⟨r4, hr3, hf⟩ := ob hf
        refine ro_calli (va_runSN (As := [.int p1, .int v1]) (rest := []) ⟨hx, hb, hml, hown, hT⟩ (c_G_holds l p1 v1 r4 hr3) ⟨va_cnB 2 hT (gcode k_218) rfl rfl rfl (hN _ k_300) (hT _ k_1) (by decide +kernel) ⟨Nat.le_of_ble_eq_true rfl, Nat.le_of_ble_eq_true rfl⟩, hT _ k_217, trivial⟩ ⟨fun _ _ _ _ q => q, fun _ _ _ => ⟨rfl, trivial⟩⟩ rfl rfl hl.1 rfl (lv_room (Nat.le_of_ble_eq_true rfl)) d_K_firstFree_15 ⟨Nat.le_of_ble_eq_true rfl, Nat.le_of_ble_eq_true rfl⟩) ?_
        refine lv_if_eq (tgt := 34) hx hb d_K_firstFree_18 (by decide) (fun c5 => ?_) (fun c5 => ?_)
        · rw [if_pos c5] at hf
          refine lv_iinc (v := (v1 + 1)) (lv' := [(2, .int (v1 + 1)), (0, .ref (a 15)), (1, .int p1)]) hx hb d_K_firstFree_34 hl (k := 0) rfl rfl (by decide) rfl (fun ls hl => ?_)
          refine lv_goto (tgt := 2) hx hb d_K_firstFree_37 (by decide) ?_
          exact ih1 (v1 + 1) hf ls (lv_sub hl [0, 1, 2] rfl)
        · rw [if_neg c5] at hf
          refine lv_aload_n hx hb d_K_firstFree_21 rfl (lv_at hl 1 rfl) ?_
          refine va_get (D := (dC, dI)) (ci := 3) (v := .ref (a 5)) (C := "GuideSearch$Cases") (T := F_K) (N := 2) hx hb hT i_K hown hK hP 15 rfl rfl 1 (by decide) (hT _ k_82) (fun _ h9 => h9) rfl d_K_firstFree_22 ?_
          refine lv_iload_n hx hb d_K_firstFree_25 rfl (lv_at hl 0 rfl) ?_
          obtain ⟨r7, hr6, hf⟩ := ob hf
          refine ro_calli (va_runV (C := "GuideSearch$Tests") (As := [.int v1]) (rest := []) ⟨hx, hb, hml, hown, hT⟩ (c_T_price l dC dI cs a st v1 r7 hr6) (cwV 1 hT (gV k_301 k_302 k_303 k_3 k_304) rfl rfl rfl (by decide +kernel) ⟨Nat.le_of_ble_eq_true rfl, Nat.le_of_ble_eq_true rfl⟩) (ro_preV hP hK hN (va_recv hK hP (ci := 2) (q0 := 5) rfl rfl)) rfl rfl hl.1 rfl (lv_room (Nat.le_of_ble_eq_true rfl)) d_K_firstFree_26 ⟨Nat.le_of_ble_eq_true rfl, Nat.le_of_ble_eq_true rfl⟩) ?_
          refine lv_if_ne (tgt := 34) hx hb d_K_firstFree_29 (by decide) (fun c8 => ?_) (fun c8 => ?_)
          · rw [if_neg c8] at hf
            refine lv_iinc (v := (v1 + 1)) (lv' := [(2, .int (v1 + 1)), (0, .ref (a 15)), (1, .int p1)]) hx hb d_K_firstFree_34 hl (k := 0) rfl rfl (by decide) rfl (fun ls hl => ?_)
            refine lv_goto (tgt := 2) hx hb d_K_firstFree_37 (by decide) ?_
            exact ih1 (v1 + 1) hf ls (lv_sub hl [0, 1, 2] rfl)
          · rw [if_pos c8] at hf
            refine lv_iload_n hx hb d_K_firstFree_32 rfl (lv_at hl 0 rfl) ?_
            exact W.iret hx hb hr (fun t ht _ => ⟨_, rfl, Option.some.inj hf, ht⟩) (fun _ h => absurd h List.not_mem_nil) d_K_firstFree_33
  exact loop1 _ (1 : Int32) hf ls (lv_sub hl [0, 1, 2] rfl)
set_option maxHeartbeats 4000000 in
set_option maxRecDepth 100000 in
theorem c_K_gain (l : Launch) (dC : Nat → ClassId) (dI : Nat → Nat → Nat) (cs : Nat → ClassId) (a : Nat → Nat) (st : XS) (p1 : Int32) (p2 : Int32) (res : Int64) (hf : x_K_gain st p1 p2 = some res) : Met l (⟨"GuideSearch$Cases", "gain", "(II)J"⟩ : MethodName) (Cond.code (⟨"GuideSearch$Cases", "gain", "(II)J"⟩ : MethodName) prog_2_method_10_code 6 (some .long) :: wg) { frames := 5, cells := 0, slots := 0, locals := 116 } (va_Pc ([.ref (a 15), .int p1, .int p2] : List Value) (x_pre dC dI cs a st)) (vp_Sl (fun r => r = res)) 0 0 (fun _ => False) := by
  refine ro_start (cc := prog_2_method_10_code) (maxL := 6) (ret := (some .long)) (by decide) (Nat.le_of_ble_eq_true rfl) ?_
  intro p e s m below meth c hx hb hr hml hT hown hlocks hB ls hl
  replace hown : s.vm.findClass "GuideSearch$Cases" = some m.cls := hown
  obtain ⟨hP, hK, hN⟩ := hB
  replace hl : lv_has ls 6 [(0, .ref (a 15)), (1, .int p1), (2, .int p2)] := hl
  unfold x_K_gain at hf
  refine lv_aload_n hx hb d_K_gain_0 rfl (lv_at hl 0 rfl) ?_
  refine lv_iload_n hx hb d_K_gain_1 rfl (lv_at hl 1 rfl) ?_
  obtain ⟨r2, hr1, hf⟩ := ob hf
  refine ro_calll (va_runV (C := "GuideSearch$Cases") (As := [.int p1]) (rest := []) ⟨hx, hb, hml, hown, hT⟩ (c_K_greatestWeight l dC dI cs a st p1 r2 hr1) (cwV 1 hT (gV k_353 k_355 ks_10 k_5 k_356) rfl rfl rfl (by decide +kernel) ⟨Nat.le_of_ble_eq_true rfl, Nat.le_of_ble_eq_true rfl⟩) (ro_preV hP hK hN (va_recv hK hP (ci := 3) (q0 := 15) rfl rfl)) rfl rfl hl.1 rfl (lv_room (Nat.le_of_ble_eq_true rfl)) d_K_gain_2 ⟨Nat.le_of_ble_eq_true rfl, Nat.le_of_ble_eq_true rfl⟩) ?_
  refine lv_lneg hx hb d_K_gain_5 ?_
  refine lv_lstore_n (lv' := [(3, .long (-r2)), (0, .ref (a 15)), (1, .int p1), (2, .int p2)]) hx hb d_K_gain_6 rfl hl (by decide) rfl (fun ls hl => ?_)
  refine lv_iconst (v := (0 : Int32)) hx hb d_K_gain_7 (by decide) ?_
  refine lv_istore (lv' := [(5, .int (0 : Int32)), (3, .long (-r2)), (0, .ref (a 15)), (1, .int p1), (2, .int p2)]) hx hb d_K_gain_8 hl (by decide) rfl (fun ls hl => ?_)
  have loop1 : ∀ (n : Nat) (v3 : Int32) (v4 : Int64), xl2 (x_K_gain_B1 st p1 p2) n v3 v4 = some res → ∀ (ls : Array Slot), lv_has ls 6 [(5, .int v3), (3, .long v4), (0, .ref (a 15)), (1, .int p1), (2, .int p2)] → W p l e { frames := 5, cells := 0, slots := 0, locals := 116 } s m ([.ref (a 15), .int p1, .int p2] : List Value).toArray below meth c s.heap [] 0 0 (MQ below (vp_Sl (fun r => r = res)) ([.ref (a 15), .int p1, .int p2] : List Value).toArray s 0 0 (fun _ => False)) (F0 m 10 ls []) := by
    intro n
    induction n with
    | zero => intro v3 v4 hf; exact absurd hf (by simp [xl2])
    | succ n ih1 =>
      intro v3 v4 hf ls hl
      replace hf : (x_K_gain_B1 st p1 p2) (xl2 (x_K_gain_B1 st p1 p2) n) v3 v4 = some res := hf
      generalize xl2 (x_K_gain_B1 st p1 p2) n = self1 at hf ih1
      unfold x_K_gain_B1 at hf
      refine lv_iload hx hb d_K_gain_10 (lv_at hl 0 rfl) ?_
      refine lv_iconst (v := (3 : Int32)) hx hb d_K_gain_12 (by decide) ?_
      refine lv_icmp_ge (tgt := 36) hx hb d_K_gain_13 (by decide) (fun c5 => ?_) (fun c5 => ?_)
      · rw [if_pos c5] at hf
        refine lv_lload_n hx hb d_K_gain_36 rfl (lv_at hl 1 rfl) ?_
        exact W.lret hx hb hr (fun t ht _ => ⟨_, rfl, Option.some.inj hf, ht⟩) (fun _ h => absurd h List.not_mem_nil) d_K_gain_37
      · rw [if_neg c5] at hf
        refine lv_lload_n hx hb d_K_gain_16 rfl (lv_at hl 1 rfl) ?_
        refine lv_aload_n hx hb d_K_gain_17 rfl (lv_at hl 2 rfl) ?_
        refine lv_iload_n hx hb d_K_gain_18 rfl (lv_at hl 3 rfl) ?_
        refine lv_iload_n hx hb d_K_gain_19 rfl (lv_at hl 4 rfl) ?_
        refine lv_iload hx hb d_K_gain_20 (lv_at hl 0 rfl) ?_
        obtain ⟨r7, hr6, hf⟩ := ob hf
        refine ro_calli (va_runSN (As := [.int p1, .int p2, .int v3]) (rest := [.ref (a 15), .long v4]) ⟨hx, hb, hml, hown, hT⟩ (c_G_withAnswer l p1 p2 v3 r7 hr6) ⟨va_cnB 3 hT (gcode k_321) rfl rfl rfl (hN _ k_360) (hT _ k_1) (by decide +kernel) ⟨Nat.le_of_ble_eq_true rfl, Nat.le_of_ble_eq_true rfl⟩, hT _ k_320, trivial⟩ ⟨fun _ _ _ _ q => q, fun _ _ _ => ⟨rfl, trivial⟩⟩ rfl rfl hl.1 rfl (lv_room (Nat.le_of_ble_eq_true rfl)) d_K_gain_22 ⟨Nat.le_of_ble_eq_true rfl, Nat.le_of_ble_eq_true rfl⟩) ?_
        obtain ⟨r9, hr8, hf⟩ := ob hf
        refine ro_calll (va_runV (C := "GuideSearch$Cases") (As := [.int r7]) (rest := [.long v4]) ⟨hx, hb, hml, hown, hT⟩ (c_K_greatestWeight l dC dI cs a st r7 r9 hr8) (cwV 1 hT (gV k_353 k_355 ks_10 k_5 k_356) rfl rfl rfl (by decide +kernel) ⟨Nat.le_of_ble_eq_true rfl, Nat.le_of_ble_eq_true rfl⟩) (ro_preV hP hK hN (va_recv hK hP (ci := 3) (q0 := 15) rfl rfl)) rfl rfl hl.1 rfl (lv_room (Nat.le_of_ble_eq_true rfl)) d_K_gain_25 ⟨Nat.le_of_ble_eq_true rfl, Nat.le_of_ble_eq_true rfl⟩) ?_
        refine lv_ladd hx hb d_K_gain_28 ?_
        refine lv_lstore_n (lv' := [(3, .long (v4 + r9)), (5, .int v3), (0, .ref (a 15)), (1, .int p1), (2, .int p2)]) hx hb d_K_gain_29 rfl hl (by decide) rfl (fun ls hl => ?_)
        refine lv_iinc (v := (v3 + 1)) (lv' := [(5, .int (v3 + 1)), (3, .long (v4 + r9)), (0, .ref (a 15)), (1, .int p1), (2, .int p2)]) hx hb d_K_gain_30 hl (k := 1) rfl rfl (by decide) rfl (fun ls hl => ?_)
        refine lv_goto (tgt := 10) hx hb d_K_gain_33 (by decide) ?_
        exact ih1 (v3 + 1) (v4 + r9) hf ls (lv_sub hl [0, 1, 2, 3, 4] rfl)
  exact loop1 _ (0 : Int32) (-r2) hf ls (lv_sub hl [0, 1, 2, 3, 4] rfl)
set_option maxHeartbeats 4000000 in
set_option maxRecDepth 100000 in
theorem c_K_bestGain (l : Launch) (dC : Nat → ClassId) (dI : Nat → Nat → Nat) (cs : Nat → ClassId) (a : Nat → Nat) (st : XS) (p1 : Int32) (p2 : Int32) (res : Int32) (hf : x_K_bestGain st p1 p2 = some res) : Met l (⟨"GuideSearch$Cases", "bestGain", "(II)I"⟩ : MethodName) (Cond.code (⟨"GuideSearch$Cases", "bestGain", "(II)I"⟩ : MethodName) prog_2_method_9_code 9 (some .int) :: wg) { frames := 6, cells := 0, slots := 0, locals := 141 } (va_Pc ([.ref (a 15), .int p1, .int p2] : List Value) (x_pre dC dI cs a st)) (vp_Si (fun r => r = res)) 0 0 (fun _ => False) := by
  refine ro_start (cc := prog_2_method_9_code) (maxL := 9) (ret := (some .int)) (by decide) (Nat.le_of_ble_eq_true rfl) ?_
  intro p e s m below meth c hx hb hr hml hT hown hlocks hB ls hl
  replace hown : s.vm.findClass "GuideSearch$Cases" = some m.cls := hown
  obtain ⟨hP, hK, hN⟩ := hB
  replace hl : lv_has ls 9 [(0, .ref (a 15)), (1, .int p1), (2, .int p2)] := hl
  unfold x_K_bestGain at hf
  refine lv_iconst (v := (0 : Int32)) hx hb d_K_bestGain_0 (by decide) ?_
  refine lv_istore_n (lv' := [(3, .int (0 : Int32)), (0, .ref (a 15)), (1, .int p1), (2, .int p2)]) hx hb d_K_bestGain_1 rfl hl (by decide) rfl (fun ls hl => ?_)
  refine lv_lconst (v := (0 : Int64)) hx hb d_K_bestGain_2 (by decide) ?_
  refine lv_lstore (lv' := [(4, .long (0 : Int64)), (3, .int (0 : Int32)), (0, .ref (a 15)), (1, .int p1), (2, .int p2)]) hx hb d_K_bestGain_3 hl (by decide) rfl (fun ls hl => ?_)
  refine lv_iconst (v := (1 : Int32)) hx hb d_K_bestGain_5 (by decide) ?_
  refine lv_istore (lv' := [(6, .int (1 : Int32)), (4, .long (0 : Int64)), (3, .int (0 : Int32)), (0, .ref (a 15)), (1, .int p1), (2, .int p2)]) hx hb d_K_bestGain_6 hl (by decide) rfl (fun ls hl => ?_)
  have loop1 : ∀ (n : Nat) (v1 : Int32) (v2 : Int64) (v3 : Int32), xl3 (x_K_bestGain_B1 st p1 p2) n v1 v2 v3 = some res → ∀ (ls : Array Slot), lv_has ls 9 [(6, .int v1), (4, .long v2), (3, .int v3), (0, .ref (a 15)), (1, .int p1), (2, .int p2)] → W p l e { frames := 6, cells := 0, slots := 0, locals := 141 } s m ([.ref (a 15), .int p1, .int p2] : List Value).toArray below meth c s.heap [] 0 0 (MQ below (vp_Si (fun r => r = res)) ([.ref (a 15), .int p1, .int p2] : List Value).toArray s 0 0 (fun _ => False)) (F0 m 8 ls []) := by
    intro n
    induction n with
    | zero => intro v1 v2 v3 hf; exact absurd hf (by simp [xl3])
    | succ n ih1 =>
      intro v1 v2 v3 hf ls hl
      replace hf : (x_K_bestGain_B1 st p1 p2) (xl3 (x_K_bestGain_B1 st p1 p2) n) v1 v2 v3 = some res := hf
      generalize xl3 (x_K_bestGain_B1 st p1 p2) n = self1 at hf ih1
      unfold x_K_bestGain_B1 at hf
      refine lv_iload hx hb d_K_bestGain_8 (lv_at hl 0 rfl) ?_
      refine lv_aload_n hx hb d_K_bestGain_10 rfl (lv_at hl 3 rfl) ?_
      refine va_get (D := (dC, dI)) (ci := 3) (v := .ref (a 5)) (C := "GuideSearch$Cases") (T := F_K) (N := 2) hx hb hT i_K hown hK hP 15 rfl rfl 1 (by decide) (hT _ k_82) (fun _ h9 => h9) rfl d_K_bestGain_11 ?_
      refine va_getN (D := (dC, dI)) (ci := 2) (v := .int (x_tN st)) (C := "GuideSearch$Tests") (T := F_T) (N := 4) hx hb hT i_T hown hK hP 5 rfl rfl 3 (by decide) (va_Nw.use rfl (hN _ k_64)) (fun _ h9 => h9) rfl d_K_bestGain_14 ?_
      refine lv_icmp_gt (tgt := 87) hx hb d_K_bestGain_17 (by decide) (fun c4 => ?_) (fun c4 => ?_)
      · rw [if_pos c4] at hf
        refine lv_iload_n hx hb d_K_bestGain_87 rfl (lv_at hl 2 rfl) ?_
        exact W.iret hx hb hr (fun t ht _ => ⟨_, rfl, Option.some.inj hf, ht⟩) (fun _ h => absurd h List.not_mem_nil) d_K_bestGain_88
      · rw [if_neg c4] at hf
        refine lv_iload_n hx hb d_K_bestGain_20 rfl (lv_at hl 5 rfl) ?_
        refine lv_iload hx hb d_K_bestGain_21 (lv_at hl 0 rfl) ?_
        obtain ⟨r6, hr5, hf⟩ := ob hf
        refine ro_calli (va_runSN (As := [.int p2, .int v1]) (rest := []) ⟨hx, hb, hml, hown, hT⟩ (c_G_holds l p2 v1 r6 hr5) ⟨va_cnB 2 hT (gcode k_218) rfl rfl rfl (hN _ k_300) (hT _ k_1) (by decide +kernel) ⟨Nat.le_of_ble_eq_true rfl, Nat.le_of_ble_eq_true rfl⟩, hT _ k_217, trivial⟩ ⟨fun _ _ _ _ q => q, fun _ _ _ => ⟨rfl, trivial⟩⟩ rfl rfl hl.1 rfl (lv_room (Nat.le_of_ble_eq_true rfl)) d_K_bestGain_23 ⟨Nat.le_of_ble_eq_true rfl, Nat.le_of_ble_eq_true rfl⟩) ?_
        refine lv_if_ne (tgt := 32) hx hb d_K_bestGain_26 (by decide) (fun c7 => ?_) (fun c7 => ?_)
        · rw [if_neg c7] at hf
          refine lv_aload_n hx hb d_K_bestGain_32 rfl (lv_at hl 3 rfl) ?_
          refine lv_iload_n hx hb d_K_bestGain_33 rfl (lv_at hl 4 rfl) ?_
          refine lv_iload hx hb d_K_bestGain_34 (lv_at hl 0 rfl) ?_
          obtain ⟨r9, hr8, hf⟩ := ob hf
          refine ro_calll (va_runV (C := "GuideSearch$Cases") (As := [.int p1, .int v1]) (rest := []) ⟨hx, hb, hml, hown, hT⟩ (c_K_gain l dC dI cs a st p1 v1 r9 hr8) (cwV 2 hT (gV k_349 k_351 ks_9 k_5 k_352) rfl rfl rfl (by decide +kernel) ⟨Nat.le_of_ble_eq_true rfl, Nat.le_of_ble_eq_true rfl⟩) (ro_preV hP hK hN (va_recv hK hP (ci := 3) (q0 := 15) rfl rfl)) rfl rfl hl.1 rfl (lv_room (Nat.le_of_ble_eq_true rfl)) d_K_bestGain_36 ⟨Nat.le_of_ble_eq_true rfl, Nat.le_of_ble_eq_true rfl⟩) ?_
          refine lv_lstore (lv' := [(7, .long r9), (6, .int v1), (4, .long v2), (3, .int v3), (0, .ref (a 15)), (1, .int p1), (2, .int p2)]) hx hb d_K_bestGain_39 hl (by decide) rfl (fun ls hl => ?_)
          refine lv_iload_n hx hb d_K_bestGain_41 rfl (lv_at hl 3 rfl) ?_
          refine lv_if_eq (tgt := 74) hx hb d_K_bestGain_42 (by decide) (fun c10 => ?_) (fun c10 => ?_)
          · rw [if_pos c10] at hf
            refine lv_iload hx hb d_K_bestGain_74 (lv_at hl 1 rfl) ?_
            refine lv_istore_n (lv' := [(3, .int v1), (7, .long r9), (6, .int v1), (4, .long v2), (0, .ref (a 15)), (1, .int p1), (2, .int p2)]) hx hb d_K_bestGain_76 rfl hl (by decide) rfl (fun ls hl => ?_)
            refine lv_lload hx hb d_K_bestGain_77 (lv_at hl 1 rfl) ?_
            refine lv_lstore (lv' := [(4, .long r9), (3, .int v1), (7, .long r9), (6, .int v1), (0, .ref (a 15)), (1, .int p1), (2, .int p2)]) hx hb d_K_bestGain_79 hl (by decide) rfl (fun ls hl => ?_)
            refine lv_iinc (v := (v1 + 1)) (lv' := [(6, .int (v1 + 1)), (4, .long r9), (3, .int v1), (7, .long r9), (0, .ref (a 15)), (1, .int p1), (2, .int p2)]) hx hb d_K_bestGain_81 hl (k := 3) rfl rfl (by decide) rfl (fun ls hl => ?_)
            refine lv_goto (tgt := 8) hx hb d_K_bestGain_84 (by decide) ?_
            exact ih1 (v1 + 1) r9 v1 hf ls (lv_sub hl [0, 1, 2, 4, 5, 6] rfl)
          · rw [if_neg c10] at hf
            refine lv_lload hx hb d_K_bestGain_45 (lv_at hl 0 rfl) ?_
            refine lv_aload_n hx hb d_K_bestGain_47 rfl (lv_at hl 4 rfl) ?_
            refine va_get (D := (dC, dI)) (ci := 3) (v := .ref (a 5)) (C := "GuideSearch$Cases") (T := F_K) (N := 2) hx hb hT i_K hown hK hP 15 rfl rfl 1 (by decide) (hT _ k_82) (fun _ h9 => h9) rfl d_K_bestGain_48 ?_
            refine lv_iload_n hx hb d_K_bestGain_51 rfl (lv_at hl 3 rfl) ?_
            obtain ⟨r12, hr11, hf⟩ := ob hf
            refine ro_calli (va_runV (C := "GuideSearch$Tests") (As := [.int v3]) (rest := [.long r9]) ⟨hx, hb, hml, hown, hT⟩ (c_T_price l dC dI cs a st v3 r12 hr11) (cwV 1 hT (gV k_301 k_302 k_303 k_3 k_304) rfl rfl rfl (by decide +kernel) ⟨Nat.le_of_ble_eq_true rfl, Nat.le_of_ble_eq_true rfl⟩) (ro_preV hP hK hN (va_recv hK hP (ci := 2) (q0 := 5) rfl rfl)) rfl rfl hl.1 rfl (lv_room (Nat.le_of_ble_eq_true rfl)) d_K_bestGain_52 ⟨Nat.le_of_ble_eq_true rfl, Nat.le_of_ble_eq_true rfl⟩) ?_
            refine lv_i2l (v := r12.toInt64) hx hb d_K_bestGain_55 rfl ?_
            refine lv_lmul hx hb d_K_bestGain_56 ?_
            refine lv_lload hx hb d_K_bestGain_57 (lv_at hl 2 rfl) ?_
            refine lv_aload_n hx hb d_K_bestGain_59 rfl (lv_at hl 4 rfl) ?_
            refine va_get (D := (dC, dI)) (ci := 3) (v := .ref (a 5)) (C := "GuideSearch$Cases") (T := F_K) (N := 2) hx hb hT i_K hown hK hP 15 rfl rfl 1 (by decide) (hT _ k_82) (fun _ h9 => h9) rfl d_K_bestGain_60 ?_
            refine lv_iload hx hb d_K_bestGain_63 (lv_at hl 1 rfl) ?_
            obtain ⟨r14, hr13, hf⟩ := ob hf
            refine ro_calli (va_runV (C := "GuideSearch$Tests") (As := [.int v1]) (rest := [.long v2, .long (r9 * r12.toInt64)]) ⟨hx, hb, hml, hown, hT⟩ (c_T_price l dC dI cs a st v1 r14 hr13) (cwV 1 hT (gV k_301 k_302 k_303 k_3 k_304) rfl rfl rfl (by decide +kernel) ⟨Nat.le_of_ble_eq_true rfl, Nat.le_of_ble_eq_true rfl⟩) (ro_preV hP hK hN (va_recv hK hP (ci := 2) (q0 := 5) rfl rfl)) rfl rfl hl.1 rfl (lv_room (Nat.le_of_ble_eq_true rfl)) d_K_bestGain_65 ⟨Nat.le_of_ble_eq_true rfl, Nat.le_of_ble_eq_true rfl⟩) ?_
            refine lv_i2l (v := r14.toInt64) hx hb d_K_bestGain_68 rfl ?_
            refine lv_lmul hx hb d_K_bestGain_69 ?_
            refine W.lcmp hx hb d_K_bestGain_70 ?_
            refine lv_if_le (tgt := 81) hx hb d_K_bestGain_71 (by decide) (fun c15 => ?_) (fun c15 => ?_)
            · rw [if_pos ((lg_cmp_le _ _).mp c15)] at hf
              refine lv_iinc (v := (v1 + 1)) (lv' := [(6, .int (v1 + 1)), (7, .long r9), (4, .long v2), (3, .int v3), (0, .ref (a 15)), (1, .int p1), (2, .int p2)]) hx hb d_K_bestGain_81 hl (k := 1) rfl rfl (by decide) rfl (fun ls hl => ?_)
              refine lv_goto (tgt := 8) hx hb d_K_bestGain_84 (by decide) ?_
              exact ih1 (v1 + 1) v2 v3 hf ls (lv_sub hl [0, 2, 3, 4, 5, 6] rfl)
            · rw [if_neg (mt (lg_cmp_le _ _).mpr c15)] at hf
              refine lv_iload hx hb d_K_bestGain_74 (lv_at hl 1 rfl) ?_
              refine lv_istore_n (lv' := [(3, .int v1), (7, .long r9), (6, .int v1), (4, .long v2), (0, .ref (a 15)), (1, .int p1), (2, .int p2)]) hx hb d_K_bestGain_76 rfl hl (by decide) rfl (fun ls hl => ?_)
              refine lv_lload hx hb d_K_bestGain_77 (lv_at hl 1 rfl) ?_
              refine lv_lstore (lv' := [(4, .long r9), (3, .int v1), (7, .long r9), (6, .int v1), (0, .ref (a 15)), (1, .int p1), (2, .int p2)]) hx hb d_K_bestGain_79 hl (by decide) rfl (fun ls hl => ?_)
              refine lv_iinc (v := (v1 + 1)) (lv' := [(6, .int (v1 + 1)), (4, .long r9), (3, .int v1), (7, .long r9), (0, .ref (a 15)), (1, .int p1), (2, .int p2)]) hx hb d_K_bestGain_81 hl (k := 3) rfl rfl (by decide) rfl (fun ls hl => ?_)
              refine lv_goto (tgt := 8) hx hb d_K_bestGain_84 (by decide) ?_
              exact ih1 (v1 + 1) r9 v1 hf ls (lv_sub hl [0, 1, 2, 4, 5, 6] rfl)
        · rw [if_pos c7] at hf
          refine lv_goto (tgt := 81) hx hb d_K_bestGain_29 (by decide) ?_
          refine lv_iinc (v := (v1 + 1)) (lv' := [(6, .int (v1 + 1)), (4, .long v2), (3, .int v3), (0, .ref (a 15)), (1, .int p1), (2, .int p2)]) hx hb d_K_bestGain_81 hl (k := 0) rfl rfl (by decide) rfl (fun ls hl => ?_)
          refine lv_goto (tgt := 8) hx hb d_K_bestGain_84 (by decide) ?_
          exact ih1 (v1 + 1) v2 v3 hf ls (lv_sub hl [0, 1, 2, 3, 4, 5] rfl)
  exact loop1 _ (1 : Int32) (0 : Int64) (0 : Int32) hf ls (lv_sub hl [0, 1, 2, 3, 4, 5] rfl)
set_option maxHeartbeats 4000000 in
set_option maxRecDepth 100000 in
theorem c_K_oneStep (l : Launch) (dC : Nat → ClassId) (dI : Nat → Nat → Nat) (cs : Nat → ClassId) (a : Nat → Nat) (st : XS) (p1 : Int32) (res : Int32) (hf : x_K_oneStep st p1 = some res) : Met l (⟨"GuideSearch$Cases", "oneStep", "(I)I"⟩ : MethodName) (Cond.code (⟨"GuideSearch$Cases", "oneStep", "(I)I"⟩ : MethodName) prog_2_method_8_code 4 (some .int) :: wg) { frames := 7, cells := 0, slots := 0, locals := 169 } (va_Pc ([.ref (a 15), .int p1] : List Value) (x_pre dC dI cs a st)) (vp_Si (fun r => r = res)) 0 0 (fun _ => False) := by
  refine ro_start (cc := prog_2_method_8_code) (maxL := 4) (ret := (some .int)) (by decide) (Nat.le_of_ble_eq_true rfl) ?_
  intro p e s m below meth c hx hb hr hml hT hown hlocks hB ls hl
  replace hown : s.vm.findClass "GuideSearch$Cases" = some m.cls := hown
  obtain ⟨hP, hK, hN⟩ := hB
  replace hl : lv_has ls 4 [(0, .ref (a 15)), (1, .int p1)] := hl
  unfold x_K_oneStep at hf
  refine lv_aload_n hx hb d_K_oneStep_0 rfl (lv_at hl 0 rfl) ?_
  refine lv_iload_n hx hb d_K_oneStep_1 rfl (lv_at hl 1 rfl) ?_
  refine lv_aload_n hx hb d_K_oneStep_2 rfl (lv_at hl 0 rfl) ?_
  refine lv_iload_n hx hb d_K_oneStep_3 rfl (lv_at hl 1 rfl) ?_
  obtain ⟨r2, hr1, hf⟩ := ob hf
  refine ro_calli (va_runV (C := "GuideSearch$Cases") (As := [.int p1]) (rest := [.int p1, .ref (a 15)]) ⟨hx, hb, hml, hown, hT⟩ (c_K_left l dC dI cs a st p1 r2 hr1) (cwV 1 hT (gV k_338 k_339 k_340 k_5 k_341) rfl rfl rfl (by decide +kernel) ⟨Nat.le_of_ble_eq_true rfl, Nat.le_of_ble_eq_true rfl⟩) (ro_preV hP hK hN (va_recv hK hP (ci := 3) (q0 := 15) rfl rfl)) rfl rfl hl.1 rfl (lv_room (Nat.le_of_ble_eq_true rfl)) d_K_oneStep_4 ⟨Nat.le_of_ble_eq_true rfl, Nat.le_of_ble_eq_true rfl⟩) ?_
  obtain ⟨r4, hr3, hf⟩ := ob hf
  refine ro_calli (va_runV (C := "GuideSearch$Cases") (As := [.int p1, .int r2]) (rest := []) ⟨hx, hb, hml, hown, hT⟩ (c_K_usable l dC dI cs a st p1 r2 r4 hr3) (cwV 2 hT (gV k_343 k_283 k_284 k_5 k_285) rfl rfl rfl (by decide +kernel) ⟨Nat.le_of_ble_eq_true rfl, Nat.le_of_ble_eq_true rfl⟩) (ro_preV hP hK hN (va_recv hK hP (ci := 3) (q0 := 15) rfl rfl)) rfl rfl hl.1 rfl (lv_room (Nat.le_of_ble_eq_true rfl)) d_K_oneStep_7 ⟨Nat.le_of_ble_eq_true rfl, Nat.le_of_ble_eq_true rfl⟩) ?_
  refine lv_istore_n (lv' := [(2, .int r4), (0, .ref (a 15)), (1, .int p1)]) hx hb d_K_oneStep_10 rfl hl (by decide) rfl (fun ls hl => ?_)
  refine lv_aload_n hx hb d_K_oneStep_11 rfl (lv_at hl 1 rfl) ?_
  refine lv_iload_n hx hb d_K_oneStep_12 rfl (lv_at hl 0 rfl) ?_
  obtain ⟨r6, hr5, hf⟩ := ob hf
  refine ro_calli (va_runV (C := "GuideSearch$Cases") (As := [.int r4]) (rest := []) ⟨hx, hb, hml, hown, hT⟩ (c_K_firstFree l dC dI cs a st r4 r6 hr5) (cwV 1 hT (gV k_344 k_297 k_298 k_5 k_299) rfl rfl rfl (by decide +kernel) ⟨Nat.le_of_ble_eq_true rfl, Nat.le_of_ble_eq_true rfl⟩) (ro_preV hP hK hN (va_recv hK hP (ci := 3) (q0 := 15) rfl rfl)) rfl rfl hl.1 rfl (lv_room (Nat.le_of_ble_eq_true rfl)) d_K_oneStep_13 ⟨Nat.le_of_ble_eq_true rfl, Nat.le_of_ble_eq_true rfl⟩) ?_
  refine lv_istore_n (lv' := [(3, .int r6), (2, .int r4), (0, .ref (a 15)), (1, .int p1)]) hx hb d_K_oneStep_16 rfl hl (by decide) rfl (fun ls hl => ?_)
  refine lv_iload_n hx hb d_K_oneStep_17 rfl (lv_at hl 0 rfl) ?_
  refine lv_if_eq (tgt := 25) hx hb d_K_oneStep_18 (by decide) (fun c7 => ?_) (fun c7 => ?_)
  · rw [if_pos c7] at hf
    refine lv_aload_n hx hb d_K_oneStep_25 rfl (lv_at hl 2 rfl) ?_
    refine lv_iload_n hx hb d_K_oneStep_26 rfl (lv_at hl 3 rfl) ?_
    refine lv_iload_n hx hb d_K_oneStep_27 rfl (lv_at hl 1 rfl) ?_
    obtain ⟨r9, hr8, hf⟩ := ob hf
    refine ro_calli (va_runV (C := "GuideSearch$Cases") (As := [.int p1, .int r4]) (rest := []) ⟨hx, hb, hml, hown, hT⟩ (c_K_bestGain l dC dI cs a st p1 r4 r9 hr8) (cwV 2 hT (gV k_345 k_347 ks_8 k_5 k_348) rfl rfl rfl (by decide +kernel) ⟨Nat.le_of_ble_eq_true rfl, Nat.le_of_ble_eq_true rfl⟩) (ro_preV hP hK hN (va_recv hK hP (ci := 3) (q0 := 15) rfl rfl)) rfl rfl hl.1 rfl (lv_room (Nat.le_of_ble_eq_true rfl)) d_K_oneStep_28 ⟨Nat.le_of_ble_eq_true rfl, Nat.le_of_ble_eq_true rfl⟩) ?_
    exact W.iret hx hb hr (fun t ht _ => ⟨_, rfl, Option.some.inj hf, ht⟩) (fun _ h => absurd h List.not_mem_nil) d_K_oneStep_31
  · rw [if_neg c7] at hf
    refine lv_iload_n hx hb d_K_oneStep_21 rfl (lv_at hl 0 rfl) ?_
    refine lv_goto (tgt := 31) hx hb d_K_oneStep_22 (by decide) ?_
    exact W.iret hx hb hr (fun t ht _ => ⟨_, rfl, Option.some.inj hf, ht⟩) (fun _ h => absurd h List.not_mem_nil) d_K_oneStep_31
