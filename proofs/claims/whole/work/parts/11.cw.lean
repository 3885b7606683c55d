set_option maxHeartbeats 4000000 in
set_option maxRecDepth 100000 in
theorem c_C_addFault (l : Launch) (dC : Nat → ClassId) (dI : Nat → Nat → Nat) (cs : Nat → ClassId) (a : Nat → Nat) (hi : ∀ i j : Nat, i < 29 → j < 29 → a i = a j → i = j) (st : XS) (p1 : Int64) (res : Int32 × XS) (hf : x_C_addFault st p1 = some res) : Met l (⟨"GuideSearch$Causes", "addFault", "(J)I"⟩ : MethodName) (Cond.code (⟨"GuideSearch$Causes", "addFault", "(J)I"⟩ : MethodName) prog_3_method_5_code 3 (some .int) :: wg) { frames := 0, cells := 0, slots := 0, locals := 0 } (va_Pc ([.ref (a 1), .long p1] : List Value) (x_pre dC dI cs a st)) (va_Qi (fun r (_ : Unit) => r = res.1) (fun _ t => va_P (dC, dI) vwCl (x_W cs a res.2) t.heap) (x_A a)) 0 0 (x_A a) := by
  refine ro_start (cc := prog_3_method_5_code) (maxL := 3) (ret := (some .int)) (by decide) (Nat.le_of_ble_eq_true rfl) ?_
  intro p e s m below meth c hx hb hr hml hT hown hlocks hB ls hl
  replace hown : s.vm.findClass "GuideSearch$Causes" = some m.cls := hown
  obtain ⟨hP, hK, hN⟩ := hB
  replace hl : lv_has ls 3 [(0, .ref (a 1)), (1, .long p1)] := hl
  unfold x_C_addFault at hf
  have hD : ∀ st : XS, va_D (x_A a) (x_W cs a st) := fun st => x_D hi cs st
  have main : ∀ (H : Heap) (locs : List Loc), va_P (dC, dI) vwCl (x_W cs a st) H → va_S (x_A a) s.heap H locs → W p l e { frames := 0, cells := 0, slots := 0, locals := 0 } s m ([.ref (a 1), .long p1] : List Value).toArray below meth c H locs 0 0 (MQ below (va_Qi (fun r (_ : Unit) => r = res.1) (fun _ t => va_P (dC, dI) vwCl (x_W cs a res.2) t.heap) (x_A a)) ([.ref (a 1), .long p1] : List Value).toArray s 0 0 (x_A a)) (F0 m 0 ls []) := by
    intro H locs hP hS
    refine lv_aload_n hx hb d_C_addFault_0 rfl (lv_at hl 0 rfl) ?_
    refine va_get (D := (dC, dI)) (ci := 1) (v := .int (x_cN st)) (C := "GuideSearch$Causes") (T := F_C) (N := 5) hx hb hT i_C hown hK hP 1 rfl rfl 3 (by decide) (hT _ k_31) (fun _ h9 => h9) rfl d_C_addFault_1 ?_
    refine lv_bipush (v := (12 : Int32)) hx hb d_C_addFault_4 (by decide) ?_
    refine lv_icmp_lt (tgt := 12) hx hb d_C_addFault_6 (by decide) (fun c1 => ?_) (fun c1 => ?_)
    · rw [if_pos c1] at hf
      refine lv_aload_n hx hb d_C_addFault_12 rfl (lv_at hl 0 rfl) ?_
      refine lv_dup hx hb d_C_addFault_13 rfl ?_
      refine va_get (D := (dC, dI)) (ci := 1) (v := .int (x_cN st)) (C := "GuideSearch$Causes") (T := F_C) (N := 5) hx hb hT i_C hown hK hP 1 rfl rfl 3 (by decide) (hT _ k_31) (fun _ h9 => h9) rfl d_C_addFault_14 ?_
      refine lv_iconst (v := (1 : Int32)) hx hb d_C_addFault_17 (by decide) ?_
      refine lv_iadd hx hb d_C_addFault_18 ?_
      refine va_put (D := (dC, dI)) (ci := 1) (v := .int ((x_cN st) + (1 : Int32))) (ty := .int) (C := "GuideSearch$Causes") (T := F_C) (N := 5) hx hb hT i_C ft_C ft_C_ok n_C hown hK hP (hD _) hS 1 rfl rfl 3 (by decide) (hT _ k_31) (fun _ h9 => h9) rfl (by decide +kernel) rfl rfl (Nat.le_of_ble_eq_true rfl) d_C_addFault_19 (fun H locs hP _ hS => ?_)
      rw [x_cN_put cs a st ((x_cN st) + (1 : Int32))] at hP
      refine lv_aload_n hx hb d_C_addFault_22 rfl (lv_at hl 0 rfl) ?_
      refine lv_dup hx hb d_C_addFault_23 rfl ?_
      refine va_get (D := (dC, dI)) (ci := 1) (v := .int (x_fN (x_cN_s st ((x_cN st) + (1 : Int32))))) (C := "GuideSearch$Causes") (T := F_C) (N := 5) hx hb hT i_C hown hK hP 1 rfl rfl 4 (by decide) (hT _ k_34) (fun _ h9 => h9) rfl d_C_addFault_24 ?_
      refine lv_iconst (v := (1 : Int32)) hx hb d_C_addFault_27 (by decide) ?_
      refine lv_iadd hx hb d_C_addFault_28 ?_
      refine va_put (D := (dC, dI)) (ci := 1) (v := .int ((x_fN (x_cN_s st ((x_cN st) + (1 : Int32)))) + (1 : Int32))) (ty := .int) (C := "GuideSearch$Causes") (T := F_C) (N := 5) hx hb hT i_C ft_C ft_C_ok n_C hown hK hP (hD _) hS 1 rfl rfl 4 (by decide) (hT _ k_34) (fun _ h9 => h9) rfl (by decide +kernel) rfl rfl (Nat.le_of_ble_eq_true rfl) d_C_addFault_29 (fun H locs hP _ hS => ?_)
      rw [x_fN_put cs a (x_cN_s st ((x_cN st) + (1 : Int32))) ((x_fN (x_cN_s st ((x_cN st) + (1 : Int32)))) + (1 : Int32))] at hP
      refine lv_aload_n hx hb d_C_addFault_32 rfl (lv_at hl 0 rfl) ?_
      refine va_get (D := (dC, dI)) (ci := 1) (v := .ref (a 2)) (C := "GuideSearch$Causes") (T := F_C) (N := 5) hx hb hT i_C hown hK hP 1 rfl rfl 0 (by decide) (hT _ k_28) (fun _ h9 => h9) rfl d_C_addFault_33 ?_
      refine lv_aload_n hx hb d_C_addFault_36 rfl (lv_at hl 0 rfl) ?_
      refine va_get (D := (dC, dI)) (ci := 1) (v := .int (x_cN (x_fN_s (x_cN_s st ((x_cN st) + (1 : Int32))) ((x_fN (x_cN_s st ((x_cN st) + (1 : Int32)))) + (1 : Int32))))) (C := "GuideSearch$Causes") (T := F_C) (N := 5) hx hb hT i_C hown hK hP 1 rfl rfl 3 (by decide) (hT _ k_31) (fun _ h9 => h9) rfl d_C_addFault_37 ?_
      refine lv_lload_n hx hb d_C_addFault_40 rfl (lv_at hl 1 rfl) ?_
      refine lv_ldc2 (v := (2520 : Int64)) hx hb hown (hT _ k_158) d_C_addFault_41 ?_
      refine lv_lmul hx hb d_C_addFault_44 ?_
      obtain ⟨j2, ej4, hi3, hf⟩ := ix_some hf
      refine xa_last hx hb hK hP (hD _) hS 2 0 rfl rfl ej4 hi3 d_C_addFault_45 (fun H locs hP hS => ?_)
      rw [x_pri_put cs a (x_fN_s (x_cN_s st ((x_cN st) + (1 : Int32))) ((x_fN (x_cN_s st ((x_cN st) + (1 : Int32)))) + (1 : Int32))) j2 (p1 * (2520 : Int64))] at hP
      refine lv_aload_n hx hb d_C_addFault_46 rfl (lv_at hl 0 rfl) ?_
      refine va_get (D := (dC, dI)) (ci := 1) (v := .int (x_cN (x_pri_s (x_fN_s (x_cN_s st ((x_cN st) + (1 : Int32))) ((x_fN (x_cN_s st ((x_cN st) + (1 : Int32)))) + (1 : Int32))) j2 (p1 * (2520 : Int64))))) (C := "GuideSearch$Causes") (T := F_C) (N := 5) hx hb hT i_C hown hK hP 1 rfl rfl 3 (by decide) (hT _ k_31) (fun _ h9 => h9) rfl d_C_addFault_47 ?_
      exact W.iret hx hb hr (fun t ht _ => ⟨⟨_, (), rfl, congrArg Prod.fst (Option.some.inj hf), x_fin ht (congrArg Prod.snd (Option.some.inj hf)) hP⟩, hS.F ht⟩) hS.2.2 d_C_addFault_50
    · rw [if_neg c1] at hf
      refine lv_bipush (v := (-4 : Int32)) hx hb d_C_addFault_9 (by decide) ?_
      exact W.iret hx hb hr (fun t ht _ => ⟨⟨_, (), rfl, congrArg Prod.fst (Option.some.inj hf), x_fin ht (congrArg Prod.snd (Option.some.inj hf)) hP⟩, hS.F ht⟩) hS.2.2 d_C_addFault_11
  exact main _ _ hP va_S.rf
set_option maxHeartbeats 4000000 in
set_option maxRecDepth 100000 in
theorem c_C_knows (l : Launch) (dC : Nat → ClassId) (dI : Nat → Nat → Nat) (cs : Nat → ClassId) (a : Nat → Nat) (st : XS) (p1 : Int32) (res : Int32) (hf : x_C_knows st p1 = some res) : Met l (⟨"GuideSearch$Causes", "knows", "(I)Z"⟩ : MethodName) (Cond.code (⟨"GuideSearch$Causes", "knows", "(I)Z"⟩ : MethodName) prog_3_method_2_code 2 (some .boolean) :: wg) { frames := 0, cells := 0, slots := 0, locals := 0 } (va_Pc ([.ref (a 1), .int p1] : List Value) (x_pre dC dI cs a st)) (vp_Si (fun r => r = res)) 0 0 (fun _ => False) := by
  refine ro_start (cc := prog_3_method_2_code) (maxL := 2) (ret := (some .boolean)) (by decide) (Nat.le_of_ble_eq_true rfl) ?_
  intro p e s m below meth c hx hb hr hml hT hown hlocks hB ls hl
  replace hown : s.vm.findClass "GuideSearch$Causes" = some m.cls := hown
  obtain ⟨hP, hK, hN⟩ := hB
  replace hl : lv_has ls 2 [(0, .ref (a 1)), (1, .int p1)] := hl
  unfold x_C_knows at hf
  refine lv_iload_n hx hb d_C_knows_0 rfl (lv_at hl 1 rfl) ?_
  refine lv_iconst (v := (1 : Int32)) hx hb d_C_knows_1 (by decide) ?_
  refine lv_icmp_lt (tgt := 23) hx hb d_C_knows_2 (by decide) (fun c1 => ?_) (fun c1 => ?_)
  · rw [if_pos c1] at hf
    refine lv_iconst (v := (0 : Int32)) hx hb d_C_knows_23 (by decide) ?_
    exact W.zret (ty := .boolean) hx hb hr (rfl) (fun t ht _ => ⟨_, rfl, Option.some.inj hf, ht⟩) (fun _ h => absurd h List.not_mem_nil) d_C_knows_24
  · rw [if_neg c1] at hf
    refine lv_iload_n hx hb d_C_knows_5 rfl (lv_at hl 1 rfl) ?_
    refine lv_aload_n hx hb d_C_knows_6 rfl (lv_at hl 0 rfl) ?_
    refine va_get (D := (dC, dI)) (ci := 1) (v := .int (x_cN st)) (C := "GuideSearch$Causes") (T := F_C) (N := 5) hx hb hT i_C hown hK hP 1 rfl rfl 3 (by decide) (hT _ k_31) (fun _ h9 => h9) rfl d_C_knows_7 ?_
    refine lv_icmp_gt (tgt := 23) hx hb d_C_knows_10 (by decide) (fun c2 => ?_) (fun c2 => ?_)
    · rw [if_pos c2] at hf
      refine lv_iconst (v := (0 : Int32)) hx hb d_C_knows_23 (by decide) ?_
      exact W.zret (ty := .boolean) hx hb hr (rfl) (fun t ht _ => ⟨_, rfl, Option.some.inj hf, ht⟩) (fun _ h => absurd h List.not_mem_nil) d_C_knows_24
    · rw [if_neg c2] at hf
      refine lv_iload_n hx hb d_C_knows_13 rfl (lv_at hl 1 rfl) ?_
      refine lv_bipush (v := (12 : Int32)) hx hb d_C_knows_14 (by decide) ?_
      refine lv_icmp_gt (tgt := 23) hx hb d_C_knows_16 (by decide) (fun c3 => ?_) (fun c3 => ?_)
      · rw [if_pos c3] at hf
        refine lv_iconst (v := (0 : Int32)) hx hb d_C_knows_23 (by decide) ?_
        exact W.zret (ty := .boolean) hx hb hr (rfl) (fun t ht _ => ⟨_, rfl, Option.some.inj hf, ht⟩) (fun _ h => absurd h List.not_mem_nil) d_C_knows_24
      · rw [if_neg c3] at hf
        refine lv_iconst (v := (1 : Int32)) hx hb d_C_knows_19 (by decide) ?_
        refine lv_goto (tgt := 24) hx hb d_C_knows_20 (by decide) ?_
        exact W.zret (ty := .boolean) hx hb hr (rfl) (fun t ht _ => ⟨_, rfl, Option.some.inj hf, ht⟩) (fun _ h => absurd h List.not_mem_nil) d_C_knows_24
set_option maxHeartbeats 4000000 in
set_option maxRecDepth 100000 in
theorem c_C_prior (l : Launch) (dC : Nat → ClassId) (dI : Nat → Nat → Nat) (cs : Nat → ClassId) (a : Nat → Nat) (st : XS) (p1 : Int32) (res : Int64) (hf : x_C_prior st p1 = some res) : Met l (⟨"GuideSearch$Causes", "prior", "(I)J"⟩ : MethodName) (Cond.code (⟨"GuideSearch$Causes", "prior", "(I)J"⟩ : MethodName) prog_3_method_8_code 2 (some .long) :: wg) { frames := 1, cells := 0, slots := 0, locals := 24 } (va_Pc ([.ref (a 1), .int p1] : List Value) (x_pre dC dI cs a st)) (vp_Sl (fun r => r = res)) 0 0 (fun _ => False) := by
  refine ro_start (cc := prog_3_method_8_code) (maxL := 2) (ret := (some .long)) (by decide) (Nat.le_of_ble_eq_true rfl) ?_
  intro p e s m below meth c hx hb hr hml hT hown hlocks hB ls hl
  replace hown : s.vm.findClass "GuideSearch$Causes" = some m.cls := hown
  obtain ⟨hP, hK, hN⟩ := hB
  replace hl : lv_has ls 2 [(0, .ref (a 1)), (1, .int p1)] := hl
  unfold x_C_prior at hf
  refine lv_aload_n hx hb d_C_prior_0 rfl (lv_at hl 0 rfl) ?_
  refine lv_iload_n hx hb d_C_prior_1 rfl (lv_at hl 1 rfl) ?_
  obtain ⟨r2, hr1, hf⟩ := ob hf
  refine ro_calli (va_runV (C := "GuideSearch$Causes") (As := [.int p1]) (rest := []) ⟨hx, hb, hml, hown, hT⟩ (c_C_knows l dC dI cs a st p1 r2 hr1) (cwV 1 hT (gV k_265 k_177 k_178 k_2 k_179) rfl rfl rfl (by decide +kernel) ⟨Nat.le_of_ble_eq_true rfl, Nat.le_of_ble_eq_true rfl⟩) (ro_preV hP hK hN (va_recv hK hP (ci := 1) (q0 := 1) rfl rfl)) rfl rfl hl.1 rfl (lv_room (Nat.le_of_ble_eq_true rfl)) d_C_prior_2 ⟨Nat.le_of_ble_eq_true rfl, Nat.le_of_ble_eq_true rfl⟩) ?_
  refine lv_if_ne (tgt := 10) hx hb d_C_prior_5 (by decide) (fun c3 => ?_) (fun c3 => ?_)
  · rw [if_neg c3] at hf
    refine lv_aload_n hx hb d_C_prior_10 rfl (lv_at hl 0 rfl) ?_
    refine va_get (D := (dC, dI)) (ci := 1) (v := .ref (a 2)) (C := "GuideSearch$Causes") (T := F_C) (N := 5) hx hb hT i_C hown hK hP 1 rfl rfl 0 (by decide) (hT _ k_28) (fun _ h9 => h9) rfl d_C_prior_11 ?_
    refine lv_iload_n hx hb d_C_prior_14 rfl (lv_at hl 1 rfl) ?_
    obtain ⟨j4, ej6, hi5, hf⟩ := ix_some hf
    refine xa_lald hx hb hK hP 2 0 rfl rfl ej6 hi5 d_C_prior_15 ?_
    refine lv_aload_n hx hb d_C_prior_16 rfl (lv_at hl 0 rfl) ?_
    refine va_get (D := (dC, dI)) (ci := 1) (v := .ref (a 4)) (C := "GuideSearch$Causes") (T := F_C) (N := 5) hx hb hT i_C hown hK hP 1 rfl rfl 2 (by decide) (hT _ k_30) (fun _ h9 => h9) rfl d_C_prior_17 ?_
    refine lv_iload_n hx hb d_C_prior_20 rfl (lv_at hl 1 rfl) ?_
    obtain ⟨j7, ej9, hi8, hf⟩ := ix_some hf
    refine xa_iald hx hb hK hP 4 1 rfl rfl ej9 hi8 d_C_prior_21 ?_
    refine lv_iconst (v := (5 : Int32)) hx hb d_C_prior_22 (by decide) ?_
    refine va_mmin hx hb (hml.trans hl.1.symm) hown (hT _ k_266) (hT _ k_267) (hT _ k_9) (hT _ k_268) (Nat.le_of_ble_eq_true rfl) (Nat.le_of_ble_eq_true rfl) (Nat.le_of_ble_eq_true rfl) (Nat.le_of_ble_eq_true rfl) d_C_prior_23 ?_
    refine lv_iconst (v := (1 : Int32)) hx hb d_C_prior_26 (by decide) ?_
    refine lv_iadd hx hb d_C_prior_27 ?_
    refine lv_i2l (v := ((if (5 : Int32) < (x_lea st j7) then (5 : Int32) else (x_lea st j7)) + (1 : Int32)).toInt64) hx hb d_C_prior_28 rfl ?_
    refine lv_lmul hx hb d_C_prior_29 ?_
    exact W.lret hx hb hr (fun t ht _ => ⟨_, rfl, Option.some.inj hf, ht⟩) (fun _ h => absurd h List.not_mem_nil) d_C_prior_30
  · rw [if_pos c3] at hf
    refine lv_lconst (v := (0 : Int64)) hx hb d_C_prior_8 (by decide) ?_
    exact W.lret hx hb hr (fun t ht _ => ⟨_, rfl, Option.some.inj hf, ht⟩) (fun _ h => absurd h List.not_mem_nil) d_C_prior_9
set_option maxHeartbeats 4000000 in
set_option maxRecDepth 100000 in
theorem c_C_isFault (l : Launch) (dC : Nat → ClassId) (dI : Nat → Nat → Nat) (cs : Nat → ClassId) (a : Nat → Nat) (st : XS) (p1 : Int32) (res : Int32) (hf : x_C_isFault st p1 = some res) : Met l (⟨"GuideSearch$Causes", "isFault", "(I)Z"⟩ : MethodName) (Cond.code (⟨"GuideSearch$Causes", "isFault", "(I)Z"⟩ : MethodName) prog_3_method_3_code 2 (some .boolean) :: wg) { frames := 1, cells := 0, slots := 0, locals := 21 } (va_Pc ([.ref (a 1), .int p1] : List Value) (x_pre dC dI cs a st)) (vp_Si (fun r => r = res)) 0 0 (fun _ => False) := by
  refine ro_start (cc := prog_3_method_3_code) (maxL := 2) (ret := (some .boolean)) (by decide) (Nat.le_of_ble_eq_true rfl) ?_
  intro p e s m below meth c hx hb hr hml hT hown hlocks hB ls hl
  replace hown : s.vm.findClass "GuideSearch$Causes" = some m.cls := hown
  obtain ⟨hP, hK, hN⟩ := hB
  replace hl : lv_has ls 2 [(0, .ref (a 1)), (1, .int p1)] := hl
  unfold x_C_isFault at hf
  refine lv_aload_n hx hb d_C_isFault_0 rfl (lv_at hl 0 rfl) ?_
  refine lv_iload_n hx hb d_C_isFault_1 rfl (lv_at hl 1 rfl) ?_
  obtain ⟨r2, hr1, hf⟩ := ob hf
  refine ro_calli (va_runV (C := "GuideSearch$Causes") (As := [.int p1]) (rest := []) ⟨hx, hb, hml, hown, hT⟩ (c_C_knows l dC dI cs a st p1 r2 hr1) (cwV 1 hT (gV k_265 k_177 k_178 k_2 k_179) rfl rfl rfl (by decide +kernel) ⟨Nat.le_of_ble_eq_true rfl, Nat.le_of_ble_eq_true rfl⟩) (ro_preV hP hK hN (va_recv hK hP (ci := 1) (q0 := 1) rfl rfl)) rfl rfl hl.1 rfl (lv_room (Nat.le_of_ble_eq_true rfl)) d_C_isFault_2 ⟨Nat.le_of_ble_eq_true rfl, Nat.le_of_ble_eq_true rfl⟩) ?_
  refine lv_if_eq (tgt := 21) hx hb d_C_isFault_5 (by decide) (fun c3 => ?_) (fun c3 => ?_)
  · rw [if_pos c3] at hf
    refine lv_iconst (v := (0 : Int32)) hx hb d_C_isFault_21 (by decide) ?_
    exact W.zret (ty := .boolean) hx hb hr (rfl) (fun t ht _ => ⟨_, rfl, Option.some.inj hf, ht⟩) (fun _ h => absurd h List.not_mem_nil) d_C_isFault_22
  · rw [if_neg c3] at hf
    refine lv_aload_n hx hb d_C_isFault_8 rfl (lv_at hl 0 rfl) ?_
    refine va_get (D := (dC, dI)) (ci := 1) (v := .ref (a 3)) (C := "GuideSearch$Causes") (T := F_C) (N := 5) hx hb hT i_C hown hK hP 1 rfl rfl 1 (by decide) (hT _ k_29) (fun _ h9 => h9) rfl d_C_isFault_9 ?_
    refine lv_iload_n hx hb d_C_isFault_12 rfl (lv_at hl 1 rfl) ?_
    obtain ⟨j4, ej6, hi5, hf⟩ := ix_some hf
    refine xa_iald hx hb hK hP 3 1 rfl rfl ej6 hi5 d_C_isFault_13 ?_
    refine lv_if_ne (tgt := 21) hx hb d_C_isFault_14 (by decide) (fun c7 => ?_) (fun c7 => ?_)
    · rw [if_neg c7] at hf
      refine lv_iconst (v := (0 : Int32)) hx hb d_C_isFault_21 (by decide) ?_
      exact W.zret (ty := .boolean) hx hb hr (rfl) (fun t ht _ => ⟨_, rfl, Option.some.inj hf, ht⟩) (fun _ h => absurd h List.not_mem_nil) d_C_isFault_22
    · rw [if_pos c7] at hf
      refine lv_iconst (v := (1 : Int32)) hx hb d_C_isFault_17 (by decide) ?_
      refine lv_goto (tgt := 22) hx hb d_C_isFault_18 (by decide) ?_
      exact W.zret (ty := .boolean) hx hb hr (rfl) (fun t ht _ => ⟨_, rfl, Option.some.inj hf, ht⟩) (fun _ h => absurd h List.not_mem_nil) d_C_isFault_22
set_option maxHeartbeats 4000000 in
set_option maxRecDepth 100000 in
theorem c_C_hasPair (l : Launch) (dC : Nat → ClassId) (dI : Nat → Nat → Nat) (cs : Nat → ClassId) (a : Nat → Nat) (st : XS) (p1 : Int32) (res : Int32) (hf : x_C_hasPair st p1 = some res) : Met l (⟨"GuideSearch$Causes", "hasPair", "(I)Z"⟩ : MethodName) (Cond.code (⟨"GuideSearch$Causes", "hasPair", "(I)Z"⟩ : MethodName) prog_3_method_4_code 3 (some .boolean) :: wg) { frames := 0, cells := 0, slots := 0, locals := 0 } (va_Pc ([.ref (a 1), .int p1] : List Value) (x_pre dC dI cs a st)) (vp_Si (fun r => r = res)) 0 0 (fun _ => False) := by
  refine ro_start (cc := prog_3_method_4_code) (maxL := 3) (ret := (some .boolean)) (by decide) (Nat.le_of_ble_eq_true rfl) ?_
  intro p e s m below meth c hx hb hr hml hT hown hlocks hB ls hl
  replace hown : s.vm.findClass "GuideSearch$Causes" = some m.cls := hown
  obtain ⟨hP, hK, hN⟩ := hB
  replace hl : lv_has ls 3 [(0, .ref (a 1)), (1, .int p1)] := hl
  unfold x_C_hasPair at hf
  refine lv_iconst (v := (1 : Int32)) hx hb d_C_hasPair_0 (by decide) ?_
  refine lv_istore_n (lv' := [(2, .int (1 : Int32)), (0, .ref (a 1)), (1, .int p1)]) hx hb d_C_hasPair_1 rfl hl (by decide) rfl (fun ls hl => ?_)
  have loop1 : ∀ (n : Nat) (v1 : Int32), xl1 (x_C_hasPair_B1 st p1) n v1 = some res → ∀ (ls : Array Slot), lv_has ls 3 [(2, .int v1), (0, .ref (a 1)), (1, .int p1)] → W p l e { frames := 0, cells := 0, slots := 0, locals := 0 } s m ([.ref (a 1), .int p1] : List Value).toArray below meth c s.heap [] 0 0 (MQ below (vp_Si (fun r => r = res)) ([.ref (a 1), .int p1] : List Value).toArray s 0 0 (fun _ => False)) (F0 m 2 ls []) := by
    intro n
    induction n with
    | zero => intro v1 hf; exact absurd hf (by simp [xl1])
    | succ n ih1 =>
      intro v1 hf ls hl
      replace hf : (x_C_hasPair_B1 st p1) (xl1 (x_C_hasPair_B1 st p1) n) v1 = some res := hf
      generalize xl1 (x_C_hasPair_B1 st p1) n = self1 at hf ih1
      unfold x_C_hasPair_B1 at hf
      refine lv_iload_n hx hb d_C_hasPair_2 rfl (lv_at hl 0 rfl) ?_
      refine lv_bipush (v := (12 : Int32)) hx hb d_C_hasPair_3 (by decide) ?_
      refine lv_icmp_gt (tgt := 26) hx hb d_C_hasPair_5 (by decide) (fun c2 => ?_) (fun c2 => ?_)
      · rw [if_pos c2] at hf
        refine lv_iconst (v := (0 : Int32)) hx hb d_C_hasPair_26 (by decide) ?_
        exact W.zret (ty := .boolean) hx hb hr (rfl) (fun t ht _ => ⟨_, rfl, Option.some.inj hf, ht⟩) (fun _ h => absurd h List.not_mem_nil) d_C_hasPair_27
      · rw [if_neg c2] at hf
        refine lv_aload_n hx hb d_C_hasPair_8 rfl (lv_at hl 1 rfl) ?_
        refine va_get (D := (dC, dI)) (ci := 1) (v := .ref (a 3)) (C := "GuideSearch$Causes") (T := F_C) (N := 5) hx hb hT i_C hown hK hP 1 rfl rfl 1 (by decide) (hT _ k_29) (fun _ h9 => h9) rfl d_C_hasPair_9 ?_
        refine lv_iload_n hx hb d_C_hasPair_12 rfl (lv_at hl 0 rfl) ?_
        obtain ⟨j3, ej5, hi4, hf⟩ := ix_some hf
        refine xa_iald hx hb hK hP 3 1 rfl rfl ej5 hi4 d_C_hasPair_13 ?_
        refine lv_iload_n hx hb d_C_hasPair_14 rfl (lv_at hl 2 rfl) ?_
        refine lv_icmp_ne (tgt := 20) hx hb d_C_hasPair_15 (by decide) (fun c6 => ?_) (fun c6 => ?_)
        · rw [if_neg c6] at hf
          refine lv_iinc (v := (v1 + 1)) (lv' := [(2, .int (v1 + 1)), (0, .ref (a 1)), (1, .int p1)]) hx hb d_C_hasPair_20 hl (k := 0) rfl rfl (by decide) rfl (fun ls hl => ?_)
          refine lv_goto (tgt := 2) hx hb d_C_hasPair_23 (by decide) ?_
          exact ih1 (v1 + 1) hf ls (lv_sub hl [0, 1, 2] rfl)
        · rw [if_pos c6] at hf
          refine lv_iconst (v := (1 : Int32)) hx hb d_C_hasPair_18 (by decide) ?_
          exact W.zret (ty := .boolean) hx hb hr (rfl) (fun t ht _ => ⟨_, rfl, Option.some.inj hf, ht⟩) (fun _ h => absurd h List.not_mem_nil) d_C_hasPair_19
  exact loop1 _ (1 : Int32) hf ls (lv_sub hl [0, 1, 2] rfl)
set_option maxHeartbeats 4000000 in
set_option maxRecDepth 100000 in
theorem c_C_addPair (l : Launch) (dC : Nat → ClassId) (dI : Nat → Nat → Nat) (cs : Nat → ClassId) (a : Nat → Nat) (hi : ∀ i j : Nat, i < 29 → j < 29 → a i = a j → i = j) (st : XS) (p1 : Int32) (p2 : Int32) (res : Int32 × XS) (hf : x_C_addPair st p1 p2 = some res) : Met l (⟨"GuideSearch$Causes", "addPair", "(II)I"⟩ : MethodName) (Cond.code (⟨"GuideSearch$Causes", "addPair", "(II)I"⟩ : MethodName) prog_3_method_6_code 3 (some .int) :: wg) { frames := 1, cells := 0, slots := 0, locals := 21 } (va_Pc ([.ref (a 1), .int p1, .int p2] : List Value) (x_pre dC dI cs a st)) (va_Qi (fun r (_ : Unit) => r = res.1) (fun _ t => va_P (dC, dI) vwCl (x_W cs a res.2) t.heap) (x_A a)) 0 0 (x_A a) := by
  refine ro_start (cc := prog_3_method_6_code) (maxL := 3) (ret := (some .int)) (by decide) (Nat.le_of_ble_eq_true rfl) ?_
  intro p e s m below meth c hx hb hr hml hT hown hlocks hB ls hl
  replace hown : s.vm.findClass "GuideSearch$Causes" = some m.cls := hown
  obtain ⟨hP, hK, hN⟩ := hB
  replace hl : lv_has ls 3 [(0, .ref (a 1)), (1, .int p1), (2, .int p2)] := hl
  unfold x_C_addPair at hf
  have hD : ∀ st : XS, va_D (x_A a) (x_W cs a st) := fun st => x_D hi cs st
  have main : ∀ (H : Heap) (locs : List Loc), va_P (dC, dI) vwCl (x_W cs a st) H → va_S (x_A a) s.heap H locs → W p l e { frames := 1, cells := 0, slots := 0, locals := 21 } s m ([.ref (a 1), .int p1, .int p2] : List Value).toArray below meth c H locs 0 0 (MQ below (va_Qi (fun r (_ : Unit) => r = res.1) (fun _ t => va_P (dC, dI) vwCl (x_W cs a res.2) t.heap) (x_A a)) ([.ref (a 1), .int p1, .int p2] : List Value).toArray s 0 0 (x_A a)) (F0 m 0 ls []) := by
    intro H locs hP hS
    refine lv_aload_n hx hb d_C_addPair_0 rfl (lv_at hl 0 rfl) ?_
    refine va_get (D := (dC, dI)) (ci := 1) (v := .int (x_cN st)) (C := "GuideSearch$Causes") (T := F_C) (N := 5) hx hb hT i_C hown hK hP 1 rfl rfl 3 (by decide) (hT _ k_31) (fun _ h9 => h9) rfl d_C_addPair_1 ?_
    refine lv_bipush (v := (12 : Int32)) hx hb d_C_addPair_4 (by decide) ?_
    refine lv_icmp_ge (tgt := 25) hx hb d_C_addPair_6 (by decide) (fun c1 => ?_) (fun c1 => ?_)
    · rw [if_pos c1] at hf
      refine lv_bipush (v := (-4 : Int32)) hx hb d_C_addPair_25 (by decide) ?_
      exact W.iret hx hb hr (fun t ht _ => ⟨⟨_, (), rfl, congrArg Prod.fst (Option.some.inj hf), x_fin ht (congrArg Prod.snd (Option.some.inj hf)) hP⟩, hS.F ht⟩) hS.2.2 d_C_addPair_27
    · rw [if_neg c1] at hf
      refine lv_aload_n hx hb d_C_addPair_9 rfl (lv_at hl 0 rfl) ?_
      refine lv_iload_n hx hb d_C_addPair_10 rfl (lv_at hl 1 rfl) ?_
      obtain ⟨r3, hr2, hf⟩ := ob hf
      refine ro_calli (va_runV (C := "GuideSearch$Causes") (As := [.int p1]) (rest := []) ⟨hx, hb, hml, hown, hT⟩ (c_C_knows l dC dI cs a st p1 r3 hr2) (cwV 1 hT (gV k_265 k_177 k_178 k_2 k_179) rfl rfl rfl (by decide +kernel) ⟨Nat.le_of_ble_eq_true rfl, Nat.le_of_ble_eq_true rfl⟩) (ro_preV hP hK hN (va_recv hK hP (ci := 1) (q0 := 1) rfl rfl)) rfl rfl hl.1 rfl (lv_room (Nat.le_of_ble_eq_true rfl)) d_C_addPair_11 ⟨Nat.le_of_ble_eq_true rfl, Nat.le_of_ble_eq_true rfl⟩) ?_
      refine lv_if_eq (tgt := 25) hx hb d_C_addPair_14 (by decide) (fun c4 => ?_) (fun c4 => ?_)
      · rw [if_pos c4] at hf
        refine lv_bipush (v := (-4 : Int32)) hx hb d_C_addPair_25 (by decide) ?_
        exact W.iret hx hb hr (fun t ht _ => ⟨⟨_, (), rfl, congrArg Prod.fst (Option.some.inj hf), x_fin ht (congrArg Prod.snd (Option.some.inj hf)) hP⟩, hS.F ht⟩) hS.2.2 d_C_addPair_27
      · rw [if_neg c4] at hf
        refine lv_aload_n hx hb d_C_addPair_17 rfl (lv_at hl 0 rfl) ?_
        refine lv_iload_n hx hb d_C_addPair_18 rfl (lv_at hl 2 rfl) ?_
        obtain ⟨r6, hr5, hf⟩ := ob hf
        refine ro_calli (va_runV (C := "GuideSearch$Causes") (As := [.int p2]) (rest := []) ⟨hx, hb, hml, hown, hT⟩ (c_C_knows l dC dI cs a st p2 r6 hr5) (cwV 1 hT (gV k_265 k_177 k_178 k_2 k_179) rfl rfl rfl (by decide +kernel) ⟨Nat.le_of_ble_eq_true rfl, Nat.le_of_ble_eq_true rfl⟩) (ro_preV hP hK hN (va_recv hK hP (ci := 1) (q0 := 1) rfl rfl)) rfl rfl hl.1 rfl (lv_room (Nat.le_of_ble_eq_true rfl)) d_C_addPair_19 ⟨Nat.le_of_ble_eq_true rfl, Nat.le_of_ble_eq_true rfl⟩) ?_
        refine lv_if_ne (tgt := 28) hx hb d_C_addPair_22 (by decide) (fun c7 => ?_) (fun c7 => ?_)
        · rw [if_neg c7] at hf
          refine lv_aload_n hx hb d_C_addPair_28 rfl (lv_at hl 0 rfl) ?_
          refine lv_dup hx hb d_C_addPair_29 rfl ?_
          refine va_get (D := (dC, dI)) (ci := 1) (v := .int (x_cN st)) (C := "GuideSearch$Causes") (T := F_C) (N := 5) hx hb hT i_C hown hK hP 1 rfl rfl 3 (by decide) (hT _ k_31) (fun _ h9 => h9) rfl d_C_addPair_30 ?_
          refine lv_iconst (v := (1 : Int32)) hx hb d_C_addPair_33 (by decide) ?_
          refine lv_iadd hx hb d_C_addPair_34 ?_
          refine va_put (D := (dC, dI)) (ci := 1) (v := .int ((x_cN st) + (1 : Int32))) (ty := .int) (C := "GuideSearch$Causes") (T := F_C) (N := 5) hx hb hT i_C ft_C ft_C_ok n_C hown hK hP (hD _) hS 1 rfl rfl 3 (by decide) (hT _ k_31) (fun _ h9 => h9) rfl (by decide +kernel) rfl rfl (Nat.le_of_ble_eq_true rfl) d_C_addPair_35 (fun H locs hP _ hS => ?_)
          rw [x_cN_put cs a st ((x_cN st) + (1 : Int32))] at hP
          refine lv_aload_n hx hb d_C_addPair_38 rfl (lv_at hl 0 rfl) ?_
          refine va_get (D := (dC, dI)) (ci := 1) (v := .ref (a 2)) (C := "GuideSearch$Causes") (T := F_C) (N := 5) hx hb hT i_C hown hK hP 1 rfl rfl 0 (by decide) (hT _ k_28) (fun _ h9 => h9) rfl d_C_addPair_39 ?_
          refine lv_aload_n hx hb d_C_addPair_42 rfl (lv_at hl 0 rfl) ?_
          refine va_get (D := (dC, dI)) (ci := 1) (v := .int (x_cN (x_cN_s st ((x_cN st) + (1 : Int32))))) (C := "GuideSearch$Causes") (T := F_C) (N := 5) hx hb hT i_C hown hK hP 1 rfl rfl 3 (by decide) (hT _ k_31) (fun _ h9 => h9) rfl d_C_addPair_43 ?_
          refine lv_aload_n hx hb d_C_addPair_46 rfl (lv_at hl 0 rfl) ?_
          refine va_get (D := (dC, dI)) (ci := 1) (v := .ref (a 2)) (C := "GuideSearch$Causes") (T := F_C) (N := 5) hx hb hT i_C hown hK hP 1 rfl rfl 0 (by decide) (hT _ k_28) (fun _ h9 => h9) rfl d_C_addPair_47 ?_
          refine lv_iload_n hx hb d_C_addPair_50 rfl (lv_at hl 1 rfl) ?_
          obtain ⟨j8, ej10, hi9, hf⟩ := ix_some hf
          refine xa_lald hx hb hK hP 2 0 rfl rfl ej10 hi9 d_C_addPair_51 ?_
          refine lv_ldc2 (v := (2520 : Int64)) hx hb hown (hT _ k_158) d_C_addPair_52 ?_
          refine lv_ldiv hx hb d_C_addPair_55 (by decide) ?_
          refine lv_aload_n hx hb d_C_addPair_56 rfl (lv_at hl 0 rfl) ?_
          refine va_get (D := (dC, dI)) (ci := 1) (v := .ref (a 2)) (C := "GuideSearch$Causes") (T := F_C) (N := 5) hx hb hT i_C hown hK hP 1 rfl rfl 0 (by decide) (hT _ k_28) (fun _ h9 => h9) rfl d_C_addPair_57 ?_
          refine lv_iload_n hx hb d_C_addPair_60 rfl (lv_at hl 2 rfl) ?_
          obtain ⟨j11, ej13, hi12, hf⟩ := ix_some hf
          refine xa_lald hx hb hK hP 2 0 rfl rfl ej13 hi12 d_C_addPair_61 ?_
          refine lv_ldc2 (v := (2520 : Int64)) hx hb hown (hT _ k_158) d_C_addPair_62 ?_
          refine lv_ldiv hx hb d_C_addPair_65 (by decide) ?_
          refine lv_lmul hx hb d_C_addPair_66 ?_
          obtain ⟨j14, ej16, hi15, hf⟩ := ix_some hf
          refine xa_last hx hb hK hP (hD _) hS 2 0 rfl rfl ej16 hi15 d_C_addPair_67 (fun H locs hP hS => ?_)
          rw [x_pri_put cs a (x_cN_s st ((x_cN st) + (1 : Int32))) j14 (((x_pri (x_cN_s st ((x_cN st) + (1 : Int32))) j8) / (2520 : Int64)) * ((x_pri (x_cN_s st ((x_cN st) + (1 : Int32))) j11) / (2520 : Int64)))] at hP
          refine lv_aload_n hx hb d_C_addPair_68 rfl (lv_at hl 0 rfl) ?_
          refine va_get (D := (dC, dI)) (ci := 1) (v := .ref (a 3)) (C := "GuideSearch$Causes") (T := F_C) (N := 5) hx hb hT i_C hown hK hP 1 rfl rfl 1 (by decide) (hT _ k_29) (fun _ h9 => h9) rfl d_C_addPair_69 ?_
          refine lv_aload_n hx hb d_C_addPair_72 rfl (lv_at hl 0 rfl) ?_
          refine va_get (D := (dC, dI)) (ci := 1) (v := .int (x_cN (x_pri_s (x_cN_s st ((x_cN st) + (1 : Int32))) j14 (((x_pri (x_cN_s st ((x_cN st) + (1 : Int32))) j8) / (2520 : Int64)) * ((x_pri (x_cN_s st ((x_cN st) + (1 : Int32))) j11) / (2520 : Int64)))))) (C := "GuideSearch$Causes") (T := F_C) (N := 5) hx hb hT i_C hown hK hP 1 rfl rfl 3 (by decide) (hT _ k_31) (fun _ h9 => h9) rfl d_C_addPair_73 ?_
          refine lv_iload_n hx hb d_C_addPair_76 rfl (lv_at hl 1 rfl) ?_
          obtain ⟨r18, hr17, hf⟩ := ob hf
          refine ro_calli (va_runSN (As := [.int p1]) (rest := [.int (x_cN (x_pri_s (x_cN_s st ((x_cN st) + (1 : Int32))) j14 (((x_pri (x_cN_s st ((x_cN st) + (1 : Int32))) j8) / (2520 : Int64)) * ((x_pri (x_cN_s st ((x_cN st) + (1 : Int32))) j11) / (2520 : Int64))))), .ref (a 3)]) ⟨hx, hb, hml, hown, hT⟩ (c_G_bit l p1 r18 hr17) ⟨va_cnB 1 hT (gcode k_221) rfl rfl rfl (hN _ k_393) (hT _ k_1) (by decide +kernel) ⟨Nat.le_of_ble_eq_true rfl, Nat.le_of_ble_eq_true rfl⟩, hT _ k_220, trivial⟩ ⟨fun _ _ _ _ q => q, fun _ _ _ => ⟨rfl, trivial⟩⟩ rfl rfl hl.1 rfl (lv_room (Nat.le_of_ble_eq_true rfl)) d_C_addPair_77 ⟨Nat.le_of_ble_eq_true rfl, Nat.le_of_ble_eq_true rfl⟩) ?_
          refine lv_iload_n hx hb d_C_addPair_80 rfl (lv_at hl 2 rfl) ?_
          obtain ⟨r20, hr19, hf⟩ := ob hf
          refine ro_calli (va_runSN (As := [.int p2]) (rest := [.int r18, .int (x_cN (x_pri_s (x_cN_s st ((x_cN st) + (1 : Int32))) j14 (((x_pri (x_cN_s st ((x_cN st) + (1 : Int32))) j8) / (2520 : Int64)) * ((x_pri (x_cN_s st ((x_cN st) + (1 : Int32))) j11) / (2520 : Int64))))), .ref (a 3)]) ⟨hx, hb, hml, hown, hT⟩ (c_G_bit l p2 r20 hr19) ⟨va_cnB 1 hT (gcode k_221) rfl rfl rfl (hN _ k_393) (hT _ k_1) (by decide +kernel) ⟨Nat.le_of_ble_eq_true rfl, Nat.le_of_ble_eq_true rfl⟩, hT _ k_220, trivial⟩ ⟨fun _ _ _ _ q => q, fun _ _ _ => ⟨rfl, trivial⟩⟩ rfl rfl hl.1 rfl (lv_room (Nat.le_of_ble_eq_true rfl)) d_C_addPair_81 ⟨Nat.le_of_ble_eq_true rfl, Nat.le_of_ble_eq_true rfl⟩) ?_
          refine lv_ior hx hb d_C_addPair_84 ?_
          obtain ⟨j21, ej23, hi22, hf⟩ := ix_some hf
          refine xa_iast hx hb hK hP (hD _) hS 3 1 rfl rfl ej23 hi22 d_C_addPair_85 (fun H locs hP hS => ?_)
          rw [x_mem_put cs a (x_pri_s (x_cN_s st ((x_cN st) + (1 : Int32))) j14 (((x_pri (x_cN_s st ((x_cN st) + (1 : Int32))) j8) / (2520 : Int64)) * ((x_pri (x_cN_s st ((x_cN st) + (1 : Int32))) j11) / (2520 : Int64)))) j21 (r18 ||| r20)] at hP
          refine lv_aload_n hx hb d_C_addPair_86 rfl (lv_at hl 0 rfl) ?_
          refine va_get (D := (dC, dI)) (ci := 1) (v := .int (x_cN (x_mem_s (x_pri_s (x_cN_s st ((x_cN st) + (1 : Int32))) j14 (((x_pri (x_cN_s st ((x_cN st) + (1 : Int32))) j8) / (2520 : Int64)) * ((x_pri (x_cN_s st ((x_cN st) + (1 : Int32))) j11) / (2520 : Int64)))) j21 (r18 ||| r20)))) (C := "GuideSearch$Causes") (T := F_C) (N := 5) hx hb hT i_C hown hK hP 1 rfl rfl 3 (by decide) (hT _ k_31) (fun _ h9 => h9) rfl d_C_addPair_87 ?_
          exact W.iret hx hb hr (fun t ht _ => ⟨⟨_, (), rfl, congrArg Prod.fst (Option.some.inj hf), x_fin ht (congrArg Prod.snd (Option.some.inj hf)) hP⟩, hS.F ht⟩) hS.2.2 d_C_addPair_90
        · rw [if_pos c7] at hf
          refine lv_bipush (v := (-4 : Int32)) hx hb d_C_addPair_25 (by decide) ?_
          exact W.iret hx hb hr (fun t ht _ => ⟨⟨_, (), rfl, congrArg Prod.fst (Option.some.inj hf), x_fin ht (congrArg Prod.snd (Option.some.inj hf)) hP⟩, hS.F ht⟩) hS.2.2 d_C_addPair_27
  exact main _ _ hP va_S.rf
set_option maxHeartbeats 4000000 in
set_option maxRecDepth 100000 in
theorem c_C_countLearned (l : Launch) (dC : Nat → ClassId) (dI : Nat → Nat → Nat) (cs : Nat → ClassId) (a : Nat → Nat) (hi : ∀ i j : Nat, i < 29 → j < 29 → a i = a j → i = j) (st : XS) (p1 : Int32) (res : Int32 × XS) (hf : x_C_countLearned st p1 = some res) : Met l (⟨"GuideSearch$Causes", "countLearned", "(I)I"⟩ : MethodName) (Cond.code (⟨"GuideSearch$Causes", "countLearned", "(I)I"⟩ : MethodName) prog_3_method_7_code 2 (some .int) :: wg) { frames := 0, cells := 0, slots := 0, locals := 0 } (va_Pc ([.ref (a 1), .int p1] : List Value) (x_pre dC dI cs a st)) (va_Qi (fun r (_ : Unit) => r = res.1) (fun _ t => va_P (dC, dI) vwCl (x_W cs a res.2) t.heap) (x_A a)) 0 0 (x_A a) := by
  refine ro_start (cc := prog_3_method_7_code) (maxL := 2) (ret := (some .int)) (by decide) (Nat.le_of_ble_eq_true rfl) ?_
  intro p e s m below meth c hx hb hr hml hT hown hlocks hB ls hl
  replace hown : s.vm.findClass "GuideSearch$Causes" = some m.cls := hown
  obtain ⟨hP, hK, hN⟩ := hB
  replace hl : lv_has ls 2 [(0, .ref (a 1)), (1, .int p1)] := hl
  unfold x_C_countLearned at hf
  have hD : ∀ st : XS, va_D (x_A a) (x_W cs a st) := fun st => x_D hi cs st
  have main : ∀ (H : Heap) (locs : List Loc), va_P (dC, dI) vwCl (x_W cs a st) H → va_S (x_A a) s.heap H locs → W p l e { frames := 0, cells := 0, slots := 0, locals := 0 } s m ([.ref (a 1), .int p1] : List Value).toArray below meth c H locs 0 0 (MQ below (va_Qi (fun r (_ : Unit) => r = res.1) (fun _ t => va_P (dC, dI) vwCl (x_W cs a res.2) t.heap) (x_A a)) ([.ref (a 1), .int p1] : List Value).toArray s 0 0 (x_A a)) (F0 m 0 ls []) := by
    intro H locs hP hS
    refine lv_iload_n hx hb d_C_countLearned_0 rfl (lv_at hl 1 rfl) ?_
    refine lv_if_lt (tgt := 10) hx hb d_C_countLearned_1 (by decide) (fun c1 => ?_) (fun c1 => ?_)
    · rw [if_pos c1] at hf
      refine lv_iconst (v := (-1 : Int32)) hx hb d_C_countLearned_10 (by decide) ?_
      exact W.iret hx hb hr (fun t ht _ => ⟨⟨_, (), rfl, congrArg Prod.fst (Option.some.inj hf), x_fin ht (congrArg Prod.snd (Option.some.inj hf)) hP⟩, hS.F ht⟩) hS.2.2 d_C_countLearned_11
    · rw [if_neg c1] at hf
      refine lv_iload_n hx hb d_C_countLearned_4 rfl (lv_at hl 1 rfl) ?_
      refine lv_bipush (v := (12 : Int32)) hx hb d_C_countLearned_5 (by decide) ?_
      refine lv_icmp_le (tgt := 12) hx hb d_C_countLearned_7 (by decide) (fun c2 => ?_) (fun c2 => ?_)
      · rw [if_pos c2] at hf
        refine lv_aload_n hx hb d_C_countLearned_12 rfl (lv_at hl 0 rfl) ?_
        refine va_get (D := (dC, dI)) (ci := 1) (v := .ref (a 4)) (C := "GuideSearch$Causes") (T := F_C) (N := 5) hx hb hT i_C hown hK hP 1 rfl rfl 2 (by decide) (hT _ k_30) (fun _ h9 => h9) rfl d_C_countLearned_13 ?_
        refine lv_iload_n hx hb d_C_countLearned_16 rfl (lv_at hl 1 rfl) ?_
        refine lv_dup2_11 hx hb d_C_countLearned_17 rfl rfl ?_
        obtain ⟨j3, ej5, hi4, hf⟩ := ix_some hf
        refine xa_iald hx hb hK hP 4 1 rfl rfl ej5 hi4 d_C_countLearned_18 ?_
        refine lv_iconst (v := (1 : Int32)) hx hb d_C_countLearned_19 (by decide) ?_
        refine lv_iadd hx hb d_C_countLearned_20 ?_
        obtain ⟨j6, ej8, hi7, hf⟩ := ix_some hf
        refine xa_iast hx hb hK hP (hD _) hS 4 1 rfl rfl ej8 hi7 d_C_countLearned_21 (fun H locs hP hS => ?_)
        rw [x_lea_put cs a st j6 ((x_lea st j3) + (1 : Int32))] at hP
        refine lv_aload_n hx hb d_C_countLearned_22 rfl (lv_at hl 0 rfl) ?_
        refine va_get (D := (dC, dI)) (ci := 1) (v := .ref (a 4)) (C := "GuideSearch$Causes") (T := F_C) (N := 5) hx hb hT i_C hown hK hP 1 rfl rfl 2 (by decide) (hT _ k_30) (fun _ h9 => h9) rfl d_C_countLearned_23 ?_
        refine lv_iload_n hx hb d_C_countLearned_26 rfl (lv_at hl 1 rfl) ?_
        obtain ⟨j9, ej11, hi10, hf⟩ := ix_some hf
        refine xa_iald hx hb hK hP 4 1 rfl rfl ej11 hi10 d_C_countLearned_27 ?_
        exact W.iret hx hb hr (fun t ht _ => ⟨⟨_, (), rfl, congrArg Prod.fst (Option.some.inj hf), x_fin ht (congrArg Prod.snd (Option.some.inj hf)) hP⟩, hS.F ht⟩) hS.2.2 d_C_countLearned_28
      · rw [if_neg c2] at hf
        refine lv_iconst (v := (-1 : Int32)) hx hb d_C_countLearned_10 (by decide) ?_
        exact W.iret hx hb hr (fun t ht _ => ⟨⟨_, (), rfl, congrArg Prod.fst (Option.some.inj hf), x_fin ht (congrArg Prod.snd (Option.some.inj hf)) hP⟩, hS.F ht⟩) hS.2.2 d_C_countLearned_11
  exact main _ _ hP va_S.rf
