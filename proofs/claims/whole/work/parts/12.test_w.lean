set_option maxHeartbeats 4000000 in
set_option maxRecDepth 100000 in
theorem c_C_addFault (l : Launch) (dC : Nat → ClassId) (dI : Nat → Nat → Nat) (cs : Nat → ClassId) (a : Nat → Nat) (hi : ∀ i j : Nat, i < 29 → j < 29 → a i = a j → i = j) (st : XS) (p1 : Int64) (res : Int32 × XS) (hf : x_C_addFault st p1 = some res) : Met l (⟨"GuideSearch$Causes", "addFault", "(J)I"⟩ : MethodName) (Cond.code (⟨"GuideSearch$Causes", "addFault", "(J)I"⟩ : MethodName) prog_3_method_5_code 3 (some .int) :: wg) { frames := 0, cells := 0, slots := 0, locals := 0 } (va_Pc ([.ref (a 1), .long p1] : List Value) (x_pre dC dI cs a st)) (va_Qi (fun r (_ : Unit) => r = res.1) (fun _ t => va_P (dC, dI) vwCl (x_W cs a res.2) t.heap) (x_A a)) 0 0 (x_A a) := by
  refine ro_start (cc := prog_3_method_5_code) (maxL := 3) (ret := (some .int)) (by decide) (Nat.le_of_ble_eq_true rfl) ?_
  intro p e s m below meth c hx hb hr hml hT hown hlocks hB ls hl
  replace hown : s.vm.findClass "GuideSearch$Causes" = some m.cls := hown
  obtain ⟨hP, hK, hN⟩ := hB
  replace hl : lv_has ls 3 [(0, .ref (a 1)), (1, .long p1)] := hl
  unfold x_C_addFault at hf
  have hD : ∀ st : XS, va_D (x_A a) (x_W cs a st) := fun st => x_D hi cs st
  have main : ∀ (H : Heap) (locs : List Loc), va_P (dC, dI) vwCl (x_W cs a st) H → va_S (x_A a) s.heap H locs → W p l e { frames := 0, cells := 0, slots := 0, locals := 0 } s m ([.ref (a 1), .long p1] : List Value).toArray below meth c H locs 0 0 (MQ below (va_Qi (fun r (_ : Unit) => r = res.1) (fun _ t => va_P (dC, dI) vwCl (x_W cs a res.2) t.heap) (x_A a)) ([.ref (a 1), .long p1] : List Value).toArray s 0 0 (x_A a)) (F0 m 0 ls []) := by
    intro H locs hP hS
    refine lv_aload_n hx hb d_C_addFault_0 rfl (lv_at hl 0 rfl) ?_
    refine va_get (D := (dC, dI)) (ci := 1) (v := .int (x_cN st)) (C := "GuideSearch$Causes") (T := F_C) (N := 5) hx hb hT i_C hown hK hP 1 rfl rfl 3 (by decide) (hT _ k_31) (fun _ h9 => h9) rfl d_C_addFault_1 ?_
    refine lv_bipush (v := (12 : Int32)) hx hb d_C_addFault_4 (by decide) ?_
    refine lv_icmp_lt (tgt := 12) hx hb d_C_addFault_6 (by decide) (fun c1 => ?_) (fun c1 => ?_)
    · rw [if_pos c1] at hf
      refine lv_aload_n hx hb d_C_addFault_12 rfl (lv_at hl 0 rfl) ?_
      refine lv_dup hx hb d_C_addFault_13 rfl ?_
      refine va_get (D := (dC, dI)) (ci := 1) (v := .int (x_cN st)) (C := "GuideSearch$Causes") (T := F_C) (N := 5) hx hb hT i_C hown hK hP 1 rfl rfl 3 (by decide) (hT _ k_31) (fun _ h9 => h9) rfl d_C_addFault_14 ?_
      refine lv_iconst (v := (1 : Int32)) hx hb d_C_addFault_17 (by decide) ?_
      refine lv_iadd hx hb d_C_addFault_18 ?_
      refine va_put (D := (dC, dI)) (ci := 1) (v := .int ((x_cN st) + (1 : Int32))) (ty := .int) (C := "GuideSearch$Causes") (T := F_C) (N := 5) hx hb hT i_C ft_C ft_C_ok n_C hown hK hP (hD _) hS 1 rfl rfl 3 (by decide) (hT _ k_31) (fun _ h9 => h9) rfl (by decide +kernel) rfl rfl (Nat.le_of_ble_eq_true rfl) d_C_addFault_19 (fun H locs hP _ hS => ?_)
      have hP : va_P (dC, dI) vwCl (x_W cs a (x_cN_s st ((x_cN st) + (1 : Int32)))) H := hP
      refine lv_aload_n hx hb d_C_addFault_22 rfl (lv_at hl 0 rfl) ?_
      refine lv_dup hx hb d_C_addFault_23 rfl ?_
      refine va_get (D := (dC, dI)) (ci := 1) (v := .int (x_fN (x_cN_s st ((x_cN st) + (1 : Int32))))) (C := "GuideSearch$Causes") (T := F_C) (N := 5) hx hb hT i_C hown hK hP 1 rfl rfl 4 (by decide) (hT _ k_34) (fun _ h9 => h9) rfl d_C_addFault_24 ?_
      refine lv_iconst (v := (1 : Int32)) hx hb d_C_addFault_27 (by decide) ?_
      refine lv_iadd hx hb d_C_addFault_28 ?_
      refine va_put (D := (dC, dI)) (ci := 1) (v := .int ((x_fN (x_cN_s st ((x_cN st) + (1 : Int32)))) + (1 : Int32))) (ty := .int) (C := "GuideSearch$Causes") (T := F_C) (N := 5) hx hb hT i_C ft_C ft_C_ok n_C hown hK hP (hD _) hS 1 rfl rfl 4 (by decide) (hT _ k_34) (fun _ h9 => h9) rfl (by decide +kernel) rfl rfl (Nat.le_of_ble_eq_true rfl) d_C_addFault_29 (fun H locs hP _ hS => ?_)
      have hP : va_P (dC, dI) vwCl (x_W cs a (x_fN_s (x_cN_s st ((x_cN st) + (1 : Int32))) ((x_fN (x_cN_s st ((x_cN st) + (1 : Int32)))) + (1 : Int32)))) H := hP
      refine lv_aload_n hx hb d_C_addFault_32 rfl (lv_at hl 0 rfl) ?_
      refine va_get (D := (dC, dI)) (ci := 1) (v := .ref (a 2)) (C := "GuideSearch$Causes") (T := F_C) (N := 5) hx hb hT i_C hown hK hP 1 rfl rfl 0 (by decide) (hT _ k_28) (fun _ h9 => h9) rfl d_C_addFault_33 ?_
      refine lv_aload_n hx hb d_C_addFault_36 rfl (lv_at hl 0 rfl) ?_
      refine va_get (D := (dC, dI)) (ci := 1) (v := .int (x_cN (x_fN_s (x_cN_s st ((x_cN st) + (1 : Int32))) ((x_fN (x_cN_s st ((x_cN st) + (1 : Int32)))) + (1 : Int32))))) (C := "GuideSearch$Causes") (T := F_C) (N := 5) hx hb hT i_C hown hK hP 1 rfl rfl 3 (by decide) (hT _ k_31) (fun _ h9 => h9) rfl d_C_addFault_37 ?_
      refine lv_lload_n hx hb d_C_addFault_40 rfl (lv_at hl 1 rfl) ?_
      refine lv_ldc2 (v := (2520 : Int64)) hx hb hown (hT _ k_158) d_C_addFault_41 ?_
      refine lv_lmul hx hb d_C_addFault_44 ?_
      obtain ⟨j2, ej4, hi3, hf⟩ := ix_some hf
      refine xa_last hx hb hK hP (hD _) hS 2 0 rfl rfl ej4 hi3 d_C_addFault_45 (fun H locs hP hS => ?_)
      have hP : va_P (dC, dI) vwCl (x_W cs a (x_pri_s (x_fN_s (x_cN_s st ((x_cN st) + (1 : Int32))) ((x_fN (x_cN_s st ((x_cN st) + (1 : Int32)))) + (1 : Int32))) j2 (p1 * (2520 : Int64)))) H := hP
      refine lv_aload_n hx hb d_C_addFault_46 rfl (lv_at hl 0 rfl) ?_
      refine va_get (D := (dC, dI)) (ci := 1) (v := .int (x_cN (x_pri_s (x_fN_s (x_cN_s st ((x_cN st) + (1 : Int32))) ((x_fN (x_cN_s st ((x_cN st) + (1 : Int32)))) + (1 : Int32))) j2 (p1 * (2520 : Int64))))) (C := "GuideSearch$Causes") (T := F_C) (N := 5) hx hb hT i_C hown hK hP 1 rfl rfl 3 (by decide) (hT _ k_31) (fun _ h9 => h9) rfl d_C_addFault_47 ?_
      exact W.iret hx hb hr (fun t ht _ => ⟨⟨_, (), rfl, congrArg Prod.fst (Option.some.inj hf), x_fin ht (congrArg Prod.snd (Option.some.inj hf)) hP⟩, hS.F ht⟩) hS.2.2 d_C_addFault_50
    · rw [if_neg c1] at hf
      refine lv_bipush (v := (-4 : Int32)) hx hb d_C_addFault_9 (by decide) ?_
      exact W.iret hx hb hr (fun t ht _ => ⟨⟨_, (), rfl, congrArg Prod.fst (Option.some.inj hf), x_fin ht (congrArg Prod.snd (Option.some.inj hf)) hP⟩, hS.F ht⟩) hS.2.2 d_C_addFault_11
  exact main _ _ hP va_S.rf
set_option maxHeartbeats 4000000 in
set_option maxRecDepth 100000 in
theorem c_T_knows (l : Launch) (dC : Nat → ClassId) (dI : Nat → Nat → Nat) (cs : Nat → ClassId) (a : Nat → Nat) (st : XS) (p1 : Int32) (res : Int32) (hf : x_T_knows st p1 = some res) : Met l (⟨"GuideSearch$Tests", "knows", "(I)Z"⟩ : MethodName) (Cond.code (⟨"GuideSearch$Tests", "knows", "(I)Z"⟩ : MethodName) prog_5_method_2_code 2 (some .boolean) :: wg) { frames := 0, cells := 0, slots := 0, locals := 0 } (va_Pc ([.ref (a 5), .int p1] : List Value) (x_pre dC dI cs a st)) (vp_Si (fun r => r = res)) 0 0 (fun _ => False) := by
  refine ro_start (cc := prog_5_method_2_code) (maxL := 2) (ret := (some .boolean)) (by decide) (Nat.le_of_ble_eq_true rfl) ?_
  intro p e s m below meth c hx hb hr hml hT hown hlocks hB ls hl
  replace hown : s.vm.findClass "GuideSearch$Tests" = some m.cls := hown
  obtain ⟨hP, hK, hN⟩ := hB
  replace hl : lv_has ls 2 [(0, .ref (a 5)), (1, .int p1)] := hl
  unfold x_T_knows at hf
  refine lv_iload_n hx hb d_T_knows_0 rfl (lv_at hl 1 rfl) ?_
  refine lv_iconst (v := (1 : Int32)) hx hb d_T_knows_1 (by decide) ?_
  refine lv_icmp_lt (tgt := 22) hx hb d_T_knows_2 (by decide) (fun c1 => ?_) (fun c1 => ?_)
  · rw [if_pos c1] at hf
    refine lv_iconst (v := (0 : Int32)) hx hb d_T_knows_22 (by decide) ?_
    exact W.zret (ty := .boolean) hx hb hr (rfl) (fun t ht _ => ⟨_, rfl, Option.some.inj hf, ht⟩) (fun _ h => absurd h List.not_mem_nil) d_T_knows_23
  · rw [if_neg c1] at hf
    refine lv_iload_n hx hb d_T_knows_5 rfl (lv_at hl 1 rfl) ?_
    refine lv_aload_n hx hb d_T_knows_6 rfl (lv_at hl 0 rfl) ?_
    refine va_get (D := (dC, dI)) (ci := 2) (v := .int (x_tN st)) (C := "GuideSearch$Tests") (T := F_T) (N := 4) hx hb hT i_T hown hK hP 5 rfl rfl 3 (by decide) (hT _ k_63) (fun _ h9 => h9) rfl d_T_knows_7 ?_
    refine lv_icmp_gt (tgt := 22) hx hb d_T_knows_10 (by decide) (fun c2 => ?_) (fun c2 => ?_)
    · rw [if_pos c2] at hf
      refine lv_iconst (v := (0 : Int32)) hx hb d_T_knows_22 (by decide) ?_
      exact W.zret (ty := .boolean) hx hb hr (rfl) (fun t ht _ => ⟨_, rfl, Option.some.inj hf, ht⟩) (fun _ h => absurd h List.not_mem_nil) d_T_knows_23
    · rw [if_neg c2] at hf
      refine lv_iload_n hx hb d_T_knows_13 rfl (lv_at hl 1 rfl) ?_
      refine lv_iconst (v := (5 : Int32)) hx hb d_T_knows_14 (by decide) ?_
      refine lv_icmp_gt (tgt := 22) hx hb d_T_knows_15 (by decide) (fun c3 => ?_) (fun c3 => ?_)
      · rw [if_pos c3] at hf
        refine lv_iconst (v := (0 : Int32)) hx hb d_T_knows_22 (by decide) ?_
        exact W.zret (ty := .boolean) hx hb hr (rfl) (fun t ht _ => ⟨_, rfl, Option.some.inj hf, ht⟩) (fun _ h => absurd h List.not_mem_nil) d_T_knows_23
      · rw [if_neg c3] at hf
        refine lv_iconst (v := (1 : Int32)) hx hb d_T_knows_18 (by decide) ?_
        refine lv_goto (tgt := 23) hx hb d_T_knows_19 (by decide) ?_
        exact W.zret (ty := .boolean) hx hb hr (rfl) (fun t ht _ => ⟨_, rfl, Option.some.inj hf, ht⟩) (fun _ h => absurd h List.not_mem_nil) d_T_knows_23
set_option maxHeartbeats 4000000 in
set_option maxRecDepth 100000 in
theorem c_C_knows (l : Launch) (dC : Nat → ClassId) (dI : Nat → Nat → Nat) (cs : Nat → ClassId) (a : Nat → Nat) (st : XS) (p1 : Int32) (res : Int32) (hf : x_C_knows st p1 = some res) : Met l (⟨"GuideSearch$Causes", "knows", "(I)Z"⟩ : MethodName) (Cond.code (⟨"GuideSearch$Causes", "knows", "(I)Z"⟩ : MethodName) prog_3_method_2_code 2 (some .boolean) :: wg) { frames := 0, cells := 0, slots := 0, locals := 0 } (va_Pc ([.ref (a 1), .int p1] : List Value) (x_pre dC dI cs a st)) (vp_Si (fun r => r = res)) 0 0 (fun _ => False) := by
  refine ro_start (cc := prog_3_method_2_code) (maxL := 2) (ret := (some .boolean)) (by decide) (Nat.le_of_ble_eq_true rfl) ?_
  intro p e s m below meth c hx hb hr hml hT hown hlocks hB ls hl
  replace hown : s.vm.findClass "GuideSearch$Causes" = some m.cls := hown
  obtain ⟨hP, hK, hN⟩ := hB
  replace hl : lv_has ls 2 [(0, .ref (a 1)), (1, .int p1)] := hl
  unfold x_C_knows at hf
  refine lv_iload_n hx hb d_C_knows_0 rfl (lv_at hl 1 rfl) ?_
  refine lv_iconst (v := (1 : Int32)) hx hb d_C_knows_1 (by decide) ?_
  refine lv_icmp_lt (tgt := 23) hx hb d_C_knows_2 (by decide) (fun c1 => ?_) (fun c1 => ?_)
  · rw [if_pos c1] at hf
    refine lv_iconst (v := (0 : Int32)) hx hb d_C_knows_23 (by decide) ?_
    exact W.zret (ty := .boolean) hx hb hr (rfl) (fun t ht _ => ⟨_, rfl, Option.some.inj hf, ht⟩) (fun _ h => absurd h List.not_mem_nil) d_C_knows_24
  · rw [if_neg c1] at hf
    refine lv_iload_n hx hb d_C_knows_5 rfl (lv_at hl 1 rfl) ?_
    refine lv_aload_n hx hb d_C_knows_6 rfl (lv_at hl 0 rfl) ?_
    refine va_get (D := (dC, dI)) (ci := 1) (v := .int (x_cN st)) (C := "GuideSearch$Causes") (T := F_C) (N := 5) hx hb hT i_C hown hK hP 1 rfl rfl 3 (by decide) (hT _ k_31) (fun _ h9 => h9) rfl d_C_knows_7 ?_
    refine lv_icmp_gt (tgt := 23) hx hb d_C_knows_10 (by decide) (fun c2 => ?_) (fun c2 => ?_)
    · rw [if_pos c2] at hf
      refine lv_iconst (v := (0 : Int32)) hx hb d_C_knows_23 (by decide) ?_
      exact W.zret (ty := .boolean) hx hb hr (rfl) (fun t ht _ => ⟨_, rfl, Option.some.inj hf, ht⟩) (fun _ h => absurd h List.not_mem_nil) d_C_knows_24
    · rw [if_neg c2] at hf
      refine lv_iload_n hx hb d_C_knows_13 rfl (lv_at hl 1 rfl) ?_
      refine lv_bipush (v := (12 : Int32)) hx hb d_C_knows_14 (by decide) ?_
      refine lv_icmp_gt (tgt := 23) hx hb d_C_knows_16 (by decide) (fun c3 => ?_) (fun c3 => ?_)
      · rw [if_pos c3] at hf
        refine lv_iconst (v := (0 : Int32)) hx hb d_C_knows_23 (by decide) ?_
        exact W.zret (ty := .boolean) hx hb hr (rfl) (fun t ht _ => ⟨_, rfl, Option.some.inj hf, ht⟩) (fun _ h => absurd h List.not_mem_nil) d_C_knows_24
      · rw [if_neg c3] at hf
        refine lv_iconst (v := (1 : Int32)) hx hb d_C_knows_19 (by decide) ?_
        refine lv_goto (tgt := 24) hx hb d_C_knows_20 (by decide) ?_
        exact W.zret (ty := .boolean) hx hb hr (rfl) (fun t ht _ => ⟨_, rfl, Option.some.inj hf, ht⟩) (fun _ h => absurd h List.not_mem_nil) d_C_knows_24
set_option maxHeartbeats 4000000 in
set_option maxRecDepth 100000 in
theorem c_G_isAnswer (l : Launch) (p0 : Int32) (res : Int32) (hf : x_G_isAnswer p0 = some res) : Met l (⟨"GuideSearch", "isAnswer", "(I)Z"⟩ : MethodName) (Cond.code (⟨"GuideSearch", "isAnswer", "(I)Z"⟩ : MethodName) prog_1_method_15_code 1 (some .boolean) :: wg) { frames := 0, cells := 0, slots := 0, locals := 0 } (va_Pc ([.int p0] : List Value) (fun _ => True)) (vp_Si (fun r => r = res)) 0 0 (fun _ => False) := by
  refine ro_start (cc := prog_1_method_15_code) (maxL := 1) (ret := (some .boolean)) (by decide) (Nat.le_of_ble_eq_true rfl) ?_
  intro p e s m below meth c hx hb hr hml hT hown hlocks hB ls hl
  replace hown : s.vm.findClass "GuideSearch" = some m.cls := hown
  replace hl : lv_has ls 1 [(0, .int p0)] := hl
  unfold x_G_isAnswer at hf
  refine lv_iload_n hx hb d_G_isAnswer_0 rfl (lv_at hl 0 rfl) ?_
  refine lv_if_lt (tgt := 13) hx hb d_G_isAnswer_1 (by decide) (fun c1 => ?_) (fun c1 => ?_)
  · rw [if_pos c1] at hf
    refine lv_iconst (v := (0 : Int32)) hx hb d_G_isAnswer_13 (by decide) ?_
    exact W.zret (ty := .boolean) hx hb hr (rfl) (fun t ht _ => ⟨_, rfl, Option.some.inj hf, ht⟩) (fun _ h => absurd h List.not_mem_nil) d_G_isAnswer_14
  · rw [if_neg c1] at hf
    refine lv_iload_n hx hb d_G_isAnswer_4 rfl (lv_at hl 0 rfl) ?_
    refine lv_iconst (v := (3 : Int32)) hx hb d_G_isAnswer_5 (by decide) ?_
    refine lv_icmp_ge (tgt := 13) hx hb d_G_isAnswer_6 (by decide) (fun c2 => ?_) (fun c2 => ?_)
    · rw [if_pos c2] at hf
      refine lv_iconst (v := (0 : Int32)) hx hb d_G_isAnswer_13 (by decide) ?_
      exact W.zret (ty := .boolean) hx hb hr (rfl) (fun t ht _ => ⟨_, rfl, Option.some.inj hf, ht⟩) (fun _ h => absurd h List.not_mem_nil) d_G_isAnswer_14
    · rw [if_neg c2] at hf
      refine lv_iconst (v := (1 : Int32)) hx hb d_G_isAnswer_9 (by decide) ?_
      refine lv_goto (tgt := 14) hx hb d_G_isAnswer_10 (by decide) ?_
      exact W.zret (ty := .boolean) hx hb hr (rfl) (fun t ht _ => ⟨_, rfl, Option.some.inj hf, ht⟩) (fun _ h => absurd h List.not_mem_nil) d_G_isAnswer_14
set_option maxHeartbeats 4000000 in
set_option maxRecDepth 100000 in
theorem c_T_hasPlace (l : Launch) (dC : Nat → ClassId) (dI : Nat → Nat → Nat) (cs : Nat → ClassId) (a : Nat → Nat) (st : XS) (p1 : Int32) (p2 : Int32) (res : Int32) (hf : x_T_hasPlace st p1 p2 = some res) : Met l (⟨"GuideSearch$Tests", "hasPlace", "(II)Z"⟩ : MethodName) (Cond.code (⟨"GuideSearch$Tests", "hasPlace", "(II)Z"⟩ : MethodName) prog_5_method_14_code 3 (some .boolean) :: wg) { frames := 1, cells := 0, slots := 0, locals := 21 } (va_Pc ([.ref (a 5), .int p1, .int p2] : List Value) (x_pre dC dI cs a st)) (vp_Si (fun r => r = res)) 0 0 (fun _ => False) := by
  refine ro_start (cc := prog_5_method_14_code) (maxL := 3) (ret := (some .boolean)) (by decide) (Nat.le_of_ble_eq_true rfl) ?_
  intro p e s m below meth c hx hb hr hml hT hown hlocks hB ls hl
  replace hown : s.vm.findClass "GuideSearch$Tests" = some m.cls := hown
  obtain ⟨hP, hK, hN⟩ := hB
  replace hl : lv_has ls 3 [(0, .ref (a 5)), (1, .int p1), (2, .int p2)] := hl
  unfold x_T_hasPlace at hf
  refine lv_aload_n hx hb d_T_hasPlace_0 rfl (lv_at hl 0 rfl) ?_
  refine lv_iload_n hx hb d_T_hasPlace_1 rfl (lv_at hl 1 rfl) ?_
  obtain ⟨r2, hr1, hf⟩ := ob hf
  refine ro_calli (va_runV (C := "GuideSearch$Tests") (As := [.int p1]) (rest := []) ⟨hx, hb, hml, hown, hT⟩ (c_T_knows l dC dI cs a st p1 r2 hr1) (cwV 1 hT (gV k_199 k_173 k_174 k_3 k_175) rfl rfl rfl (by decide +kernel) ⟨Nat.le_of_ble_eq_true rfl, Nat.le_of_ble_eq_true rfl⟩) (ro_preV hP hK hN (va_recv hK hP (ci := 2) (q0 := 5) rfl rfl)) rfl rfl hl.1 rfl (lv_room (Nat.le_of_ble_eq_true rfl)) d_T_hasPlace_2 ⟨Nat.le_of_ble_eq_true rfl, Nat.le_of_ble_eq_true rfl⟩) ?_
  refine lv_if_eq (tgt := 23) hx hb d_T_hasPlace_5 (by decide) (fun c3 => ?_) (fun c3 => ?_)
  · rw [if_pos c3] at hf
    refine lv_iconst (v := (0 : Int32)) hx hb d_T_hasPlace_23 (by decide) ?_
    exact W.zret (ty := .boolean) hx hb hr (rfl) (fun t ht _ => ⟨_, rfl, Option.some.inj hf, ht⟩) (fun _ h => absurd h List.not_mem_nil) d_T_hasPlace_24
  · rw [if_neg c3] at hf
    refine lv_iload_n hx hb d_T_hasPlace_8 rfl (lv_at hl 2 rfl) ?_
    refine lv_iconst (v := (1 : Int32)) hx hb d_T_hasPlace_9 (by decide) ?_
    refine lv_icmp_lt (tgt := 23) hx hb d_T_hasPlace_10 (by decide) (fun c4 => ?_) (fun c4 => ?_)
    · rw [if_pos c4] at hf
      refine lv_iconst (v := (0 : Int32)) hx hb d_T_hasPlace_23 (by decide) ?_
      exact W.zret (ty := .boolean) hx hb hr (rfl) (fun t ht _ => ⟨_, rfl, Option.some.inj hf, ht⟩) (fun _ h => absurd h List.not_mem_nil) d_T_hasPlace_24
    · rw [if_neg c4] at hf
      refine lv_iload_n hx hb d_T_hasPlace_13 rfl (lv_at hl 2 rfl) ?_
      refine lv_bipush (v := (12 : Int32)) hx hb d_T_hasPlace_14 (by decide) ?_
      refine lv_icmp_gt (tgt := 23) hx hb d_T_hasPlace_16 (by decide) (fun c5 => ?_) (fun c5 => ?_)
      · rw [if_pos c5] at hf
        refine lv_iconst (v := (0 : Int32)) hx hb d_T_hasPlace_23 (by decide) ?_
        exact W.zret (ty := .boolean) hx hb hr (rfl) (fun t ht _ => ⟨_, rfl, Option.some.inj hf, ht⟩) (fun _ h => absurd h List.not_mem_nil) d_T_hasPlace_24
      · rw [if_neg c5] at hf
        refine lv_iconst (v := (1 : Int32)) hx hb d_T_hasPlace_19 (by decide) ?_
        refine lv_goto (tgt := 24) hx hb d_T_hasPlace_20 (by decide) ?_
        exact W.zret (ty := .boolean) hx hb hr (rfl) (fun t ht _ => ⟨_, rfl, Option.some.inj hf, ht⟩) (fun _ h => absurd h List.not_mem_nil) d_T_hasPlace_24
set_option maxHeartbeats 4000000 in
set_option maxRecDepth 100000 in
theorem c_T_twelfths (l : Launch) (dC : Nat → ClassId) (dI : Nat → Nat → Nat) (cs : Nat → ClassId) (a : Nat → Nat) (st : XS) (p1 : Int32) (p2 : Int32) (p3 : Int32) (res : Int32) (hf : x_T_twelfths st p1 p2 p3 = some res) : Met l (⟨"GuideSearch$Tests", "twelfths", "(III)I"⟩ : MethodName) (Cond.code (⟨"GuideSearch$Tests", "twelfths", "(III)I"⟩ : MethodName) prog_5_method_5_code 4 (some .int) :: wg) { frames := 2, cells := 0, slots := 0, locals := 43 } (va_Pc ([.ref (a 5), .int p1, .int p2, .int p3] : List Value) (x_pre dC dI cs a st)) (vp_Si (fun r => r = res)) 0 0 (fun _ => False) := by
  refine ro_start (cc := prog_5_method_5_code) (maxL := 4) (ret := (some .int)) (by decide) (Nat.le_of_ble_eq_true rfl) ?_
  intro p e s m below meth c hx hb hr hml hT hown hlocks hB ls hl
  replace hown : s.vm.findClass "GuideSearch$Tests" = some m.cls := hown
  obtain ⟨hP, hK, hN⟩ := hB
  replace hl : lv_has ls 4 [(0, .ref (a 5)), (1, .int p1), (2, .int p2), (3, .int p3)] := hl
  unfold x_T_twelfths at hf
  refine lv_aload_n hx hb d_T_twelfths_0 rfl (lv_at hl 0 rfl) ?_
  refine lv_iload_n hx hb d_T_twelfths_1 rfl (lv_at hl 1 rfl) ?_
  refine lv_iload_n hx hb d_T_twelfths_2 rfl (lv_at hl 2 rfl) ?_
  obtain ⟨r2, hr1, hf⟩ := ob hf
  refine ro_calli (va_runV (C := "GuideSearch$Tests") (As := [.int p1, .int p2]) (rest := []) ⟨hx, hb, hml, hown, hT⟩ (c_T_hasPlace l dC dI cs a st p1 p2 r2 hr1) (cwV 2 hT (gV k_195 k_197 ks_0 k_3 k_198) rfl rfl rfl (by decide +kernel) ⟨Nat.le_of_ble_eq_true rfl, Nat.le_of_ble_eq_true rfl⟩) (ro_preV hP hK hN (va_recv hK hP (ci := 2) (q0 := 5) rfl rfl)) rfl rfl hl.1 rfl (lv_room (Nat.le_of_ble_eq_true rfl)) d_T_twelfths_3 ⟨Nat.le_of_ble_eq_true rfl, Nat.le_of_ble_eq_true rfl⟩) ?_
  refine lv_if_ne (tgt := 11) hx hb d_T_twelfths_6 (by decide) (fun c3 => ?_) (fun c3 => ?_)
  · rw [if_neg c3] at hf
    refine lv_aload_n hx hb d_T_twelfths_11 rfl (lv_at hl 0 rfl) ?_
    refine va_get (D := (dC, dI)) (ci := 2) (v := .ref (a 8)) (C := "GuideSearch$Tests") (T := F_T) (N := 4) hx hb hT i_T hown hK hP 5 rfl rfl 2 (by decide) (hT _ k_62) (fun _ h9 => h9) rfl d_T_twelfths_12 ?_
    refine lv_iload_n hx hb d_T_twelfths_15 rfl (lv_at hl 1 rfl) ?_
    obtain ⟨j4, ej6, hi5, hf⟩ := ix_some hf
    refine xa_aald hx hb hK hP 8 3 rfl rfl ej6 hi5 (if_pos (ix_lt ej6 hi5)) d_T_twelfths_16 ?_
    have hj4 : j4 < 6 := ix_lt ej6 hi5
    refine lv_iload_n hx hb d_T_twelfths_17 rfl (lv_at hl 2 rfl) ?_
    obtain ⟨j8, ej10, hi9, hf⟩ := ix_some hf
    refine xa_iald hx hb hK hP (9 + j4) 1 (x_tab_row cs a st hj4) rfl ej10 hi9 d_T_twelfths_18 ?_
    refine lv_iconst (v := (4 : Int32)) hx hb d_T_twelfths_19 (by decide) ?_
    refine lv_iload_n hx hb d_T_twelfths_20 rfl (lv_at hl 3 rfl) ?_
    refine lv_imul hx hb d_T_twelfths_21 ?_
    refine lv_ishr hx hb d_T_twelfths_22 ?_
    refine lv_bipush (v := (15 : Int32)) hx hb d_T_twelfths_23 (by decide) ?_
    refine lv_iand hx hb d_T_twelfths_25 ?_
    exact W.iret hx hb hr (fun t ht _ => ⟨_, rfl, Option.some.inj hf, ht⟩) (fun _ h => absurd h List.not_mem_nil) d_T_twelfths_26
  · rw [if_pos c3] at hf
    refine lv_iconst (v := (0 : Int32)) hx hb d_T_twelfths_9 (by decide) ?_
    exact W.iret hx hb hr (fun t ht _ => ⟨_, rfl, Option.some.inj hf, ht⟩) (fun _ h => absurd h List.not_mem_nil) d_T_twelfths_10
set_option maxHeartbeats 4000000 in
set_option maxRecDepth 100000 in
theorem c_G_bit (l : Launch) (p0 : Int32) (res : Int32) (hf : x_G_bit p0 = some res) : Met l (⟨"GuideSearch", "bit", "(I)I"⟩ : MethodName) (Cond.code (⟨"GuideSearch", "bit", "(I)I"⟩ : MethodName) prog_1_method_17_code 1 (some .int) :: wg) { frames := 0, cells := 0, slots := 0, locals := 0 } (va_Pc ([.int p0] : List Value) (fun _ => True)) (vp_Si (fun r => r = res)) 0 0 (fun _ => False) := by
  refine ro_start (cc := prog_1_method_17_code) (maxL := 1) (ret := (some .int)) (by decide) (Nat.le_of_ble_eq_true rfl) ?_
  intro p e s m below meth c hx hb hr hml hT hown hlocks hB ls hl
  replace hown : s.vm.findClass "GuideSearch" = some m.cls := hown
  replace hl : lv_has ls 1 [(0, .int p0)] := hl
  unfold x_G_bit at hf
  refine lv_iconst (v := (1 : Int32)) hx hb d_G_bit_0 (by decide) ?_
  refine lv_iload_n hx hb d_G_bit_1 rfl (lv_at hl 0 rfl) ?_
  refine lv_ishl hx hb d_G_bit_2 ?_
  exact W.iret hx hb hr (fun t ht _ => ⟨_, rfl, Option.some.inj hf, ht⟩) (fun _ h => absurd h List.not_mem_nil) d_G_bit_3
set_option maxHeartbeats 4000000 in
set_option maxRecDepth 100000 in
theorem c_G_holds (l : Launch) (p0 : Int32) (p1 : Int32) (res : Int32) (hf : x_G_holds p0 p1 = some res) : Met l (⟨"GuideSearch", "holds", "(II)Z"⟩ : MethodName) (Cond.code (⟨"GuideSearch", "holds", "(II)Z"⟩ : MethodName) prog_1_method_18_code 2 (some .boolean) :: wg) { frames := 1, cells := 0, slots := 0, locals := 20 } (va_Pc ([.int p0, .int p1] : List Value) (fun _ => True)) (vp_Si (fun r => r = res)) 0 0 (fun _ => False) := by
  refine ro_start (cc := prog_1_method_18_code) (maxL := 2) (ret := (some .boolean)) (by decide) (Nat.le_of_ble_eq_true rfl) ?_
  intro p e s m below meth c hx hb hr hml hT hown hlocks hB ls hl
  replace hown : s.vm.findClass "GuideSearch" = some m.cls := hown
  replace hl : lv_has ls 2 [(0, .int p0), (1, .int p1)] := hl
  unfold x_G_holds at hf
  refine lv_iload_n hx hb d_G_holds_0 rfl (lv_at hl 0 rfl) ?_
  refine lv_iload_n hx hb d_G_holds_1 rfl (lv_at hl 1 rfl) ?_
  obtain ⟨r2, hr1, hf⟩ := ob hf
  refine ro_calli (va_runS (As := [.int p1]) (rest := [.int p0]) ⟨hx, hb, hml, hown, hT⟩ (c_G_bit l p1 r2 hr1) (va_cwS 1 hT (gS k_219 k_220 k_1 k_221) rfl rfl rfl (by decide +kernel) ⟨Nat.le_of_ble_eq_true rfl, Nat.le_of_ble_eq_true rfl⟩) ⟨fun _ _ _ _ q => q, fun _ _ _ => ⟨rfl, trivial⟩⟩ rfl rfl hl.1 rfl (lv_room (Nat.le_of_ble_eq_true rfl)) d_G_holds_2 ⟨Nat.le_of_ble_eq_true rfl, Nat.le_of_ble_eq_true rfl⟩) ?_
  refine lv_iand hx hb d_G_holds_5 ?_
  refine lv_if_eq (tgt := 13) hx hb d_G_holds_6 (by decide) (fun c3 => ?_) (fun c3 => ?_)
  · rw [if_pos c3] at hf
    refine lv_iconst (v := (0 : Int32)) hx hb d_G_holds_13 (by decide) ?_
    exact W.zret (ty := .boolean) hx hb hr (rfl) (fun t ht _ => ⟨_, rfl, Option.some.inj hf, ht⟩) (fun _ h => absurd h List.not_mem_nil) d_G_holds_14
  · rw [if_neg c3] at hf
    refine lv_iconst (v := (1 : Int32)) hx hb d_G_holds_9 (by decide) ?_
    refine lv_goto (tgt := 14) hx hb d_G_holds_10 (by decide) ?_
    exact W.zret (ty := .boolean) hx hb hr (rfl) (fun t ht _ => ⟨_, rfl, Option.some.inj hf, ht⟩) (fun _ h => absurd h List.not_mem_nil) d_G_holds_14
set_option maxHeartbeats 4000000 in
set_option maxRecDepth 100000 in
theorem c_C_isFault (l : Launch) (dC : Nat → ClassId) (dI : Nat → Nat → Nat) (cs : Nat → ClassId) (a : Nat → Nat) (st : XS) (p1 : Int32) (res : Int32) (hf : x_C_isFault st p1 = some res) : Met l (⟨"GuideSearch$Causes", "isFault", "(I)Z"⟩ : MethodName) (Cond.code (⟨"GuideSearch$Causes", "isFault", "(I)Z"⟩ : MethodName) prog_3_method_3_code 2 (some .boolean) :: wg) { frames := 1, cells := 0, slots := 0, locals := 21 } (va_Pc ([.ref (a 1), .int p1] : List Value) (x_pre dC dI cs a st)) (vp_Si (fun r => r = res)) 0 0 (fun _ => False) := by
  refine ro_start (cc := prog_3_method_3_code) (maxL := 2) (ret := (some .boolean)) (by decide) (Nat.le_of_ble_eq_true rfl) ?_
  intro p e s m below meth c hx hb hr hml hT hown hlocks hB ls hl
  replace hown : s.vm.findClass "GuideSearch$Causes" = some m.cls := hown
  obtain ⟨hP, hK, hN⟩ := hB
  replace hl : lv_has ls 2 [(0, .ref (a 1)), (1, .int p1)] := hl
  unfold x_C_isFault at hf
  refine lv_aload_n hx hb d_C_isFault_0 rfl (lv_at hl 0 rfl) ?_
  refine lv_iload_n hx hb d_C_isFault_1 rfl (lv_at hl 1 rfl) ?_
  obtain ⟨r2, hr1, hf⟩ := ob hf
  refine ro_calli (va_runV (C := "GuideSearch$Causes") (As := [.int p1]) (rest := []) ⟨hx, hb, hml, hown, hT⟩ (c_C_knows l dC dI cs a st p1 r2 hr1) (cwV 1 hT (gV k_265 k_177 k_178 k_2 k_179) rfl rfl rfl (by decide +kernel) ⟨Nat.le_of_ble_eq_true rfl, Nat.le_of_ble_eq_true rfl⟩) (ro_preV hP hK hN (va_recv hK hP (ci := 1) (q0 := 1) rfl rfl)) rfl rfl hl.1 rfl (lv_room (Nat.le_of_ble_eq_true rfl)) d_C_isFault_2 ⟨Nat.le_of_ble_eq_true rfl, Nat.le_of_ble_eq_true rfl⟩) ?_
  refine lv_if_eq (tgt := 21) hx hb d_C_isFault_5 (by decide) (fun c3 => ?_) (fun c3 => ?_)
  · rw [if_pos c3] at hf
    refine lv_iconst (v := (0 : Int32)) hx hb d_C_isFault_21 (by decide) ?_
    exact W.zret (ty := .boolean) hx hb hr (rfl) (fun t ht _ => ⟨_, rfl, Option.some.inj hf, ht⟩) (fun _ h => absurd h List.not_mem_nil) d_C_isFault_22
  · rw [if_neg c3] at hf
    refine lv_aload_n hx hb d_C_isFault_8 rfl (lv_at hl 0 rfl) ?_
    refine va_get (D := (dC, dI)) (ci := 1) (v := .ref (a 3)) (C := "GuideSearch$Causes") (T := F_C) (N := 5) hx hb hT i_C hown hK hP 1 rfl rfl 1 (by decide) (hT _ k_29) (fun _ h9 => h9) rfl d_C_isFault_9 ?_
    refine lv_iload_n hx hb d_C_isFault_12 rfl (lv_at hl 1 rfl) ?_
    obtain ⟨j4, ej6, hi5, hf⟩ := ix_some hf
    refine xa_iald hx hb hK hP 3 1 rfl rfl ej6 hi5 d_C_isFault_13 ?_
    refine lv_if_ne (tgt := 21) hx hb d_C_isFault_14 (by decide) (fun c7 => ?_) (fun c7 => ?_)
    · rw [if_neg c7] at hf
      refine lv_iconst (v := (0 : Int32)) hx hb d_C_isFault_21 (by decide) ?_
      exact W.zret (ty := .boolean) hx hb hr (rfl) (fun t ht _ => ⟨_, rfl, Option.some.inj hf, ht⟩) (fun _ h => absurd h List.not_mem_nil) d_C_isFault_22
    · rw [if_pos c7] at hf
      refine lv_iconst (v := (1 : Int32)) hx hb d_C_isFault_17 (by decide) ?_
      refine lv_goto (tgt := 22) hx hb d_C_isFault_18 (by decide) ?_
      exact W.zret (ty := .boolean) hx hb hr (rfl) (fun t ht _ => ⟨_, rfl, Option.some.inj hf, ht⟩) (fun _ h => absurd h List.not_mem_nil) d_C_isFault_22
set_option maxHeartbeats 4000000 in
set_option maxRecDepth 100000 in
theorem c_C_hasPair (l : Launch) (dC : Nat → ClassId) (dI : Nat → Nat → Nat) (cs : Nat → ClassId) (a : Nat → Nat) (st : XS) (p1 : Int32) (res : Int32) (hf : x_C_hasPair st p1 = some res) : Met l (⟨"GuideSearch$Causes", "hasPair", "(I)Z"⟩ : MethodName) (Cond.code (⟨"GuideSearch$Causes", "hasPair", "(I)Z"⟩ : MethodName) prog_3_method_4_code 3 (some .boolean) :: wg) { frames := 0, cells := 0, slots := 0, locals := 0 } (va_Pc ([.ref (a 1), .int p1] : List Value) (x_pre dC dI cs a st)) (vp_Si (fun r => r = res)) 0 0 (fun _ => False) := by
  refine ro_start (cc := prog_3_method_4_code) (maxL := 3) (ret := (some .boolean)) (by decide) (Nat.le_of_ble_eq_true rfl) ?_
  intro p e s m below meth c hx hb hr hml hT hown hlocks hB ls hl
  replace hown : s.vm.findClass "GuideSearch$Causes" = some m.cls := hown
  obtain ⟨hP, hK, hN⟩ := hB
  replace hl : lv_has ls 3 [(0, .ref (a 1)), (1, .int p1)] := hl
  unfold x_C_hasPair at hf
  refine lv_iconst (v := (1 : Int32)) hx hb d_C_hasPair_0 (by decide) ?_
  refine lv_istore_n (lv' := [(2, .int (1 : Int32)), (0, .ref (a 1)), (1, .int p1)]) hx hb d_C_hasPair_1 rfl hl (by decide) rfl (fun ls hl => ?_)
  have loop1 : ∀ (n : Nat) (v1 : Int32), xl1 (x_C_hasPair_B1 st p1) n v1 = some res → ∀ (ls : Array Slot), lv_has ls 3 [(2, .int v1), (0, .ref (a 1)), (1, .int p1)] → W p l e { frames := 0, cells := 0, slots := 0, locals := 0 } s m ([.ref (a 1), .int p1] : List Value).toArray below meth c s.heap [] 0 0 (MQ below (vp_Si (fun r => r = res)) ([.ref (a 1), .int p1] : List Value).toArray s 0 0 (fun _ => False)) (F0 m 2 ls []) := by
    intro n
    induction n with
    | zero => intro v1 hf; exact absurd hf (by simp [xl1])
    | succ n ih1 =>
      intro v1 hf ls hl
      replace hf : (x_C_hasPair_B1 st p1) (xl1 (x_C_hasPair_B1 st p1) n) v1 = some res := hf
      generalize xl1 (x_C_hasPair_B1 st p1) n = self1 at hf ih1
      unfold x_C_hasPair_B1 at hf
      refine lv_iload_n hx hb d_C_hasPair_2 rfl (lv_at hl 0 rfl) ?_
      refine lv_bipush (v := (12 : Int32)) hx hb d_C_hasPair_3 (by decide) ?_
      refine lv_icmp_gt (tgt := 26) hx hb d_C_hasPair_5 (by decide) (fun c2 => ?_) (fun c2 => ?_)
      · rw [if_pos c2] at hf
        refine lv_iconst (v := (0 : Int32)) hx hb d_C_hasPair_26 (by decide) ?_
        exact W.zret (ty := .boolean) hx hb hr (rfl) (fun t ht _ => ⟨_, rfl, Option.some.inj hf, ht⟩) (fun _ h => absurd h List.not_mem_nil) d_C_hasPair_27
      · rw [if_neg c2] at hf
        refine lv_aload_n hx hb d_C_hasPair_8 rfl (lv_at hl 1 rfl) ?_
        refine va_get (D := (dC, dI)) (ci := 1) (v := .ref (a 3)) (C := "GuideSearch$Causes") (T := F_C) (N := 5) hx hb hT i_C hown hK hP 1 rfl rfl 1 (by decide) (hT _ k_29) (fun _ h9 => h9) rfl d_C_hasPair_9 ?_
        refine lv_iload_n hx hb d_C_hasPair_12 rfl (lv_at hl 0 rfl) ?_
        obtain ⟨j3, ej5, hi4, hf⟩ := ix_some hf
        refine xa_iald hx hb hK hP 3 1 rfl rfl ej5 hi4 d_C_hasPair_13 ?_
        refine lv_iload_n hx hb d_C_hasPair_14 rfl (lv_at hl 2 rfl) ?_
        refine lv_icmp_ne (tgt := 20) hx hb d_C_hasPair_15 (by decide) (fun c6 => ?_) (fun c6 => ?_)
        · rw [if_neg c6] at hf
          refine lv_iinc (v := (v1 + 1)) (lv' := [(2, .int (v1 + 1)), (0, .ref (a 1)), (1, .int p1)]) hx hb d_C_hasPair_20 hl (k := 0) rfl rfl (by decide) rfl (fun ls hl => ?_)
          refine lv_goto (tgt := 2) hx hb d_C_hasPair_23 (by decide) ?_
          exact ih1 (v1 + 1) hf ls (lv_sub hl [0, 1, 2] rfl)
        · rw [if_pos c6] at hf
          refine lv_iconst (v := (1 : Int32)) hx hb d_C_hasPair_18 (by decide) ?_
          exact W.zret (ty := .boolean) hx hb hr (rfl) (fun t ht _ => ⟨_, rfl, Option.some.inj hf, ht⟩) (fun _ h => absurd h List.not_mem_nil) d_C_hasPair_19
  exact loop1 _ (1 : Int32) hf ls (lv_sub hl [0, 1, 2] rfl)
