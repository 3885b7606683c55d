set_option maxHeartbeats 4000000 in
set_option maxRecDepth 100000 in
theorem c_T_add (l : Launch) (dC : Nat → ClassId) (dI : Nat → Nat → Nat) (cs : Nat → ClassId) (a : Nat → Nat) (hi : ∀ i j : Nat, i < 29 → j < 29 → a i = a j → i = j) (st : XS) (p1 : Int32) (res : Int32 × XS) (hf : x_T_add st p1 = some res) : Met l (⟨"GuideSearch$Tests", "add", "(I)I"⟩ : MethodName) (Cond.code (⟨"GuideSearch$Tests", "add", "(I)I"⟩ : MethodName) prog_5_method_3_code 2 (some .int) :: wg) { frames := 0, cells := 0, slots := 0, locals := 0 } (va_Pc ([.ref (a 5), .int p1] : List Value) (x_pre dC dI cs a st)) (va_Qi (fun r (_ : Unit) => r = res.1) (fun _ t => va_P (dC, dI) vwCl (x_W cs a res.2) t.heap) (x_A a)) 0 0 (x_A a) := by
  refine ro_start (cc := prog_5_method_3_code) (maxL := 2) (ret := (some .int)) (by decide) (Nat.le_of_ble_eq_true rfl) ?_
  intro p e s m below meth c hx hb hr hml hT hown hlocks hB ls hl
  replace hown : s.vm.findClass "GuideSearch$Tests" = some m.cls := hown
  obtain ⟨hP, hK, hN⟩ := hB
  replace hl : lv_has ls 2 [(0, .ref (a 5)), (1, .int p1)] := hl
  unfold x_T_add at hf
  have hD : ∀ st : XS, va_D (x_A a) (x_W cs a st) := fun st => x_D hi cs st
  have main : ∀ (H : Heap) (locs : List Loc), va_P (dC, dI) vwCl (x_W cs a st) H → va_S (x_A a) s.heap H locs → W p l e { frames := 0, cells := 0, slots := 0, locals := 0 } s m ([.ref (a 5), .int p1] : List Value).toArray below meth c H locs 0 0 (MQ below (va_Qi (fun r (_ : Unit) => r = res.1) (fun _ t => va_P (dC, dI) vwCl (x_W cs a res.2) t.heap) (x_A a)) ([.ref (a 5), .int p1] : List Value).toArray s 0 0 (x_A a)) (F0 m 0 ls []) := by
    intro H locs hP hS
    refine lv_aload_n hx hb d_T_add_0 rfl (lv_at hl 0 rfl) ?_
    refine va_get (D := (dC, dI)) (ci := 2) (v := .int (x_tN st)) (C := "GuideSearch$Tests") (T := F_T) (N := 4) hx hb hT i_T hown hK hP 5 rfl rfl 3 (by decide) (hT _ k_63) (fun _ h9 => h9) rfl d_T_add_1 ?_
    refine lv_iconst (v := (5 : Int32)) hx hb d_T_add_4 (by decide) ?_
    refine lv_icmp_lt (tgt := 11) hx hb d_T_add_5 (by decide) (fun c1 => ?_) (fun c1 => ?_)
    · rw [if_pos c1] at hf
      refine lv_aload_n hx hb d_T_add_11 rfl (lv_at hl 0 rfl) ?_
      refine lv_dup hx hb d_T_add_12 rfl ?_
      refine va_get (D := (dC, dI)) (ci := 2) (v := .int (x_tN st)) (C := "GuideSearch$Tests") (T := F_T) (N := 4) hx hb hT i_T hown hK hP 5 rfl rfl 3 (by decide) (hT _ k_63) (fun _ h9 => h9) rfl d_T_add_13 ?_
      refine lv_iconst (v := (1 : Int32)) hx hb d_T_add_16 (by decide) ?_
      refine lv_iadd hx hb d_T_add_17 ?_
      refine va_put (D := (dC, dI)) (ci := 2) (v := .int ((x_tN st) + (1 : Int32))) (ty := .int) (C := "GuideSearch$Tests") (T := F_T) (N := 4) hx hb hT i_T ft_T ft_T_ok n_T hown hK hP (hD _) hS 5 rfl rfl 3 (by decide) (hT _ k_63) (fun _ h9 => h9) rfl (by decide +kernel) rfl rfl (Nat.le_of_ble_eq_true rfl) d_T_add_18 (fun H locs hP _ hS => ?_)
      rw [x_tN_put cs a st ((x_tN st) + (1 : Int32))] at hP
      refine lv_aload_n hx hb d_T_add_21 rfl (lv_at hl 0 rfl) ?_
      refine va_get (D := (dC, dI)) (ci := 2) (v := .ref (a 6)) (C := "GuideSearch$Tests") (T := F_T) (N := 4) hx hb hT i_T hown hK hP 5 rfl rfl 0 (by decide) (hT _ k_60) (fun _ h9 => h9) rfl d_T_add_22 ?_
      refine lv_aload_n hx hb d_T_add_25 rfl (lv_at hl 0 rfl) ?_
      refine va_get (D := (dC, dI)) (ci := 2) (v := .int (x_tN (x_tN_s st ((x_tN st) + (1 : Int32))))) (C := "GuideSearch$Tests") (T := F_T) (N := 4) hx hb hT i_T hown hK hP 5 rfl rfl 3 (by decide) (hT _ k_63) (fun _ h9 => h9) rfl d_T_add_26 ?_
      refine lv_iload_n hx hb d_T_add_29 rfl (lv_at hl 1 rfl) ?_
      obtain ⟨j2, ej4, hi3, hf⟩ := ix_some hf
      refine xa_iast hx hb hK hP (hD _) hS 6 1 rfl rfl ej4 hi3 d_T_add_30 (fun H locs hP hS => ?_)
      rw [x_cst_put cs a (x_tN_s st ((x_tN st) + (1 : Int32))) j2 p1] at hP
      refine lv_aload_n hx hb d_T_add_31 rfl (lv_at hl 0 rfl) ?_
      refine va_get (D := (dC, dI)) (ci := 2) (v := .int (x_tN (x_cst_s (x_tN_s st ((x_tN st) + (1 : Int32))) j2 p1))) (C := "GuideSearch$Tests") (T := F_T) (N := 4) hx hb hT i_T hown hK hP 5 rfl rfl 3 (by decide) (hT _ k_63) (fun _ h9 => h9) rfl d_T_add_32 ?_
      exact W.iret hx hb hr (fun t ht _ => ⟨⟨_, (), rfl, congrArg Prod.fst (Option.some.inj hf), x_fin ht (congrArg Prod.snd (Option.some.inj hf)) hP⟩, hS.F ht⟩) hS.2.2 d_T_add_35
    · rw [if_neg c1] at hf
      refine lv_bipush (v := (-4 : Int32)) hx hb d_T_add_8 (by decide) ?_
      exact W.iret hx hb hr (fun t ht _ => ⟨⟨_, (), rfl, congrArg Prod.fst (Option.some.inj hf), x_fin ht (congrArg Prod.snd (Option.some.inj hf)) hP⟩, hS.F ht⟩) hS.2.2 d_T_add_10
  exact main _ _ hP va_S.rf
set_option maxHeartbeats 4000000 in
set_option maxRecDepth 100000 in
theorem c_T_knows (l : Launch) (dC : Nat → ClassId) (dI : Nat → Nat → Nat) (cs : Nat → ClassId) (a : Nat → Nat) (st : XS) (p1 : Int32) (res : Int32) (hf : x_T_knows st p1 = some res) : Met l (⟨"GuideSearch$Tests", "knows", "(I)Z"⟩ : MethodName) (Cond.code (⟨"GuideSearch$Tests", "knows", "(I)Z"⟩ : MethodName) prog_5_method_2_code 2 (some .boolean) :: wg) { frames := 0, cells := 0, slots := 0, locals := 0 } (va_Pc ([.ref (a 5), .int p1] : List Value) (x_pre dC dI cs a st)) (vp_Si (fun r => r = res)) 0 0 (fun _ => False) := by
  refine ro_start (cc := prog_5_method_2_code) (maxL := 2) (ret := (some .boolean)) (by decide) (Nat.le_of_ble_eq_true rfl) ?_
  intro p e s m below meth c hx hb hr hml hT hown hlocks hB ls hl
  replace hown : s.vm.findClass "GuideSearch$Tests" = some m.cls := hown
  obtain ⟨hP, hK, hN⟩ := hB
  replace hl : lv_has ls 2 [(0, .ref (a 5)), (1, .int p1)] := hl
  unfold x_T_knows at hf
  refine lv_iload_n hx hb d_T_knows_0 rfl (lv_at hl 1 rfl) ?_
  refine lv_iconst (v := (1 : Int32)) hx hb d_T_knows_1 (by decide) ?_
  refine lv_icmp_lt (tgt := 22) hx hb d_T_knows_2 (by decide) (fun c1 => ?_) (fun c1 => ?_)
  · rw [if_pos c1] at hf
    refine lv_iconst (v := (0 : Int32)) hx hb d_T_knows_22 (by decide) ?_
    exact W.zret (ty := .boolean) hx hb hr (rfl) (fun t ht _ => ⟨_, rfl, Option.some.inj hf, ht⟩) (fun _ h => absurd h List.not_mem_nil) d_T_knows_23
  · rw [if_neg c1] at hf
    refine lv_iload_n hx hb d_T_knows_5 rfl (lv_at hl 1 rfl) ?_
    refine lv_aload_n hx hb d_T_knows_6 rfl (lv_at hl 0 rfl) ?_
    refine va_get (D := (dC, dI)) (ci := 2) (v := .int (x_tN st)) (C := "GuideSearch$Tests") (T := F_T) (N := 4) hx hb hT i_T hown hK hP 5 rfl rfl 3 (by decide) (hT _ k_63) (fun _ h9 => h9) rfl d_T_knows_7 ?_
    refine lv_icmp_gt (tgt := 22) hx hb d_T_knows_10 (by decide) (fun c2 => ?_) (fun c2 => ?_)
    · rw [if_pos c2] at hf
      refine lv_iconst (v := (0 : Int32)) hx hb d_T_knows_22 (by decide) ?_
      exact W.zret (ty := .boolean) hx hb hr (rfl) (fun t ht _ => ⟨_, rfl, Option.some.inj hf, ht⟩) (fun _ h => absurd h List.not_mem_nil) d_T_knows_23
    · rw [if_neg c2] at hf
      refine lv_iload_n hx hb d_T_knows_13 rfl (lv_at hl 1 rfl) ?_
      refine lv_iconst (v := (5 : Int32)) hx hb d_T_knows_14 (by decide) ?_
      refine lv_icmp_gt (tgt := 22) hx hb d_T_knows_15 (by decide) (fun c3 => ?_) (fun c3 => ?_)
      · rw [if_pos c3] at hf
        refine lv_iconst (v := (0 : Int32)) hx hb d_T_knows_22 (by decide) ?_
        exact W.zret (ty := .boolean) hx hb hr (rfl) (fun t ht _ => ⟨_, rfl, Option.some.inj hf, ht⟩) (fun _ h => absurd h List.not_mem_nil) d_T_knows_23
      · rw [if_neg c3] at hf
        refine lv_iconst (v := (1 : Int32)) hx hb d_T_knows_18 (by decide) ?_
        refine lv_goto (tgt := 23) hx hb d_T_knows_19 (by decide) ?_
        exact W.zret (ty := .boolean) hx hb hr (rfl) (fun t ht _ => ⟨_, rfl, Option.some.inj hf, ht⟩) (fun _ h => absurd h List.not_mem_nil) d_T_knows_23
set_option maxHeartbeats 4000000 in
set_option maxRecDepth 100000 in
theorem c_T_hasPlace (l : Launch) (dC : Nat → ClassId) (dI : Nat → Nat → Nat) (cs : Nat → ClassId) (a : Nat → Nat) (st : XS) (p1 : Int32) (p2 : Int32) (res : Int32) (hf : x_T_hasPlace st p1 p2 = some res) : Met l (⟨"GuideSearch$Tests", "hasPlace", "(II)Z"⟩ : MethodName) (Cond.code (⟨"GuideSearch$Tests", "hasPlace", "(II)Z"⟩ : MethodName) prog_5_method_14_code 3 (some .boolean) :: wg) { frames := 1, cells := 0, slots := 0, locals := 21 } (va_Pc ([.ref (a 5), .int p1, .int p2] : List Value) (x_pre dC dI cs a st)) (vp_Si (fun r => r = res)) 0 0 (fun _ => False) := by
  refine ro_start (cc := prog_5_method_14_code) (maxL := 3) (ret := (some .boolean)) (by decide) (Nat.le_of_ble_eq_true rfl) ?_
  intro p e s m below meth c hx hb hr hml hT hown hlocks hB ls hl
  replace hown : s.vm.findClass "GuideSearch$Tests" = some m.cls := hown
  obtain ⟨hP, hK, hN⟩ := hB
  replace hl : lv_has ls 3 [(0, .ref (a 5)), (1, .int p1), (2, .int p2)] := hl
  unfold x_T_hasPlace at hf
  refine lv_aload_n hx hb d_T_hasPlace_0 rfl (lv_at hl 0 rfl) ?_
  refine lv_iload_n hx hb d_T_hasPlace_1 rfl (lv_at hl 1 rfl) ?_
  obtain ⟨r2, hr1, hf⟩ := ob hf
  refine ro_calli (va_runV (C := "GuideSearch$Tests") (As := [.int p1]) (rest := []) ⟨hx, hb, hml, hown, hT⟩ (c_T_knows l dC dI cs a st p1 r2 hr1) (cwV 1 hT (gV k_199 k_173 k_174 k_3 k_175) rfl rfl rfl (by decide +kernel) ⟨Nat.le_of_ble_eq_true rfl, Nat.le_of_ble_eq_true rfl⟩) (ro_preV hP hK hN (va_recv hK hP (ci := 2) (q0 := 5) rfl rfl)) rfl rfl hl.1 rfl (lv_room (Nat.le_of_ble_eq_true rfl)) d_T_hasPlace_2 ⟨Nat.le_of_ble_eq_true rfl, Nat.le_of_ble_eq_true rfl⟩) ?_
  refine lv_if_eq (tgt := 23) hx hb d_T_hasPlace_5 (by decide) (fun c3 => ?_) (fun c3 => ?_)
  · rw [if_pos c3] at hf
    refine lv_iconst (v := (0 : Int32)) hx hb d_T_hasPlace_23 (by decide) ?_
    exact W.zret (ty := .boolean) hx hb hr (rfl) (fun t ht _ => ⟨_, rfl, Option.some.inj hf, ht⟩) (fun _ h => absurd h List.not_mem_nil) d_T_hasPlace_24
  · rw [if_neg c3] at hf
    refine lv_iload_n hx hb d_T_hasPlace_8 rfl (lv_at hl 2 rfl) ?_
    refine lv_iconst (v := (1 : Int32)) hx hb d_T_hasPlace_9 (by decide) ?_
    refine lv_icmp_lt (tgt := 23) hx hb d_T_hasPlace_10 (by decide) (fun c4 => ?_) (fun c4 => ?_)
    · rw [if_pos c4] at hf
      refine lv_iconst (v := (0 : Int32)) hx hb d_T_hasPlace_23 (by decide) ?_
      exact W.zret (ty := .boolean) hx hb hr (rfl) (fun t ht _ => ⟨_, rfl, Option.some.inj hf, ht⟩) (fun _ h => absurd h List.not_mem_nil) d_T_hasPlace_24
    · rw [if_neg c4] at hf
      refine lv_iload_n hx hb d_T_hasPlace_13 rfl (lv_at hl 2 rfl) ?_
      refine lv_bipush (v := (12 : Int32)) hx hb d_T_hasPlace_14 (by decide) ?_
      refine lv_icmp_gt (tgt := 23) hx hb d_T_hasPlace_16 (by decide) (fun c5 => ?_) (fun c5 => ?_)
      · rw [if_pos c5] at hf
        refine lv_iconst (v := (0 : Int32)) hx hb d_T_hasPlace_23 (by decide) ?_
        exact W.zret (ty := .boolean) hx hb hr (rfl) (fun t ht _ => ⟨_, rfl, Option.some.inj hf, ht⟩) (fun _ h => absurd h List.not_mem_nil) d_T_hasPlace_24
      · rw [if_neg c5] at hf
        refine lv_iconst (v := (1 : Int32)) hx hb d_T_hasPlace_19 (by decide) ?_
        refine lv_goto (tgt := 24) hx hb d_T_hasPlace_20 (by decide) ?_
        exact W.zret (ty := .boolean) hx hb hr (rfl) (fun t ht _ => ⟨_, rfl, Option.some.inj hf, ht⟩) (fun _ h => absurd h List.not_mem_nil) d_T_hasPlace_24
set_option maxHeartbeats 4000000 in
set_option maxRecDepth 100000 in
theorem c_T_twelfths (l : Launch) (dC : Nat → ClassId) (dI : Nat → Nat → Nat) (cs : Nat → ClassId) (a : Nat → Nat) (st : XS) (p1 : Int32) (p2 : Int32) (p3 : Int32) (res : Int32) (hf : x_T_twelfths st p1 p2 p3 = some res) : Met l (⟨"GuideSearch$Tests", "twelfths", "(III)I"⟩ : MethodName) (Cond.code (⟨"GuideSearch$Tests", "twelfths", "(III)I"⟩ : MethodName) prog_5_method_5_code 4 (some .int) :: wg) { frames := 2, cells := 0, slots := 0, locals := 43 } (va_Pc ([.ref (a 5), .int p1, .int p2, .int p3] : List Value) (x_pre dC dI cs a st)) (vp_Si (fun r => r = res)) 0 0 (fun _ => False) := by
  refine ro_start (cc := prog_5_method_5_code) (maxL := 4) (ret := (some .int)) (by decide) (Nat.le_of_ble_eq_true rfl) ?_
  intro p e s m below meth c hx hb hr hml hT hown hlocks hB ls hl
  replace hown : s.vm.findClass "GuideSearch$Tests" = some m.cls := hown
  obtain ⟨hP, hK, hN⟩ := hB
  replace hl : lv_has ls 4 [(0, .ref (a 5)), (1, .int p1), (2, .int p2), (3, .int p3)] := hl
  unfold x_T_twelfths at hf
  refine lv_aload_n hx hb d_T_twelfths_0 rfl (lv_at hl 0 rfl) ?_
  refine lv_iload_n hx hb d_T_twelfths_1 rfl (lv_at hl 1 rfl) ?_
  refine lv_iload_n hx hb d_T_twelfths_2 rfl (lv_at hl 2 rfl) ?_
  obtain ⟨r2, hr1, hf⟩ := ob hf
  refine ro_calli (va_runV (C := "GuideSearch$Tests") (As := [.int p1, .int p2]) (rest := []) ⟨hx, hb, hml, hown, hT⟩ (c_T_hasPlace l dC dI cs a st p1 p2 r2 hr1) (cwV 2 hT (gV k_195 k_197 ks_0 k_3 k_198) rfl rfl rfl (by decide +kernel) ⟨Nat.le_of_ble_eq_true rfl, Nat.le_of_ble_eq_true rfl⟩) (ro_preV hP hK hN (va_recv hK hP (ci := 2) (q0 := 5) rfl rfl)) rfl rfl hl.1 rfl (lv_room (Nat.le_of_ble_eq_true rfl)) d_T_twelfths_3 ⟨Nat.le_of_ble_eq_true rfl, Nat.le_of_ble_eq_true rfl⟩) ?_
  refine lv_if_ne (tgt := 11) hx hb d_T_twelfths_6 (by decide) (fun c3 => ?_) (fun c3 => ?_)
  · rw [if_neg c3] at hf
    refine lv_aload_n hx hb d_T_twelfths_11 rfl (lv_at hl 0 rfl) ?_
    refine va_get (D := (dC, dI)) (ci := 2) (v := .ref (a 8)) (C := "GuideSearch$Tests") (T := F_T) (N := 4) hx hb hT i_T hown hK hP 5 rfl rfl 2 (by decide) (hT _ k_62) (fun _ h9 => h9) rfl d_T_twelfths_12 ?_
    refine lv_iload_n hx hb d_T_twelfths_15 rfl (lv_at hl 1 rfl) ?_
    obtain ⟨j4, ej6, hi5, hf⟩ := ix_some hf
    refine xa_aald hx hb hK hP 8 3 rfl rfl ej6 hi5 (if_pos (ix_lt ej6 hi5)) d_T_twelfths_16 ?_
    have hj4 : j4 < 6 := ix_lt ej6 hi5
    refine lv_iload_n hx hb d_T_twelfths_17 rfl (lv_at hl 2 rfl) ?_
    obtain ⟨j8, ej10, hi9, hf⟩ := ix_some hf
    refine xa_iald hx hb hK hP (9 + j4) 1 (x_tab_row cs a st hj4) rfl ej10 hi9 d_T_twelfths_18 ?_
    refine lv_iconst (v := (4 : Int32)) hx hb d_T_twelfths_19 (by decide) ?_
    refine lv_iload_n hx hb d_T_twelfths_20 rfl (lv_at hl 3 rfl) ?_
    refine lv_imul hx hb d_T_twelfths_21 ?_
    refine lv_ishr hx hb d_T_twelfths_22 ?_
    refine lv_bipush (v := (15 : Int32)) hx hb d_T_twelfths_23 (by decide) ?_
    refine lv_iand hx hb d_T_twelfths_25 ?_
    exact W.iret hx hb hr (fun t ht _ => ⟨_, rfl, Option.some.inj hf, ht⟩) (fun _ h => absurd h List.not_mem_nil) d_T_twelfths_26
  · rw [if_pos c3] at hf
    refine lv_iconst (v := (0 : Int32)) hx hb d_T_twelfths_9 (by decide) ?_
    exact W.iret hx hb hr (fun t ht _ => ⟨_, rfl, Option.some.inj hf, ht⟩) (fun _ h => absurd h List.not_mem_nil) d_T_twelfths_10
set_option maxHeartbeats 4000000 in
set_option maxRecDepth 100000 in
theorem c_T_together (l : Launch) (dC : Nat → ClassId) (dI : Nat → Nat → Nat) (cs : Nat → ClassId) (a : Nat → Nat) (st : XS) (p1 : Int32) (p2 : Int32) (res : Int32) (hf : x_T_together st p1 p2 = some res) : Met l (⟨"GuideSearch$Tests", "together", "(II)I"⟩ : MethodName) (Cond.code (⟨"GuideSearch$Tests", "together", "(II)I"⟩ : MethodName) prog_5_method_7_code 5 (some .int) :: wg) { frames := 3, cells := 0, slots := 0, locals := 66 } (va_Pc ([.ref (a 5), .int p1, .int p2] : List Value) (x_pre dC dI cs a st)) (vp_Si (fun r => r = res)) 0 0 (fun _ => False) := by
  refine ro_start (cc := prog_5_method_7_code) (maxL := 5) (ret := (some .int)) (by decide) (Nat.le_of_ble_eq_true rfl) ?_
  intro p e s m below meth c hx hb hr hml hT hown hlocks hB ls hl
  replace hown : s.vm.findClass "GuideSearch$Tests" = some m.cls := hown
  obtain ⟨hP, hK, hN⟩ := hB
  replace hl : lv_has ls 5 [(0, .ref (a 5)), (1, .int p1), (2, .int p2)] := hl
  unfold x_T_together at hf
  refine lv_iconst (v := (0 : Int32)) hx hb d_T_together_0 (by decide) ?_
  refine lv_istore_n (lv' := [(3, .int (0 : Int32)), (0, .ref (a 5)), (1, .int p1), (2, .int p2)]) hx hb d_T_together_1 rfl hl (by decide) rfl (fun ls hl => ?_)
  refine lv_iconst (v := (0 : Int32)) hx hb d_T_together_2 (by decide) ?_
  refine lv_istore (lv' := [(4, .int (0 : Int32)), (3, .int (0 : Int32)), (0, .ref (a 5)), (1, .int p1), (2, .int p2)]) hx hb d_T_together_3 hl (by decide) rfl (fun ls hl => ?_)
  have loop1 : ∀ (n : Nat) (v1 : Int32) (v2 : Int32), xl2 (x_T_together_B1 st p1 p2) n v1 v2 = some res → ∀ (ls : Array Slot), lv_has ls 5 [(4, .int v1), (3, .int v2), (0, .ref (a 5)), (1, .int p1), (2, .int p2)] → W p l e { frames := 3, cells := 0, slots := 0, locals := 66 } s m ([.ref (a 5), .int p1, .int p2] : List Value).toArray below meth c s.heap [] 0 0 (MQ below (vp_Si (fun r => r = res)) ([.ref (a 5), .int p1, .int p2] : List Value).toArray s 0 0 (fun _ => False)) (F0 m 5 ls []) := by
    intro n
    induction n with
    | zero => intro v1 v2 hf; exact absurd hf (by simp [xl2])
    | succ n ih1 =>
      intro v1 v2 hf ls hl
      replace hf : (x_T_together_B1 st p1 p2) (xl2 (x_T_together_B1 st p1 p2) n) v1 v2 = some res := hf
      generalize xl2 (x_T_together_B1 st p1 p2) n = self1 at hf ih1
      unfold x_T_together_B1 at hf
      refine lv_iload hx hb d_T_together_5 (lv_at hl 0 rfl) ?_
      refine lv_iconst (v := (3 : Int32)) hx hb d_T_together_7 (by decide) ?_
      refine lv_icmp_ge (tgt := 28) hx hb d_T_together_8 (by decide) (fun c3 => ?_) (fun c3 => ?_)
      · rw [if_pos c3] at hf
        refine lv_iload_n hx hb d_T_together_28 rfl (lv_at hl 1 rfl) ?_
        exact W.iret hx hb hr (fun t ht _ => ⟨_, rfl, Option.some.inj hf, ht⟩) (fun _ h => absurd h List.not_mem_nil) d_T_together_29
      · rw [if_neg c3] at hf
        refine lv_iload_n hx hb d_T_together_11 rfl (lv_at hl 1 rfl) ?_
        refine lv_aload_n hx hb d_T_together_12 rfl (lv_at hl 2 rfl) ?_
        refine lv_iload_n hx hb d_T_together_13 rfl (lv_at hl 3 rfl) ?_
        refine lv_iload_n hx hb d_T_together_14 rfl (lv_at hl 4 rfl) ?_
        refine lv_iload hx hb d_T_together_15 (lv_at hl 0 rfl) ?_
        obtain ⟨r5, hr4, hf⟩ := ob hf
        refine ro_calli (va_runV (C := "GuideSearch$Tests") (As := [.int p1, .int p2, .int v1]) (rest := [.int v2]) ⟨hx, hb, hml, hown, hT⟩ (c_T_twelfths l dC dI cs a st p1 p2 v1 r5 hr4) (cwV 3 hT (gV k_191 k_192 k_193 k_3 k_194) rfl rfl rfl (by decide +kernel) ⟨Nat.le_of_ble_eq_true rfl, Nat.le_of_ble_eq_true rfl⟩) (ro_preV hP hK hN (va_recv hK hP (ci := 2) (q0 := 5) rfl rfl)) rfl rfl hl.1 rfl (lv_room (Nat.le_of_ble_eq_true rfl)) d_T_together_17 ⟨Nat.le_of_ble_eq_true rfl, Nat.le_of_ble_eq_true rfl⟩) ?_
        refine lv_iadd hx hb d_T_together_20 ?_
        refine lv_istore_n (lv' := [(3, .int (v2 + r5)), (4, .int v1), (0, .ref (a 5)), (1, .int p1), (2, .int p2)]) hx hb d_T_together_21 rfl hl (by decide) rfl (fun ls hl => ?_)
        refine lv_iinc (v := (v1 + 1)) (lv' := [(4, .int (v1 + 1)), (3, .int (v2 + r5)), (0, .ref (a 5)), (1, .int p1), (2, .int p2)]) hx hb d_T_together_22 hl (k := 1) rfl rfl (by decide) rfl (fun ls hl => ?_)
        refine lv_goto (tgt := 5) hx hb d_T_together_25 (by decide) ?_
        exact ih1 (v1 + 1) (v2 + r5) hf ls (lv_sub hl [0, 1, 2, 3, 4] rfl)
  exact loop1 _ (0 : Int32) (0 : Int32) hf ls (lv_sub hl [0, 1, 2, 3, 4] rfl)
set_option maxHeartbeats 4000000 in
set_option maxRecDepth 100000 in
theorem c_T_setTwelfths (l : Launch) (dC : Nat → ClassId) (dI : Nat → Nat → Nat) (cs : Nat → ClassId) (a : Nat → Nat) (hi : ∀ i j : Nat, i < 29 → j < 29 → a i = a j → i = j) (st : XS) (p1 : Int32) (p2 : Int32) (p3 : Int32) (p4 : Int32) (res : XS) (hf : x_T_setTwelfths st p1 p2 p3 p4 = some res) : Met l (⟨"GuideSearch$Tests", "setTwelfths", "(IIII)V"⟩ : MethodName) (Cond.code (⟨"GuideSearch$Tests", "setTwelfths", "(IIII)V"⟩ : MethodName) prog_5_method_6_code 6 none :: wg) { frames := 2, cells := 0, slots := 0, locals := 43 } (va_Pc ([.ref (a 5), .int p1, .int p2, .int p3, .int p4] : List Value) (x_pre dC dI cs a st)) (va_Qv (fun _ : Unit => True) (fun _ t => va_P (dC, dI) vwCl (x_W cs a res) t.heap) (x_A a)) 0 0 (x_A a) := by
  refine ro_start (cc := prog_5_method_6_code) (maxL := 6) (ret := none) (by decide) (Nat.le_of_ble_eq_true rfl) ?_
  intro p e s m below meth c hx hb hr hml hT hown hlocks hB ls hl
  replace hown : s.vm.findClass "GuideSearch$Tests" = some m.cls := hown
  obtain ⟨hP, hK, hN⟩ := hB
  replace hl : lv_has ls 6 [(0, .ref (a 5)), (1, .int p1), (2, .int p2), (3, .int p3), (4, .int p4)] := hl
  unfold x_T_setTwelfths at hf
  have hD : ∀ st : XS, va_D (x_A a) (x_W cs a st) := fun st => x_D hi cs st
  have main : ∀ (H : Heap) (locs : List Loc), va_P (dC, dI) vwCl (x_W cs a st) H → va_S (x_A a) s.heap H locs → W p l e { frames := 2, cells := 0, slots := 0, locals := 43 } s m ([.ref (a 5), .int p1, .int p2, .int p3, .int p4] : List Value).toArray below meth c H locs 0 0 (MQ below (va_Qv (fun _ : Unit => True) (fun _ t => va_P (dC, dI) vwCl (x_W cs a res) t.heap) (x_A a)) ([.ref (a 5), .int p1, .int p2, .int p3, .int p4] : List Value).toArray s 0 0 (x_A a)) (F0 m 0 ls []) := by
    intro H locs hP hS
    refine lv_aload_n hx hb d_T_setTwelfths_0 rfl (lv_at hl 0 rfl) ?_
    refine lv_iload_n hx hb d_T_setTwelfths_1 rfl (lv_at hl 1 rfl) ?_
    refine lv_iload_n hx hb d_T_setTwelfths_2 rfl (lv_at hl 2 rfl) ?_
    obtain ⟨r2, hr1, hf⟩ := ob hf
    refine ro_calli (va_runV (C := "GuideSearch$Tests") (As := [.int p1, .int p2]) (rest := []) ⟨hx, hb, hml, hown, hT⟩ (c_T_hasPlace l dC dI cs a st p1 p2 r2 hr1) (cwV 2 hT (gV k_195 k_197 ks_0 k_3 k_198) rfl rfl rfl (by decide +kernel) ⟨Nat.le_of_ble_eq_true rfl, Nat.le_of_ble_eq_true rfl⟩) (ro_preV hP hK hN (va_recv hK hP (ci := 2) (q0 := 5) rfl rfl)) rfl rfl hl.1 rfl (lv_room (Nat.le_of_ble_eq_true rfl)) d_T_setTwelfths_3 ⟨Nat.le_of_ble_eq_true rfl, Nat.le_of_ble_eq_true rfl⟩) ?_
    refine lv_if_ne (tgt := 10) hx hb d_T_setTwelfths_6 (by decide) (fun c3 => ?_) (fun c3 => ?_)
    · rw [if_neg c3] at hf
      refine lv_aload_n hx hb d_T_setTwelfths_10 rfl (lv_at hl 0 rfl) ?_
      refine va_get (D := (dC, dI)) (ci := 2) (v := .ref (a 8)) (C := "GuideSearch$Tests") (T := F_T) (N := 4) hx hb hT i_T hown hK hP 5 rfl rfl 2 (by decide) (hT _ k_62) (fun _ h9 => h9) rfl d_T_setTwelfths_11 ?_
      refine lv_iload_n hx hb d_T_setTwelfths_14 rfl (lv_at hl 1 rfl) ?_
      obtain ⟨j4, ej6, hi5, hf⟩ := ix_some hf
      refine xa_aald hx hb hK hP 8 3 rfl rfl ej6 hi5 (if_pos (ix_lt ej6 hi5)) d_T_setTwelfths_15 ?_
      have hj4 : j4 < 6 := ix_lt ej6 hi5
      refine lv_iload_n hx hb d_T_setTwelfths_16 rfl (lv_at hl 2 rfl) ?_
      obtain ⟨j8, ej10, hi9, hf⟩ := ix_some hf
      refine xa_iald hx hb hK hP (9 + j4) 1 (x_tab_row cs a st hj4) rfl ej10 hi9 d_T_setTwelfths_17 ?_
      refine lv_bipush (v := (15 : Int32)) hx hb d_T_setTwelfths_18 (by decide) ?_
      refine lv_iconst (v := (4 : Int32)) hx hb d_T_setTwelfths_20 (by decide) ?_
      refine lv_iload_n hx hb d_T_setTwelfths_21 rfl (lv_at hl 3 rfl) ?_
      refine lv_imul hx hb d_T_setTwelfths_22 ?_
      refine lv_ishl hx hb d_T_setTwelfths_23 ?_
      refine lv_iconst (v := (-1 : Int32)) hx hb d_T_setTwelfths_24 (by decide) ?_
      refine lv_ixor hx hb d_T_setTwelfths_25 ?_
      refine lv_iand hx hb d_T_setTwelfths_26 ?_
      refine lv_istore (lv' := [(5, .int ((x_tab st j4 j8) &&& (((15 : Int32) <<< (((4 : Int32) * p3) &&& 31)) ^^^ (-1 : Int32)))), (0, .ref (a 5)), (1, .int p1), (2, .int p2), (3, .int p3), (4, .int p4)]) hx hb d_T_setTwelfths_27 hl (by decide) rfl (fun ls hl => ?_)
      refine lv_aload_n hx hb d_T_setTwelfths_29 rfl (lv_at hl 1 rfl) ?_
      refine va_get (D := (dC, dI)) (ci := 2) (v := .ref (a 8)) (C := "GuideSearch$Tests") (T := F_T) (N := 4) hx hb hT i_T hown hK hP 5 rfl rfl 2 (by decide) (hT _ k_62) (fun _ h9 => h9) rfl d_T_setTwelfths_30 ?_
      refine lv_iload_n hx hb d_T_setTwelfths_33 rfl (lv_at hl 2 rfl) ?_
      obtain ⟨j11, ej13, hi12, hf⟩ := ix_some hf
      refine xa_aald hx hb hK hP 8 3 rfl rfl ej13 hi12 (if_pos (ix_lt ej13 hi12)) d_T_setTwelfths_34 ?_
      have hj11 : j11 < 6 := ix_lt ej13 hi12
      refine lv_iload_n hx hb d_T_setTwelfths_35 rfl (lv_at hl 3 rfl) ?_
      refine lv_iload hx hb d_T_setTwelfths_36 (lv_at hl 0 rfl) ?_
      refine lv_iload hx hb d_T_setTwelfths_38 (lv_at hl 5 rfl) ?_
      refine lv_iconst (v := (4 : Int32)) hx hb d_T_setTwelfths_40 (by decide) ?_
      refine lv_iload_n hx hb d_T_setTwelfths_41 rfl (lv_at hl 4 rfl) ?_
      refine lv_imul hx hb d_T_setTwelfths_42 ?_
      refine lv_ishl hx hb d_T_setTwelfths_43 ?_
      refine lv_ior hx hb d_T_setTwelfths_44 ?_
      obtain ⟨j15, ej17, hi16, hf⟩ := ix_some hf
      refine xa_iast hx hb hK hP (hD _) hS (9 + j11) 1 (x_tab_row cs a st hj11) rfl ej17 hi16 d_T_setTwelfths_45 (fun H locs hP hS => ?_)
      rw [x_tab_put cs a st hj11 j15 (((x_tab st j4 j8) &&& (((15 : Int32) <<< (((4 : Int32) * p3) &&& 31)) ^^^ (-1 : Int32))) ||| (p4 <<< (((4 : Int32) * p3) &&& 31)))] at hP
      exact W.vret hx hb hr (fun t ht _ => ⟨⟨(), rfl, trivial, x_fin ht (Option.some.inj hf) hP⟩, hS.F ht⟩) hS.2.2 d_T_setTwelfths_46
    · rw [if_pos c3] at hf
      exact W.vret hx hb hr (fun t ht _ => ⟨⟨(), rfl, trivial, x_fin ht (Option.some.inj hf) hP⟩, hS.F ht⟩) hS.2.2 d_T_setTwelfths_9
  exact main _ _ hP va_S.rf
set_option maxHeartbeats 4000000 in
set_option maxRecDepth 100000 in
theorem c_T_allNeededBy (l : Launch) (dC : Nat → ClassId) (dI : Nat → Nat → Nat) (cs : Nat → ClassId) (a : Nat → Nat) (st : XS) (p1 : Int32) (res : Int32) (hf : x_T_allNeededBy st p1 = some res) : Met l (⟨"GuideSearch$Tests", "allNeededBy", "(I)I"⟩ : MethodName) (Cond.code (⟨"GuideSearch$Tests", "allNeededBy", "(I)I"⟩ : MethodName) prog_5_method_9_code 5 (some .int) :: wg) { frames := 2, cells := 0, slots := 0, locals := 41 } (va_Pc ([.ref (a 5), .int p1] : List Value) (x_pre dC dI cs a st)) (vp_Si (fun r => r = res)) 0 0 (fun _ => False) := by
  refine ro_start (cc := prog_5_method_9_code) (maxL := 5) (ret := (some .int)) (by decide) (Nat.le_of_ble_eq_true rfl) ?_
  intro p e s m below meth c hx hb hr hml hT hown hlocks hB ls hl
  replace hown : s.vm.findClass "GuideSearch$Tests" = some m.cls := hown
  obtain ⟨hP, hK, hN⟩ := hB
  replace hl : lv_has ls 5 [(0, .ref (a 5)), (1, .int p1)] := hl
  unfold x_T_allNeededBy at hf
  refine lv_aload_n hx hb d_T_allNeededBy_0 rfl (lv_at hl 0 rfl) ?_
  refine lv_iload_n hx hb d_T_allNeededBy_1 rfl (lv_at hl 1 rfl) ?_
  obtain ⟨r2, hr1, hf⟩ := ob hf
  refine ro_calli (va_runV (C := "GuideSearch$Tests") (As := [.int p1]) (rest := []) ⟨hx, hb, hml, hown, hT⟩ (c_T_knows l dC dI cs a st p1 r2 hr1) (cwV 1 hT (gV k_199 k_173 k_174 k_3 k_175) rfl rfl rfl (by decide +kernel) ⟨Nat.le_of_ble_eq_true rfl, Nat.le_of_ble_eq_true rfl⟩) (ro_preV hP hK hN (va_recv hK hP (ci := 2) (q0 := 5) rfl rfl)) rfl rfl hl.1 rfl (lv_room (Nat.le_of_ble_eq_true rfl)) d_T_allNeededBy_2 ⟨Nat.le_of_ble_eq_true rfl, Nat.le_of_ble_eq_true rfl⟩) ?_
  have join1 : ∀ (v3 : Int32), x_T_allNeededBy_J1 st v3 = some res → ∀ (ls : Array Slot), lv_has ls 5 [(0, .ref (a 5))] → W p l e { frames := 2, cells := 0, slots := 0, locals := 41 } s m ([.ref (a 5), .int p1] : List Value).toArray below meth c s.heap [] 0 0 (MQ below (vp_Si (fun r => r = res)) ([.ref (a 5), .int p1] : List Value).toArray s 0 0 (fun _ => False)) (F0 m 18 ls [.int v3]) := by
    intro v3 hf ls hl
    unfold x_T_allNeededBy_J1 at hf
    refine lv_istore_n (lv' := [(2, .int v3), (0, .ref (a 5))]) hx hb d_T_allNeededBy_18 rfl hl (by decide) rfl (fun ls hl => ?_)
    refine lv_iconst (v := (0 : Int32)) hx hb d_T_allNeededBy_19 (by decide) ?_
    refine lv_istore_n (lv' := [(3, .int (0 : Int32)), (2, .int v3), (0, .ref (a 5))]) hx hb d_T_allNeededBy_20 rfl hl (by decide) rfl (fun ls hl => ?_)
    have loop2 : ∀ (n : Nat) (v4 : Int32) (v5 : Int32), xl2 (x_T_allNeededBy_B2 st) n v4 v5 = some res → ∀ (ls : Array Slot), lv_has ls 5 [(3, .int v4), (2, .int v5), (0, .ref (a 5))] → W p l e { frames := 2, cells := 0, slots := 0, locals := 41 } s m ([.ref (a 5), .int p1] : List Value).toArray below meth c s.heap [] 0 0 (MQ below (vp_Si (fun r => r = res)) ([.ref (a 5), .int p1] : List Value).toArray s 0 0 (fun _ => False)) (F0 m 21 ls []) := by
      intro n
      induction n with
      | zero => intro v4 v5 hf; exact absurd hf (by simp [xl2])
      | succ n ih2 =>
        intro v4 v5 hf ls hl
        replace hf : (x_T_allNeededBy_B2 st) (xl2 (x_T_allNeededBy_B2 st) n) v4 v5 = some res := hf
        generalize xl2 (x_T_allNeededBy_B2 st) n = self2 at hf ih2
        unfold x_T_allNeededBy_B2 at hf
        refine lv_iload_n hx hb d_T_allNeededBy_21 rfl (lv_at hl 0 rfl) ?_
        refine lv_iconst (v := (5 : Int32)) hx hb d_T_allNeededBy_22 (by decide) ?_
        refine lv_icmp_ge (tgt := 70) hx hb d_T_allNeededBy_23 (by decide) (fun c6 => ?_) (fun c6 => ?_)
        · rw [if_pos c6] at hf
          refine lv_iload_n hx hb d_T_allNeededBy_70 rfl (lv_at hl 1 rfl) ?_
          exact W.iret hx hb hr (fun t ht _ => ⟨_, rfl, Option.some.inj hf, ht⟩) (fun _ h => absurd h List.not_mem_nil) d_T_allNeededBy_71
        · rw [if_neg c6] at hf
          refine lv_iconst (v := (1 : Int32)) hx hb d_T_allNeededBy_26 (by decide) ?_
          refine lv_istore (lv' := [(4, .int (1 : Int32)), (3, .int v4), (2, .int v5), (0, .ref (a 5))]) hx hb d_T_allNeededBy_27 hl (by decide) rfl (fun ls hl => ?_)
          have loop3 : ∀ (n : Nat) (v7 : Int32) (v8 : Int32), xl2 (x_T_allNeededBy_B3 st v4 self2) n v7 v8 = some res → ∀ (ls : Array Slot), lv_has ls 5 [(4, .int v7), (3, .int v4), (2, .int v8), (0, .ref (a 5))] → W p l e { frames := 2, cells := 0, slots := 0, locals := 41 } s m ([.ref (a 5), .int p1] : List Value).toArray below meth c s.heap [] 0 0 (MQ below (vp_Si (fun r => r = res)) ([.ref (a 5), .int p1] : List Value).toArray s 0 0 (fun _ => False)) (F0 m 29 ls []) := by
            intro n
            induction n with
            | zero => intro v7 v8 hf; exact absurd hf (by simp [xl2])
            | succ n ih3 =>
              intro v7 v8 hf ls hl
              replace hf : (x_T_allNeededBy_B3 st v4 self2) (xl2 (x_T_allNeededBy_B3 st v4 self2) n) v7 v8 = some res := hf
              generalize xl2 (x_T_allNeededBy_B3 st v4 self2) n = self3 at hf ih3
              unfold x_T_allNeededBy_B3 at hf
              refine lv_iload hx hb d_T_allNeededBy_29 (lv_at hl 0 rfl) ?_
              refine lv_iconst (v := (5 : Int32)) hx hb d_T_allNeededBy_31 (by decide) ?_
              refine lv_icmp_gt (tgt := 64) hx hb d_T_allNeededBy_32 (by decide) (fun c9 => ?_) (fun c9 => ?_)
              · rw [if_pos c9] at hf
                refine lv_iinc (v := (v4 + 1)) (lv' := [(3, .int (v4 + 1)), (4, .int v7), (2, .int v8), (0, .ref (a 5))]) hx hb d_T_allNeededBy_64 hl (k := 1) rfl rfl (by decide) rfl (fun ls hl => ?_)
                refine lv_goto (tgt := 21) hx hb d_T_allNeededBy_67 (by decide) ?_
                exact ih2 (v4 + 1) v8 hf ls (lv_sub hl [0, 2, 3] rfl)
              · rw [if_neg c9] at hf
                refine lv_iload_n hx hb d_T_allNeededBy_35 rfl (lv_at hl 2 rfl) ?_
                refine lv_iload_n hx hb d_T_allNeededBy_36 rfl (lv_at hl 2 rfl) ?_
                refine lv_iload hx hb d_T_allNeededBy_37 (lv_at hl 0 rfl) ?_
                obtain ⟨r11, hr10, hf⟩ := ob hf
                refine ro_calli (va_runSN (As := [.int v8, .int v7]) (rest := [.int v8]) ⟨hx, hb, hml, hown, hT⟩ (c_G_holds l v8 v7 r11 hr10) ⟨va_cnB 2 hT (gcode k_218) rfl rfl rfl (hN _ k_216) (hT _ k_1) (by decide +kernel) ⟨Nat.le_of_ble_eq_true rfl, Nat.le_of_ble_eq_true rfl⟩, hT _ k_217, trivial⟩ ⟨fun _ _ _ _ q => q, fun _ _ _ => ⟨rfl, trivial⟩⟩ rfl rfl hl.1 rfl (lv_room (Nat.le_of_ble_eq_true rfl)) d_T_allNeededBy_39 ⟨Nat.le_of_ble_eq_true rfl, Nat.le_of_ble_eq_true rfl⟩) ?_
                refine lv_if_eq (tgt := 55) hx hb d_T_allNeededBy_42 (by decide) (fun c12 => ?_) (fun c12 => ?_)
                · rw [if_pos c12] at hf
                  refine lv_iconst (v := (0 : Int32)) hx hb d_T_allNeededBy_55 (by decide) ?_
                  refine lv_ior hx hb d_T_allNeededBy_56 ?_
                  refine lv_istore_n (lv' := [(2, .int (v8 ||| (0 : Int32))), (4, .int v7), (3, .int v4), (0, .ref (a 5))]) hx hb d_T_allNeededBy_57 rfl hl (by decide) rfl (fun ls hl => ?_)
                  refine lv_iinc (v := (v7 + 1)) (lv' := [(4, .int (v7 + 1)), (2, .int (v8 ||| (0 : Int32))), (3, .int v4), (0, .ref (a 5))]) hx hb d_T_allNeededBy_58 hl (k := 1) rfl rfl (by decide) rfl (fun ls hl => ?_)
                  refine lv_goto (tgt := 29) hx hb d_T_allNeededBy_61 (by decide) ?_
                  exact ih3 (v7 + 1) (v8 ||| (0 : Int32)) hf ls (lv_sub hl [0, 2, 1, 3] rfl)
                · rw [if_neg c12] at hf
                  refine lv_aload_n hx hb d_T_allNeededBy_45 rfl (lv_at hl 3 rfl) ?_
                  refine va_get (D := (dC, dI)) (ci := 2) (v := .ref (a 7)) (C := "GuideSearch$Tests") (T := F_T) (N := 4) hx hb hT i_T hown hK hP 5 rfl rfl 1 (by decide) (hT _ k_61) (fun _ h9 => h9) rfl d_T_allNeededBy_46 ?_
                  refine lv_iload hx hb d_T_allNeededBy_49 (lv_at hl 0 rfl) ?_
                  obtain ⟨j13, ej15, hi14, hf⟩ := ix_some hf
                  refine xa_iald hx hb hK hP 7 1 rfl rfl ej15 hi14 d_T_allNeededBy_51 ?_
                  refine lv_goto (tgt := 56) hx hb d_T_allNeededBy_52 (by decide) ?_
                  refine lv_ior hx hb d_T_allNeededBy_56 ?_
                  refine lv_istore_n (lv' := [(2, .int (v8 ||| (x_nee st j13))), (4, .int v7), (3, .int v4), (0, .ref (a 5))]) hx hb d_T_allNeededBy_57 rfl hl (by decide) rfl (fun ls hl => ?_)
                  refine lv_iinc (v := (v7 + 1)) (lv' := [(4, .int (v7 + 1)), (2, .int (v8 ||| (x_nee st j13))), (3, .int v4), (0, .ref (a 5))]) hx hb d_T_allNeededBy_58 hl (k := 1) rfl rfl (by decide) rfl (fun ls hl => ?_)
                  refine lv_goto (tgt := 29) hx hb d_T_allNeededBy_61 (by decide) ?_
                  exact ih3 (v7 + 1) (v8 ||| (x_nee st j13)) hf ls (lv_sub hl [0, 2, 1, 3] rfl)
          exact loop3 _ (1 : Int32) v5 hf ls (lv_sub hl [0, 1, 2, 3] rfl)
    exact loop2 _ (0 : Int32) v3 hf ls (lv_sub hl [0, 1, 2] rfl)
  refine lv_if_eq (tgt := 17) hx hb d_T_allNeededBy_5 (by decide) (fun c16 => ?_) (fun c16 => ?_)
  · rw [if_pos c16] at hf
    refine lv_iconst (v := (0 : Int32)) hx hb d_T_allNeededBy_17 (by decide) ?_
    exact join1 (0 : Int32) hf ls (lv_sub hl [0] rfl)
  · rw [if_neg c16] at hf
    refine lv_aload_n hx hb d_T_allNeededBy_8 rfl (lv_at hl 0 rfl) ?_
    refine va_get (D := (dC, dI)) (ci := 2) (v := .ref (a 7)) (C := "GuideSearch$Tests") (T := F_T) (N := 4) hx hb hT i_T hown hK hP 5 rfl rfl 1 (by decide) (hT _ k_61) (fun _ h9 => h9) rfl d_T_allNeededBy_9 ?_
    refine lv_iload_n hx hb d_T_allNeededBy_12 rfl (lv_at hl 1 rfl) ?_
    obtain ⟨j17, ej19, hi18, hf⟩ := ix_some hf
    refine xa_iald hx hb hK hP 7 1 rfl rfl ej19 hi18 d_T_allNeededBy_13 ?_
    refine lv_goto (tgt := 18) hx hb d_T_allNeededBy_14 (by decide) ?_
    exact join1 (x_nee st j17) hf ls (lv_sub hl [0] rfl)
set_option maxHeartbeats 4000000 in
set_option maxRecDepth 100000 in
theorem c_T_addNeed (l : Launch) (dC : Nat → ClassId) (dI : Nat → Nat → Nat) (cs : Nat → ClassId) (a : Nat → Nat) (hi : ∀ i j : Nat, i < 29 → j < 29 → a i = a j → i = j) (st : XS) (p1 : Int32) (p2 : Int32) (res : Int32 × XS) (hf : x_T_addNeed st p1 p2 = some res) : Met l (⟨"GuideSearch$Tests", "addNeed", "(II)I"⟩ : MethodName) (Cond.code (⟨"GuideSearch$Tests", "addNeed", "(II)I"⟩ : MethodName) prog_5_method_8_code 3 (some .int) :: wg) { frames := 1, cells := 0, slots := 0, locals := 21 } (va_Pc ([.ref (a 5), .int p1, .int p2] : List Value) (x_pre dC dI cs a st)) (va_Qi (fun r (_ : Unit) => r = res.1) (fun _ t => va_P (dC, dI) vwCl (x_W cs a res.2) t.heap) (x_A a)) 0 0 (x_A a) := by
  refine ro_start (cc := prog_5_method_8_code) (maxL := 3) (ret := (some .int)) (by decide) (Nat.le_of_ble_eq_true rfl) ?_
  intro p e s m below meth c hx hb hr hml hT hown hlocks hB ls hl
  replace hown : s.vm.findClass "GuideSearch$Tests" = some m.cls := hown
  obtain ⟨hP, hK, hN⟩ := hB
  replace hl : lv_has ls 3 [(0, .ref (a 5)), (1, .int p1), (2, .int p2)] := hl
  unfold x_T_addNeed at hf
  have hD : ∀ st : XS, va_D (x_A a) (x_W cs a st) := fun st => x_D hi cs st
  have main : ∀ (H : Heap) (locs : List Loc), va_P (dC, dI) vwCl (x_W cs a st) H → va_S (x_A a) s.heap H locs → W p l e { frames := 1, cells := 0, slots := 0, locals := 21 } s m ([.ref (a 5), .int p1, .int p2] : List Value).toArray below meth c H locs 0 0 (MQ below (va_Qi (fun r (_ : Unit) => r = res.1) (fun _ t => va_P (dC, dI) vwCl (x_W cs a res.2) t.heap) (x_A a)) ([.ref (a 5), .int p1, .int p2] : List Value).toArray s 0 0 (x_A a)) (F0 m 0 ls []) := by
    intro H locs hP hS
    refine lv_aload_n hx hb d_T_addNeed_0 rfl (lv_at hl 0 rfl) ?_
    refine lv_iload_n hx hb d_T_addNeed_1 rfl (lv_at hl 1 rfl) ?_
    obtain ⟨r2, hr1, hf⟩ := ob hf
    refine ro_calli (va_runV (C := "GuideSearch$Tests") (As := [.int p1]) (rest := []) ⟨hx, hb, hml, hown, hT⟩ (c_T_knows l dC dI cs a st p1 r2 hr1) (cwV 1 hT (gV k_199 k_173 k_174 k_3 k_175) rfl rfl rfl (by decide +kernel) ⟨Nat.le_of_ble_eq_true rfl, Nat.le_of_ble_eq_true rfl⟩) (ro_preV hP hK hN (va_recv hK hP (ci := 2) (q0 := 5) rfl rfl)) rfl rfl hl.1 rfl (lv_room (Nat.le_of_ble_eq_true rfl)) d_T_addNeed_2 ⟨Nat.le_of_ble_eq_true rfl, Nat.le_of_ble_eq_true rfl⟩) ?_
    refine lv_if_ne (tgt := 10) hx hb d_T_addNeed_5 (by decide) (fun c3 => ?_) (fun c3 => ?_)
    · rw [if_neg c3] at hf
      refine lv_aload_n hx hb d_T_addNeed_10 rfl (lv_at hl 0 rfl) ?_
      refine va_get (D := (dC, dI)) (ci := 2) (v := .ref (a 7)) (C := "GuideSearch$Tests") (T := F_T) (N := 4) hx hb hT i_T hown hK hP 5 rfl rfl 1 (by decide) (hT _ k_61) (fun _ h9 => h9) rfl d_T_addNeed_11 ?_
      refine lv_iload_n hx hb d_T_addNeed_14 rfl (lv_at hl 1 rfl) ?_
      refine lv_dup2_11 hx hb d_T_addNeed_15 rfl rfl ?_
      obtain ⟨j4, ej6, hi5, hf⟩ := ix_some hf
      refine xa_iald hx hb hK hP 7 1 rfl rfl ej6 hi5 d_T_addNeed_16 ?_
      refine lv_iload_n hx hb d_T_addNeed_17 rfl (lv_at hl 2 rfl) ?_
      obtain ⟨r8, hr7, hf⟩ := ob hf
      refine ro_calli (va_runSN (As := [.int p2]) (rest := [.int (x_nee st j4), .int p1, .ref (a 7)]) ⟨hx, hb, hml, hown, hT⟩ (c_G_bit l p2 r8 hr7) ⟨va_cnB 1 hT (gcode k_221) rfl rfl rfl (hN _ k_226) (hT _ k_1) (by decide +kernel) ⟨Nat.le_of_ble_eq_true rfl, Nat.le_of_ble_eq_true rfl⟩, hT _ k_220, trivial⟩ ⟨fun _ _ _ _ q => q, fun _ _ _ => ⟨rfl, trivial⟩⟩ rfl rfl hl.1 rfl (lv_room (Nat.le_of_ble_eq_true rfl)) d_T_addNeed_18 ⟨Nat.le_of_ble_eq_true rfl, Nat.le_of_ble_eq_true rfl⟩) ?_
      refine lv_ior hx hb d_T_addNeed_21 ?_
      obtain ⟨j9, ej11, hi10, hf⟩ := ix_some hf
      refine xa_iast hx hb hK hP (hD _) hS 7 1 rfl rfl ej11 hi10 d_T_addNeed_22 (fun H locs hP hS => ?_)
      rw [x_nee_put cs a st j9 ((x_nee st j4) ||| r8)] at hP
      refine lv_aload_n hx hb d_T_addNeed_23 rfl (lv_at hl 0 rfl) ?_
      refine va_get (D := (dC, dI)) (ci := 2) (v := .ref (a 7)) (C := "GuideSearch$Tests") (T := F_T) (N := 4) hx hb hT i_T hown hK hP 5 rfl rfl 1 (by decide) (hT _ k_61) (fun _ h9 => h9) rfl d_T_addNeed_24 ?_
      refine lv_iload_n hx hb d_T_addNeed_27 rfl (lv_at hl 1 rfl) ?_
      obtain ⟨j12, ej14, hi13, hf⟩ := ix_some hf
      refine xa_iald hx hb hK hP 7 1 rfl rfl ej14 hi13 d_T_addNeed_28 ?_
      obtain ⟨r16, hr15, hf⟩ := ob hf
      refine ro_calli (va_runS (As := [.int (x_nee (x_nee_s st j9 ((x_nee st j4) ||| r8)) j12)]) (rest := []) ⟨hx, hb, hml, hown, hT⟩ (c_JI_bitCount l (x_nee (x_nee_s st j9 ((x_nee st j4) ||| r8)) j12) r16 hr15) (va_cwS 1 hT (gS k_227 k_228 k_8 k_229) rfl rfl rfl (by decide +kernel) ⟨Nat.le_of_ble_eq_true rfl, Nat.le_of_ble_eq_true rfl⟩) ⟨fun _ _ _ _ q => q, fun _ _ _ => ⟨rfl, trivial⟩⟩ rfl rfl hl.1 rfl (lv_room (Nat.le_of_ble_eq_true rfl)) d_T_addNeed_29 ⟨Nat.le_of_ble_eq_true rfl, Nat.le_of_ble_eq_true rfl⟩) ?_
      exact W.iret hx hb hr (fun t ht _ => ⟨⟨_, (), rfl, congrArg Prod.fst (Option.some.inj hf), x_fin ht (congrArg Prod.snd (Option.some.inj hf)) hP⟩, hS.F ht⟩) hS.2.2 d_T_addNeed_32
    · rw [if_pos c3] at hf
      refine lv_iconst (v := (-1 : Int32)) hx hb d_T_addNeed_8 (by decide) ?_
      exact W.iret hx hb hr (fun t ht _ => ⟨⟨_, (), rfl, congrArg Prod.fst (Option.some.inj hf), x_fin ht (congrArg Prod.snd (Option.some.inj hf)) hP⟩, hS.F ht⟩) hS.2.2 d_T_addNeed_9
  exact main _ _ hP va_S.rf
set_option maxHeartbeats 4000000 in
set_option maxRecDepth 100000 in
theorem c_T_isOpen (l : Launch) (dC : Nat → ClassId) (dI : Nat → Nat → Nat) (cs : Nat → ClassId) (a : Nat → Nat) (st : XS) (p1 : Int32) (p2 : Int32) (res : Int32) (hf : x_T_isOpen st p1 p2 = some res) : Met l (⟨"GuideSearch$Tests", "isOpen", "(II)Z"⟩ : MethodName) (Cond.code (⟨"GuideSearch$Tests", "isOpen", "(II)Z"⟩ : MethodName) prog_5_method_11_code 4 (some .boolean) :: wg) { frames := 2, cells := 0, slots := 0, locals := 41 } (va_Pc ([.ref (a 5), .int p1, .int p2] : List Value) (x_pre dC dI cs a st)) (vp_Si (fun r => r = res)) 0 0 (fun _ => False) := by
  refine ro_start (cc := prog_5_method_11_code) (maxL := 4) (ret := (some .boolean)) (by decide) (Nat.le_of_ble_eq_true rfl) ?_
  intro p e s m below meth c hx hb hr hml hT hown hlocks hB ls hl
  replace hown : s.vm.findClass "GuideSearch$Tests" = some m.cls := hown
  obtain ⟨hP, hK, hN⟩ := hB
  replace hl : lv_has ls 4 [(0, .ref (a 5)), (1, .int p1), (2, .int p2)] := hl
  unfold x_T_isOpen at hf
  refine lv_aload_n hx hb d_T_isOpen_0 rfl (lv_at hl 0 rfl) ?_
  refine lv_iload_n hx hb d_T_isOpen_1 rfl (lv_at hl 1 rfl) ?_
  obtain ⟨r2, hr1, hf⟩ := ob hf
  refine ro_calli (va_runV (C := "GuideSearch$Tests") (As := [.int p1]) (rest := []) ⟨hx, hb, hml, hown, hT⟩ (c_T_knows l dC dI cs a st p1 r2 hr1) (cwV 1 hT (gV k_199 k_173 k_174 k_3 k_175) rfl rfl rfl (by decide +kernel) ⟨Nat.le_of_ble_eq_true rfl, Nat.le_of_ble_eq_true rfl⟩) (ro_preV hP hK hN (va_recv hK hP (ci := 2) (q0 := 5) rfl rfl)) rfl rfl hl.1 rfl (lv_room (Nat.le_of_ble_eq_true rfl)) d_T_isOpen_2 ⟨Nat.le_of_ble_eq_true rfl, Nat.le_of_ble_eq_true rfl⟩) ?_
  refine lv_if_eq (tgt := 17) hx hb d_T_isOpen_5 (by decide) (fun c3 => ?_) (fun c3 => ?_)
  · rw [if_pos c3] at hf
    refine lv_iconst (v := (0 : Int32)) hx hb d_T_isOpen_17 (by decide) ?_
    exact W.zret (ty := .boolean) hx hb hr (rfl) (fun t ht _ => ⟨_, rfl, Option.some.inj hf, ht⟩) (fun _ h => absurd h List.not_mem_nil) d_T_isOpen_18
  · rw [if_neg c3] at hf
    refine lv_iload_n hx hb d_T_isOpen_8 rfl (lv_at hl 2 rfl) ?_
    refine lv_iload_n hx hb d_T_isOpen_9 rfl (lv_at hl 1 rfl) ?_
    obtain ⟨r5, hr4, hf⟩ := ob hf
    refine ro_calli (va_runSN (As := [.int p2, .int p1]) (rest := []) ⟨hx, hb, hml, hown, hT⟩ (c_G_answerIn l p2 p1 r5 hr4) ⟨va_cnB 2 hT (gcode k_203) rfl rfl rfl (hN _ k_241) (hT _ k_1) (by decide +kernel) ⟨Nat.le_of_ble_eq_true rfl, Nat.le_of_ble_eq_true rfl⟩, hT _ k_202, trivial⟩ ⟨fun _ _ _ _ q => q, fun _ _ _ => ⟨rfl, trivial⟩⟩ rfl rfl hl.1 rfl (lv_room (Nat.le_of_ble_eq_true rfl)) d_T_isOpen_10 ⟨Nat.le_of_ble_eq_true rfl, Nat.le_of_ble_eq_true rfl⟩) ?_
    refine lv_iconst (v := (-1 : Int32)) hx hb d_T_isOpen_13 (by decide) ?_
    refine lv_icmp_eq (tgt := 19) hx hb d_T_isOpen_14 (by decide) (fun c6 => ?_) (fun c6 => ?_)
    · rw [if_pos c6] at hf
      refine lv_iconst (v := (1 : Int32)) hx hb d_T_isOpen_19 (by decide) ?_
      refine lv_istore_n (lv' := [(3, .int (1 : Int32)), (0, .ref (a 5)), (1, .int p1), (2, .int p2)]) hx hb d_T_isOpen_20 rfl hl (by decide) rfl (fun ls hl => ?_)
      have loop1 : ∀ (n : Nat) (v7 : Int32), xl1 (x_T_isOpen_B1 st p1 p2) n v7 = some res → ∀ (ls : Array Slot), lv_has ls 4 [(3, .int v7), (0, .ref (a 5)), (1, .int p1), (2, .int p2)] → W p l e { frames := 2, cells := 0, slots := 0, locals := 41 } s m ([.ref (a 5), .int p1, .int p2] : List Value).toArray below meth c s.heap [] 0 0 (MQ below (vp_Si (fun r => r = res)) ([.ref (a 5), .int p1, .int p2] : List Value).toArray s 0 0 (fun _ => False)) (F0 m 21 ls []) := by
        intro n
        induction n with
        | zero => intro v7 hf; exact absurd hf (by simp [xl1])
        | succ n ih1 =>
          intro v7 hf ls hl
          replace hf : (x_T_isOpen_B1 st p1 p2) (xl1 (x_T_isOpen_B1 st p1 p2) n) v7 = some res := hf
          generalize xl1 (x_T_isOpen_B1 st p1 p2) n = self1 at hf ih1
          unfold x_T_isOpen_B1 at hf
          refine lv_iload_n hx hb d_T_isOpen_21 rfl (lv_at hl 0 rfl) ?_
          refine lv_iconst (v := (5 : Int32)) hx hb d_T_isOpen_22 (by decide) ?_
          refine lv_icmp_gt (tgt := 56) hx hb d_T_isOpen_23 (by decide) (fun c8 => ?_) (fun c8 => ?_)
          · rw [if_pos c8] at hf
            refine lv_iconst (v := (1 : Int32)) hx hb d_T_isOpen_56 (by decide) ?_
            exact W.zret (ty := .boolean) hx hb hr (rfl) (fun t ht _ => ⟨_, rfl, Option.some.inj hf, ht⟩) (fun _ h => absurd h List.not_mem_nil) d_T_isOpen_57
          · rw [if_neg c8] at hf
            refine lv_aload_n hx hb d_T_isOpen_26 rfl (lv_at hl 1 rfl) ?_
            refine va_get (D := (dC, dI)) (ci := 2) (v := .ref (a 7)) (C := "GuideSearch$Tests") (T := F_T) (N := 4) hx hb hT i_T hown hK hP 5 rfl rfl 1 (by decide) (hT _ k_61) (fun _ h9 => h9) rfl d_T_isOpen_27 ?_
            refine lv_iload_n hx hb d_T_isOpen_30 rfl (lv_at hl 2 rfl) ?_
            obtain ⟨j9, ej11, hi10, hf⟩ := ix_some hf
            refine xa_iald hx hb hK hP 7 1 rfl rfl ej11 hi10 d_T_isOpen_31 ?_
            refine lv_iload_n hx hb d_T_isOpen_32 rfl (lv_at hl 0 rfl) ?_
            obtain ⟨r13, hr12, hf⟩ := ob hf
            refine ro_calli (va_runSN (As := [.int (x_nee st j9), .int v7]) (rest := []) ⟨hx, hb, hml, hown, hT⟩ (c_G_holds l (x_nee st j9) v7 r13 hr12) ⟨va_cnB 2 hT (gcode k_218) rfl rfl rfl (hN _ k_216) (hT _ k_1) (by decide +kernel) ⟨Nat.le_of_ble_eq_true rfl, Nat.le_of_ble_eq_true rfl⟩, hT _ k_217, trivial⟩ ⟨fun _ _ _ _ q => q, fun _ _ _ => ⟨rfl, trivial⟩⟩ rfl rfl hl.1 rfl (lv_room (Nat.le_of_ble_eq_true rfl)) d_T_isOpen_33 ⟨Nat.le_of_ble_eq_true rfl, Nat.le_of_ble_eq_true rfl⟩) ?_
            refine lv_if_eq (tgt := 50) hx hb d_T_isOpen_36 (by decide) (fun c14 => ?_) (fun c14 => ?_)
            · rw [if_pos c14] at hf
              refine lv_iinc (v := (v7 + 1)) (lv' := [(3, .int (v7 + 1)), (0, .ref (a 5)), (1, .int p1), (2, .int p2)]) hx hb d_T_isOpen_50 hl (k := 0) rfl rfl (by decide) rfl (fun ls hl => ?_)
              refine lv_goto (tgt := 21) hx hb d_T_isOpen_53 (by decide) ?_
              exact ih1 (v7 + 1) hf ls (lv_sub hl [0, 1, 2, 3] rfl)
            · rw [if_neg c14] at hf
              refine lv_iload_n hx hb d_T_isOpen_39 rfl (lv_at hl 3 rfl) ?_
              refine lv_iload_n hx hb d_T_isOpen_40 rfl (lv_at hl 0 rfl) ?_
              obtain ⟨r16, hr15, hf⟩ := ob hf
              refine ro_calli (va_runSN (As := [.int p2, .int v7]) (rest := []) ⟨hx, hb, hml, hown, hT⟩ (c_G_answerIn l p2 v7 r16 hr15) ⟨va_cnB 2 hT (gcode k_203) rfl rfl rfl (hN _ k_241) (hT _ k_1) (by decide +kernel) ⟨Nat.le_of_ble_eq_true rfl, Nat.le_of_ble_eq_true rfl⟩, hT _ k_202, trivial⟩ ⟨fun _ _ _ _ q => q, fun _ _ _ => ⟨rfl, trivial⟩⟩ rfl rfl hl.1 rfl (lv_room (Nat.le_of_ble_eq_true rfl)) d_T_isOpen_41 ⟨Nat.le_of_ble_eq_true rfl, Nat.le_of_ble_eq_true rfl⟩) ?_
              refine lv_iconst (v := (-1 : Int32)) hx hb d_T_isOpen_44 (by decide) ?_
              refine lv_icmp_ne (tgt := 50) hx hb d_T_isOpen_45 (by decide) (fun c17 => ?_) (fun c17 => ?_)
              · rw [if_neg c17] at hf
                refine lv_iinc (v := (v7 + 1)) (lv' := [(3, .int (v7 + 1)), (0, .ref (a 5)), (1, .int p1), (2, .int p2)]) hx hb d_T_isOpen_50 hl (k := 0) rfl rfl (by decide) rfl (fun ls hl => ?_)
                refine lv_goto (tgt := 21) hx hb d_T_isOpen_53 (by decide) ?_
                exact ih1 (v7 + 1) hf ls (lv_sub hl [0, 1, 2, 3] rfl)
              · rw [if_pos c17] at hf
                refine lv_iconst (v := (0 : Int32)) hx hb d_T_isOpen_48 (by decide) ?_
                exact W.zret (ty := .boolean) hx hb hr (rfl) (fun t ht _ => ⟨_, rfl, Option.some.inj hf, ht⟩) (fun _ h => absurd h List.not_mem_nil) d_T_isOpen_49
      exact loop1 _ (1 : Int32) hf ls (lv_sub hl [0, 1, 2, 3] rfl)
    · rw [if_neg c6] at hf
      refine lv_iconst (v := (0 : Int32)) hx hb d_T_isOpen_17 (by decide) ?_
      exact W.zret (ty := .boolean) hx hb hr (rfl) (fun t ht _ => ⟨_, rfl, Option.some.inj hf, ht⟩) (fun _ h => absurd h List.not_mem_nil) d_T_isOpen_18
set_option maxHeartbeats 4000000 in
set_option maxRecDepth 100000 in
theorem c_T_canAnswer (l : Launch) (dC : Nat → ClassId) (dI : Nat → Nat → Nat) (cs : Nat → ClassId) (a : Nat → Nat) (st : XS) (p1 : Int32) (p2 : Int32) (p3 : Int32) (res : Int32) (hf : x_T_canAnswer st p1 p2 p3 = some res) : Met l (⟨"GuideSearch$Tests", "canAnswer", "(III)Z"⟩ : MethodName) (Cond.code (⟨"GuideSearch$Tests", "canAnswer", "(III)Z"⟩ : MethodName) prog_5_method_12_code 5 (some .boolean) :: wg) { frames := 3, cells := 0, slots := 0, locals := 66 } (va_Pc ([.ref (a 5), .int p1, .int p2, .int p3] : List Value) (x_pre dC dI cs a st)) (vp_Si (fun r => r = res)) 0 0 (fun _ => False) := by
  refine ro_start (cc := prog_5_method_12_code) (maxL := 5) (ret := (some .boolean)) (by decide) (Nat.le_of_ble_eq_true rfl) ?_
  intro p e s m below meth c hx hb hr hml hT hown hlocks hB ls hl
  replace hown : s.vm.findClass "GuideSearch$Tests" = some m.cls := hown
  obtain ⟨hP, hK, hN⟩ := hB
  replace hl : lv_has ls 5 [(0, .ref (a 5)), (1, .int p1), (2, .int p2), (3, .int p3)] := hl
  unfold x_T_canAnswer at hf
  refine lv_iconst (v := (1 : Int32)) hx hb d_T_canAnswer_0 (by decide) ?_
  refine lv_istore (lv' := [(4, .int (1 : Int32)), (0, .ref (a 5)), (1, .int p1), (2, .int p2), (3, .int p3)]) hx hb d_T_canAnswer_1 hl (by decide) rfl (fun ls hl => ?_)
  have loop1 : ∀ (n : Nat) (v1 : Int32), xl1 (x_T_canAnswer_B1 st p1 p2 p3) n v1 = some res → ∀ (ls : Array Slot), lv_has ls 5 [(4, .int v1), (0, .ref (a 5)), (1, .int p1), (2, .int p2), (3, .int p3)] → W p l e { frames := 3, cells := 0, slots := 0, locals := 66 } s m ([.ref (a 5), .int p1, .int p2, .int p3] : List Value).toArray below meth c s.heap [] 0 0 (MQ below (vp_Si (fun r => r = res)) ([.ref (a 5), .int p1, .int p2, .int p3] : List Value).toArray s 0 0 (fun _ => False)) (F0 m 3 ls []) := by
    intro n
    induction n with
    | zero => intro v1 hf; exact absurd hf (by simp [xl1])
    | succ n ih1 =>
      intro v1 hf ls hl
      replace hf : (x_T_canAnswer_B1 st p1 p2 p3) (xl1 (x_T_canAnswer_B1 st p1 p2 p3) n) v1 = some res := hf
      generalize xl1 (x_T_canAnswer_B1 st p1 p2 p3) n = self1 at hf ih1
      unfold x_T_canAnswer_B1 at hf
      refine lv_iload hx hb d_T_canAnswer_3 (lv_at hl 0 rfl) ?_
      refine lv_iload_n hx hb d_T_canAnswer_5 rfl (lv_at hl 4 rfl) ?_
      refine lv_icmp_gt (tgt := 28) hx hb d_T_canAnswer_6 (by decide) (fun c2 => ?_) (fun c2 => ?_)
      · rw [if_pos c2] at hf
        refine lv_iconst (v := (0 : Int32)) hx hb d_T_canAnswer_28 (by decide) ?_
        exact W.zret (ty := .boolean) hx hb hr (rfl) (fun t ht _ => ⟨_, rfl, Option.some.inj hf, ht⟩) (fun _ h => absurd h List.not_mem_nil) d_T_canAnswer_29
      · rw [if_neg c2] at hf
        refine lv_aload_n hx hb d_T_canAnswer_9 rfl (lv_at hl 1 rfl) ?_
        refine lv_iload_n hx hb d_T_canAnswer_10 rfl (lv_at hl 2 rfl) ?_
        refine lv_iload hx hb d_T_canAnswer_11 (lv_at hl 0 rfl) ?_
        refine lv_iload_n hx hb d_T_canAnswer_13 rfl (lv_at hl 3 rfl) ?_
        obtain ⟨r4, hr3, hf⟩ := ob hf
        refine ro_calli (va_runV (C := "GuideSearch$Tests") (As := [.int p1, .int v1, .int p2]) (rest := []) ⟨hx, hb, hml, hown, hT⟩ (c_T_twelfths l dC dI cs a st p1 v1 p2 r4 hr3) (cwV 3 hT (gV k_191 k_192 k_193 k_3 k_194) rfl rfl rfl (by decide +kernel) ⟨Nat.le_of_ble_eq_true rfl, Nat.le_of_ble_eq_true rfl⟩) (ro_preV hP hK hN (va_recv hK hP (ci := 2) (q0 := 5) rfl rfl)) rfl rfl hl.1 rfl (lv_room (Nat.le_of_ble_eq_true rfl)) d_T_canAnswer_14 ⟨Nat.le_of_ble_eq_true rfl, Nat.le_of_ble_eq_true rfl⟩) ?_
        refine lv_if_le (tgt := 22) hx hb d_T_canAnswer_17 (by decide) (fun c5 => ?_) (fun c5 => ?_)
        · rw [if_pos c5] at hf
          refine lv_iinc (v := (v1 + 1)) (lv' := [(4, .int (v1 + 1)), (0, .ref (a 5)), (1, .int p1), (2, .int p2), (3, .int p3)]) hx hb d_T_canAnswer_22 hl (k := 0) rfl rfl (by decide) rfl (fun ls hl => ?_)
          refine lv_goto (tgt := 3) hx hb d_T_canAnswer_25 (by decide) ?_
          exact ih1 (v1 + 1) hf ls (lv_sub hl [0, 1, 2, 3, 4] rfl)
        · rw [if_neg c5] at hf
          refine lv_iconst (v := (1 : Int32)) hx hb d_T_canAnswer_20 (by decide) ?_
          exact W.zret (ty := .boolean) hx hb hr (rfl) (fun t ht _ => ⟨_, rfl, Option.some.inj hf, ht⟩) (fun _ h => absurd h List.not_mem_nil) d_T_canAnswer_21
  exact loop1 _ (1 : Int32) hf ls (lv_sub hl [0, 1, 2, 3, 4] rfl)
set_option maxHeartbeats 4000000 in
set_option maxRecDepth 100000 in
theorem c_T_price (l : Launch) (dC : Nat → ClassId) (dI : Nat → Nat → Nat) (cs : Nat → ClassId) (a : Nat → Nat) (st : XS) (p1 : Int32) (res : Int32) (hf : x_T_price st p1 = some res) : Met l (⟨"GuideSearch$Tests", "price", "(I)I"⟩ : MethodName) (Cond.code (⟨"GuideSearch$Tests", "price", "(I)I"⟩ : MethodName) prog_5_method_4_code 2 (some .int) :: wg) { frames := 1, cells := 0, slots := 0, locals := 21 } (va_Pc ([.ref (a 5), .int p1] : List Value) (x_pre dC dI cs a st)) (vp_Si (fun r => r = res)) 0 0 (fun _ => False) := by
  refine ro_start (cc := prog_5_method_4_code) (maxL := 2) (ret := (some .int)) (by decide) (Nat.le_of_ble_eq_true rfl) ?_
  intro p e s m below meth c hx hb hr hml hT hown hlocks hB ls hl
  replace hown : s.vm.findClass "GuideSearch$Tests" = some m.cls := hown
  obtain ⟨hP, hK, hN⟩ := hB
  replace hl : lv_has ls 2 [(0, .ref (a 5)), (1, .int p1)] := hl
  unfold x_T_price at hf
  refine lv_aload_n hx hb d_T_price_0 rfl (lv_at hl 0 rfl) ?_
  refine lv_iload_n hx hb d_T_price_1 rfl (lv_at hl 1 rfl) ?_
  obtain ⟨r2, hr1, hf⟩ := ob hf
  refine ro_calli (va_runV (C := "GuideSearch$Tests") (As := [.int p1]) (rest := []) ⟨hx, hb, hml, hown, hT⟩ (c_T_knows l dC dI cs a st p1 r2 hr1) (cwV 1 hT (gV k_199 k_173 k_174 k_3 k_175) rfl rfl rfl (by decide +kernel) ⟨Nat.le_of_ble_eq_true rfl, Nat.le_of_ble_eq_true rfl⟩) (ro_preV hP hK hN (va_recv hK hP (ci := 2) (q0 := 5) rfl rfl)) rfl rfl hl.1 rfl (lv_room (Nat.le_of_ble_eq_true rfl)) d_T_price_2 ⟨Nat.le_of_ble_eq_true rfl, Nat.le_of_ble_eq_true rfl⟩) ?_
  refine lv_if_eq (tgt := 17) hx hb d_T_price_5 (by decide) (fun c3 => ?_) (fun c3 => ?_)
  · rw [if_pos c3] at hf
    refine lv_iconst (v := (0 : Int32)) hx hb d_T_price_17 (by decide) ?_
    exact W.iret hx hb hr (fun t ht _ => ⟨_, rfl, Option.some.inj hf, ht⟩) (fun _ h => absurd h List.not_mem_nil) d_T_price_18
  · rw [if_neg c3] at hf
    refine lv_aload_n hx hb d_T_price_8 rfl (lv_at hl 0 rfl) ?_
    refine va_get (D := (dC, dI)) (ci := 2) (v := .ref (a 6)) (C := "GuideSearch$Tests") (T := F_T) (N := 4) hx hb hT i_T hown hK hP 5 rfl rfl 0 (by decide) (hT _ k_60) (fun _ h9 => h9) rfl d_T_price_9 ?_
    refine lv_iload_n hx hb d_T_price_12 rfl (lv_at hl 1 rfl) ?_
    obtain ⟨j4, ej6, hi5, hf⟩ := ix_some hf
    refine xa_iald hx hb hK hP 6 1 rfl rfl ej6 hi5 d_T_price_13 ?_
    refine lv_goto (tgt := 18) hx hb d_T_price_14 (by decide) ?_
    exact W.iret hx hb hr (fun t ht _ => ⟨_, rfl, Option.some.inj hf, ht⟩) (fun _ h => absurd h List.not_mem_nil) d_T_price_18
set_option maxHeartbeats 4000000 in
set_option maxRecDepth 100000 in
theorem c_T_unanswered (l : Launch) (dC : Nat → ClassId) (dI : Nat → Nat → Nat) (cs : Nat → ClassId) (a : Nat → Nat) (st : XS) (p1 : Int32) (res : Int32) (hf : x_T_unanswered st p1 = some res) : Met l (⟨"GuideSearch$Tests", "unanswered", "(I)I"⟩ : MethodName) (Cond.code (⟨"GuideSearch$Tests", "unanswered", "(I)I"⟩ : MethodName) prog_5_method_10_code 4 (some .int) :: wg) { frames := 1, cells := 0, slots := 0, locals := 21 } (va_Pc ([.ref (a 5), .int p1] : List Value) (x_pre dC dI cs a st)) (vp_Si (fun r => r = res)) 0 0 (fun _ => False) := by
  refine ro_start (cc := prog_5_method_10_code) (maxL := 4) (ret := (some .int)) (by decide) (Nat.le_of_ble_eq_true rfl) ?_
  intro p e s m below meth c hx hb hr hml hT hown hlocks hB ls hl
  replace hown : s.vm.findClass "GuideSearch$Tests" = some m.cls := hown
  obtain ⟨hP, hK, hN⟩ := hB
  replace hl : lv_has ls 4 [(0, .ref (a 5)), (1, .int p1)] := hl
  unfold x_T_unanswered at hf
  refine lv_iconst (v := (0 : Int32)) hx hb d_T_unanswered_0 (by decide) ?_
  refine lv_istore_n (lv' := [(2, .int (0 : Int32)), (0, .ref (a 5)), (1, .int p1)]) hx hb d_T_unanswered_1 rfl hl (by decide) rfl (fun ls hl => ?_)
  refine lv_iconst (v := (1 : Int32)) hx hb d_T_unanswered_2 (by decide) ?_
  refine lv_istore_n (lv' := [(3, .int (1 : Int32)), (2, .int (0 : Int32)), (0, .ref (a 5)), (1, .int p1)]) hx hb d_T_unanswered_3 rfl hl (by decide) rfl (fun ls hl => ?_)
  have loop1 : ∀ (n : Nat) (v1 : Int32) (v2 : Int32), xl2 (x_T_unanswered_B1 st p1) n v1 v2 = some res → ∀ (ls : Array Slot), lv_has ls 4 [(3, .int v1), (2, .int v2), (0, .ref (a 5)), (1, .int p1)] → W p l e { frames := 1, cells := 0, slots := 0, locals := 21 } s m ([.ref (a 5), .int p1] : List Value).toArray below meth c s.heap [] 0 0 (MQ below (vp_Si (fun r => r = res)) ([.ref (a 5), .int p1] : List Value).toArray s 0 0 (fun _ => False)) (F0 m 4 ls []) := by
    intro n
    induction n with
    | zero => intro v1 v2 hf; exact absurd hf (by simp [xl2])
    | succ n ih1 =>
      intro v1 v2 hf ls hl
      replace hf : (x_T_unanswered_B1 st p1) (xl2 (x_T_unanswered_B1 st p1) n) v1 v2 = some res := hf
      generalize xl2 (x_T_unanswered_B1 st p1) n = self1 at hf ih1
      unfold x_T_unanswered_B1 at hf
      refine lv_iload_n hx hb d_T_unanswered_4 rfl (lv_at hl 0 rfl) ?_
      refine lv_aload_n hx hb d_T_unanswered_5 rfl (lv_at hl 2 rfl) ?_
      refine va_get (D := (dC, dI)) (ci := 2) (v := .int (x_tN st)) (C := "GuideSearch$Tests") (T := F_T) (N := 4) hx hb hT i_T hown hK hP 5 rfl rfl 3 (by decide) (hT _ k_63) (fun _ h9 => h9) rfl d_T_unanswered_6 ?_
      refine lv_icmp_gt (tgt := 35) hx hb d_T_unanswered_9 (by decide) (fun c3 => ?_) (fun c3 => ?_)
      · rw [if_pos c3] at hf
        refine lv_iload_n hx hb d_T_unanswered_35 rfl (lv_at hl 1 rfl) ?_
        exact W.iret hx hb hr (fun t ht _ => ⟨_, rfl, Option.some.inj hf, ht⟩) (fun _ h => absurd h List.not_mem_nil) d_T_unanswered_36
      · rw [if_neg c3] at hf
        refine lv_iload_n hx hb d_T_unanswered_12 rfl (lv_at hl 1 rfl) ?_
        refine lv_iload_n hx hb d_T_unanswered_13 rfl (lv_at hl 3 rfl) ?_
        refine lv_iload_n hx hb d_T_unanswered_14 rfl (lv_at hl 0 rfl) ?_
        obtain ⟨r5, hr4, hf⟩ := ob hf
        refine ro_calli (va_runSN (As := [.int p1, .int v1]) (rest := [.int v2]) ⟨hx, hb, hml, hown, hT⟩ (c_G_answerIn l p1 v1 r5 hr4) ⟨va_cnB 2 hT (gcode k_203) rfl rfl rfl (hN _ k_241) (hT _ k_1) (by decide +kernel) ⟨Nat.le_of_ble_eq_true rfl, Nat.le_of_ble_eq_true rfl⟩, hT _ k_202, trivial⟩ ⟨fun _ _ _ _ q => q, fun _ _ _ => ⟨rfl, trivial⟩⟩ rfl rfl hl.1 rfl (lv_room (Nat.le_of_ble_eq_true rfl)) d_T_unanswered_15 ⟨Nat.le_of_ble_eq_true rfl, Nat.le_of_ble_eq_true rfl⟩) ?_
        refine lv_iconst (v := (-1 : Int32)) hx hb d_T_unanswered_18 (by decide) ?_
        refine lv_icmp_ne (tgt := 26) hx hb d_T_unanswered_19 (by decide) (fun c6 => ?_) (fun c6 => ?_)
        · rw [if_neg c6] at hf
          refine lv_iconst (v := (0 : Int32)) hx hb d_T_unanswered_26 (by decide) ?_
          refine lv_iadd hx hb d_T_unanswered_27 ?_
          refine lv_istore_n (lv' := [(2, .int (v2 + (0 : Int32))), (3, .int v1), (0, .ref (a 5)), (1, .int p1)]) hx hb d_T_unanswered_28 rfl hl (by decide) rfl (fun ls hl => ?_)
          refine lv_iinc (v := (v1 + 1)) (lv' := [(3, .int (v1 + 1)), (2, .int (v2 + (0 : Int32))), (0, .ref (a 5)), (1, .int p1)]) hx hb d_T_unanswered_29 hl (k := 1) rfl rfl (by decide) rfl (fun ls hl => ?_)
          refine lv_goto (tgt := 4) hx hb d_T_unanswered_32 (by decide) ?_
          exact ih1 (v1 + 1) (v2 + (0 : Int32)) hf ls (lv_sub hl [0, 1, 2, 3] rfl)
        · rw [if_pos c6] at hf
          refine lv_iconst (v := (1 : Int32)) hx hb d_T_unanswered_22 (by decide) ?_
          refine lv_goto (tgt := 27) hx hb d_T_unanswered_23 (by decide) ?_
          refine lv_iadd hx hb d_T_unanswered_27 ?_
          refine lv_istore_n (lv' := [(2, .int (v2 + (1 : Int32))), (3, .int v1), (0, .ref (a 5)), (1, .int p1)]) hx hb d_T_unanswered_28 rfl hl (by decide) rfl (fun ls hl => ?_)
          refine lv_iinc (v := (v1 + 1)) (lv' := [(3, .int (v1 + 1)), (2, .int (v2 + (1 : Int32))), (0, .ref (a 5)), (1, .int p1)]) hx hb d_T_unanswered_29 hl (k := 1) rfl rfl (by decide) rfl (fun ls hl => ?_)
          refine lv_goto (tgt := 4) hx hb d_T_unanswered_32 (by decide) ?_
          exact ih1 (v1 + 1) (v2 + (1 : Int32)) hf ls (lv_sub hl [0, 1, 2, 3] rfl)
  exact loop1 _ (1 : Int32) (0 : Int32) hf ls (lv_sub hl [0, 1, 2, 3] rfl)
set_option maxHeartbeats 4000000 in
set_option maxRecDepth 100000 in
theorem c_T_tellsApart (l : Launch) (dC : Nat → ClassId) (dI : Nat → Nat → Nat) (cs : Nat → ClassId) (a : Nat → Nat) (st : XS) (p1 : Int32) (p2 : Int32) (res : Int32) (hf : x_T_tellsApart st p1 p2 = some res) : Met l (⟨"GuideSearch$Tests", "tellsApart", "(II)Z"⟩ : MethodName) (Cond.code (⟨"GuideSearch$Tests", "tellsApart", "(II)Z"⟩ : MethodName) prog_5_method_13_code 5 (some .boolean) :: wg) { frames := 2, cells := 0, slots := 0, locals := 41 } (va_Pc ([.ref (a 5), .int p1, .int p2] : List Value) (x_pre dC dI cs a st)) (vp_Si (fun r => r = res)) 0 0 (fun _ => False) := by
  refine ro_start (cc := prog_5_method_13_code) (maxL := 5) (ret := (some .boolean)) (by decide) (Nat.le_of_ble_eq_true rfl) ?_
  intro p e s m below meth c hx hb hr hml hT hown hlocks hB ls hl
  replace hown : s.vm.findClass "GuideSearch$Tests" = some m.cls := hown
  obtain ⟨hP, hK, hN⟩ := hB
  replace hl : lv_has ls 5 [(0, .ref (a 5)), (1, .int p1), (2, .int p2)] := hl
  unfold x_T_tellsApart at hf
  refine lv_aload_n hx hb d_T_tellsApart_0 rfl (lv_at hl 0 rfl) ?_
  refine lv_iload_n hx hb d_T_tellsApart_1 rfl (lv_at hl 1 rfl) ?_
  obtain ⟨r2, hr1, hf⟩ := ob hf
  refine ro_calli (va_runV (C := "GuideSearch$Tests") (As := [.int p1]) (rest := []) ⟨hx, hb, hml, hown, hT⟩ (c_T_knows l dC dI cs a st p1 r2 hr1) (cwV 1 hT (gV k_199 k_173 k_174 k_3 k_175) rfl rfl rfl (by decide +kernel) ⟨Nat.le_of_ble_eq_true rfl, Nat.le_of_ble_eq_true rfl⟩) (ro_preV hP hK hN (va_recv hK hP (ci := 2) (q0 := 5) rfl rfl)) rfl rfl hl.1 rfl (lv_room (Nat.le_of_ble_eq_true rfl)) d_T_tellsApart_2 ⟨Nat.le_of_ble_eq_true rfl, Nat.le_of_ble_eq_true rfl⟩) ?_
  refine lv_if_ne (tgt := 10) hx hb d_T_tellsApart_5 (by decide) (fun c3 => ?_) (fun c3 => ?_)
  · rw [if_neg c3] at hf
    refine lv_iconst (v := (0 : Int32)) hx hb d_T_tellsApart_10 (by decide) ?_
    refine lv_istore_n (lv' := [(3, .int (0 : Int32)), (0, .ref (a 5)), (1, .int p1), (2, .int p2)]) hx hb d_T_tellsApart_11 rfl hl (by decide) rfl (fun ls hl => ?_)
    refine lv_iconst (v := (1 : Int32)) hx hb d_T_tellsApart_12 (by decide) ?_
    refine lv_istore (lv' := [(4, .int (1 : Int32)), (3, .int (0 : Int32)), (0, .ref (a 5)), (1, .int p1), (2, .int p2)]) hx hb d_T_tellsApart_13 hl (by decide) rfl (fun ls hl => ?_)
    have loop1 : ∀ (n : Nat) (v4 : Int32) (v5 : Int32), xl2 (x_T_tellsApart_B1 st p1 p2) n v4 v5 = some res → ∀ (ls : Array Slot), lv_has ls 5 [(4, .int v4), (3, .int v5), (0, .ref (a 5)), (1, .int p1), (2, .int p2)] → W p l e { frames := 2, cells := 0, slots := 0, locals := 41 } s m ([.ref (a 5), .int p1, .int p2] : List Value).toArray below meth c s.heap [] 0 0 (MQ below (vp_Si (fun r => r = res)) ([.ref (a 5), .int p1, .int p2] : List Value).toArray s 0 0 (fun _ => False)) (F0 m 15 ls []) := by
      intro n
      induction n with
      | zero => intro v4 v5 hf; exact absurd hf (by simp [xl2])
      | succ n ih1 =>
        intro v4 v5 hf ls hl
        replace hf : (x_T_tellsApart_B1 st p1 p2) (xl2 (x_T_tellsApart_B1 st p1 p2) n) v4 v5 = some res := hf
        generalize xl2 (x_T_tellsApart_B1 st p1 p2) n = self1 at hf ih1
        unfold x_T_tellsApart_B1 at hf
        refine lv_iload hx hb d_T_tellsApart_15 (lv_at hl 0 rfl) ?_
        refine lv_bipush (v := (12 : Int32)) hx hb d_T_tellsApart_17 (by decide) ?_
        refine lv_icmp_gt (tgt := 72) hx hb d_T_tellsApart_19 (by decide) (fun c6 => ?_) (fun c6 => ?_)
        · rw [if_pos c6] at hf
          refine lv_iconst (v := (0 : Int32)) hx hb d_T_tellsApart_72 (by decide) ?_
          exact W.zret (ty := .boolean) hx hb hr (rfl) (fun t ht _ => ⟨_, rfl, Option.some.inj hf, ht⟩) (fun _ h => absurd h List.not_mem_nil) d_T_tellsApart_73
        · rw [if_neg c6] at hf
          refine lv_iload_n hx hb d_T_tellsApart_22 rfl (lv_at hl 4 rfl) ?_
          refine lv_iload hx hb d_T_tellsApart_23 (lv_at hl 0 rfl) ?_
          obtain ⟨r8, hr7, hf⟩ := ob hf
          refine ro_calli (va_runSN (As := [.int p2, .int v4]) (rest := []) ⟨hx, hb, hml, hown, hT⟩ (c_G_holds l p2 v4 r8 hr7) ⟨va_cnB 2 hT (gcode k_218) rfl rfl rfl (hN _ k_216) (hT _ k_1) (by decide +kernel) ⟨Nat.le_of_ble_eq_true rfl, Nat.le_of_ble_eq_true rfl⟩, hT _ k_217, trivial⟩ ⟨fun _ _ _ _ q => q, fun _ _ _ => ⟨rfl, trivial⟩⟩ rfl rfl hl.1 rfl (lv_room (Nat.le_of_ble_eq_true rfl)) d_T_tellsApart_25 ⟨Nat.le_of_ble_eq_true rfl, Nat.le_of_ble_eq_true rfl⟩) ?_
          refine lv_if_ne (tgt := 34) hx hb d_T_tellsApart_28 (by decide) (fun c9 => ?_) (fun c9 => ?_)
          · rw [if_neg c9] at hf
            refine lv_iload_n hx hb d_T_tellsApart_34 rfl (lv_at hl 1 rfl) ?_
            refine lv_if_ne (tgt := 44) hx hb d_T_tellsApart_35 (by decide) (fun c10 => ?_) (fun c10 => ?_)
            · rw [if_neg c10] at hf
              refine lv_aload_n hx hb d_T_tellsApart_44 rfl (lv_at hl 2 rfl) ?_
              refine va_get (D := (dC, dI)) (ci := 2) (v := .ref (a 8)) (C := "GuideSearch$Tests") (T := F_T) (N := 4) hx hb hT i_T hown hK hP 5 rfl rfl 2 (by decide) (hT _ k_62) (fun _ h9 => h9) rfl d_T_tellsApart_45 ?_
              refine lv_iload_n hx hb d_T_tellsApart_48 rfl (lv_at hl 3 rfl) ?_
              obtain ⟨j11, ej13, hi12, hf⟩ := ix_some hf
              refine xa_aald hx hb hK hP 8 3 rfl rfl ej13 hi12 (if_pos (ix_lt ej13 hi12)) d_T_tellsApart_49 ?_
              have hj11 : j11 < 6 := ix_lt ej13 hi12
              refine lv_iload hx hb d_T_tellsApart_50 (lv_at hl 0 rfl) ?_
              obtain ⟨j15, ej17, hi16, hf⟩ := ix_some hf
              refine xa_iald hx hb hK hP (9 + j11) 1 (x_tab_row cs a st hj11) rfl ej17 hi16 d_T_tellsApart_52 ?_
              refine lv_aload_n hx hb d_T_tellsApart_53 rfl (lv_at hl 2 rfl) ?_
              refine va_get (D := (dC, dI)) (ci := 2) (v := .ref (a 8)) (C := "GuideSearch$Tests") (T := F_T) (N := 4) hx hb hT i_T hown hK hP 5 rfl rfl 2 (by decide) (hT _ k_62) (fun _ h9 => h9) rfl d_T_tellsApart_54 ?_
              refine lv_iload_n hx hb d_T_tellsApart_57 rfl (lv_at hl 3 rfl) ?_
              obtain ⟨j18, ej20, hi19, hf⟩ := ix_some hf
              refine xa_aald hx hb hK hP 8 3 rfl rfl ej20 hi19 (if_pos (ix_lt ej20 hi19)) d_T_tellsApart_58 ?_
              have hj18 : j18 < 6 := ix_lt ej20 hi19
              refine lv_iload_n hx hb d_T_tellsApart_59 rfl (lv_at hl 1 rfl) ?_
              obtain ⟨j22, ej24, hi23, hf⟩ := ix_some hf
              refine xa_iald hx hb hK hP (9 + j18) 1 (x_tab_row cs a st hj18) rfl ej24 hi23 d_T_tellsApart_60 ?_
              refine lv_icmp_eq (tgt := 66) hx hb d_T_tellsApart_61 (by decide) (fun c25 => ?_) (fun c25 => ?_)
              · rw [if_pos c25] at hf
                refine lv_iinc (v := (v4 + 1)) (lv' := [(4, .int (v4 + 1)), (3, .int v5), (0, .ref (a 5)), (1, .int p1), (2, .int p2)]) hx hb d_T_tellsApart_66 hl (k := 0) rfl rfl (by decide) rfl (fun ls hl => ?_)
                refine lv_goto (tgt := 15) hx hb d_T_tellsApart_69 (by decide) ?_
                exact ih1 (v4 + 1) v5 hf ls (lv_sub hl [0, 1, 2, 3, 4] rfl)
              · rw [if_neg c25] at hf
                refine lv_iconst (v := (1 : Int32)) hx hb d_T_tellsApart_64 (by decide) ?_
                exact W.zret (ty := .boolean) hx hb hr (rfl) (fun t ht _ => ⟨_, rfl, Option.some.inj hf, ht⟩) (fun _ h => absurd h List.not_mem_nil) d_T_tellsApart_65
            · rw [if_pos c10] at hf
              refine lv_iload hx hb d_T_tellsApart_38 (lv_at hl 0 rfl) ?_
              refine lv_istore_n (lv' := [(3, .int v4), (4, .int v4), (0, .ref (a 5)), (1, .int p1), (2, .int p2)]) hx hb d_T_tellsApart_40 rfl hl (by decide) rfl (fun ls hl => ?_)
              refine lv_goto (tgt := 66) hx hb d_T_tellsApart_41 (by decide) ?_
              refine lv_iinc (v := (v4 + 1)) (lv' := [(4, .int (v4 + 1)), (3, .int v4), (0, .ref (a 5)), (1, .int p1), (2, .int p2)]) hx hb d_T_tellsApart_66 hl (k := 1) rfl rfl (by decide) rfl (fun ls hl => ?_)
              refine lv_goto (tgt := 15) hx hb d_T_tellsApart_69 (by decide) ?_
              exact ih1 (v4 + 1) v4 hf ls (lv_sub hl [0, 1, 2, 3, 4] rfl)
          · rw [if_pos c9] at hf
            refine lv_goto (tgt := 66) hx hb d_T_tellsApart_31 (by decide) ?_
            refine lv_iinc (v := (v4 + 1)) (lv' := [(4, .int (v4 + 1)), (3, .int v5), (0, .ref (a 5)), (1, .int p1), (2, .int p2)]) hx hb d_T_tellsApart_66 hl (k := 0) rfl rfl (by decide) rfl (fun ls hl => ?_)
            refine lv_goto (tgt := 15) hx hb d_T_tellsApart_69 (by decide) ?_
            exact ih1 (v4 + 1) v5 hf ls (lv_sub hl [0, 1, 2, 3, 4] rfl)
    exact loop1 _ (1 : Int32) (0 : Int32) hf ls (lv_sub hl [0, 1, 2, 3, 4] rfl)
  · rw [if_pos c3] at hf
    refine lv_iconst (v := (0 : Int32)) hx hb d_T_tellsApart_8 (by decide) ?_
    exact W.zret (ty := .boolean) hx hb hr (rfl) (fun t ht _ => ⟨_, rfl, Option.some.inj hf, ht⟩) (fun _ h => absurd h List.not_mem_nil) d_T_tellsApart_9
