set_option maxHeartbeats 4000000 in
set_option maxRecDepth 100000 in
theorem c_G_fault (l : Launch) (dC : Nat → ClassId) (dI : Nat → Nat → Nat) (cs : Nat → ClassId) (a : Nat → Nat) (hi : ∀ i j : Nat, i < 29 → j < 29 → a i = a j → i = j) (st : XS) (p1 : Int64) (p3 : Int64) (res : Int32 × XS) (hf : x_G_fault st p1 p3 = some res) : Met l (⟨"GuideSearch", "fault", "(JJ)I"⟩ : MethodName) (Cond.code (⟨"GuideSearch", "fault", "(JJ)I"⟩ : MethodName) prog_1_method_2_code 5 (some .int) :: wg) { frames := 1, cells := 0, slots := 0, locals := 22 } (va_Pc ([.ref (a 0), .long p1, .long p3] : List Value) (x_pre dC dI cs a st)) (va_Qi (fun r (_ : Unit) => r = res.1) (fun _ t => va_P (dC, dI) vwCl (x_W cs a res.2) t.heap) (x_A a)) 0 0 (x_A a) := by
  refine ro_start (cc := prog_1_method_2_code) (maxL := 5) (ret := (some .int)) (by decide) (Nat.le_of_ble_eq_true rfl) ?_
  intro p e s m below meth c hx hb hr hml hT hown hlocks hB ls hl
  replace hown : s.vm.findClass "GuideSearch" = some m.cls := hown
  obtain ⟨hP, hK, hN⟩ := hB
  replace hl : lv_has ls 5 [(0, .ref (a 0)), (1, .long p1), (3, .long p3)] := hl
  unfold x_G_fault at hf
  have hD : ∀ st : XS, va_D (x_A a) (x_W cs a st) := fun st => x_D hi cs st
  have main : ∀ (H : Heap) (locs : List Loc), va_P (dC, dI) vwCl (x_W cs a st) H → va_S (x_A a) s.heap H locs → W p l e { frames := 1, cells := 0, slots := 0, locals := 22 } s m ([.ref (a 0), .long p1, .long p3] : List Value).toArray below meth c H locs 0 0 (MQ below (va_Qi (fun r (_ : Unit) => r = res.1) (fun _ t => va_P (dC, dI) vwCl (x_W cs a res.2) t.heap) (x_A a)) ([.ref (a 0), .long p1, .long p3] : List Value).toArray s 0 0 (x_A a)) (F0 m 0 ls []) := by
    intro H locs hP hS
    refine lv_lload_n hx hb d_G_fault_0 rfl (lv_at hl 2 rfl) ?_
    refine lv_lconst (v := (1 : Int64)) hx hb d_G_fault_1 (by decide) ?_
    refine W.lcmp hx hb d_G_fault_2 ?_
    refine lv_if_lt (tgt := 26) hx hb d_G_fault_3 (by decide) (fun c1 => ?_) (fun c1 => ?_)
    · rw [if_pos ((lg_cmp_lt _ _).mp c1)] at hf
      refine lv_bipush (v := (-2 : Int32)) hx hb d_G_fault_26 (by decide) ?_
      exact W.iret hx hb hr (fun t ht _ => ⟨⟨_, (), rfl, congrArg Prod.fst (Option.some.inj hf), x_fin ht (congrArg Prod.snd (Option.some.inj hf)) hP⟩, hS.F ht⟩) hS.2.2 d_G_fault_28
    · rw [if_neg (mt (lg_cmp_lt _ _).mpr c1)] at hf
      refine lv_lload_n hx hb d_G_fault_6 rfl (lv_at hl 2 rfl) ?_
      refine lv_ldc2 (v := (10 : Int64)) hx hb hown (hT _ k_152) d_G_fault_7 ?_
      refine W.lcmp hx hb d_G_fault_10 ?_
      refine lv_if_gt (tgt := 26) hx hb d_G_fault_11 (by decide) (fun c2 => ?_) (fun c2 => ?_)
      · rw [if_pos ((lg_cmp_gt _ _).mp c2)] at hf
        refine lv_bipush (v := (-2 : Int32)) hx hb d_G_fault_26 (by decide) ?_
        exact W.iret hx hb hr (fun t ht _ => ⟨⟨_, (), rfl, congrArg Prod.fst (Option.some.inj hf), x_fin ht (congrArg Prod.snd (Option.some.inj hf)) hP⟩, hS.F ht⟩) hS.2.2 d_G_fault_28
      · rw [if_neg (mt (lg_cmp_gt _ _).mpr c2)] at hf
        refine lv_lload_n hx hb d_G_fault_14 rfl (lv_at hl 1 rfl) ?_
        refine lv_lconst (v := (0 : Int64)) hx hb d_G_fault_15 (by decide) ?_
        refine W.lcmp hx hb d_G_fault_16 ?_
        refine lv_if_lt (tgt := 26) hx hb d_G_fault_17 (by decide) (fun c3 => ?_) (fun c3 => ?_)
        · rw [if_pos ((lg_cmp_lt _ _).mp c3)] at hf
          refine lv_bipush (v := (-2 : Int32)) hx hb d_G_fault_26 (by decide) ?_
          exact W.iret hx hb hr (fun t ht _ => ⟨⟨_, (), rfl, congrArg Prod.fst (Option.some.inj hf), x_fin ht (congrArg Prod.snd (Option.some.inj hf)) hP⟩, hS.F ht⟩) hS.2.2 d_G_fault_28
        · rw [if_neg (mt (lg_cmp_lt _ _).mpr c3)] at hf
          refine lv_lload_n hx hb d_G_fault_20 rfl (lv_at hl 1 rfl) ?_
          refine lv_lload_n hx hb d_G_fault_21 rfl (lv_at hl 2 rfl) ?_
          refine W.lcmp hx hb d_G_fault_22 ?_
          refine lv_if_le (tgt := 29) hx hb d_G_fault_23 (by decide) (fun c4 => ?_) (fun c4 => ?_)
          · rw [if_pos ((lg_cmp_le _ _).mp c4)] at hf
            refine lv_aload_n hx hb d_G_fault_29 rfl (lv_at hl 0 rfl) ?_
            refine va_get (D := (dC, dI)) (ci := 0) (v := .ref (a 1)) (C := "GuideSearch") (T := F_G) (N := 6) hx hb hT i_G hown hK hP 0 rfl rfl 0 (by decide) (hT _ k_129) (fun _ h9 => h9) rfl d_G_fault_30 ?_
            refine va_getN (D := (dC, dI)) (ci := 1) (v := .int (x_fN st)) (C := "GuideSearch$Causes") (T := F_C) (N := 5) hx hb hT i_C hown hK hP 1 rfl rfl 4 (by decide) (va_Nw.use rfl (hN _ k_35)) (fun _ h9 => h9) rfl d_G_fault_33 ?_
            refine lv_bipush (v := (8 : Int32)) hx hb d_G_fault_36 (by decide) ?_
            refine lv_icmp_ge (tgt := 53) hx hb d_G_fault_38 (by decide) (fun c5 => ?_) (fun c5 => ?_)
            · rw [if_pos c5] at hf
              refine lv_bipush (v := (-4 : Int32)) hx hb d_G_fault_53 (by decide) ?_
              exact W.iret hx hb hr (fun t ht _ => ⟨⟨_, (), rfl, congrArg Prod.fst (Option.some.inj hf), x_fin ht (congrArg Prod.snd (Option.some.inj hf)) hP⟩, hS.F ht⟩) hS.2.2 d_G_fault_55
            · rw [if_neg c5] at hf
              refine lv_aload_n hx hb d_G_fault_41 rfl (lv_at hl 0 rfl) ?_
              refine va_get (D := (dC, dI)) (ci := 0) (v := .ref (a 1)) (C := "GuideSearch") (T := F_G) (N := 6) hx hb hT i_G hown hK hP 0 rfl rfl 0 (by decide) (hT _ k_129) (fun _ h9 => h9) rfl d_G_fault_42 ?_
              refine va_getN (D := (dC, dI)) (ci := 1) (v := .int (x_cN st)) (C := "GuideSearch$Causes") (T := F_C) (N := 5) hx hb hT i_C hown hK hP 1 rfl rfl 3 (by decide) (va_Nw.use rfl (hN _ k_32)) (fun _ h9 => h9) rfl d_G_fault_45 ?_
              refine lv_bipush (v := (12 : Int32)) hx hb d_G_fault_48 (by decide) ?_
              refine lv_icmp_lt (tgt := 56) hx hb d_G_fault_50 (by decide) (fun c6 => ?_) (fun c6 => ?_)
              · rw [if_pos c6] at hf
                refine lv_aload_n hx hb d_G_fault_56 rfl (lv_at hl 0 rfl) ?_
                refine va_get (D := (dC, dI)) (ci := 0) (v := .ref (a 1)) (C := "GuideSearch") (T := F_G) (N := 6) hx hb hT i_G hown hK hP 0 rfl rfl 0 (by decide) (hT _ k_129) (fun _ h9 => h9) rfl d_G_fault_57 ?_
                refine lv_ldc2 (v := (2520 : Int64)) hx hb hown (hT _ k_153) d_G_fault_60 ?_
                refine lv_lload_n hx hb d_G_fault_63 rfl (lv_at hl 2 rfl) ?_
                obtain ⟨hz7, hf⟩ := dzl_some hf
                refine lv_ldiv hx hb d_G_fault_64 hz7 ?_
                refine lv_lload_n hx hb d_G_fault_65 rfl (lv_at hl 1 rfl) ?_
                refine lv_lmul hx hb d_G_fault_66 ?_
                obtain ⟨r10, s9, hr8, hf⟩ := bd2_some hf
                refine rw_calli (va_runV (C := "GuideSearch$Causes") (As := [.long (((2520 : Int64) / p3) * p1)]) (rest := []) ⟨hx, hb, hml, hown, hT⟩ (c_C_addFault l dC dI cs a hi st (((2520 : Int64) / p3) * p1) (r10, s9) hr8) (cwV 1 hT (gV k_154 k_155 k_156 k_2 k_157) rfl rfl rfl (by decide +kernel) ⟨Nat.le_of_ble_eq_true rfl, Nat.le_of_ble_eq_true rfl⟩) (ro_preV hP hK hN (va_recv hK hP (ci := 1) (q0 := 1) rfl rfl)) rfl rfl hl.1 rfl (lv_room (Nat.le_of_ble_eq_true rfl)) d_G_fault_67 ⟨Nat.le_of_ble_eq_true rfl, Nat.le_of_ble_eq_true rfl⟩) hS (fun H locs hP hS => ?_)
                exact W.iret hx hb hr (fun t ht _ => ⟨⟨_, (), rfl, congrArg Prod.fst (Option.some.inj hf), x_fin ht (congrArg Prod.snd (Option.some.inj hf)) hP⟩, hS.F ht⟩) hS.2.2 d_G_fault_70
              · rw [if_neg c6] at hf
                refine lv_bipush (v := (-4 : Int32)) hx hb d_G_fault_53 (by decide) ?_
                exact W.iret hx hb hr (fun t ht _ => ⟨⟨_, (), rfl, congrArg Prod.fst (Option.some.inj hf), x_fin ht (congrArg Prod.snd (Option.some.inj hf)) hP⟩, hS.F ht⟩) hS.2.2 d_G_fault_55
          · rw [if_neg (mt (lg_cmp_le _ _).mpr c4)] at hf
            refine lv_bipush (v := (-2 : Int32)) hx hb d_G_fault_26 (by decide) ?_
            exact W.iret hx hb hr (fun t ht _ => ⟨⟨_, (), rfl, congrArg Prod.fst (Option.some.inj hf), x_fin ht (congrArg Prod.snd (Option.some.inj hf)) hP⟩, hS.F ht⟩) hS.2.2 d_G_fault_28
  exact main _ _ hP va_S.rf
set_option maxHeartbeats 4000000 in
set_option maxRecDepth 100000 in
theorem c_G_test (l : Launch) (dC : Nat → ClassId) (dI : Nat → Nat → Nat) (cs : Nat → ClassId) (a : Nat → Nat) (hi : ∀ i j : Nat, i < 29 → j < 29 → a i = a j → i = j) (st : XS) (p1 : Int64) (res : Int32 × XS) (hf : x_G_test st p1 = some res) : Met l (⟨"GuideSearch", "test", "(J)I"⟩ : MethodName) (Cond.code (⟨"GuideSearch", "test", "(J)I"⟩ : MethodName) prog_1_method_3_code 3 (some .int) :: wg) { frames := 1, cells := 0, slots := 0, locals := 21 } (va_Pc ([.ref (a 0), .long p1] : List Value) (x_pre dC dI cs a st)) (va_Qi (fun r (_ : Unit) => r = res.1) (fun _ t => va_P (dC, dI) vwCl (x_W cs a res.2) t.heap) (x_A a)) 0 0 (x_A a) := by
  refine ro_start (cc := prog_1_method_3_code) (maxL := 3) (ret := (some .int)) (by decide) (Nat.le_of_ble_eq_true rfl) ?_
  intro p e s m below meth c hx hb hr hml hT hown hlocks hB ls hl
  replace hown : s.vm.findClass "GuideSearch" = some m.cls := hown
  obtain ⟨hP, hK, hN⟩ := hB
  replace hl : lv_has ls 3 [(0, .ref (a 0)), (1, .long p1)] := hl
  unfold x_G_test at hf
  have hD : ∀ st : XS, va_D (x_A a) (x_W cs a st) := fun st => x_D hi cs st
  have main : ∀ (H : Heap) (locs : List Loc), va_P (dC, dI) vwCl (x_W cs a st) H → va_S (x_A a) s.heap H locs → W p l e { frames := 1, cells := 0, slots := 0, locals := 21 } s m ([.ref (a 0), .long p1] : List Value).toArray below meth c H locs 0 0 (MQ below (va_Qi (fun r (_ : Unit) => r = res.1) (fun _ t => va_P (dC, dI) vwCl (x_W cs a res.2) t.heap) (x_A a)) ([.ref (a 0), .long p1] : List Value).toArray s 0 0 (x_A a)) (F0 m 0 ls []) := by
    intro H locs hP hS
    refine lv_lload_n hx hb d_G_test_0 rfl (lv_at hl 1 rfl) ?_
    refine lv_lconst (v := (0 : Int64)) hx hb d_G_test_1 (by decide) ?_
    refine W.lcmp hx hb d_G_test_2 ?_
    refine lv_if_lt (tgt := 14) hx hb d_G_test_3 (by decide) (fun c1 => ?_) (fun c1 => ?_)
    · rw [if_pos ((lg_cmp_lt _ _).mp c1)] at hf
      refine lv_bipush (v := (-2 : Int32)) hx hb d_G_test_14 (by decide) ?_
      exact W.iret hx hb hr (fun t ht _ => ⟨⟨_, (), rfl, congrArg Prod.fst (Option.some.inj hf), x_fin ht (congrArg Prod.snd (Option.some.inj hf)) hP⟩, hS.F ht⟩) hS.2.2 d_G_test_16
    · rw [if_neg (mt (lg_cmp_lt _ _).mpr c1)] at hf
      refine lv_lload_n hx hb d_G_test_6 rfl (lv_at hl 1 rfl) ?_
      refine lv_ldc2 (v := (400 : Int64)) hx hb hown (hT _ k_163) d_G_test_7 ?_
      refine W.lcmp hx hb d_G_test_10 ?_
      refine lv_if_le (tgt := 17) hx hb d_G_test_11 (by decide) (fun c2 => ?_) (fun c2 => ?_)
      · rw [if_pos ((lg_cmp_le _ _).mp c2)] at hf
        refine lv_aload_n hx hb d_G_test_17 rfl (lv_at hl 0 rfl) ?_
        refine va_get (D := (dC, dI)) (ci := 0) (v := .ref (a 5)) (C := "GuideSearch") (T := F_G) (N := 6) hx hb hT i_G hown hK hP 0 rfl rfl 1 (by decide) (hT _ k_130) (fun _ h9 => h9) rfl d_G_test_18 ?_
        refine va_getN (D := (dC, dI)) (ci := 2) (v := .int (x_tN st)) (C := "GuideSearch$Tests") (T := F_T) (N := 4) hx hb hT i_T hown hK hP 5 rfl rfl 3 (by decide) (va_Nw.use rfl (hN _ k_65)) (fun _ h9 => h9) rfl d_G_test_21 ?_
        refine lv_iconst (v := (5 : Int32)) hx hb d_G_test_24 (by decide) ?_
        refine lv_icmp_lt (tgt := 31) hx hb d_G_test_25 (by decide) (fun c3 => ?_) (fun c3 => ?_)
        · rw [if_pos c3] at hf
          refine lv_aload_n hx hb d_G_test_31 rfl (lv_at hl 0 rfl) ?_
          refine va_get (D := (dC, dI)) (ci := 0) (v := .ref (a 5)) (C := "GuideSearch") (T := F_G) (N := 6) hx hb hT i_G hown hK hP 0 rfl rfl 1 (by decide) (hT _ k_130) (fun _ h9 => h9) rfl d_G_test_32 ?_
          refine lv_lload_n hx hb d_G_test_35 rfl (lv_at hl 1 rfl) ?_
          refine lv_l2i (v := p1.toInt32) hx hb d_G_test_36 rfl ?_
          obtain ⟨r6, s5, hr4, hf⟩ := bd2_some hf
          refine rw_calli (va_runV (C := "GuideSearch$Tests") (As := [.int p1.toInt32]) (rest := []) ⟨hx, hb, hml, hown, hT⟩ (c_T_add l dC dI cs a hi st p1.toInt32 (r6, s5) hr4) (cwV 1 hT (gV k_164 k_165 k_166 k_3 k_167) rfl rfl rfl (by decide +kernel) ⟨Nat.le_of_ble_eq_true rfl, Nat.le_of_ble_eq_true rfl⟩) (ro_preV hP hK hN (va_recv hK hP (ci := 2) (q0 := 5) rfl rfl)) rfl rfl hl.1 rfl (lv_room (Nat.le_of_ble_eq_true rfl)) d_G_test_37 ⟨Nat.le_of_ble_eq_true rfl, Nat.le_of_ble_eq_true rfl⟩) hS (fun H locs hP hS => ?_)
          exact W.iret hx hb hr (fun t ht _ => ⟨⟨_, (), rfl, congrArg Prod.fst (Option.some.inj hf), x_fin ht (congrArg Prod.snd (Option.some.inj hf)) hP⟩, hS.F ht⟩) hS.2.2 d_G_test_40
        · rw [if_neg c3] at hf
          refine lv_bipush (v := (-4 : Int32)) hx hb d_G_test_28 (by decide) ?_
          exact W.iret hx hb hr (fun t ht _ => ⟨⟨_, (), rfl, congrArg Prod.fst (Option.some.inj hf), x_fin ht (congrArg Prod.snd (Option.some.inj hf)) hP⟩, hS.F ht⟩) hS.2.2 d_G_test_30
      · rw [if_neg (mt (lg_cmp_le _ _).mpr c2)] at hf
        refine lv_bipush (v := (-2 : Int32)) hx hb d_G_test_14 (by decide) ?_
        exact W.iret hx hb hr (fun t ht _ => ⟨⟨_, (), rfl, congrArg Prod.fst (Option.some.inj hf), x_fin ht (congrArg Prod.snd (Option.some.inj hf)) hP⟩, hS.F ht⟩) hS.2.2 d_G_test_16
  exact main _ _ hP va_S.rf
set_option maxHeartbeats 4000000 in
set_option maxRecDepth 100000 in
theorem c_G_odds (l : Launch) (dC : Nat → ClassId) (dI : Nat → Nat → Nat) (cs : Nat → ClassId) (a : Nat → Nat) (hi : ∀ i j : Nat, i < 29 → j < 29 → a i = a j → i = j) (st : XS) (p1 : Int32) (p2 : Int32) (p3 : Int32) (p4 : Int64) (p6 : Int64) (res : Int32 × XS) (hf : x_G_odds st p1 p2 p3 p4 p6 = some res) : Met l (⟨"GuideSearch", "odds", "(IIIJJ)I"⟩ : MethodName) (Cond.code (⟨"GuideSearch", "odds", "(IIIJJ)I"⟩ : MethodName) prog_1_method_4_code 10 (some .int) :: wg) { frames := 4, cells := 0, slots := 0, locals := 90 } (va_Pc ([.ref (a 0), .int p1, .int p2, .int p3, .long p4, .long p6] : List Value) (x_pre dC dI cs a st)) (va_Qi (fun r (_ : Unit) => r = res.1) (fun _ t => va_P (dC, dI) vwCl (x_W cs a res.2) t.heap) (x_A a)) 0 0 (x_A a) := by
  refine ro_start (cc := prog_1_method_4_code) (maxL := 10) (ret := (some .int)) (by decide) (Nat.le_of_ble_eq_true rfl) ?_
  intro p e s m below meth c hx hb hr hml hT hown hlocks hB ls hl
  replace hown : s.vm.findClass "GuideSearch" = some m.cls := hown
  obtain ⟨hP, hK, hN⟩ := hB
  replace hl : lv_has ls 10 [(0, .ref (a 0)), (1, .int p1), (2, .int p2), (3, .int p3), (4, .long p4), (6, .long p6)] := hl
  unfold x_G_odds at hf
  have hD : ∀ st : XS, va_D (x_A a) (x_W cs a st) := fun st => x_D hi cs st
  have main : ∀ (H : Heap) (locs : List Loc), va_P (dC, dI) vwCl (x_W cs a st) H → va_S (x_A a) s.heap H locs → W p l e { frames := 4, cells := 0, slots := 0, locals := 90 } s m ([.ref (a 0), .int p1, .int p2, .int p3, .long p4, .long p6] : List Value).toArray below meth c H locs 0 0 (MQ below (va_Qi (fun r (_ : Unit) => r = res.1) (fun _ t => va_P (dC, dI) vwCl (x_W cs a res.2) t.heap) (x_A a)) ([.ref (a 0), .int p1, .int p2, .int p3, .long p4, .long p6] : List Value).toArray s 0 0 (x_A a)) (F0 m 0 ls []) := by
    intro H locs hP hS
    refine lv_aload_n hx hb d_G_odds_0 rfl (lv_at hl 0 rfl) ?_
    refine va_get (D := (dC, dI)) (ci := 0) (v := .ref (a 5)) (C := "GuideSearch") (T := F_G) (N := 6) hx hb hT i_G hown hK hP 0 rfl rfl 1 (by decide) (hT _ k_130) (fun _ h9 => h9) rfl d_G_odds_1 ?_
    refine lv_iload_n hx hb d_G_odds_4 rfl (lv_at hl 1 rfl) ?_
    obtain ⟨r2, hr1, hf⟩ := ob hf
    refine ro_calli (va_runV (C := "GuideSearch$Tests") (As := [.int p1]) (rest := []) ⟨hx, hb, hml, hown, hT⟩ (c_T_knows l dC dI cs a st p1 r2 hr1) (cwV 1 hT (gV k_172 k_173 k_174 k_3 k_175) rfl rfl rfl (by decide +kernel) ⟨Nat.le_of_ble_eq_true rfl, Nat.le_of_ble_eq_true rfl⟩) (ro_preV hP hK hN (va_recv hK hP (ci := 2) (q0 := 5) rfl rfl)) rfl rfl hl.1 rfl (lv_room (Nat.le_of_ble_eq_true rfl)) d_G_odds_5 ⟨Nat.le_of_ble_eq_true rfl, Nat.le_of_ble_eq_true rfl⟩) ?_
    refine lv_if_eq (tgt := 22) hx hb d_G_odds_8 (by decide) (fun c3 => ?_) (fun c3 => ?_)
    · rw [if_pos c3] at hf
      refine lv_iconst (v := (-1 : Int32)) hx hb d_G_odds_22 (by decide) ?_
      exact W.iret hx hb hr (fun t ht _ => ⟨⟨_, (), rfl, congrArg Prod.fst (Option.some.inj hf), x_fin ht (congrArg Prod.snd (Option.some.inj hf)) hP⟩, hS.F ht⟩) hS.2.2 d_G_odds_23
    · rw [if_neg c3] at hf
      refine lv_aload_n hx hb d_G_odds_11 rfl (lv_at hl 0 rfl) ?_
      refine va_get (D := (dC, dI)) (ci := 0) (v := .ref (a 1)) (C := "GuideSearch") (T := F_G) (N := 6) hx hb hT i_G hown hK hP 0 rfl rfl 0 (by decide) (hT _ k_129) (fun _ h9 => h9) rfl d_G_odds_12 ?_
      refine lv_iload_n hx hb d_G_odds_15 rfl (lv_at hl 2 rfl) ?_
      obtain ⟨r5, hr4, hf⟩ := ob hf
      refine ro_calli (va_runV (C := "GuideSearch$Causes") (As := [.int p2]) (rest := []) ⟨hx, hb, hml, hown, hT⟩ (c_C_knows l dC dI cs a st p2 r5 hr4) (cwV 1 hT (gV k_176 k_177 k_178 k_2 k_179) rfl rfl rfl (by decide +kernel) ⟨Nat.le_of_ble_eq_true rfl, Nat.le_of_ble_eq_true rfl⟩) (ro_preV hP hK hN (va_recv hK hP (ci := 1) (q0 := 1) rfl rfl)) rfl rfl hl.1 rfl (lv_room (Nat.le_of_ble_eq_true rfl)) d_G_odds_16 ⟨Nat.le_of_ble_eq_true rfl, Nat.le_of_ble_eq_true rfl⟩) ?_
      refine lv_if_ne (tgt := 24) hx hb d_G_odds_19 (by decide) (fun c6 => ?_) (fun c6 => ?_)
      · rw [if_neg c6] at hf
        refine lv_iload_n hx hb d_G_odds_24 rfl (lv_at hl 3 rfl) ?_
        obtain ⟨r8, hr7, hf⟩ := ob hf
        refine ro_calli (va_runS (As := [.int p3]) (rest := []) ⟨hx, hb, hml, hown, hT⟩ (c_G_isAnswer l p3 r8 hr7) (va_cwS 1 hT (gS k_180 k_181 k_1 k_182) rfl rfl rfl (by decide +kernel) ⟨Nat.le_of_ble_eq_true rfl, Nat.le_of_ble_eq_true rfl⟩) ⟨fun _ _ _ _ q => q, fun _ _ _ => ⟨rfl, trivial⟩⟩ rfl rfl hl.1 rfl (lv_room (Nat.le_of_ble_eq_true rfl)) d_G_odds_25 ⟨Nat.le_of_ble_eq_true rfl, Nat.le_of_ble_eq_true rfl⟩) ?_
        refine lv_if_eq (tgt := 41) hx hb d_G_odds_28 (by decide) (fun c9 => ?_) (fun c9 => ?_)
        · rw [if_pos c9] at hf
          refine lv_bipush (v := (-2 : Int32)) hx hb d_G_odds_41 (by decide) ?_
          exact W.iret hx hb hr (fun t ht _ => ⟨⟨_, (), rfl, congrArg Prod.fst (Option.some.inj hf), x_fin ht (congrArg Prod.snd (Option.some.inj hf)) hP⟩, hS.F ht⟩) hS.2.2 d_G_odds_43
        · rw [if_neg c9] at hf
          refine lv_lload hx hb d_G_odds_31 (lv_at hl 4 rfl) ?_
          refine lv_lload hx hb d_G_odds_33 (lv_at hl 5 rfl) ?_
          obtain ⟨r11, hr10, hf⟩ := ob hf
          refine ro_calli (va_runS (As := [.long p4, .long p6]) (rest := []) ⟨hx, hb, hml, hown, hT⟩ (c_G_isPartOfTwelve l p4 p6 r11 hr10) (va_cwS 2 hT (gS k_183 k_184 k_1 k_185) rfl rfl rfl (by decide +kernel) ⟨Nat.le_of_ble_eq_true rfl, Nat.le_of_ble_eq_true rfl⟩) ⟨fun _ _ _ _ q => q, fun _ _ _ => ⟨rfl, trivial⟩⟩ rfl rfl hl.1 rfl (lv_room (Nat.le_of_ble_eq_true rfl)) d_G_odds_35 ⟨Nat.le_of_ble_eq_true rfl, Nat.le_of_ble_eq_true rfl⟩) ?_
          refine lv_if_ne (tgt := 44) hx hb d_G_odds_38 (by decide) (fun c12 => ?_) (fun c12 => ?_)
          · rw [if_neg c12] at hf
            refine lv_ldc2 (v := (12 : Int64)) hx hb hown (hT _ k_186) d_G_odds_44 ?_
            refine lv_lload hx hb d_G_odds_47 (lv_at hl 5 rfl) ?_
            obtain ⟨hz13, hf⟩ := dzl_some hf
            refine lv_ldiv hx hb d_G_odds_49 hz13 ?_
            refine lv_lload hx hb d_G_odds_50 (lv_at hl 4 rfl) ?_
            refine lv_lmul hx hb d_G_odds_52 ?_
            refine lv_l2i (v := (((12 : Int64) / p6) * p4).toInt32) hx hb d_G_odds_53 rfl ?_
            refine lv_istore (lv' := [(8, .int (((12 : Int64) / p6) * p4).toInt32), (0, .ref (a 0)), (1, .int p1), (2, .int p2), (3, .int p3), (4, .long p4), (6, .long p6)]) hx hb d_G_odds_54 hl (by decide) rfl (fun ls hl => ?_)
            refine lv_aload_n hx hb d_G_odds_56 rfl (lv_at hl 1 rfl) ?_
            refine va_get (D := (dC, dI)) (ci := 0) (v := .ref (a 5)) (C := "GuideSearch") (T := F_G) (N := 6) hx hb hT i_G hown hK hP 0 rfl rfl 1 (by decide) (hT _ k_130) (fun _ h9 => h9) rfl d_G_odds_57 ?_
            refine lv_iload_n hx hb d_G_odds_60 rfl (lv_at hl 2 rfl) ?_
            refine lv_iload_n hx hb d_G_odds_61 rfl (lv_at hl 3 rfl) ?_
            obtain ⟨r15, hr14, hf⟩ := ob hf
            refine ro_calli (va_runV (C := "GuideSearch$Tests") (As := [.int p1, .int p2]) (rest := []) ⟨hx, hb, hml, hown, hT⟩ (c_T_together l dC dI cs a st p1 p2 r15 hr14) (cwV 2 hT (gV k_187 k_188 k_189 k_3 k_190) rfl rfl rfl (by decide +kernel) ⟨Nat.le_of_ble_eq_true rfl, Nat.le_of_ble_eq_true rfl⟩) (ro_preV hP hK hN (va_recv hK hP (ci := 2) (q0 := 5) rfl rfl)) rfl rfl hl.1 rfl (lv_room (Nat.le_of_ble_eq_true rfl)) d_G_odds_62 ⟨Nat.le_of_ble_eq_true rfl, Nat.le_of_ble_eq_true rfl⟩) ?_
            refine lv_aload_n hx hb d_G_odds_65 rfl (lv_at hl 1 rfl) ?_
            refine va_get (D := (dC, dI)) (ci := 0) (v := .ref (a 5)) (C := "GuideSearch") (T := F_G) (N := 6) hx hb hT i_G hown hK hP 0 rfl rfl 1 (by decide) (hT _ k_130) (fun _ h9 => h9) rfl d_G_odds_66 ?_
            refine lv_iload_n hx hb d_G_odds_69 rfl (lv_at hl 2 rfl) ?_
            refine lv_iload_n hx hb d_G_odds_70 rfl (lv_at hl 3 rfl) ?_
            refine lv_iload_n hx hb d_G_odds_71 rfl (lv_at hl 4 rfl) ?_
            obtain ⟨r17, hr16, hf⟩ := ob hf
            refine ro_calli (va_runV (C := "GuideSearch$Tests") (As := [.int p1, .int p2, .int p3]) (rest := [.int r15]) ⟨hx, hb, hml, hown, hT⟩ (c_T_twelfths l dC dI cs a st p1 p2 p3 r17 hr16) (cwV 3 hT (gV k_200 k_192 k_193 k_3 k_194) rfl rfl rfl (by decide +kernel) ⟨Nat.le_of_ble_eq_true rfl, Nat.le_of_ble_eq_true rfl⟩) (ro_preV hP hK hN (va_recv hK hP (ci := 2) (q0 := 5) rfl rfl)) rfl rfl hl.1 rfl (lv_room (Nat.le_of_ble_eq_true rfl)) d_G_odds_72 ⟨Nat.le_of_ble_eq_true rfl, Nat.le_of_ble_eq_true rfl⟩) ?_
            refine lv_isub hx hb d_G_odds_75 ?_
            refine lv_iload hx hb d_G_odds_76 (lv_at hl 0 rfl) ?_
            refine lv_iadd hx hb d_G_odds_78 ?_
            refine lv_istore (lv' := [(9, .int ((r15 - r17) + (((12 : Int64) / p6) * p4).toInt32)), (8, .int (((12 : Int64) / p6) * p4).toInt32), (0, .ref (a 0)), (1, .int p1), (2, .int p2), (3, .int p3), (4, .long p4), (6, .long p6)]) hx hb d_G_odds_79 hl (by decide) rfl (fun ls hl => ?_)
            refine lv_iload hx hb d_G_odds_81 (lv_at hl 0 rfl) ?_
            refine lv_bipush (v := (12 : Int32)) hx hb d_G_odds_83 (by decide) ?_
            refine lv_icmp_le (tgt := 91) hx hb d_G_odds_85 (by decide) (fun c18 => ?_) (fun c18 => ?_)
            · rw [if_pos c18] at hf
              refine lv_aload_n hx hb d_G_odds_91 rfl (lv_at hl 2 rfl) ?_
              refine va_get (D := (dC, dI)) (ci := 0) (v := .int (x_opn st)) (C := "GuideSearch") (T := F_G) (N := 6) hx hb hT i_G hown hK hP 0 rfl rfl 4 (by decide) (hT _ k_133) (fun _ h9 => h9) rfl d_G_odds_92 ?_
              refine lv_iload_n hx hb d_G_odds_95 rfl (lv_at hl 3 rfl) ?_
              obtain ⟨r20, hr19, hf⟩ := ob hf
              refine ro_calli (va_runS (As := [.int (x_opn st), .int p1]) (rest := []) ⟨hx, hb, hml, hown, hT⟩ (c_G_answerIn l (x_opn st) p1 r20 hr19) (va_cwS 2 hT (gS k_201 k_202 k_1 k_203) rfl rfl rfl (by decide +kernel) ⟨Nat.le_of_ble_eq_true rfl, Nat.le_of_ble_eq_true rfl⟩) ⟨fun _ _ _ _ q => q, fun _ _ _ => ⟨rfl, trivial⟩⟩ rfl rfl hl.1 rfl (lv_room (Nat.le_of_ble_eq_true rfl)) d_G_odds_96 ⟨Nat.le_of_ble_eq_true rfl, Nat.le_of_ble_eq_true rfl⟩) ?_
              refine lv_iconst (v := (-1 : Int32)) hx hb d_G_odds_99 (by decide) ?_
              refine lv_icmp_eq (tgt := 106) hx hb d_G_odds_100 (by decide) (fun c21 => ?_) (fun c21 => ?_)
              · rw [if_pos c21] at hf
                refine lv_aload_n hx hb d_G_odds_106 rfl (lv_at hl 2 rfl) ?_
                refine va_get (D := (dC, dI)) (ci := 0) (v := .ref (a 5)) (C := "GuideSearch") (T := F_G) (N := 6) hx hb hT i_G hown hK hP 0 rfl rfl 1 (by decide) (hT _ k_130) (fun _ h9 => h9) rfl d_G_odds_107 ?_
                refine lv_iload_n hx hb d_G_odds_110 rfl (lv_at hl 3 rfl) ?_
                refine lv_iload_n hx hb d_G_odds_111 rfl (lv_at hl 4 rfl) ?_
                refine lv_iload_n hx hb d_G_odds_112 rfl (lv_at hl 5 rfl) ?_
                refine lv_iload hx hb d_G_odds_113 (lv_at hl 1 rfl) ?_
                obtain ⟨s23, hr22, hf⟩ := ob hf
                refine rw_callv (va_runV (C := "GuideSearch$Tests") (As := [.int p1, .int p2, .int p3, .int (((12 : Int64) / p6) * p4).toInt32]) (rest := []) ⟨hx, hb, hml, hown, hT⟩ (c_T_setTwelfths l dC dI cs a hi st p1 p2 p3 (((12 : Int64) / p6) * p4).toInt32 s23 hr22) (cwV 4 hT (gV k_204 k_205 k_206 k_3 k_207) rfl rfl rfl (by decide +kernel) ⟨Nat.le_of_ble_eq_true rfl, Nat.le_of_ble_eq_true rfl⟩) (ro_preV hP hK hN (va_recv hK hP (ci := 2) (q0 := 5) rfl rfl)) rfl rfl hl.1 rfl (lv_room (Nat.le_of_ble_eq_true rfl)) d_G_odds_115 ⟨Nat.le_of_ble_eq_true rfl, Nat.le_of_ble_eq_true rfl⟩) hS (fun H locs hP hS => ?_)
                refine lv_iload hx hb d_G_odds_118 (lv_at hl 0 rfl) ?_
                exact W.iret hx hb hr (fun t ht _ => ⟨⟨_, (), rfl, congrArg Prod.fst (Option.some.inj hf), x_fin ht (congrArg Prod.snd (Option.some.inj hf)) hP⟩, hS.F ht⟩) hS.2.2 d_G_odds_120
              · rw [if_neg c21] at hf
                refine lv_bipush (v := (-3 : Int32)) hx hb d_G_odds_103 (by decide) ?_
                exact W.iret hx hb hr (fun t ht _ => ⟨⟨_, (), rfl, congrArg Prod.fst (Option.some.inj hf), x_fin ht (congrArg Prod.snd (Option.some.inj hf)) hP⟩, hS.F ht⟩) hS.2.2 d_G_odds_105
            · rw [if_neg c18] at hf
              refine lv_bipush (v := (-2 : Int32)) hx hb d_G_odds_88 (by decide) ?_
              exact W.iret hx hb hr (fun t ht _ => ⟨⟨_, (), rfl, congrArg Prod.fst (Option.some.inj hf), x_fin ht (congrArg Prod.snd (Option.some.inj hf)) hP⟩, hS.F ht⟩) hS.2.2 d_G_odds_90
          · rw [if_pos c12] at hf
            refine lv_bipush (v := (-2 : Int32)) hx hb d_G_odds_41 (by decide) ?_
            exact W.iret hx hb hr (fun t ht _ => ⟨⟨_, (), rfl, congrArg Prod.fst (Option.some.inj hf), x_fin ht (congrArg Prod.snd (Option.some.inj hf)) hP⟩, hS.F ht⟩) hS.2.2 d_G_odds_43
      · rw [if_pos c6] at hf
        refine lv_iconst (v := (-1 : Int32)) hx hb d_G_odds_22 (by decide) ?_
        exact W.iret hx hb hr (fun t ht _ => ⟨⟨_, (), rfl, congrArg Prod.fst (Option.some.inj hf), x_fin ht (congrArg Prod.snd (Option.some.inj hf)) hP⟩, hS.F ht⟩) hS.2.2 d_G_odds_23
  exact main _ _ hP va_S.rf
set_option maxHeartbeats 4000000 in
set_option maxRecDepth 100000 in
theorem c_G_needs (l : Launch) (dC : Nat → ClassId) (dI : Nat → Nat → Nat) (cs : Nat → ClassId) (a : Nat → Nat) (hi : ∀ i j : Nat, i < 29 → j < 29 → a i = a j → i = j) (st : XS) (p1 : Int32) (p2 : Int32) (res : Int32 × XS) (hf : x_G_needs st p1 p2 = some res) : Met l (⟨"GuideSearch", "needs", "(II)I"⟩ : MethodName) (Cond.code (⟨"GuideSearch", "needs", "(II)I"⟩ : MethodName) prog_1_method_5_code 3 (some .int) :: wg) { frames := 3, cells := 0, slots := 0, locals := 65 } (va_Pc ([.ref (a 0), .int p1, .int p2] : List Value) (x_pre dC dI cs a st)) (va_Qi (fun r (_ : Unit) => r = res.1) (fun _ t => va_P (dC, dI) vwCl (x_W cs a res.2) t.heap) (x_A a)) 0 0 (x_A a) := by
  refine ro_start (cc := prog_1_method_5_code) (maxL := 3) (ret := (some .int)) (by decide) (Nat.le_of_ble_eq_true rfl) ?_
  intro p e s m below meth c hx hb hr hml hT hown hlocks hB ls hl
  replace hown : s.vm.findClass "GuideSearch" = some m.cls := hown
  obtain ⟨hP, hK, hN⟩ := hB
  replace hl : lv_has ls 3 [(0, .ref (a 0)), (1, .int p1), (2, .int p2)] := hl
  unfold x_G_needs at hf
  have hD : ∀ st : XS, va_D (x_A a) (x_W cs a st) := fun st => x_D hi cs st
  have main : ∀ (H : Heap) (locs : List Loc), va_P (dC, dI) vwCl (x_W cs a st) H → va_S (x_A a) s.heap H locs → W p l e { frames := 3, cells := 0, slots := 0, locals := 65 } s m ([.ref (a 0), .int p1, .int p2] : List Value).toArray below meth c H locs 0 0 (MQ below (va_Qi (fun r (_ : Unit) => r = res.1) (fun _ t => va_P (dC, dI) vwCl (x_W cs a res.2) t.heap) (x_A a)) ([.ref (a 0), .int p1, .int p2] : List Value).toArray s 0 0 (x_A a)) (F0 m 0 ls []) := by
    intro H locs hP hS
    refine lv_aload_n hx hb d_G_needs_0 rfl (lv_at hl 0 rfl) ?_
    refine va_get (D := (dC, dI)) (ci := 0) (v := .ref (a 5)) (C := "GuideSearch") (T := F_G) (N := 6) hx hb hT i_G hown hK hP 0 rfl rfl 1 (by decide) (hT _ k_130) (fun _ h9 => h9) rfl d_G_needs_1 ?_
    refine lv_iload_n hx hb d_G_needs_4 rfl (lv_at hl 1 rfl) ?_
    obtain ⟨r2, hr1, hf⟩ := ob hf
    refine ro_calli (va_runV (C := "GuideSearch$Tests") (As := [.int p1]) (rest := []) ⟨hx, hb, hml, hown, hT⟩ (c_T_knows l dC dI cs a st p1 r2 hr1) (cwV 1 hT (gV k_172 k_173 k_174 k_3 k_175) rfl rfl rfl (by decide +kernel) ⟨Nat.le_of_ble_eq_true rfl, Nat.le_of_ble_eq_true rfl⟩) (ro_preV hP hK hN (va_recv hK hP (ci := 2) (q0 := 5) rfl rfl)) rfl rfl hl.1 rfl (lv_room (Nat.le_of_ble_eq_true rfl)) d_G_needs_5 ⟨Nat.le_of_ble_eq_true rfl, Nat.le_of_ble_eq_true rfl⟩) ?_
    refine lv_if_eq (tgt := 22) hx hb d_G_needs_8 (by decide) (fun c3 => ?_) (fun c3 => ?_)
    · rw [if_pos c3] at hf
      refine lv_iconst (v := (-1 : Int32)) hx hb d_G_needs_22 (by decide) ?_
      exact W.iret hx hb hr (fun t ht _ => ⟨⟨_, (), rfl, congrArg Prod.fst (Option.some.inj hf), x_fin ht (congrArg Prod.snd (Option.some.inj hf)) hP⟩, hS.F ht⟩) hS.2.2 d_G_needs_23
    · rw [if_neg c3] at hf
      refine lv_aload_n hx hb d_G_needs_11 rfl (lv_at hl 0 rfl) ?_
      refine va_get (D := (dC, dI)) (ci := 0) (v := .ref (a 5)) (C := "GuideSearch") (T := F_G) (N := 6) hx hb hT i_G hown hK hP 0 rfl rfl 1 (by decide) (hT _ k_130) (fun _ h9 => h9) rfl d_G_needs_12 ?_
      refine lv_iload_n hx hb d_G_needs_15 rfl (lv_at hl 2 rfl) ?_
      obtain ⟨r5, hr4, hf⟩ := ob hf
      refine ro_calli (va_runV (C := "GuideSearch$Tests") (As := [.int p2]) (rest := []) ⟨hx, hb, hml, hown, hT⟩ (c_T_knows l dC dI cs a st p2 r5 hr4) (cwV 1 hT (gV k_172 k_173 k_174 k_3 k_175) rfl rfl rfl (by decide +kernel) ⟨Nat.le_of_ble_eq_true rfl, Nat.le_of_ble_eq_true rfl⟩) (ro_preV hP hK hN (va_recv hK hP (ci := 2) (q0 := 5) rfl rfl)) rfl rfl hl.1 rfl (lv_room (Nat.le_of_ble_eq_true rfl)) d_G_needs_16 ⟨Nat.le_of_ble_eq_true rfl, Nat.le_of_ble_eq_true rfl⟩) ?_
      refine lv_if_ne (tgt := 24) hx hb d_G_needs_19 (by decide) (fun c6 => ?_) (fun c6 => ?_)
      · rw [if_neg c6] at hf
        refine lv_iload_n hx hb d_G_needs_24 rfl (lv_at hl 1 rfl) ?_
        refine lv_iload_n hx hb d_G_needs_25 rfl (lv_at hl 2 rfl) ?_
        refine lv_icmp_ne (tgt := 32) hx hb d_G_needs_26 (by decide) (fun c7 => ?_) (fun c7 => ?_)
        · rw [if_neg c7] at hf
          refine lv_aload_n hx hb d_G_needs_32 rfl (lv_at hl 0 rfl) ?_
          refine va_get (D := (dC, dI)) (ci := 0) (v := .ref (a 5)) (C := "GuideSearch") (T := F_G) (N := 6) hx hb hT i_G hown hK hP 0 rfl rfl 1 (by decide) (hT _ k_130) (fun _ h9 => h9) rfl d_G_needs_33 ?_
          refine lv_iload_n hx hb d_G_needs_36 rfl (lv_at hl 2 rfl) ?_
          obtain ⟨r9, hr8, hf⟩ := ob hf
          refine ro_calli (va_runV (C := "GuideSearch$Tests") (As := [.int p2]) (rest := []) ⟨hx, hb, hml, hown, hT⟩ (c_T_allNeededBy l dC dI cs a st p2 r9 hr8) (cwV 1 hT (gV k_212 k_213 k_214 k_3 k_215) rfl rfl rfl (by decide +kernel) ⟨Nat.le_of_ble_eq_true rfl, Nat.le_of_ble_eq_true rfl⟩) (ro_preV hP hK hN (va_recv hK hP (ci := 2) (q0 := 5) rfl rfl)) rfl rfl hl.1 rfl (lv_room (Nat.le_of_ble_eq_true rfl)) d_G_needs_37 ⟨Nat.le_of_ble_eq_true rfl, Nat.le_of_ble_eq_true rfl⟩) ?_
          refine lv_iload_n hx hb d_G_needs_40 rfl (lv_at hl 1 rfl) ?_
          obtain ⟨r11, hr10, hf⟩ := ob hf
          refine ro_calli (va_runS (As := [.int p1]) (rest := [.int r9]) ⟨hx, hb, hml, hown, hT⟩ (c_G_bit l p1 r11 hr10) (va_cwS 1 hT (gS k_219 k_220 k_1 k_221) rfl rfl rfl (by decide +kernel) ⟨Nat.le_of_ble_eq_true rfl, Nat.le_of_ble_eq_true rfl⟩) ⟨fun _ _ _ _ q => q, fun _ _ _ => ⟨rfl, trivial⟩⟩ rfl rfl hl.1 rfl (lv_room (Nat.le_of_ble_eq_true rfl)) d_G_needs_41 ⟨Nat.le_of_ble_eq_true rfl, Nat.le_of_ble_eq_true rfl⟩) ?_
          refine lv_iand hx hb d_G_needs_44 ?_
          refine lv_if_eq (tgt := 51) hx hb d_G_needs_45 (by decide) (fun c12 => ?_) (fun c12 => ?_)
          · rw [if_pos c12] at hf
            refine lv_aload_n hx hb d_G_needs_51 rfl (lv_at hl 0 rfl) ?_
            refine va_get (D := (dC, dI)) (ci := 0) (v := .ref (a 5)) (C := "GuideSearch") (T := F_G) (N := 6) hx hb hT i_G hown hK hP 0 rfl rfl 1 (by decide) (hT _ k_130) (fun _ h9 => h9) rfl d_G_needs_52 ?_
            refine lv_iload_n hx hb d_G_needs_55 rfl (lv_at hl 1 rfl) ?_
            refine lv_iload_n hx hb d_G_needs_56 rfl (lv_at hl 2 rfl) ?_
            obtain ⟨r15, s14, hr13, hf⟩ := bd2_some hf
            refine rw_calli (va_runV (C := "GuideSearch$Tests") (As := [.int p1, .int p2]) (rest := []) ⟨hx, hb, hml, hown, hT⟩ (c_T_addNeed l dC dI cs a hi st p1 p2 (r15, s14) hr13) (cwV 2 hT (gV k_222 k_223 k_224 k_3 k_225) rfl rfl rfl (by decide +kernel) ⟨Nat.le_of_ble_eq_true rfl, Nat.le_of_ble_eq_true rfl⟩) (ro_preV hP hK hN (va_recv hK hP (ci := 2) (q0 := 5) rfl rfl)) rfl rfl hl.1 rfl (lv_room (Nat.le_of_ble_eq_true rfl)) d_G_needs_57 ⟨Nat.le_of_ble_eq_true rfl, Nat.le_of_ble_eq_true rfl⟩) hS (fun H locs hP hS => ?_)
            exact W.iret hx hb hr (fun t ht _ => ⟨⟨_, (), rfl, congrArg Prod.fst (Option.some.inj hf), x_fin ht (congrArg Prod.snd (Option.some.inj hf)) hP⟩, hS.F ht⟩) hS.2.2 d_G_needs_60
          · rw [if_neg c12] at hf
            refine lv_bipush (v := (-3 : Int32)) hx hb d_G_needs_48 (by decide) ?_
            exact W.iret hx hb hr (fun t ht _ => ⟨⟨_, (), rfl, congrArg Prod.fst (Option.some.inj hf), x_fin ht (congrArg Prod.snd (Option.some.inj hf)) hP⟩, hS.F ht⟩) hS.2.2 d_G_needs_50
        · rw [if_pos c7] at hf
          refine lv_bipush (v := (-2 : Int32)) hx hb d_G_needs_29 (by decide) ?_
          exact W.iret hx hb hr (fun t ht _ => ⟨⟨_, (), rfl, congrArg Prod.fst (Option.some.inj hf), x_fin ht (congrArg Prod.snd (Option.some.inj hf)) hP⟩, hS.F ht⟩) hS.2.2 d_G_needs_31
      · rw [if_pos c6] at hf
        refine lv_iconst (v := (-1 : Int32)) hx hb d_G_needs_22 (by decide) ?_
        exact W.iret hx hb hr (fun t ht _ => ⟨⟨_, (), rfl, congrArg Prod.fst (Option.some.inj hf), x_fin ht (congrArg Prod.snd (Option.some.inj hf)) hP⟩, hS.F ht⟩) hS.2.2 d_G_needs_23
  exact main _ _ hP va_S.rf
set_option maxHeartbeats 4000000 in
set_option maxRecDepth 100000 in
theorem c_G_answer (l : Launch) (dC : Nat → ClassId) (dI : Nat → Nat → Nat) (cs : Nat → ClassId) (a : Nat → Nat) (hi : ∀ i j : Nat, i < 29 → j < 29 → a i = a j → i = j) (st : XS) (p1 : Int32) (p2 : Int32) (res : Int32 × XS) (hf : x_G_answer st p1 p2 = some res) : Met l (⟨"GuideSearch", "answer", "(II)I"⟩ : MethodName) (Cond.code (⟨"GuideSearch", "answer", "(II)I"⟩ : MethodName) prog_1_method_7_code 3 (some .int) :: wg) { frames := 5, cells := 0, slots := 0, locals := 115 } (va_Pc ([.ref (a 0), .int p1, .int p2] : List Value) (x_pre dC dI cs a st)) (va_Qi (fun r (_ : Unit) => r = res.1) (fun _ t => va_P (dC, dI) vwCl (x_W cs a res.2) t.heap) (x_A a)) 0 0 (x_A a) := by
  refine ro_start (cc := prog_1_method_7_code) (maxL := 3) (ret := (some .int)) (by decide) (Nat.le_of_ble_eq_true rfl) ?_
  intro p e s m below meth c hx hb hr hml hT hown hlocks hB ls hl
  replace hown : s.vm.findClass "GuideSearch" = some m.cls := hown
  obtain ⟨hP, hK, hN⟩ := hB
  replace hl : lv_has ls 3 [(0, .ref (a 0)), (1, .int p1), (2, .int p2)] := hl
  unfold x_G_answer at hf
  have hD : ∀ st : XS, va_D (x_A a) (x_W cs a st) := fun st => x_D hi cs st
  have main : ∀ (H : Heap) (locs : List Loc), va_P (dC, dI) vwCl (x_W cs a st) H → va_S (x_A a) s.heap H locs → W p l e { frames := 5, cells := 0, slots := 0, locals := 115 } s m ([.ref (a 0), .int p1, .int p2] : List Value).toArray below meth c H locs 0 0 (MQ below (va_Qi (fun r (_ : Unit) => r = res.1) (fun _ t => va_P (dC, dI) vwCl (x_W cs a res.2) t.heap) (x_A a)) ([.ref (a 0), .int p1, .int p2] : List Value).toArray s 0 0 (x_A a)) (F0 m 0 ls []) := by
    intro H locs hP hS
    refine lv_aload_n hx hb d_G_answer_0 rfl (lv_at hl 0 rfl) ?_
    refine va_get (D := (dC, dI)) (ci := 0) (v := .ref (a 5)) (C := "GuideSearch") (T := F_G) (N := 6) hx hb hT i_G hown hK hP 0 rfl rfl 1 (by decide) (hT _ k_130) (fun _ h9 => h9) rfl d_G_answer_1 ?_
    refine lv_iload_n hx hb d_G_answer_4 rfl (lv_at hl 1 rfl) ?_
    obtain ⟨r2, hr1, hf⟩ := ob hf
    refine ro_calli (va_runV (C := "GuideSearch$Tests") (As := [.int p1]) (rest := []) ⟨hx, hb, hml, hown, hT⟩ (c_T_knows l dC dI cs a st p1 r2 hr1) (cwV 1 hT (gV k_172 k_173 k_174 k_3 k_175) rfl rfl rfl (by decide +kernel) ⟨Nat.le_of_ble_eq_true rfl, Nat.le_of_ble_eq_true rfl⟩) (ro_preV hP hK hN (va_recv hK hP (ci := 2) (q0 := 5) rfl rfl)) rfl rfl hl.1 rfl (lv_room (Nat.le_of_ble_eq_true rfl)) d_G_answer_5 ⟨Nat.le_of_ble_eq_true rfl, Nat.le_of_ble_eq_true rfl⟩) ?_
    refine lv_if_ne (tgt := 13) hx hb d_G_answer_8 (by decide) (fun c3 => ?_) (fun c3 => ?_)
    · rw [if_neg c3] at hf
      refine lv_iload_n hx hb d_G_answer_13 rfl (lv_at hl 2 rfl) ?_
      obtain ⟨r5, hr4, hf⟩ := ob hf
      refine ro_calli (va_runS (As := [.int p2]) (rest := []) ⟨hx, hb, hml, hown, hT⟩ (c_G_isAnswer l p2 r5 hr4) (va_cwS 1 hT (gS k_180 k_181 k_1 k_182) rfl rfl rfl (by decide +kernel) ⟨Nat.le_of_ble_eq_true rfl, Nat.le_of_ble_eq_true rfl⟩) ⟨fun _ _ _ _ q => q, fun _ _ _ => ⟨rfl, trivial⟩⟩ rfl rfl hl.1 rfl (lv_room (Nat.le_of_ble_eq_true rfl)) d_G_answer_14 ⟨Nat.le_of_ble_eq_true rfl, Nat.le_of_ble_eq_true rfl⟩) ?_
      refine lv_if_ne (tgt := 23) hx hb d_G_answer_17 (by decide) (fun c6 => ?_) (fun c6 => ?_)
      · rw [if_neg c6] at hf
        refine lv_aload_n hx hb d_G_answer_23 rfl (lv_at hl 0 rfl) ?_
        refine va_get (D := (dC, dI)) (ci := 0) (v := .ref (a 5)) (C := "GuideSearch") (T := F_G) (N := 6) hx hb hT i_G hown hK hP 0 rfl rfl 1 (by decide) (hT _ k_130) (fun _ h9 => h9) rfl d_G_answer_24 ?_
        refine lv_iload_n hx hb d_G_answer_27 rfl (lv_at hl 1 rfl) ?_
        refine lv_aload_n hx hb d_G_answer_28 rfl (lv_at hl 0 rfl) ?_
        refine va_get (D := (dC, dI)) (ci := 0) (v := .int (x_opn st)) (C := "GuideSearch") (T := F_G) (N := 6) hx hb hT i_G hown hK hP 0 rfl rfl 4 (by decide) (hT _ k_133) (fun _ h9 => h9) rfl d_G_answer_29 ?_
        obtain ⟨r8, hr7, hf⟩ := ob hf
        refine ro_calli (va_runV (C := "GuideSearch$Tests") (As := [.int p1, .int (x_opn st)]) (rest := []) ⟨hx, hb, hml, hown, hT⟩ (c_T_isOpen l dC dI cs a st p1 (x_opn st) r8 hr7) (cwV 2 hT (gV k_365 k_288 k_289 k_3 k_290) rfl rfl rfl (by decide +kernel) ⟨Nat.le_of_ble_eq_true rfl, Nat.le_of_ble_eq_true rfl⟩) (ro_preV hP hK hN (va_recv hK hP (ci := 2) (q0 := 5) rfl rfl)) rfl rfl hl.1 rfl (lv_room (Nat.le_of_ble_eq_true rfl)) d_G_answer_32 ⟨Nat.le_of_ble_eq_true rfl, Nat.le_of_ble_eq_true rfl⟩) ?_
        refine lv_if_ne (tgt := 41) hx hb d_G_answer_35 (by decide) (fun c9 => ?_) (fun c9 => ?_)
        · rw [if_neg c9] at hf
          refine lv_aload_n hx hb d_G_answer_41 rfl (lv_at hl 0 rfl) ?_
          refine lv_aload_n hx hb d_G_answer_42 rfl (lv_at hl 0 rfl) ?_
          refine va_get (D := (dC, dI)) (ci := 0) (v := .int (x_opn st)) (C := "GuideSearch") (T := F_G) (N := 6) hx hb hT i_G hown hK hP 0 rfl rfl 4 (by decide) (hT _ k_133) (fun _ h9 => h9) rfl d_G_answer_43 ?_
          refine lv_iload_n hx hb d_G_answer_46 rfl (lv_at hl 1 rfl) ?_
          refine lv_iload_n hx hb d_G_answer_47 rfl (lv_at hl 2 rfl) ?_
          obtain ⟨r11, hr10, hf⟩ := ob hf
          refine ro_calli (va_runS (As := [.int (x_opn st), .int p1, .int p2]) (rest := [.ref (a 0)]) ⟨hx, hb, hml, hown, hT⟩ (c_G_withAnswer l (x_opn st) p1 p2 r11 hr10) (va_cwS 3 hT (gS k_366 k_320 k_1 k_321) rfl rfl rfl (by decide +kernel) ⟨Nat.le_of_ble_eq_true rfl, Nat.le_of_ble_eq_true rfl⟩) ⟨fun _ _ _ _ q => q, fun _ _ _ => ⟨rfl, trivial⟩⟩ rfl rfl hl.1 rfl (lv_room (Nat.le_of_ble_eq_true rfl)) d_G_answer_48 ⟨Nat.le_of_ble_eq_true rfl, Nat.le_of_ble_eq_true rfl⟩) ?_
          refine va_put (D := (dC, dI)) (ci := 0) (v := .int r11) (ty := .int) (C := "GuideSearch") (T := F_G) (N := 6) hx hb hT i_G ft_G ft_G_ok n_G hown hK hP (hD _) hS 0 rfl rfl 4 (by decide) (hT _ k_133) (fun _ h9 => h9) rfl (by decide +kernel) rfl rfl (Nat.le_of_ble_eq_true rfl) d_G_answer_51 (fun H locs hP _ hS => ?_)
          rw [x_opn_put cs a st r11] at hP
          refine lv_aload_n hx hb d_G_answer_54 rfl (lv_at hl 0 rfl) ?_
          refine va_get (D := (dC, dI)) (ci := 0) (v := .ref (a 15)) (C := "GuideSearch") (T := F_G) (N := 6) hx hb hT i_G hown hK hP 0 rfl rfl 2 (by decide) (hT _ k_131) (fun _ h9 => h9) rfl d_G_answer_55 ?_
          refine lv_aload_n hx hb d_G_answer_58 rfl (lv_at hl 0 rfl) ?_
          refine va_get (D := (dC, dI)) (ci := 0) (v := .int (x_opn (x_opn_s st r11))) (C := "GuideSearch") (T := F_G) (N := 6) hx hb hT i_G hown hK hP 0 rfl rfl 4 (by decide) (hT _ k_133) (fun _ h9 => h9) rfl d_G_answer_59 ?_
          obtain ⟨r13, hr12, hf⟩ := ob hf
          refine ro_calli (va_runV (C := "GuideSearch$Cases") (As := [.int (x_opn (x_opn_s st r11))]) (rest := []) ⟨hx, hb, hml, hown, hT⟩ (c_K_left l dC dI cs a (x_opn_s st r11) (x_opn (x_opn_s st r11)) r13 hr12) (cwV 1 hT (gV k_367 k_339 k_340 k_5 k_341) rfl rfl rfl (by decide +kernel) ⟨Nat.le_of_ble_eq_true rfl, Nat.le_of_ble_eq_true rfl⟩) (ro_preV hP hK hN (va_recv hK hP (ci := 3) (q0 := 15) rfl rfl)) rfl rfl hl.1 rfl (lv_room (Nat.le_of_ble_eq_true rfl)) d_G_answer_62 ⟨Nat.le_of_ble_eq_true rfl, Nat.le_of_ble_eq_true rfl⟩) ?_
          obtain ⟨r15, hr14, hf⟩ := ob hf
          refine ro_calli (va_runS (As := [.int r13]) (rest := []) ⟨hx, hb, hml, hown, hT⟩ (c_JI_bitCount l r13 r15 hr14) (va_cwS 1 hT (gS k_368 k_228 k_8 k_229) rfl rfl rfl (by decide +kernel) ⟨Nat.le_of_ble_eq_true rfl, Nat.le_of_ble_eq_true rfl⟩) ⟨fun _ _ _ _ q => q, fun _ _ _ => ⟨rfl, trivial⟩⟩ rfl rfl hl.1 rfl (lv_room (Nat.le_of_ble_eq_true rfl)) d_G_answer_65 ⟨Nat.le_of_ble_eq_true rfl, Nat.le_of_ble_eq_true rfl⟩) ?_
          exact W.iret hx hb hr (fun t ht _ => ⟨⟨_, (), rfl, congrArg Prod.fst (Option.some.inj hf), x_fin ht (congrArg Prod.snd (Option.some.inj hf)) hP⟩, hS.F ht⟩) hS.2.2 d_G_answer_68
        · rw [if_pos c9] at hf
          refine lv_bipush (v := (-3 : Int32)) hx hb d_G_answer_38 (by decide) ?_
          exact W.iret hx hb hr (fun t ht _ => ⟨⟨_, (), rfl, congrArg Prod.fst (Option.some.inj hf), x_fin ht (congrArg Prod.snd (Option.some.inj hf)) hP⟩, hS.F ht⟩) hS.2.2 d_G_answer_40
      · rw [if_pos c6] at hf
        refine lv_bipush (v := (-2 : Int32)) hx hb d_G_answer_20 (by decide) ?_
        exact W.iret hx hb hr (fun t ht _ => ⟨⟨_, (), rfl, congrArg Prod.fst (Option.some.inj hf), x_fin ht (congrArg Prod.snd (Option.some.inj hf)) hP⟩, hS.F ht⟩) hS.2.2 d_G_answer_22
    · rw [if_pos c3] at hf
      refine lv_iconst (v := (-1 : Int32)) hx hb d_G_answer_11 (by decide) ?_
      exact W.iret hx hb hr (fun t ht _ => ⟨⟨_, (), rfl, congrArg Prod.fst (Option.some.inj hf), x_fin ht (congrArg Prod.snd (Option.some.inj hf)) hP⟩, hS.F ht⟩) hS.2.2 d_G_answer_12
  exact main _ _ hP va_S.rf
set_option maxHeartbeats 4000000 in
set_option maxRecDepth 100000 in
theorem c_G_exact (l : Launch) (dC : Nat → ClassId) (dI : Nat → Nat → Nat) (cs : Nat → ClassId) (a : Nat → Nat) (st : XS) (res : Int32) (hf : x_G_exact st = some res) : Met l (⟨"GuideSearch", "exact", "()Z"⟩ : MethodName) (Cond.code (⟨"GuideSearch", "exact", "()Z"⟩ : MethodName) prog_1_method_9_code 1 (some .boolean) :: wg) { frames := 0, cells := 0, slots := 0, locals := 0 } (va_Pc ([.ref (a 0)] : List Value) (x_pre dC dI cs a st)) (vp_Si (fun r => r = res)) 0 0 (fun _ => False) := by
  refine ro_start (cc := prog_1_method_9_code) (maxL := 1) (ret := (some .boolean)) (by decide) (Nat.le_of_ble_eq_true rfl) ?_
  intro p e s m below meth c hx hb hr hml hT hown hlocks hB ls hl
  replace hown : s.vm.findClass "GuideSearch" = some m.cls := hown
  obtain ⟨hP, hK, hN⟩ := hB
  replace hl : lv_has ls 1 [(0, .ref (a 0))] := hl
  unfold x_G_exact at hf
  refine lv_aload_n hx hb d_G_exact_0 rfl (lv_at hl 0 rfl) ?_
  refine va_get (D := (dC, dI)) (ci := 0) (v := .int (x_pla st)) (C := "GuideSearch") (T := F_G) (N := 6) hx hb hT i_G hown hK hP 0 rfl rfl 5 (by decide) (hT _ k_134) (fun _ h9 => h9) rfl d_G_exact_1 ?_
  obtain ⟨hz1, hf⟩ := zb_some hf
  exact W.zret (ty := .boolean) hx hb hr (zb_nar hz1) (fun t ht _ => ⟨_, rfl, Option.some.inj hf, ht⟩) (fun _ h => absurd h List.not_mem_nil) d_G_exact_4
set_option maxHeartbeats 4000000 in
set_option maxRecDepth 100000 in
theorem c_G_cost (l : Launch) (dC : Nat → ClassId) (dI : Nat → Nat → Nat) (cs : Nat → ClassId) (a : Nat → Nat) (st : XS) (res : Int64) (hf : x_G_cost st = some res) : Met l (⟨"GuideSearch", "cost", "()J"⟩ : MethodName) (Cond.code (⟨"GuideSearch", "cost", "()J"⟩ : MethodName) prog_1_method_10_code 1 (some .long) :: wg) { frames := 0, cells := 0, slots := 0, locals := 0 } (va_Pc ([.ref (a 0)] : List Value) (x_pre dC dI cs a st)) (vp_Sl (fun r => r = res)) 0 0 (fun _ => False) := by
  refine ro_start (cc := prog_1_method_10_code) (maxL := 1) (ret := (some .long)) (by decide) (Nat.le_of_ble_eq_true rfl) ?_
  intro p e s m below meth c hx hb hr hml hT hown hlocks hB ls hl
  replace hown : s.vm.findClass "GuideSearch" = some m.cls := hown
  obtain ⟨hP, hK, hN⟩ := hB
  replace hl : lv_has ls 1 [(0, .ref (a 0))] := hl
  unfold x_G_cost at hf
  refine lv_aload_n hx hb d_G_cost_0 rfl (lv_at hl 0 rfl) ?_
  refine va_get (D := (dC, dI)) (ci := 0) (v := .ref (a 16)) (C := "GuideSearch") (T := F_G) (N := 6) hx hb hT i_G hown hK hP 0 rfl rfl 3 (by decide) (hT _ k_132) (fun _ h9 => h9) rfl d_G_cost_1 ?_
  refine va_getN (D := (dC, dI)) (ci := 4) (v := .long (x_tho st)) (C := "GuideSearch$Plan") (T := F_P) (N := 9) hx hb hT i_P hown hK hP 16 rfl rfl 8 (by decide) (va_Nw.use rfl (hN _ k_108)) (fun _ h9 => h9) rfl d_G_cost_4 ?_
  exact W.lret hx hb hr (fun t ht _ => ⟨_, rfl, Option.some.inj hf, ht⟩) (fun _ h => absurd h List.not_mem_nil) d_G_cost_7
set_option maxHeartbeats 4000000 in
set_option maxRecDepth 100000 in
theorem c_G_pair (l : Launch) (dC : Nat → ClassId) (dI : Nat → Nat → Nat) (cs : Nat → ClassId) (a : Nat → Nat) (hi : ∀ i j : Nat, i < 29 → j < 29 → a i = a j → i = j) (st : XS) (p1 : Int32) (p2 : Int32) (res : Int32 × XS) (hf : x_G_pair st p1 p2 = some res) : Met l (⟨"GuideSearch", "pair", "(II)I"⟩ : MethodName) (Cond.code (⟨"GuideSearch", "pair", "(II)I"⟩ : MethodName) prog_1_method_11_code 3 (some .int) :: wg) { frames := 2, cells := 0, slots := 0, locals := 43 } (va_Pc ([.ref (a 0), .int p1, .int p2] : List Value) (x_pre dC dI cs a st)) (va_Qi (fun r (_ : Unit) => r = res.1) (fun _ t => va_P (dC, dI) vwCl (x_W cs a res.2) t.heap) (x_A a)) 0 0 (x_A a) := by
  refine ro_start (cc := prog_1_method_11_code) (maxL := 3) (ret := (some .int)) (by decide) (Nat.le_of_ble_eq_true rfl) ?_
  intro p e s m below meth c hx hb hr hml hT hown hlocks hB ls hl
  replace hown : s.vm.findClass "GuideSearch" = some m.cls := hown
  obtain ⟨hP, hK, hN⟩ := hB
  replace hl : lv_has ls 3 [(0, .ref (a 0)), (1, .int p1), (2, .int p2)] := hl
  unfold x_G_pair at hf
  have hD : ∀ st : XS, va_D (x_A a) (x_W cs a st) := fun st => x_D hi cs st
  have main : ∀ (H : Heap) (locs : List Loc), va_P (dC, dI) vwCl (x_W cs a st) H → va_S (x_A a) s.heap H locs → W p l e { frames := 2, cells := 0, slots := 0, locals := 43 } s m ([.ref (a 0), .int p1, .int p2] : List Value).toArray below meth c H locs 0 0 (MQ below (va_Qi (fun r (_ : Unit) => r = res.1) (fun _ t => va_P (dC, dI) vwCl (x_W cs a res.2) t.heap) (x_A a)) ([.ref (a 0), .int p1, .int p2] : List Value).toArray s 0 0 (x_A a)) (F0 m 0 ls []) := by
    intro H locs hP hS
    refine lv_aload_n hx hb d_G_pair_0 rfl (lv_at hl 0 rfl) ?_
    refine va_get (D := (dC, dI)) (ci := 0) (v := .ref (a 1)) (C := "GuideSearch") (T := F_G) (N := 6) hx hb hT i_G hown hK hP 0 rfl rfl 0 (by decide) (hT _ k_129) (fun _ h9 => h9) rfl d_G_pair_1 ?_
    refine lv_iload_n hx hb d_G_pair_4 rfl (lv_at hl 1 rfl) ?_
    obtain ⟨r2, hr1, hf⟩ := ob hf
    refine ro_calli (va_runV (C := "GuideSearch$Causes") (As := [.int p1]) (rest := []) ⟨hx, hb, hml, hown, hT⟩ (c_C_isFault l dC dI cs a st p1 r2 hr1) (cwV 1 hT (gV k_381 k_382 k_383 k_2 k_384) rfl rfl rfl (by decide +kernel) ⟨Nat.le_of_ble_eq_true rfl, Nat.le_of_ble_eq_true rfl⟩) (ro_preV hP hK hN (va_recv hK hP (ci := 1) (q0 := 1) rfl rfl)) rfl rfl hl.1 rfl (lv_room (Nat.le_of_ble_eq_true rfl)) d_G_pair_5 ⟨Nat.le_of_ble_eq_true rfl, Nat.le_of_ble_eq_true rfl⟩) ?_
    refine lv_if_eq (tgt := 22) hx hb d_G_pair_8 (by decide) (fun c3 => ?_) (fun c3 => ?_)
    · rw [if_pos c3] at hf
      refine lv_iconst (v := (-1 : Int32)) hx hb d_G_pair_22 (by decide) ?_
      exact W.iret hx hb hr (fun t ht _ => ⟨⟨_, (), rfl, congrArg Prod.fst (Option.some.inj hf), x_fin ht (congrArg Prod.snd (Option.some.inj hf)) hP⟩, hS.F ht⟩) hS.2.2 d_G_pair_23
    · rw [if_neg c3] at hf
      refine lv_aload_n hx hb d_G_pair_11 rfl (lv_at hl 0 rfl) ?_
      refine va_get (D := (dC, dI)) (ci := 0) (v := .ref (a 1)) (C := "GuideSearch") (T := F_G) (N := 6) hx hb hT i_G hown hK hP 0 rfl rfl 0 (by decide) (hT _ k_129) (fun _ h9 => h9) rfl d_G_pair_12 ?_
      refine lv_iload_n hx hb d_G_pair_15 rfl (lv_at hl 2 rfl) ?_
      obtain ⟨r5, hr4, hf⟩ := ob hf
      refine ro_calli (va_runV (C := "GuideSearch$Causes") (As := [.int p2]) (rest := []) ⟨hx, hb, hml, hown, hT⟩ (c_C_isFault l dC dI cs a st p2 r5 hr4) (cwV 1 hT (gV k_381 k_382 k_383 k_2 k_384) rfl rfl rfl (by decide +kernel) ⟨Nat.le_of_ble_eq_true rfl, Nat.le_of_ble_eq_true rfl⟩) (ro_preV hP hK hN (va_recv hK hP (ci := 1) (q0 := 1) rfl rfl)) rfl rfl hl.1 rfl (lv_room (Nat.le_of_ble_eq_true rfl)) d_G_pair_16 ⟨Nat.le_of_ble_eq_true rfl, Nat.le_of_ble_eq_true rfl⟩) ?_
      refine lv_if_ne (tgt := 24) hx hb d_G_pair_19 (by decide) (fun c6 => ?_) (fun c6 => ?_)
      · rw [if_neg c6] at hf
        refine lv_iload_n hx hb d_G_pair_24 rfl (lv_at hl 1 rfl) ?_
        refine lv_iload_n hx hb d_G_pair_25 rfl (lv_at hl 2 rfl) ?_
        refine lv_icmp_ne (tgt := 32) hx hb d_G_pair_26 (by decide) (fun c7 => ?_) (fun c7 => ?_)
        · rw [if_neg c7] at hf
          refine lv_aload_n hx hb d_G_pair_32 rfl (lv_at hl 0 rfl) ?_
          refine va_get (D := (dC, dI)) (ci := 0) (v := .ref (a 1)) (C := "GuideSearch") (T := F_G) (N := 6) hx hb hT i_G hown hK hP 0 rfl rfl 0 (by decide) (hT _ k_129) (fun _ h9 => h9) rfl d_G_pair_33 ?_
          refine lv_iload_n hx hb d_G_pair_36 rfl (lv_at hl 1 rfl) ?_
          obtain ⟨r9, hr8, hf⟩ := ob hf
          refine ro_calli (va_runS (As := [.int p1]) (rest := [.ref (a 1)]) ⟨hx, hb, hml, hown, hT⟩ (c_G_bit l p1 r9 hr8) (va_cwS 1 hT (gS k_219 k_220 k_1 k_221) rfl rfl rfl (by decide +kernel) ⟨Nat.le_of_ble_eq_true rfl, Nat.le_of_ble_eq_true rfl⟩) ⟨fun _ _ _ _ q => q, fun _ _ _ => ⟨rfl, trivial⟩⟩ rfl rfl hl.1 rfl (lv_room (Nat.le_of_ble_eq_true rfl)) d_G_pair_37 ⟨Nat.le_of_ble_eq_true rfl, Nat.le_of_ble_eq_true rfl⟩) ?_
          refine lv_iload_n hx hb d_G_pair_40 rfl (lv_at hl 2 rfl) ?_
          obtain ⟨r11, hr10, hf⟩ := ob hf
          refine ro_calli (va_runS (As := [.int p2]) (rest := [.int r9, .ref (a 1)]) ⟨hx, hb, hml, hown, hT⟩ (c_G_bit l p2 r11 hr10) (va_cwS 1 hT (gS k_219 k_220 k_1 k_221) rfl rfl rfl (by decide +kernel) ⟨Nat.le_of_ble_eq_true rfl, Nat.le_of_ble_eq_true rfl⟩) ⟨fun _ _ _ _ q => q, fun _ _ _ => ⟨rfl, trivial⟩⟩ rfl rfl hl.1 rfl (lv_room (Nat.le_of_ble_eq_true rfl)) d_G_pair_41 ⟨Nat.le_of_ble_eq_true rfl, Nat.le_of_ble_eq_true rfl⟩) ?_
          refine lv_ior hx hb d_G_pair_44 ?_
          obtain ⟨r13, hr12, hf⟩ := ob hf
          refine ro_calli (va_runV (C := "GuideSearch$Causes") (As := [.int (r9 ||| r11)]) (rest := []) ⟨hx, hb, hml, hown, hT⟩ (c_C_hasPair l dC dI cs a st (r9 ||| r11) r13 hr12) (cwV 1 hT (gV k_385 k_386 k_387 k_2 k_388) rfl rfl rfl (by decide +kernel) ⟨Nat.le_of_ble_eq_true rfl, Nat.le_of_ble_eq_true rfl⟩) (ro_preV hP hK hN (va_recv hK hP (ci := 1) (q0 := 1) rfl rfl)) rfl rfl hl.1 rfl (lv_room (Nat.le_of_ble_eq_true rfl)) d_G_pair_45 ⟨Nat.le_of_ble_eq_true rfl, Nat.le_of_ble_eq_true rfl⟩) ?_
          refine lv_if_eq (tgt := 54) hx hb d_G_pair_48 (by decide) (fun c14 => ?_) (fun c14 => ?_)
          · rw [if_pos c14] at hf
            refine lv_aload_n hx hb d_G_pair_54 rfl (lv_at hl 0 rfl) ?_
            refine va_get (D := (dC, dI)) (ci := 0) (v := .ref (a 1)) (C := "GuideSearch") (T := F_G) (N := 6) hx hb hT i_G hown hK hP 0 rfl rfl 0 (by decide) (hT _ k_129) (fun _ h9 => h9) rfl d_G_pair_55 ?_
            refine va_getN (D := (dC, dI)) (ci := 1) (v := .int (x_cN st)) (C := "GuideSearch$Causes") (T := F_C) (N := 5) hx hb hT i_C hown hK hP 1 rfl rfl 3 (by decide) (va_Nw.use rfl (hN _ k_32)) (fun _ h9 => h9) rfl d_G_pair_58 ?_
            refine lv_bipush (v := (12 : Int32)) hx hb d_G_pair_61 (by decide) ?_
            refine lv_icmp_lt (tgt := 69) hx hb d_G_pair_63 (by decide) (fun c15 => ?_) (fun c15 => ?_)
            · rw [if_pos c15] at hf
              refine lv_aload_n hx hb d_G_pair_69 rfl (lv_at hl 0 rfl) ?_
              refine va_get (D := (dC, dI)) (ci := 0) (v := .ref (a 1)) (C := "GuideSearch") (T := F_G) (N := 6) hx hb hT i_G hown hK hP 0 rfl rfl 0 (by decide) (hT _ k_129) (fun _ h9 => h9) rfl d_G_pair_70 ?_
              refine lv_iload_n hx hb d_G_pair_73 rfl (lv_at hl 1 rfl) ?_
              refine lv_iload_n hx hb d_G_pair_74 rfl (lv_at hl 2 rfl) ?_
              obtain ⟨r18, s17, hr16, hf⟩ := bd2_some hf
              refine rw_calli (va_runV (C := "GuideSearch$Causes") (As := [.int p1, .int p2]) (rest := []) ⟨hx, hb, hml, hown, hT⟩ (c_C_addPair l dC dI cs a hi st p1 p2 (r18, s17) hr16) (cwV 2 hT (gV k_389 k_390 k_391 k_2 k_392) rfl rfl rfl (by decide +kernel) ⟨Nat.le_of_ble_eq_true rfl, Nat.le_of_ble_eq_true rfl⟩) (ro_preV hP hK hN (va_recv hK hP (ci := 1) (q0 := 1) rfl rfl)) rfl rfl hl.1 rfl (lv_room (Nat.le_of_ble_eq_true rfl)) d_G_pair_75 ⟨Nat.le_of_ble_eq_true rfl, Nat.le_of_ble_eq_true rfl⟩) hS (fun H locs hP hS => ?_)
              exact W.iret hx hb hr (fun t ht _ => ⟨⟨_, (), rfl, congrArg Prod.fst (Option.some.inj hf), x_fin ht (congrArg Prod.snd (Option.some.inj hf)) hP⟩, hS.F ht⟩) hS.2.2 d_G_pair_78
            · rw [if_neg c15] at hf
              refine lv_bipush (v := (-4 : Int32)) hx hb d_G_pair_66 (by decide) ?_
              exact W.iret hx hb hr (fun t ht _ => ⟨⟨_, (), rfl, congrArg Prod.fst (Option.some.inj hf), x_fin ht (congrArg Prod.snd (Option.some.inj hf)) hP⟩, hS.F ht⟩) hS.2.2 d_G_pair_68
          · rw [if_neg c14] at hf
            refine lv_bipush (v := (-3 : Int32)) hx hb d_G_pair_51 (by decide) ?_
            exact W.iret hx hb hr (fun t ht _ => ⟨⟨_, (), rfl, congrArg Prod.fst (Option.some.inj hf), x_fin ht (congrArg Prod.snd (Option.some.inj hf)) hP⟩, hS.F ht⟩) hS.2.2 d_G_pair_53
        · rw [if_pos c7] at hf
          refine lv_bipush (v := (-2 : Int32)) hx hb d_G_pair_29 (by decide) ?_
          exact W.iret hx hb hr (fun t ht _ => ⟨⟨_, (), rfl, congrArg Prod.fst (Option.some.inj hf), x_fin ht (congrArg Prod.snd (Option.some.inj hf)) hP⟩, hS.F ht⟩) hS.2.2 d_G_pair_31
      · rw [if_pos c6] at hf
        refine lv_iconst (v := (-1 : Int32)) hx hb d_G_pair_22 (by decide) ?_
        exact W.iret hx hb hr (fun t ht _ => ⟨⟨_, (), rfl, congrArg Prod.fst (Option.some.inj hf), x_fin ht (congrArg Prod.snd (Option.some.inj hf)) hP⟩, hS.F ht⟩) hS.2.2 d_G_pair_23
  exact main _ _ hP va_S.rf
set_option maxHeartbeats 4000000 in
set_option maxRecDepth 100000 in
theorem c_G_learn (l : Launch) (dC : Nat → ClassId) (dI : Nat → Nat → Nat) (cs : Nat → ClassId) (a : Nat → Nat) (hi : ∀ i j : Nat, i < 29 → j < 29 → a i = a j → i = j) (st : XS) (p1 : Int32) (res : Int32 × XS) (hf : x_G_learn st p1 = some res) : Met l (⟨"GuideSearch", "learn", "(I)I"⟩ : MethodName) (Cond.code (⟨"GuideSearch", "learn", "(I)I"⟩ : MethodName) prog_1_method_12_code 2 (some .int) :: wg) { frames := 1, cells := 0, slots := 0, locals := 21 } (va_Pc ([.ref (a 0), .int p1] : List Value) (x_pre dC dI cs a st)) (va_Qi (fun r (_ : Unit) => r = res.1) (fun _ t => va_P (dC, dI) vwCl (x_W cs a res.2) t.heap) (x_A a)) 0 0 (x_A a) := by
  refine ro_start (cc := prog_1_method_12_code) (maxL := 2) (ret := (some .int)) (by decide) (Nat.le_of_ble_eq_true rfl) ?_
  intro p e s m below meth c hx hb hr hml hT hown hlocks hB ls hl
  replace hown : s.vm.findClass "GuideSearch" = some m.cls := hown
  obtain ⟨hP, hK, hN⟩ := hB
  replace hl : lv_has ls 2 [(0, .ref (a 0)), (1, .int p1)] := hl
  unfold x_G_learn at hf
  have hD : ∀ st : XS, va_D (x_A a) (x_W cs a st) := fun st => x_D hi cs st
  have main : ∀ (H : Heap) (locs : List Loc), va_P (dC, dI) vwCl (x_W cs a st) H → va_S (x_A a) s.heap H locs → W p l e { frames := 1, cells := 0, slots := 0, locals := 21 } s m ([.ref (a 0), .int p1] : List Value).toArray below meth c H locs 0 0 (MQ below (va_Qi (fun r (_ : Unit) => r = res.1) (fun _ t => va_P (dC, dI) vwCl (x_W cs a res.2) t.heap) (x_A a)) ([.ref (a 0), .int p1] : List Value).toArray s 0 0 (x_A a)) (F0 m 0 ls []) := by
    intro H locs hP hS
    refine lv_iload_n hx hb d_G_learn_0 rfl (lv_at hl 1 rfl) ?_
    refine lv_if_eq (tgt := 17) hx hb d_G_learn_1 (by decide) (fun c1 => ?_) (fun c1 => ?_)
    · rw [if_pos c1] at hf
      refine lv_aload_n hx hb d_G_learn_17 rfl (lv_at hl 0 rfl) ?_
      refine lv_iconst (v := (0 : Int32)) hx hb d_G_learn_18 (by decide) ?_
      refine va_put (D := (dC, dI)) (ci := 0) (v := .int (0 : Int32)) (ty := .int) (C := "GuideSearch") (T := F_G) (N := 6) hx hb hT i_G ft_G ft_G_ok n_G hown hK hP (hD _) hS 0 rfl rfl 4 (by decide) (hT _ k_133) (fun _ h9 => h9) rfl (by decide +kernel) rfl rfl (Nat.le_of_ble_eq_true rfl) d_G_learn_19 (fun H locs hP _ hS => ?_)
      rw [x_opn_put cs a st (0 : Int32)] at hP
      refine lv_aload_n hx hb d_G_learn_22 rfl (lv_at hl 0 rfl) ?_
      refine va_get (D := (dC, dI)) (ci := 0) (v := .ref (a 1)) (C := "GuideSearch") (T := F_G) (N := 6) hx hb hT i_G hown hK hP 0 rfl rfl 0 (by decide) (hT _ k_129) (fun _ h9 => h9) rfl d_G_learn_23 ?_
      refine lv_iload_n hx hb d_G_learn_26 rfl (lv_at hl 1 rfl) ?_
      obtain ⟨r4, s3, hr2, hf⟩ := bd2_some hf
      refine rw_calli (va_runV (C := "GuideSearch$Causes") (As := [.int p1]) (rest := []) ⟨hx, hb, hml, hown, hT⟩ (c_C_countLearned l dC dI cs a hi (x_opn_s st (0 : Int32)) p1 (r4, s3) hr2) (cwV 1 hT (gV k_398 k_399 k_400 k_2 k_401) rfl rfl rfl (by decide +kernel) ⟨Nat.le_of_ble_eq_true rfl, Nat.le_of_ble_eq_true rfl⟩) (ro_preV hP hK hN (va_recv hK hP (ci := 1) (q0 := 1) rfl rfl)) rfl rfl hl.1 rfl (lv_room (Nat.le_of_ble_eq_true rfl)) d_G_learn_27 ⟨Nat.le_of_ble_eq_true rfl, Nat.le_of_ble_eq_true rfl⟩) hS (fun H locs hP hS => ?_)
      exact W.iret hx hb hr (fun t ht _ => ⟨⟨_, (), rfl, congrArg Prod.fst (Option.some.inj hf), x_fin ht (congrArg Prod.snd (Option.some.inj hf)) hP⟩, hS.F ht⟩) hS.2.2 d_G_learn_30
    · rw [if_neg c1] at hf
      refine lv_aload_n hx hb d_G_learn_4 rfl (lv_at hl 0 rfl) ?_
      refine va_get (D := (dC, dI)) (ci := 0) (v := .ref (a 1)) (C := "GuideSearch") (T := F_G) (N := 6) hx hb hT i_G hown hK hP 0 rfl rfl 0 (by decide) (hT _ k_129) (fun _ h9 => h9) rfl d_G_learn_5 ?_
      refine lv_iload_n hx hb d_G_learn_8 rfl (lv_at hl 1 rfl) ?_
      obtain ⟨r6, hr5, hf⟩ := ob hf
      refine ro_calli (va_runV (C := "GuideSearch$Causes") (As := [.int p1]) (rest := []) ⟨hx, hb, hml, hown, hT⟩ (c_C_knows l dC dI cs a st p1 r6 hr5) (cwV 1 hT (gV k_176 k_177 k_178 k_2 k_179) rfl rfl rfl (by decide +kernel) ⟨Nat.le_of_ble_eq_true rfl, Nat.le_of_ble_eq_true rfl⟩) (ro_preV hP hK hN (va_recv hK hP (ci := 1) (q0 := 1) rfl rfl)) rfl rfl hl.1 rfl (lv_room (Nat.le_of_ble_eq_true rfl)) d_G_learn_9 ⟨Nat.le_of_ble_eq_true rfl, Nat.le_of_ble_eq_true rfl⟩) ?_
      refine lv_if_ne (tgt := 17) hx hb d_G_learn_12 (by decide) (fun c7 => ?_) (fun c7 => ?_)
      · rw [if_neg c7] at hf
        refine lv_aload_n hx hb d_G_learn_17 rfl (lv_at hl 0 rfl) ?_
        refine lv_iconst (v := (0 : Int32)) hx hb d_G_learn_18 (by decide) ?_
        refine va_put (D := (dC, dI)) (ci := 0) (v := .int (0 : Int32)) (ty := .int) (C := "GuideSearch") (T := F_G) (N := 6) hx hb hT i_G ft_G ft_G_ok n_G hown hK hP (hD _) hS 0 rfl rfl 4 (by decide) (hT _ k_133) (fun _ h9 => h9) rfl (by decide +kernel) rfl rfl (Nat.le_of_ble_eq_true rfl) d_G_learn_19 (fun H locs hP _ hS => ?_)
        rw [x_opn_put cs a st (0 : Int32)] at hP
        refine lv_aload_n hx hb d_G_learn_22 rfl (lv_at hl 0 rfl) ?_
        refine va_get (D := (dC, dI)) (ci := 0) (v := .ref (a 1)) (C := "GuideSearch") (T := F_G) (N := 6) hx hb hT i_G hown hK hP 0 rfl rfl 0 (by decide) (hT _ k_129) (fun _ h9 => h9) rfl d_G_learn_23 ?_
        refine lv_iload_n hx hb d_G_learn_26 rfl (lv_at hl 1 rfl) ?_
        obtain ⟨r10, s9, hr8, hf⟩ := bd2_some hf
        refine rw_calli (va_runV (C := "GuideSearch$Causes") (As := [.int p1]) (rest := []) ⟨hx, hb, hml, hown, hT⟩ (c_C_countLearned l dC dI cs a hi (x_opn_s st (0 : Int32)) p1 (r10, s9) hr8) (cwV 1 hT (gV k_398 k_399 k_400 k_2 k_401) rfl rfl rfl (by decide +kernel) ⟨Nat.le_of_ble_eq_true rfl, Nat.le_of_ble_eq_true rfl⟩) (ro_preV hP hK hN (va_recv hK hP (ci := 1) (q0 := 1) rfl rfl)) rfl rfl hl.1 rfl (lv_room (Nat.le_of_ble_eq_true rfl)) d_G_learn_27 ⟨Nat.le_of_ble_eq_true rfl, Nat.le_of_ble_eq_true rfl⟩) hS (fun H locs hP hS => ?_)
        exact W.iret hx hb hr (fun t ht _ => ⟨⟨_, (), rfl, congrArg Prod.fst (Option.some.inj hf), x_fin ht (congrArg Prod.snd (Option.some.inj hf)) hP⟩, hS.F ht⟩) hS.2.2 d_G_learn_30
      · rw [if_pos c7] at hf
        refine lv_iconst (v := (-1 : Int32)) hx hb d_G_learn_15 (by decide) ?_
        exact W.iret hx hb hr (fun t ht _ => ⟨⟨_, (), rfl, congrArg Prod.fst (Option.some.inj hf), x_fin ht (congrArg Prod.snd (Option.some.inj hf)) hP⟩, hS.F ht⟩) hS.2.2 d_G_learn_16
  exact main _ _ hP va_S.rf
set_option maxHeartbeats 4000000 in
set_option maxRecDepth 100000 in
theorem c_G_tree (l : Launch) (dC : Nat → ClassId) (dI : Nat → Nat → Nat) (cs : Nat → ClassId) (a : Nat → Nat) (st : XS) (p1 : Int32) (p2 : Int32) (res : Int32) (hf : x_G_tree st p1 p2 = some res) : Met l (⟨"GuideSearch", "tree", "(II)I"⟩ : MethodName) (Cond.code (⟨"GuideSearch", "tree", "(II)I"⟩ : MethodName) prog_1_method_13_code 3 (some .int) :: wg) { frames := 1, cells := 0, slots := 0, locals := 22 } (va_Pc ([.ref (a 0), .int p1, .int p2] : List Value) (x_pre dC dI cs a st)) (vp_Si (fun r => r = res)) 0 0 (fun _ => False) := by
  refine ro_start (cc := prog_1_method_13_code) (maxL := 3) (ret := (some .int)) (by decide) (Nat.le_of_ble_eq_true rfl) ?_
  intro p e s m below meth c hx hb hr hml hT hown hlocks hB ls hl
  replace hown : s.vm.findClass "GuideSearch" = some m.cls := hown
  obtain ⟨hP, hK, hN⟩ := hB
  replace hl : lv_has ls 3 [(0, .ref (a 0)), (1, .int p1), (2, .int p2)] := hl
  unfold x_G_tree at hf
  refine lv_iload_n hx hb d_G_tree_0 rfl (lv_at hl 1 rfl) ?_
  refine lv_iconst (v := (-1 : Int32)) hx hb d_G_tree_1 (by decide) ?_
  have join1 : x_G_tree_J1 st p1 p2  = some res → ∀ (ls : Array Slot), lv_has ls 3 [(0, .ref (a 0)), (1, .int p1), (2, .int p2)] → W p l e { frames := 1, cells := 0, slots := 0, locals := 22 } s m ([.ref (a 0), .int p1, .int p2] : List Value).toArray below meth c s.heap [] 0 0 (MQ below (vp_Si (fun r => r = res)) ([.ref (a 0), .int p1, .int p2] : List Value).toArray s 0 0 (fun _ => False)) (F0 m 17 ls []) := by
    intro  hf ls hl
    unfold x_G_tree_J1 at hf
    refine lv_iload_n hx hb d_G_tree_17 rfl (lv_at hl 1 rfl) ?_
    refine lv_if_lt (tgt := 32) hx hb d_G_tree_18 (by decide) (fun c1 => ?_) (fun c1 => ?_)
    · rw [if_pos c1] at hf
      refine lv_iconst (v := (-1 : Int32)) hx hb d_G_tree_32 (by decide) ?_
      exact W.iret hx hb hr (fun t ht _ => ⟨_, rfl, Option.some.inj hf, ht⟩) (fun _ h => absurd h List.not_mem_nil) d_G_tree_33
    · rw [if_neg c1] at hf
      refine lv_iload_n hx hb d_G_tree_21 rfl (lv_at hl 1 rfl) ?_
      refine lv_aload_n hx hb d_G_tree_22 rfl (lv_at hl 0 rfl) ?_
      refine va_get (D := (dC, dI)) (ci := 0) (v := .ref (a 16)) (C := "GuideSearch") (T := F_G) (N := 6) hx hb hT i_G hown hK hP 0 rfl rfl 3 (by decide) (hT _ k_132) (fun _ h9 => h9) rfl d_G_tree_23 ?_
      refine va_getN (D := (dC, dI)) (ci := 4) (v := .int (x_nod st)) (C := "GuideSearch$Plan") (T := F_P) (N := 9) hx hb hT i_P hown hK hP 16 rfl rfl 7 (by decide) (va_Nw.use rfl (hN _ k_106)) (fun _ h9 => h9) rfl d_G_tree_26 ?_
      refine lv_icmp_lt (tgt := 34) hx hb d_G_tree_29 (by decide) (fun c2 => ?_) (fun c2 => ?_)
      · rw [if_pos c2] at hf
        refine lv_aload_n hx hb d_G_tree_34 rfl (lv_at hl 0 rfl) ?_
        refine va_get (D := (dC, dI)) (ci := 0) (v := .ref (a 16)) (C := "GuideSearch") (T := F_G) (N := 6) hx hb hT i_G hown hK hP 0 rfl rfl 3 (by decide) (hT _ k_132) (fun _ h9 => h9) rfl d_G_tree_35 ?_
        refine lv_iload_n hx hb d_G_tree_38 rfl (lv_at hl 1 rfl) ?_
        refine lv_iload_n hx hb d_G_tree_39 rfl (lv_at hl 2 rfl) ?_
        obtain ⟨r4, hr3, hf⟩ := ob hf
        refine ro_calli (va_runV (C := "GuideSearch$Plan") (As := [.int p1, .int p2]) (rest := []) ⟨hx, hb, hml, hown, hT⟩ (c_P_tell l dC dI cs a st p1 p2 r4 hr3) (cwV 2 hT (gV k_406 k_407 k_408 k_6 k_409) rfl rfl rfl (by decide +kernel) ⟨Nat.le_of_ble_eq_true rfl, Nat.le_of_ble_eq_true rfl⟩) (ro_preV hP hK hN (va_recv hK hP (ci := 4) (q0 := 16) rfl rfl)) rfl rfl hl.1 rfl (lv_room (Nat.le_of_ble_eq_true rfl)) d_G_tree_40 ⟨Nat.le_of_ble_eq_true rfl, Nat.le_of_ble_eq_true rfl⟩) ?_
        exact W.iret hx hb hr (fun t ht _ => ⟨_, rfl, Option.some.inj hf, ht⟩) (fun _ h => absurd h List.not_mem_nil) d_G_tree_43
      · rw [if_neg c2] at hf
        refine lv_iconst (v := (-1 : Int32)) hx hb d_G_tree_32 (by decide) ?_
        exact W.iret hx hb hr (fun t ht _ => ⟨_, rfl, Option.some.inj hf, ht⟩) (fun _ h => absurd h List.not_mem_nil) d_G_tree_33
  refine lv_icmp_ne (tgt := 17) hx hb d_G_tree_2 (by decide) (fun c5 => ?_) (fun c5 => ?_)
  · rw [if_neg c5] at hf
    exact join1 hf ls (lv_sub hl [0, 1, 2] rfl)
  · rw [if_pos c5] at hf
    refine lv_iload_n hx hb d_G_tree_5 rfl (lv_at hl 2 rfl) ?_
    refine lv_if_ne (tgt := 17) hx hb d_G_tree_6 (by decide) (fun c6 => ?_) (fun c6 => ?_)
    · rw [if_neg c6] at hf
      exact join1 hf ls (lv_sub hl [0, 1, 2] rfl)
    · rw [if_pos c6] at hf
      refine lv_aload_n hx hb d_G_tree_9 rfl (lv_at hl 0 rfl) ?_
      refine va_get (D := (dC, dI)) (ci := 0) (v := .ref (a 16)) (C := "GuideSearch") (T := F_G) (N := 6) hx hb hT i_G hown hK hP 0 rfl rfl 3 (by decide) (hT _ k_132) (fun _ h9 => h9) rfl d_G_tree_10 ?_
      refine va_getN (D := (dC, dI)) (ci := 4) (v := .int (x_nod st)) (C := "GuideSearch$Plan") (T := F_P) (N := 9) hx hb hT i_P hown hK hP 16 rfl rfl 7 (by decide) (va_Nw.use rfl (hN _ k_106)) (fun _ h9 => h9) rfl d_G_tree_13 ?_
      exact W.iret hx hb hr (fun t ht _ => ⟨_, rfl, Option.some.inj hf, ht⟩) (fun _ h => absurd h List.not_mem_nil) d_G_tree_16
set_option maxHeartbeats 4000000 in
set_option maxRecDepth 100000 in
theorem c_G_never (l : Launch) (dC : Nat → ClassId) (dI : Nat → Nat → Nat) (cs : Nat → ClassId) (a : Nat → Nat) (st : XS) (p1 : Int32) (res : Int32) (hf : x_G_never st p1 = some res) : Met l (⟨"GuideSearch", "never", "(I)I"⟩ : MethodName) (Cond.code (⟨"GuideSearch", "never", "(I)I"⟩ : MethodName) prog_1_method_14_code 4 (some .int) :: wg) { frames := 4, cells := 0, slots := 0, locals := 90 } (va_Pc ([.ref (a 0), .int p1] : List Value) (x_pre dC dI cs a st)) (vp_Si (fun r => r = res)) 0 0 (fun _ => False) := by
  refine ro_start (cc := prog_1_method_14_code) (maxL := 4) (ret := (some .int)) (by decide) (Nat.le_of_ble_eq_true rfl) ?_
  intro p e s m below meth c hx hb hr hml hT hown hlocks hB ls hl
  replace hown : s.vm.findClass "GuideSearch" = some m.cls := hown
  obtain ⟨hP, hK, hN⟩ := hB
  replace hl : lv_has ls 4 [(0, .ref (a 0)), (1, .int p1)] := hl
  unfold x_G_never at hf
  refine lv_iload_n hx hb d_G_never_0 rfl (lv_at hl 1 rfl) ?_
  obtain ⟨r2, hr1, hf⟩ := ob hf
  refine ro_calli (va_runS (As := [.int p1]) (rest := []) ⟨hx, hb, hml, hown, hT⟩ (c_G_isAnswer l p1 r2 hr1) (va_cwS 1 hT (gS k_180 k_181 k_1 k_182) rfl rfl rfl (by decide +kernel) ⟨Nat.le_of_ble_eq_true rfl, Nat.le_of_ble_eq_true rfl⟩) ⟨fun _ _ _ _ q => q, fun _ _ _ => ⟨rfl, trivial⟩⟩ rfl rfl hl.1 rfl (lv_room (Nat.le_of_ble_eq_true rfl)) d_G_never_1 ⟨Nat.le_of_ble_eq_true rfl, Nat.le_of_ble_eq_true rfl⟩) ?_
  refine lv_if_ne (tgt := 10) hx hb d_G_never_4 (by decide) (fun c3 => ?_) (fun c3 => ?_)
  · rw [if_neg c3] at hf
    refine lv_iconst (v := (0 : Int32)) hx hb d_G_never_10 (by decide) ?_
    refine lv_istore_n (lv' := [(2, .int (0 : Int32)), (0, .ref (a 0)), (1, .int p1)]) hx hb d_G_never_11 rfl hl (by decide) rfl (fun ls hl => ?_)
    refine lv_iconst (v := (1 : Int32)) hx hb d_G_never_12 (by decide) ?_
    refine lv_istore_n (lv' := [(3, .int (1 : Int32)), (2, .int (0 : Int32)), (0, .ref (a 0)), (1, .int p1)]) hx hb d_G_never_13 rfl hl (by decide) rfl (fun ls hl => ?_)
    have loop1 : ∀ (n : Nat) (v4 : Int32) (v5 : Int32), xl2 (x_G_never_B1 st p1) n v4 v5 = some res → ∀ (ls : Array Slot), lv_has ls 4 [(3, .int v4), (2, .int v5), (0, .ref (a 0)), (1, .int p1)] → W p l e { frames := 4, cells := 0, slots := 0, locals := 90 } s m ([.ref (a 0), .int p1] : List Value).toArray below meth c s.heap [] 0 0 (MQ below (vp_Si (fun r => r = res)) ([.ref (a 0), .int p1] : List Value).toArray s 0 0 (fun _ => False)) (F0 m 14 ls []) := by
      intro n
      induction n with
      | zero => intro v4 v5 hf; exact absurd hf (by simp [xl2])
      | succ n ih1 =>
        intro v4 v5 hf ls hl
        replace hf : (x_G_never_B1 st p1) (xl2 (x_G_never_B1 st p1) n) v4 v5 = some res := hf
        generalize xl2 (x_G_never_B1 st p1) n = self1 at hf ih1
        unfold x_G_never_B1 at hf
        refine lv_iload_n hx hb d_G_never_14 rfl (lv_at hl 0 rfl) ?_
        refine lv_aload_n hx hb d_G_never_15 rfl (lv_at hl 2 rfl) ?_
        refine va_get (D := (dC, dI)) (ci := 0) (v := .ref (a 5)) (C := "GuideSearch") (T := F_G) (N := 6) hx hb hT i_G hown hK hP 0 rfl rfl 1 (by decide) (hT _ k_130) (fun _ h9 => h9) rfl d_G_never_16 ?_
        refine va_getN (D := (dC, dI)) (ci := 2) (v := .int (x_tN st)) (C := "GuideSearch$Tests") (T := F_T) (N := 4) hx hb hT i_T hown hK hP 5 rfl rfl 3 (by decide) (va_Nw.use rfl (hN _ k_65)) (fun _ h9 => h9) rfl d_G_never_19 ?_
        refine lv_icmp_gt (tgt := 53) hx hb d_G_never_22 (by decide) (fun c6 => ?_) (fun c6 => ?_)
        · rw [if_pos c6] at hf
          refine lv_iload_n hx hb d_G_never_53 rfl (lv_at hl 1 rfl) ?_
          exact W.iret hx hb hr (fun t ht _ => ⟨_, rfl, Option.some.inj hf, ht⟩) (fun _ h => absurd h List.not_mem_nil) d_G_never_54
        · rw [if_neg c6] at hf
          refine lv_aload_n hx hb d_G_never_25 rfl (lv_at hl 2 rfl) ?_
          refine va_get (D := (dC, dI)) (ci := 0) (v := .ref (a 5)) (C := "GuideSearch") (T := F_G) (N := 6) hx hb hT i_G hown hK hP 0 rfl rfl 1 (by decide) (hT _ k_130) (fun _ h9 => h9) rfl d_G_never_26 ?_
          refine lv_iload_n hx hb d_G_never_29 rfl (lv_at hl 0 rfl) ?_
          refine lv_iload_n hx hb d_G_never_30 rfl (lv_at hl 3 rfl) ?_
          refine lv_aload_n hx hb d_G_never_31 rfl (lv_at hl 2 rfl) ?_
          refine va_get (D := (dC, dI)) (ci := 0) (v := .ref (a 1)) (C := "GuideSearch") (T := F_G) (N := 6) hx hb hT i_G hown hK hP 0 rfl rfl 0 (by decide) (hT _ k_129) (fun _ h9 => h9) rfl d_G_never_32 ?_
          refine va_getN (D := (dC, dI)) (ci := 1) (v := .int (x_cN st)) (C := "GuideSearch$Causes") (T := F_C) (N := 5) hx hb hT i_C hown hK hP 1 rfl rfl 3 (by decide) (va_Nw.use rfl (hN _ k_32)) (fun _ h9 => h9) rfl d_G_never_35 ?_
          obtain ⟨r8, hr7, hf⟩ := ob hf
          refine ro_calli (va_runV (C := "GuideSearch$Tests") (As := [.int v4, .int p1, .int (x_cN st)]) (rest := []) ⟨hx, hb, hml, hown, hT⟩ (c_T_canAnswer l dC dI cs a st v4 p1 (x_cN st) r8 hr7) (cwV 3 hT (gV k_414 k_415 k_416 k_3 k_417) rfl rfl rfl (by decide +kernel) ⟨Nat.le_of_ble_eq_true rfl, Nat.le_of_ble_eq_true rfl⟩) (ro_preV hP hK hN (va_recv hK hP (ci := 2) (q0 := 5) rfl rfl)) rfl rfl hl.1 rfl (lv_room (Nat.le_of_ble_eq_true rfl)) d_G_never_38 ⟨Nat.le_of_ble_eq_true rfl, Nat.le_of_ble_eq_true rfl⟩) ?_
          refine lv_if_ne (tgt := 47) hx hb d_G_never_41 (by decide) (fun c9 => ?_) (fun c9 => ?_)
          · rw [if_neg c9] at hf
            refine lv_iinc (v := (v4 + 1)) (lv' := [(3, .int (v4 + 1)), (2, .int v5), (0, .ref (a 0)), (1, .int p1)]) hx hb d_G_never_47 hl (k := 0) rfl rfl (by decide) rfl (fun ls hl => ?_)
            refine lv_goto (tgt := 14) hx hb d_G_never_50 (by decide) ?_
            exact ih1 (v4 + 1) v5 hf ls (lv_sub hl [0, 1, 2, 3] rfl)
          · rw [if_pos c9] at hf
            refine lv_iinc (v := (v5 + 1)) (lv' := [(2, .int (v5 + 1)), (3, .int v4), (0, .ref (a 0)), (1, .int p1)]) hx hb d_G_never_44 hl (k := 1) rfl rfl (by decide) rfl (fun ls hl => ?_)
            refine lv_iinc (v := (v4 + 1)) (lv' := [(3, .int (v4 + 1)), (2, .int (v5 + 1)), (0, .ref (a 0)), (1, .int p1)]) hx hb d_G_never_47 hl (k := 1) rfl rfl (by decide) rfl (fun ls hl => ?_)
            refine lv_goto (tgt := 14) hx hb d_G_never_50 (by decide) ?_
            exact ih1 (v4 + 1) (v5 + 1) hf ls (lv_sub hl [0, 1, 2, 3] rfl)
    exact loop1 _ (1 : Int32) (0 : Int32) hf ls (lv_sub hl [0, 1, 2, 3] rfl)
  · rw [if_pos c3] at hf
    refine lv_bipush (v := (-2 : Int32)) hx hb d_G_never_7 (by decide) ?_
    exact W.iret hx hb hr (fun t ht _ => ⟨_, rfl, Option.some.inj hf, ht⟩) (fun _ h => absurd h List.not_mem_nil) d_G_never_9
