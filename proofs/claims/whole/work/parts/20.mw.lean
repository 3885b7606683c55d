set_option maxHeartbeats 4000000 in
set_option maxRecDepth 100000 in
theorem c_M_thrown (l : Launch) (dC : Nat → ClassId) (dI : Nat → Nat → Nat) (cs : Nat → ClassId) (a : Nat → Nat) (st : MS) (res : Int32) (hf : m_M_thrown st = some res) : Met l (⟨"GuideSearchModel", "thrown", "()I"⟩ : MethodName) (Cond.code (⟨"GuideSearchModel", "thrown", "()I"⟩ : MethodName) prog_7_method_2_code 1 (some .int) :: wg) { frames := 0, cells := 0, slots := 0, locals := 0 } (va_Pc ([.ref (a 0)] : List Value) (m_pre dC dI cs a st)) (vp_Si (fun r => r = res)) 0 0 (fun _ => False) := by
  refine ro_start (cc := prog_7_method_2_code) (maxL := 1) (ret := (some .int)) (by decide) (Nat.le_of_ble_eq_true rfl) ?_
  intro p e s m below meth c hx hb hr hml hT hown hlocks hB ls hl
  replace hown : s.vm.findClass "GuideSearchModel" = some m.cls := hown
  obtain ⟨hP, hK, hN⟩ := hB
  replace hl : lv_has ls 1 [(0, .ref (a 0))] := hl
  unfold m_M_thrown at hf
  refine lv_aload_n hx hb d_M_thrown_0 rfl (lv_at hl 0 rfl) ?_
  refine va_get (D := (dC, dI)) (ci := 5) (v := .int (m_code st)) (C := "GuideSearchModel") (T := F_M) (N := 25) hx hb hT i_M hown hK hP 0 rfl rfl 0 (by decide) (hT _ k_507) (fun _ h9 => h9) rfl d_M_thrown_1 ?_
  exact W.iret hx hb hr (fun t ht _ => ⟨_, rfl, Option.some.inj hf, ht⟩) (fun _ h => absurd h List.not_mem_nil) d_M_thrown_4
set_option maxHeartbeats 4000000 in
set_option maxRecDepth 100000 in
theorem c_M_noTest (l : Launch) (dC : Nat → ClassId) (dI : Nat → Nat → Nat) (cs : Nat → ClassId) (a : Nat → Nat) (st : MS) (p1 : Int32) (res : Int32) (hf : m_M_noTest st p1 = some res) : Met l (⟨"GuideSearchModel", "noTest", "(I)Z"⟩ : MethodName) (Cond.code (⟨"GuideSearchModel", "noTest", "(I)Z"⟩ : MethodName) prog_7_method_3_code 2 (some .boolean) :: wg) { frames := 0, cells := 0, slots := 0, locals := 0 } (va_Pc ([.ref (a 0), .int p1] : List Value) (m_pre dC dI cs a st)) (vp_Si (fun r => r = res)) 0 0 (fun _ => False) := by
  refine ro_start (cc := prog_7_method_3_code) (maxL := 2) (ret := (some .boolean)) (by decide) (Nat.le_of_ble_eq_true rfl) ?_
  intro p e s m below meth c hx hb hr hml hT hown hlocks hB ls hl
  replace hown : s.vm.findClass "GuideSearchModel" = some m.cls := hown
  obtain ⟨hP, hK, hN⟩ := hB
  replace hl : lv_has ls 2 [(0, .ref (a 0)), (1, .int p1)] := hl
  unfold m_M_noTest at hf
  refine lv_iload_n hx hb d_M_noTest_0 rfl (lv_at hl 1 rfl) ?_
  refine lv_iconst (v := (1 : Int32)) hx hb d_M_noTest_1 (by decide) ?_
  refine lv_icmp_lt (tgt := 13) hx hb d_M_noTest_2 (by decide) (fun c1 => ?_) (fun c1 => ?_)
  · rw [if_pos c1] at hf
    refine lv_iconst (v := (1 : Int32)) hx hb d_M_noTest_13 (by decide) ?_
    refine lv_goto (tgt := 18) hx hb d_M_noTest_14 (by decide) ?_
    exact W.zret (ty := .boolean) hx hb hr (rfl) (fun t ht _ => ⟨_, rfl, Option.some.inj hf, ht⟩) (fun _ h => absurd h List.not_mem_nil) d_M_noTest_18
  · rw [if_neg c1] at hf
    refine lv_iload_n hx hb d_M_noTest_5 rfl (lv_at hl 1 rfl) ?_
    refine lv_aload_n hx hb d_M_noTest_6 rfl (lv_at hl 0 rfl) ?_
    refine va_get (D := (dC, dI)) (ci := 5) (v := .int (m_tests st)) (C := "GuideSearchModel") (T := F_M) (N := 25) hx hb hT i_M hown hK hP 0 rfl rfl 8 (by decide) (hT _ k_515) (fun _ h9 => h9) rfl d_M_noTest_7 ?_
    refine lv_icmp_le (tgt := 17) hx hb d_M_noTest_10 (by decide) (fun c2 => ?_) (fun c2 => ?_)
    · rw [if_pos c2] at hf
      refine lv_iconst (v := (0 : Int32)) hx hb d_M_noTest_17 (by decide) ?_
      exact W.zret (ty := .boolean) hx hb hr (rfl) (fun t ht _ => ⟨_, rfl, Option.some.inj hf, ht⟩) (fun _ h => absurd h List.not_mem_nil) d_M_noTest_18
    · rw [if_neg c2] at hf
      refine lv_iconst (v := (1 : Int32)) hx hb d_M_noTest_13 (by decide) ?_
      refine lv_goto (tgt := 18) hx hb d_M_noTest_14 (by decide) ?_
      exact W.zret (ty := .boolean) hx hb hr (rfl) (fun t ht _ => ⟨_, rfl, Option.some.inj hf, ht⟩) (fun _ h => absurd h List.not_mem_nil) d_M_noTest_18
set_option maxHeartbeats 4000000 in
set_option maxRecDepth 100000 in
theorem c_M_noCause (l : Launch) (dC : Nat → ClassId) (dI : Nat → Nat → Nat) (cs : Nat → ClassId) (a : Nat → Nat) (st : MS) (p1 : Int32) (res : Int32) (hf : m_M_noCause st p1 = some res) : Met l (⟨"GuideSearchModel", "noCause", "(I)Z"⟩ : MethodName) (Cond.code (⟨"GuideSearchModel", "noCause", "(I)Z"⟩ : MethodName) prog_7_method_4_code 2 (some .boolean) :: wg) { frames := 0, cells := 0, slots := 0, locals := 0 } (va_Pc ([.ref (a 0), .int p1] : List Value) (m_pre dC dI cs a st)) (vp_Si (fun r => r = res)) 0 0 (fun _ => False) := by
  refine ro_start (cc := prog_7_method_4_code) (maxL := 2) (ret := (some .boolean)) (by decide) (Nat.le_of_ble_eq_true rfl) ?_
  intro p e s m below meth c hx hb hr hml hT hown hlocks hB ls hl
  replace hown : s.vm.findClass "GuideSearchModel" = some m.cls := hown
  obtain ⟨hP, hK, hN⟩ := hB
  replace hl : lv_has ls 2 [(0, .ref (a 0)), (1, .int p1)] := hl
  unfold m_M_noCause at hf
  refine lv_iload_n hx hb d_M_noCause_0 rfl (lv_at hl 1 rfl) ?_
  refine lv_iconst (v := (1 : Int32)) hx hb d_M_noCause_1 (by decide) ?_
  refine lv_icmp_lt (tgt := 13) hx hb d_M_noCause_2 (by decide) (fun c1 => ?_) (fun c1 => ?_)
  · rw [if_pos c1] at hf
    refine lv_iconst (v := (1 : Int32)) hx hb d_M_noCause_13 (by decide) ?_
    refine lv_goto (tgt := 18) hx hb d_M_noCause_14 (by decide) ?_
    exact W.zret (ty := .boolean) hx hb hr (rfl) (fun t ht _ => ⟨_, rfl, Option.some.inj hf, ht⟩) (fun _ h => absurd h List.not_mem_nil) d_M_noCause_18
  · rw [if_neg c1] at hf
    refine lv_iload_n hx hb d_M_noCause_5 rfl (lv_at hl 1 rfl) ?_
    refine lv_aload_n hx hb d_M_noCause_6 rfl (lv_at hl 0 rfl) ?_
    refine va_get (D := (dC, dI)) (ci := 5) (v := .int (m_causes st)) (C := "GuideSearchModel") (T := F_M) (N := 25) hx hb hT i_M hown hK hP 0 rfl rfl 1 (by decide) (hT _ k_508) (fun _ h9 => h9) rfl d_M_noCause_7 ?_
    refine lv_icmp_le (tgt := 17) hx hb d_M_noCause_10 (by decide) (fun c2 => ?_) (fun c2 => ?_)
    · rw [if_pos c2] at hf
      refine lv_iconst (v := (0 : Int32)) hx hb d_M_noCause_17 (by decide) ?_
      exact W.zret (ty := .boolean) hx hb hr (rfl) (fun t ht _ => ⟨_, rfl, Option.some.inj hf, ht⟩) (fun _ h => absurd h List.not_mem_nil) d_M_noCause_18
    · rw [if_neg c2] at hf
      refine lv_iconst (v := (1 : Int32)) hx hb d_M_noCause_13 (by decide) ?_
      refine lv_goto (tgt := 18) hx hb d_M_noCause_14 (by decide) ?_
      exact W.zret (ty := .boolean) hx hb hr (rfl) (fun t ht _ => ⟨_, rfl, Option.some.inj hf, ht⟩) (fun _ h => absurd h List.not_mem_nil) d_M_noCause_18
set_option maxHeartbeats 4000000 in
set_option maxRecDepth 100000 in
theorem c_M_noFault (l : Launch) (dC : Nat → ClassId) (dI : Nat → Nat → Nat) (cs : Nat → ClassId) (a : Nat → Nat) (st : MS) (p1 : Int32) (res : Int32) (hf : m_M_noFault st p1 = some res) : Met l (⟨"GuideSearchModel", "noFault", "(I)Z"⟩ : MethodName) (Cond.code (⟨"GuideSearchModel", "noFault", "(I)Z"⟩ : MethodName) prog_7_method_5_code 2 (some .boolean) :: wg) { frames := 1, cells := 0, slots := 0, locals := 21 } (va_Pc ([.ref (a 0), .int p1] : List Value) (m_pre dC dI cs a st)) (vp_Si (fun r => r = res)) 0 0 (fun _ => False) := by
  refine ro_start (cc := prog_7_method_5_code) (maxL := 2) (ret := (some .boolean)) (by decide) (Nat.le_of_ble_eq_true rfl) ?_
  intro p e s m below meth c hx hb hr hml hT hown hlocks hB ls hl
  replace hown : s.vm.findClass "GuideSearchModel" = some m.cls := hown
  obtain ⟨hP, hK, hN⟩ := hB
  replace hl : lv_has ls 2 [(0, .ref (a 0)), (1, .int p1)] := hl
  unfold m_M_noFault at hf
  refine lv_aload_n hx hb d_M_noFault_0 rfl (lv_at hl 0 rfl) ?_
  refine lv_iload_n hx hb d_M_noFault_1 rfl (lv_at hl 1 rfl) ?_
  obtain ⟨r2, hr1, hf⟩ := ob hf
  refine ro_calli (va_runV (C := "GuideSearchModel") (As := [.int p1]) (rest := []) ⟨hx, hb, hml, hown, hT⟩ (c_M_noCause l dC dI cs a st p1 r2 hr1) (cwV 1 hT (gV k_602 k_604 ks_13 k_7 k_605) rfl rfl rfl (by decide +kernel) ⟨Nat.le_of_ble_eq_true rfl, Nat.le_of_ble_eq_true rfl⟩) (ro_preV hP hK hN (va_recv hK hP (ci := 5) (q0 := 0) rfl rfl)) rfl rfl hl.1 rfl (lv_room (Nat.le_of_ble_eq_true rfl)) d_M_noFault_2 ⟨Nat.le_of_ble_eq_true rfl, Nat.le_of_ble_eq_true rfl⟩) ?_
  refine lv_if_ne (tgt := 23) hx hb d_M_noFault_5 (by decide) (fun c3 => ?_) (fun c3 => ?_)
  · rw [if_neg c3] at hf
    refine lv_iconst (v := (1 : Int32)) hx hb d_M_noFault_23 (by decide) ?_
    refine lv_goto (tgt := 28) hx hb d_M_noFault_24 (by decide) ?_
    exact W.zret (ty := .boolean) hx hb hr (rfl) (fun t ht _ => ⟨_, rfl, Option.some.inj hf, ht⟩) (fun _ h => absurd h List.not_mem_nil) d_M_noFault_28
  · rw [if_pos c3] at hf
    refine lv_aload_n hx hb d_M_noFault_8 rfl (lv_at hl 0 rfl) ?_
    refine va_get (D := (dC, dI)) (ci := 5) (v := .ref (a 1)) (C := "GuideSearchModel") (T := F_M) (N := 25) hx hb hT i_M hown hK hP 0 rfl rfl 3 (by decide) (hT _ k_510) (fun _ h9 => h9) rfl d_M_noFault_9 ?_
    refine lv_iload_n hx hb d_M_noFault_12 rfl (lv_at hl 1 rfl) ?_
    obtain ⟨j4, ej6, hi5, hf⟩ := ix_some hf
    refine xa_iald hx hb hK hP 1 1 rfl rfl ej6 hi5 d_M_noFault_13 ?_
    refine lv_aload_n hx hb d_M_noFault_14 rfl (lv_at hl 0 rfl) ?_
    refine va_get (D := (dC, dI)) (ci := 5) (v := .ref (a 2)) (C := "GuideSearchModel") (T := F_M) (N := 25) hx hb hT i_M hown hK hP 0 rfl rfl 4 (by decide) (hT _ k_511) (fun _ h9 => h9) rfl d_M_noFault_15 ?_
    refine lv_iload_n hx hb d_M_noFault_18 rfl (lv_at hl 1 rfl) ?_
    obtain ⟨j7, ej9, hi8, hf⟩ := ix_some hf
    refine xa_iald hx hb hK hP 2 1 rfl rfl ej9 hi8 d_M_noFault_19 ?_
    refine lv_icmp_eq (tgt := 27) hx hb d_M_noFault_20 (by decide) (fun c10 => ?_) (fun c10 => ?_)
    · rw [if_pos c10] at hf
      refine lv_iconst (v := (0 : Int32)) hx hb d_M_noFault_27 (by decide) ?_
      exact W.zret (ty := .boolean) hx hb hr (rfl) (fun t ht _ => ⟨_, rfl, Option.some.inj hf, ht⟩) (fun _ h => absurd h List.not_mem_nil) d_M_noFault_28
    · rw [if_neg c10] at hf
      refine lv_iconst (v := (1 : Int32)) hx hb d_M_noFault_23 (by decide) ?_
      refine lv_goto (tgt := 28) hx hb d_M_noFault_24 (by decide) ?_
      exact W.zret (ty := .boolean) hx hb hr (rfl) (fun t ht _ => ⟨_, rfl, Option.some.inj hf, ht⟩) (fun _ h => absurd h List.not_mem_nil) d_M_noFault_28
set_option maxHeartbeats 4000000 in
set_option maxRecDepth 100000 in
theorem c_M_fault (l : Launch) (dC : Nat → ClassId) (dI : Nat → Nat → Nat) (cs : Nat → ClassId) (a : Nat → Nat) (hi : ∀ i j : Nat, i < 18 → j < 18 → a i = a j → i = j) (st : MS) (p1 : Int64) (p3 : Int64) (res : Int32 × MS) (hf : m_M_fault st p1 p3 = some res) : Met l (⟨"GuideSearchModel", "fault", "(JJ)I"⟩ : MethodName) (Cond.code (⟨"GuideSearchModel", "fault", "(JJ)I"⟩ : MethodName) prog_7_method_6_code 5 (some .int) :: wg) { frames := 0, cells := 0, slots := 0, locals := 0 } (va_Pc ([.ref (a 0), .long p1, .long p3] : List Value) (m_pre dC dI cs a st)) (va_Qi (fun r (_ : Unit) => r = res.1) (fun _ t => va_P (dC, dI) vwCl (m_W cs a res.2) t.heap) (m_A a)) 0 0 (m_A a) := by
  refine ro_start (cc := prog_7_method_6_code) (maxL := 5) (ret := (some .int)) (by decide) (Nat.le_of_ble_eq_true rfl) ?_
  intro p e s m below meth c hx hb hr hml hT hown hlocks hB ls hl
  replace hown : s.vm.findClass "GuideSearchModel" = some m.cls := hown
  obtain ⟨hP, hK, hN⟩ := hB
  replace hl : lv_has ls 5 [(0, .ref (a 0)), (1, .long p1), (3, .long p3)] := hl
  unfold m_M_fault at hf
  have hD : ∀ st : MS, va_D (m_A a) (m_W cs a st) := fun st => m_D hi cs st
  have main : ∀ (H : Heap) (locs : List Loc), va_P (dC, dI) vwCl (m_W cs a st) H → va_S (m_A a) s.heap H locs → W p l e { frames := 0, cells := 0, slots := 0, locals := 0 } s m ([.ref (a 0), .long p1, .long p3] : List Value).toArray below meth c H locs 0 0 (MQ below (va_Qi (fun r (_ : Unit) => r = res.1) (fun _ t => va_P (dC, dI) vwCl (m_W cs a res.2) t.heap) (m_A a)) ([.ref (a 0), .long p1, .long p3] : List Value).toArray s 0 0 (m_A a)) (F0 m 0 ls []) := by
    intro H locs hP hS
    refine lv_aload_n hx hb d_M_fault_0 rfl (lv_at hl 0 rfl) ?_
    refine lv_iconst (v := (0 : Int32)) hx hb d_M_fault_1 (by decide) ?_
    refine va_put (D := (dC, dI)) (ci := 5) (v := .int (0 : Int32)) (ty := .int) (C := "GuideSearchModel") (T := F_M) (N := 25) hx hb hT i_M ft_M ft_M_ok n_M hown hK hP (hD _) hS 0 rfl rfl 0 (by decide) (hT _ k_507) (fun _ h9 => h9) rfl (by decide +kernel) rfl rfl (Nat.le_of_ble_eq_true rfl) d_M_fault_2 (fun H locs hP _ hS => ?_)
    rw [m_code_put cs a st (0 : Int32)] at hP
    refine lv_lload_n hx hb d_M_fault_5 rfl (lv_at hl 2 rfl) ?_
    refine lv_lconst (v := (1 : Int64)) hx hb d_M_fault_6 (by decide) ?_
    refine W.lcmp hx hb d_M_fault_7 ?_
    refine lv_if_lt (tgt := 31) hx hb d_M_fault_8 (by decide) (fun c1 => ?_) (fun c1 => ?_)
    · rw [if_pos ((lg_cmp_lt _ _).mp c1)] at hf
      refine lv_bipush (v := (-2 : Int32)) hx hb d_M_fault_31 (by decide) ?_
      exact W.iret hx hb hr (fun t ht _ => ⟨⟨_, (), rfl, congrArg Prod.fst (Option.some.inj hf), m_fin ht (congrArg Prod.snd (Option.some.inj hf)) hP⟩, hS.F ht⟩) hS.2.2 d_M_fault_33
    · rw [if_neg (mt (lg_cmp_lt _ _).mpr c1)] at hf
      refine lv_lload_n hx hb d_M_fault_11 rfl (lv_at hl 2 rfl) ?_
      refine lv_ldc2 (v := (10 : Int64)) hx hb hown (hT _ k_592) d_M_fault_12 ?_
      refine W.lcmp hx hb d_M_fault_15 ?_
      refine lv_if_gt (tgt := 31) hx hb d_M_fault_16 (by decide) (fun c2 => ?_) (fun c2 => ?_)
      · rw [if_pos ((lg_cmp_gt _ _).mp c2)] at hf
        refine lv_bipush (v := (-2 : Int32)) hx hb d_M_fault_31 (by decide) ?_
        exact W.iret hx hb hr (fun t ht _ => ⟨⟨_, (), rfl, congrArg Prod.fst (Option.some.inj hf), m_fin ht (congrArg Prod.snd (Option.some.inj hf)) hP⟩, hS.F ht⟩) hS.2.2 d_M_fault_33
      · rw [if_neg (mt (lg_cmp_gt _ _).mpr c2)] at hf
        refine lv_lload_n hx hb d_M_fault_19 rfl (lv_at hl 1 rfl) ?_
        refine lv_lconst (v := (0 : Int64)) hx hb d_M_fault_20 (by decide) ?_
        refine W.lcmp hx hb d_M_fault_21 ?_
        refine lv_if_lt (tgt := 31) hx hb d_M_fault_22 (by decide) (fun c3 => ?_) (fun c3 => ?_)
        · rw [if_pos ((lg_cmp_lt _ _).mp c3)] at hf
          refine lv_bipush (v := (-2 : Int32)) hx hb d_M_fault_31 (by decide) ?_
          exact W.iret hx hb hr (fun t ht _ => ⟨⟨_, (), rfl, congrArg Prod.fst (Option.some.inj hf), m_fin ht (congrArg Prod.snd (Option.some.inj hf)) hP⟩, hS.F ht⟩) hS.2.2 d_M_fault_33
        · rw [if_neg (mt (lg_cmp_lt _ _).mpr c3)] at hf
          refine lv_lload_n hx hb d_M_fault_25 rfl (lv_at hl 1 rfl) ?_
          refine lv_lload_n hx hb d_M_fault_26 rfl (lv_at hl 2 rfl) ?_
          refine W.lcmp hx hb d_M_fault_27 ?_
          refine lv_if_le (tgt := 34) hx hb d_M_fault_28 (by decide) (fun c4 => ?_) (fun c4 => ?_)
          · rw [if_pos ((lg_cmp_le _ _).mp c4)] at hf
            refine lv_aload_n hx hb d_M_fault_34 rfl (lv_at hl 0 rfl) ?_
            refine va_get (D := (dC, dI)) (ci := 5) (v := .int (m_faults (m_code_s st (0 : Int32)))) (C := "GuideSearchModel") (T := F_M) (N := 25) hx hb hT i_M hown hK hP 0 rfl rfl 2 (by decide) (hT _ k_509) (fun _ h9 => h9) rfl d_M_fault_35 ?_
            refine lv_bipush (v := (8 : Int32)) hx hb d_M_fault_38 (by decide) ?_
            refine lv_icmp_eq (tgt := 52) hx hb d_M_fault_40 (by decide) (fun c5 => ?_) (fun c5 => ?_)
            · rw [if_pos c5] at hf
              refine lv_bipush (v := (-4 : Int32)) hx hb d_M_fault_52 (by decide) ?_
              exact W.iret hx hb hr (fun t ht _ => ⟨⟨_, (), rfl, congrArg Prod.fst (Option.some.inj hf), m_fin ht (congrArg Prod.snd (Option.some.inj hf)) hP⟩, hS.F ht⟩) hS.2.2 d_M_fault_54
            · rw [if_neg c5] at hf
              refine lv_aload_n hx hb d_M_fault_43 rfl (lv_at hl 0 rfl) ?_
              refine va_get (D := (dC, dI)) (ci := 5) (v := .int (m_causes (m_code_s st (0 : Int32)))) (C := "GuideSearchModel") (T := F_M) (N := 25) hx hb hT i_M hown hK hP 0 rfl rfl 1 (by decide) (hT _ k_508) (fun _ h9 => h9) rfl d_M_fault_44 ?_
              refine lv_bipush (v := (12 : Int32)) hx hb d_M_fault_47 (by decide) ?_
              refine lv_icmp_ne (tgt := 55) hx hb d_M_fault_49 (by decide) (fun c6 => ?_) (fun c6 => ?_)
              · rw [if_neg c6] at hf
                refine lv_aload_n hx hb d_M_fault_55 rfl (lv_at hl 0 rfl) ?_
                refine lv_dup hx hb d_M_fault_56 rfl ?_
                refine va_get (D := (dC, dI)) (ci := 5) (v := .int (m_faults (m_code_s st (0 : Int32)))) (C := "GuideSearchModel") (T := F_M) (N := 25) hx hb hT i_M hown hK hP 0 rfl rfl 2 (by decide) (hT _ k_509) (fun _ h9 => h9) rfl d_M_fault_57 ?_
                refine lv_iconst (v := (1 : Int32)) hx hb d_M_fault_60 (by decide) ?_
                refine lv_iadd hx hb d_M_fault_61 ?_
                refine va_put (D := (dC, dI)) (ci := 5) (v := .int ((m_faults (m_code_s st (0 : Int32))) + (1 : Int32))) (ty := .int) (C := "GuideSearchModel") (T := F_M) (N := 25) hx hb hT i_M ft_M ft_M_ok n_M hown hK hP (hD _) hS 0 rfl rfl 2 (by decide) (hT _ k_509) (fun _ h9 => h9) rfl (by decide +kernel) rfl rfl (Nat.le_of_ble_eq_true rfl) d_M_fault_62 (fun H locs hP _ hS => ?_)
                rw [m_faults_put cs a (m_code_s st (0 : Int32)) ((m_faults (m_code_s st (0 : Int32))) + (1 : Int32))] at hP
                refine lv_aload_n hx hb d_M_fault_65 rfl (lv_at hl 0 rfl) ?_
                refine lv_dup hx hb d_M_fault_66 rfl ?_
                refine va_get (D := (dC, dI)) (ci := 5) (v := .int (m_causes (m_faults_s (m_code_s st (0 : Int32)) ((m_faults (m_code_s st (0 : Int32))) + (1 : Int32))))) (C := "GuideSearchModel") (T := F_M) (N := 25) hx hb hT i_M hown hK hP 0 rfl rfl 1 (by decide) (hT _ k_508) (fun _ h9 => h9) rfl d_M_fault_67 ?_
                refine lv_iconst (v := (1 : Int32)) hx hb d_M_fault_70 (by decide) ?_
                refine lv_iadd hx hb d_M_fault_71 ?_
                refine va_put (D := (dC, dI)) (ci := 5) (v := .int ((m_causes (m_faults_s (m_code_s st (0 : Int32)) ((m_faults (m_code_s st (0 : Int32))) + (1 : Int32)))) + (1 : Int32))) (ty := .int) (C := "GuideSearchModel") (T := F_M) (N := 25) hx hb hT i_M ft_M ft_M_ok n_M hown hK hP (hD _) hS 0 rfl rfl 1 (by decide) (hT _ k_508) (fun _ h9 => h9) rfl (by decide +kernel) rfl rfl (Nat.le_of_ble_eq_true rfl) d_M_fault_72 (fun H locs hP _ hS => ?_)
                rw [m_causes_put cs a (m_faults_s (m_code_s st (0 : Int32)) ((m_faults (m_code_s st (0 : Int32))) + (1 : Int32))) ((m_causes (m_faults_s (m_code_s st (0 : Int32)) ((m_faults (m_code_s st (0 : Int32))) + (1 : Int32)))) + (1 : Int32))] at hP
                refine lv_aload_n hx hb d_M_fault_75 rfl (lv_at hl 0 rfl) ?_
                refine va_get (D := (dC, dI)) (ci := 5) (v := .ref (a 1)) (C := "GuideSearchModel") (T := F_M) (N := 25) hx hb hT i_M hown hK hP 0 rfl rfl 3 (by decide) (hT _ k_510) (fun _ h9 => h9) rfl d_M_fault_76 ?_
                refine lv_aload_n hx hb d_M_fault_79 rfl (lv_at hl 0 rfl) ?_
                refine va_get (D := (dC, dI)) (ci := 5) (v := .int (m_causes (m_causes_s (m_faults_s (m_code_s st (0 : Int32)) ((m_faults (m_code_s st (0 : Int32))) + (1 : Int32))) ((m_causes (m_faults_s (m_code_s st (0 : Int32)) ((m_faults (m_code_s st (0 : Int32))) + (1 : Int32)))) + (1 : Int32))))) (C := "GuideSearchModel") (T := F_M) (N := 25) hx hb hT i_M hown hK hP 0 rfl rfl 1 (by decide) (hT _ k_508) (fun _ h9 => h9) rfl d_M_fault_80 ?_
                refine lv_aload_n hx hb d_M_fault_83 rfl (lv_at hl 0 rfl) ?_
                refine va_get (D := (dC, dI)) (ci := 5) (v := .int (m_causes (m_causes_s (m_faults_s (m_code_s st (0 : Int32)) ((m_faults (m_code_s st (0 : Int32))) + (1 : Int32))) ((m_causes (m_faults_s (m_code_s st (0 : Int32)) ((m_faults (m_code_s st (0 : Int32))) + (1 : Int32)))) + (1 : Int32))))) (C := "GuideSearchModel") (T := F_M) (N := 25) hx hb hT i_M hown hK hP 0 rfl rfl 1 (by decide) (hT _ k_508) (fun _ h9 => h9) rfl d_M_fault_84 ?_
                obtain ⟨j7, ej9, hi8, hf⟩ := ix_some hf
                refine xa_iast hx hb hK hP (hD _) hS 1 1 rfl rfl ej9 hi8 d_M_fault_87 (fun H locs hP hS => ?_)
                rw [m_one_put cs a (m_causes_s (m_faults_s (m_code_s st (0 : Int32)) ((m_faults (m_code_s st (0 : Int32))) + (1 : Int32))) ((m_causes (m_faults_s (m_code_s st (0 : Int32)) ((m_faults (m_code_s st (0 : Int32))) + (1 : Int32)))) + (1 : Int32))) j7 (m_causes (m_causes_s (m_faults_s (m_code_s st (0 : Int32)) ((m_faults (m_code_s st (0 : Int32))) + (1 : Int32))) ((m_causes (m_faults_s (m_code_s st (0 : Int32)) ((m_faults (m_code_s st (0 : Int32))) + (1 : Int32)))) + (1 : Int32))))] at hP
                refine lv_aload_n hx hb d_M_fault_88 rfl (lv_at hl 0 rfl) ?_
                refine va_get (D := (dC, dI)) (ci := 5) (v := .ref (a 2)) (C := "GuideSearchModel") (T := F_M) (N := 25) hx hb hT i_M hown hK hP 0 rfl rfl 4 (by decide) (hT _ k_511) (fun _ h9 => h9) rfl d_M_fault_89 ?_
                refine lv_aload_n hx hb d_M_fault_92 rfl (lv_at hl 0 rfl) ?_
                refine va_get (D := (dC, dI)) (ci := 5) (v := .int (m_causes (m_one_s (m_causes_s (m_faults_s (m_code_s st (0 : Int32)) ((m_faults (m_code_s st (0 : Int32))) + (1 : Int32))) ((m_causes (m_faults_s (m_code_s st (0 : Int32)) ((m_faults (m_code_s st (0 : Int32))) + (1 : Int32)))) + (1 : Int32))) j7 (m_causes (m_causes_s (m_faults_s (m_code_s st (0 : Int32)) ((m_faults (m_code_s st (0 : Int32))) + (1 : Int32))) ((m_causes (m_faults_s (m_code_s st (0 : Int32)) ((m_faults (m_code_s st (0 : Int32))) + (1 : Int32)))) + (1 : Int32))))))) (C := "GuideSearchModel") (T := F_M) (N := 25) hx hb hT i_M hown hK hP 0 rfl rfl 1 (by decide) (hT _ k_508) (fun _ h9 => h9) rfl d_M_fault_93 ?_
                refine lv_aload_n hx hb d_M_fault_96 rfl (lv_at hl 0 rfl) ?_
                refine va_get (D := (dC, dI)) (ci := 5) (v := .int (m_causes (m_one_s (m_causes_s (m_faults_s (m_code_s st (0 : Int32)) ((m_faults (m_code_s st (0 : Int32))) + (1 : Int32))) ((m_causes (m_faults_s (m_code_s st (0 : Int32)) ((m_faults (m_code_s st (0 : Int32))) + (1 : Int32)))) + (1 : Int32))) j7 (m_causes (m_causes_s (m_faults_s (m_code_s st (0 : Int32)) ((m_faults (m_code_s st (0 : Int32))) + (1 : Int32))) ((m_causes (m_faults_s (m_code_s st (0 : Int32)) ((m_faults (m_code_s st (0 : Int32))) + (1 : Int32)))) + (1 : Int32))))))) (C := "GuideSearchModel") (T := F_M) (N := 25) hx hb hT i_M hown hK hP 0 rfl rfl 1 (by decide) (hT _ k_508) (fun _ h9 => h9) rfl d_M_fault_97 ?_
                obtain ⟨j10, ej12, hi11, hf⟩ := ix_some hf
                refine xa_iast hx hb hK hP (hD _) hS 2 1 rfl rfl ej12 hi11 d_M_fault_100 (fun H locs hP hS => ?_)
                rw [m_two_put cs a (m_one_s (m_causes_s (m_faults_s (m_code_s st (0 : Int32)) ((m_faults (m_code_s st (0 : Int32))) + (1 : Int32))) ((m_causes (m_faults_s (m_code_s st (0 : Int32)) ((m_faults (m_code_s st (0 : Int32))) + (1 : Int32)))) + (1 : Int32))) j7 (m_causes (m_causes_s (m_faults_s (m_code_s st (0 : Int32)) ((m_faults (m_code_s st (0 : Int32))) + (1 : Int32))) ((m_causes (m_faults_s (m_code_s st (0 : Int32)) ((m_faults (m_code_s st (0 : Int32))) + (1 : Int32)))) + (1 : Int32))))) j10 (m_causes (m_one_s (m_causes_s (m_faults_s (m_code_s st (0 : Int32)) ((m_faults (m_code_s st (0 : Int32))) + (1 : Int32))) ((m_causes (m_faults_s (m_code_s st (0 : Int32)) ((m_faults (m_code_s st (0 : Int32))) + (1 : Int32)))) + (1 : Int32))) j7 (m_causes (m_causes_s (m_faults_s (m_code_s st (0 : Int32)) ((m_faults (m_code_s st (0 : Int32))) + (1 : Int32))) ((m_causes (m_faults_s (m_code_s st (0 : Int32)) ((m_faults (m_code_s st (0 : Int32))) + (1 : Int32)))) + (1 : Int32))))))] at hP
                refine lv_aload_n hx hb d_M_fault_101 rfl (lv_at hl 0 rfl) ?_
                refine va_get (D := (dC, dI)) (ci := 5) (v := .ref (a 3)) (C := "GuideSearchModel") (T := F_M) (N := 25) hx hb hT i_M hown hK hP 0 rfl rfl 5 (by decide) (hT _ k_512) (fun _ h9 => h9) rfl d_M_fault_102 ?_
                refine lv_aload_n hx hb d_M_fault_105 rfl (lv_at hl 0 rfl) ?_
                refine va_get (D := (dC, dI)) (ci := 5) (v := .int (m_causes (m_two_s (m_one_s (m_causes_s (m_faults_s (m_code_s st (0 : Int32)) ((m_faults (m_code_s st (0 : Int32))) + (1 : Int32))) ((m_causes (m_faults_s (m_code_s st (0 : Int32)) ((m_faults (m_code_s st (0 : Int32))) + (1 : Int32)))) + (1 : Int32))) j7 (m_causes (m_causes_s (m_faults_s (m_code_s st (0 : Int32)) ((m_faults (m_code_s st (0 : Int32))) + (1 : Int32))) ((m_causes (m_faults_s (m_code_s st (0 : Int32)) ((m_faults (m_code_s st (0 : Int32))) + (1 : Int32)))) + (1 : Int32))))) j10 (m_causes (m_one_s (m_causes_s (m_faults_s (m_code_s st (0 : Int32)) ((m_faults (m_code_s st (0 : Int32))) + (1 : Int32))) ((m_causes (m_faults_s (m_code_s st (0 : Int32)) ((m_faults (m_code_s st (0 : Int32))) + (1 : Int32)))) + (1 : Int32))) j7 (m_causes (m_causes_s (m_faults_s (m_code_s st (0 : Int32)) ((m_faults (m_code_s st (0 : Int32))) + (1 : Int32))) ((m_causes (m_faults_s (m_code_s st (0 : Int32)) ((m_faults (m_code_s st (0 : Int32))) + (1 : Int32)))) + (1 : Int32))))))))) (C := "GuideSearchModel") (T := F_M) (N := 25) hx hb hT i_M hown hK hP 0 rfl rfl 1 (by decide) (hT _ k_508) (fun _ h9 => h9) rfl d_M_fault_106 ?_
                refine lv_ldc2 (v := (6350400 : Int64)) hx hb hown (hT _ k_593) d_M_fault_109 ?_
                refine lv_lload_n hx hb d_M_fault_112 rfl (lv_at hl 2 rfl) ?_
                obtain ⟨hz13, hf⟩ := dzl_some hf
                refine lv_ldiv hx hb d_M_fault_113 hz13 ?_
                refine lv_lload_n hx hb d_M_fault_114 rfl (lv_at hl 1 rfl) ?_
                refine lv_lmul hx hb d_M_fault_115 ?_
                obtain ⟨j14, ej16, hi15, hf⟩ := ix_some hf
                refine xa_last hx hb hK hP (hD _) hS 3 0 rfl rfl ej16 hi15 d_M_fault_116 (fun H locs hP hS => ?_)
                rw [m_prior_put cs a (m_two_s (m_one_s (m_causes_s (m_faults_s (m_code_s st (0 : Int32)) ((m_faults (m_code_s st (0 : Int32))) + (1 : Int32))) ((m_causes (m_faults_s (m_code_s st (0 : Int32)) ((m_faults (m_code_s st (0 : Int32))) + (1 : Int32)))) + (1 : Int32))) j7 (m_causes (m_causes_s (m_faults_s (m_code_s st (0 : Int32)) ((m_faults (m_code_s st (0 : Int32))) + (1 : Int32))) ((m_causes (m_faults_s (m_code_s st (0 : Int32)) ((m_faults (m_code_s st (0 : Int32))) + (1 : Int32)))) + (1 : Int32))))) j10 (m_causes (m_one_s (m_causes_s (m_faults_s (m_code_s st (0 : Int32)) ((m_faults (m_code_s st (0 : Int32))) + (1 : Int32))) ((m_causes (m_faults_s (m_code_s st (0 : Int32)) ((m_faults (m_code_s st (0 : Int32))) + (1 : Int32)))) + (1 : Int32))) j7 (m_causes (m_causes_s (m_faults_s (m_code_s st (0 : Int32)) ((m_faults (m_code_s st (0 : Int32))) + (1 : Int32))) ((m_causes (m_faults_s (m_code_s st (0 : Int32)) ((m_faults (m_code_s st (0 : Int32))) + (1 : Int32)))) + (1 : Int32))))))) j14 (((6350400 : Int64) / p3) * p1)] at hP
                refine lv_aload_n hx hb d_M_fault_117 rfl (lv_at hl 0 rfl) ?_
                refine va_get (D := (dC, dI)) (ci := 5) (v := .int (m_causes (m_prior_s (m_two_s (m_one_s (m_causes_s (m_faults_s (m_code_s st (0 : Int32)) ((m_faults (m_code_s st (0 : Int32))) + (1 : Int32))) ((m_causes (m_faults_s (m_code_s st (0 : Int32)) ((m_faults (m_code_s st (0 : Int32))) + (1 : Int32)))) + (1 : Int32))) j7 (m_causes (m_causes_s (m_faults_s (m_code_s st (0 : Int32)) ((m_faults (m_code_s st (0 : Int32))) + (1 : Int32))) ((m_causes (m_faults_s (m_code_s st (0 : Int32)) ((m_faults (m_code_s st (0 : Int32))) + (1 : Int32)))) + (1 : Int32))))) j10 (m_causes (m_one_s (m_causes_s (m_faults_s (m_code_s st (0 : Int32)) ((m_faults (m_code_s st (0 : Int32))) + (1 : Int32))) ((m_causes (m_faults_s (m_code_s st (0 : Int32)) ((m_faults (m_code_s st (0 : Int32))) + (1 : Int32)))) + (1 : Int32))) j7 (m_causes (m_causes_s (m_faults_s (m_code_s st (0 : Int32)) ((m_faults (m_code_s st (0 : Int32))) + (1 : Int32))) ((m_causes (m_faults_s (m_code_s st (0 : Int32)) ((m_faults (m_code_s st (0 : Int32))) + (1 : Int32)))) + (1 : Int32))))))) j14 (((6350400 : Int64) / p3) * p1)))) (C := "GuideSearchModel") (T := F_M) (N := 25) hx hb hT i_M hown hK hP 0 rfl rfl 1 (by decide) (hT _ k_508) (fun _ h9 => h9) rfl d_M_fault_118 ?_
                exact W.iret hx hb hr (fun t ht _ => ⟨⟨_, (), rfl, congrArg Prod.fst (Option.some.inj hf), m_fin ht (congrArg Prod.snd (Option.some.inj hf)) hP⟩, hS.F ht⟩) hS.2.2 d_M_fault_121
              · rw [if_pos c6] at hf
                refine lv_bipush (v := (-4 : Int32)) hx hb d_M_fault_52 (by decide) ?_
                exact W.iret hx hb hr (fun t ht _ => ⟨⟨_, (), rfl, congrArg Prod.fst (Option.some.inj hf), m_fin ht (congrArg Prod.snd (Option.some.inj hf)) hP⟩, hS.F ht⟩) hS.2.2 d_M_fault_54
          · rw [if_neg (mt (lg_cmp_le _ _).mpr c4)] at hf
            refine lv_bipush (v := (-2 : Int32)) hx hb d_M_fault_31 (by decide) ?_
            exact W.iret hx hb hr (fun t ht _ => ⟨⟨_, (), rfl, congrArg Prod.fst (Option.some.inj hf), m_fin ht (congrArg Prod.snd (Option.some.inj hf)) hP⟩, hS.F ht⟩) hS.2.2 d_M_fault_33
  exact main _ _ hP va_S.rf
set_option maxHeartbeats 4000000 in
set_option maxRecDepth 100000 in
theorem c_M_pair (l : Launch) (dC : Nat → ClassId) (dI : Nat → Nat → Nat) (cs : Nat → ClassId) (a : Nat → Nat) (hi : ∀ i j : Nat, i < 18 → j < 18 → a i = a j → i = j) (st : MS) (p1 : Int32) (p2 : Int32) (res : Int32 × MS) (hf : m_M_pair st p1 p2 = some res) : Met l (⟨"GuideSearchModel", "pair", "(II)I"⟩ : MethodName) (Cond.code (⟨"GuideSearchModel", "pair", "(II)I"⟩ : MethodName) prog_7_method_7_code 6 (some .int) :: wg) { frames := 2, cells := 0, slots := 0, locals := 42 } (va_Pc ([.ref (a 0), .int p1, .int p2] : List Value) (m_pre dC dI cs a st)) (va_Qi (fun r (_ : Unit) => r = res.1) (fun _ t => va_P (dC, dI) vwCl (m_W cs a res.2) t.heap) (m_A a)) 0 0 (m_A a) := by
  refine ro_start (cc := prog_7_method_7_code) (maxL := 6) (ret := (some .int)) (by decide) (Nat.le_of_ble_eq_true rfl) ?_
  intro p e s m below meth c hx hb hr hml hT hown hlocks hB ls hl
  replace hown : s.vm.findClass "GuideSearchModel" = some m.cls := hown
  obtain ⟨hP, hK, hN⟩ := hB
  replace hl : lv_has ls 6 [(0, .ref (a 0)), (1, .int p1), (2, .int p2)] := hl
  unfold m_M_pair at hf
  have hD : ∀ st : MS, va_D (m_A a) (m_W cs a st) := fun st => m_D hi cs st
  have main : ∀ (H : Heap) (locs : List Loc), va_P (dC, dI) vwCl (m_W cs a st) H → va_S (m_A a) s.heap H locs → W p l e { frames := 2, cells := 0, slots := 0, locals := 42 } s m ([.ref (a 0), .int p1, .int p2] : List Value).toArray below meth c H locs 0 0 (MQ below (va_Qi (fun r (_ : Unit) => r = res.1) (fun _ t => va_P (dC, dI) vwCl (m_W cs a res.2) t.heap) (m_A a)) ([.ref (a 0), .int p1, .int p2] : List Value).toArray s 0 0 (m_A a)) (F0 m 0 ls []) := by
    intro H locs hP hS
    refine lv_aload_n hx hb d_M_pair_0 rfl (lv_at hl 0 rfl) ?_
    refine lv_iconst (v := (0 : Int32)) hx hb d_M_pair_1 (by decide) ?_
    refine va_put (D := (dC, dI)) (ci := 5) (v := .int (0 : Int32)) (ty := .int) (C := "GuideSearchModel") (T := F_M) (N := 25) hx hb hT i_M ft_M ft_M_ok n_M hown hK hP (hD _) hS 0 rfl rfl 0 (by decide) (hT _ k_507) (fun _ h9 => h9) rfl (by decide +kernel) rfl rfl (Nat.le_of_ble_eq_true rfl) d_M_pair_2 (fun H locs hP _ hS => ?_)
    rw [m_code_put cs a st (0 : Int32)] at hP
    refine lv_aload_n hx hb d_M_pair_5 rfl (lv_at hl 0 rfl) ?_
    refine lv_iload_n hx hb d_M_pair_6 rfl (lv_at hl 1 rfl) ?_
    obtain ⟨r2, hr1, hf⟩ := ob hf
    refine ro_calli (va_runV (C := "GuideSearchModel") (As := [.int p1]) (rest := []) ⟨hx, hb, hml, hown, hT⟩ (c_M_noFault l dC dI cs a (m_code_s st (0 : Int32)) p1 r2 hr1) (cwV 1 hT (gV k_598 k_600 ks_12 k_7 k_601) rfl rfl rfl (by decide +kernel) ⟨Nat.le_of_ble_eq_true rfl, Nat.le_of_ble_eq_true rfl⟩) (ro_preV hP hK hN (va_recv hK hP (ci := 5) (q0 := 0) rfl rfl)) rfl rfl hl.1 rfl (lv_room (Nat.le_of_ble_eq_true rfl)) d_M_pair_7 ⟨Nat.le_of_ble_eq_true rfl, Nat.le_of_ble_eq_true rfl⟩) ?_
    refine lv_if_ne (tgt := 21) hx hb d_M_pair_10 (by decide) (fun c3 => ?_) (fun c3 => ?_)
    · rw [if_neg c3] at hf
      refine lv_iconst (v := (-1 : Int32)) hx hb d_M_pair_21 (by decide) ?_
      exact W.iret hx hb hr (fun t ht _ => ⟨⟨_, (), rfl, congrArg Prod.fst (Option.some.inj hf), m_fin ht (congrArg Prod.snd (Option.some.inj hf)) hP⟩, hS.F ht⟩) hS.2.2 d_M_pair_22
    · rw [if_pos c3] at hf
      refine lv_aload_n hx hb d_M_pair_13 rfl (lv_at hl 0 rfl) ?_
      refine lv_iload_n hx hb d_M_pair_14 rfl (lv_at hl 2 rfl) ?_
      obtain ⟨r5, hr4, hf⟩ := ob hf
      refine ro_calli (va_runV (C := "GuideSearchModel") (As := [.int p2]) (rest := []) ⟨hx, hb, hml, hown, hT⟩ (c_M_noFault l dC dI cs a (m_code_s st (0 : Int32)) p2 r5 hr4) (cwV 1 hT (gV k_598 k_600 ks_12 k_7 k_601) rfl rfl rfl (by decide +kernel) ⟨Nat.le_of_ble_eq_true rfl, Nat.le_of_ble_eq_true rfl⟩) (ro_preV hP hK hN (va_recv hK hP (ci := 5) (q0 := 0) rfl rfl)) rfl rfl hl.1 rfl (lv_room (Nat.le_of_ble_eq_true rfl)) d_M_pair_15 ⟨Nat.le_of_ble_eq_true rfl, Nat.le_of_ble_eq_true rfl⟩) ?_
      refine lv_if_eq (tgt := 23) hx hb d_M_pair_18 (by decide) (fun c6 => ?_) (fun c6 => ?_)
      · rw [if_pos c6] at hf
        refine lv_iload_n hx hb d_M_pair_23 rfl (lv_at hl 1 rfl) ?_
        refine lv_iload_n hx hb d_M_pair_24 rfl (lv_at hl 2 rfl) ?_
        refine lv_icmp_ne (tgt := 31) hx hb d_M_pair_25 (by decide) (fun c7 => ?_) (fun c7 => ?_)
        · rw [if_neg c7] at hf
          refine lv_iload_n hx hb d_M_pair_31 rfl (lv_at hl 1 rfl) ?_
          refine lv_iload_n hx hb d_M_pair_32 rfl (lv_at hl 2 rfl) ?_
          have join1 : ∀ (v8 : Int32), m_M_pair_J1 st p1 p2 v8 = some res → ∀ (ls : Array Slot), lv_has ls 6 [(0, .ref (a 0)), (1, .int p1), (2, .int p2)] → W p l e { frames := 2, cells := 0, slots := 0, locals := 42 } s m ([.ref (a 0), .int p1, .int p2] : List Value).toArray below meth c H locs 0 0 (MQ below (va_Qi (fun r (_ : Unit) => r = res.1) (fun _ t => va_P (dC, dI) vwCl (m_W cs a res.2) t.heap) (m_A a)) ([.ref (a 0), .int p1, .int p2] : List Value).toArray s 0 0 (m_A a)) (F0 m 41 ls [.int v8]) := by
            intro v8 hf ls hl
            unfold m_M_pair_J1 at hf
            refine lv_istore_n (lv' := [(3, .int v8), (0, .ref (a 0)), (1, .int p1), (2, .int p2)]) hx hb d_M_pair_41 rfl hl (by decide) rfl (fun ls hl => ?_)
            refine lv_iload_n hx hb d_M_pair_42 rfl (lv_at hl 2 rfl) ?_
            refine lv_iload_n hx hb d_M_pair_43 rfl (lv_at hl 3 rfl) ?_
            have join2 : ∀ (v9 : Int32), m_M_pair_J2 st p1 p2 v8 v9 = some res → ∀ (ls : Array Slot), lv_has ls 6 [(3, .int v8), (0, .ref (a 0)), (1, .int p1), (2, .int p2)] → W p l e { frames := 2, cells := 0, slots := 0, locals := 42 } s m ([.ref (a 0), .int p1, .int p2] : List Value).toArray below meth c H locs 0 0 (MQ below (va_Qi (fun r (_ : Unit) => r = res.1) (fun _ t => va_P (dC, dI) vwCl (m_W cs a res.2) t.heap) (m_A a)) ([.ref (a 0), .int p1, .int p2] : List Value).toArray s 0 0 (m_A a)) (F0 m 52 ls [.int v9]) := by
              intro v9 hf ls hl
              unfold m_M_pair_J2 at hf
              refine lv_istore (lv' := [(4, .int v9), (3, .int v8), (0, .ref (a 0)), (1, .int p1), (2, .int p2)]) hx hb d_M_pair_52 hl (by decide) rfl (fun ls hl => ?_)
              refine lv_iconst (v := (1 : Int32)) hx hb d_M_pair_54 (by decide) ?_
              refine lv_istore (lv' := [(5, .int (1 : Int32)), (4, .int v9), (3, .int v8), (0, .ref (a 0)), (1, .int p1), (2, .int p2)]) hx hb d_M_pair_55 hl (by decide) rfl (fun ls hl => ?_)
              have loop3 : ∀ (n : Nat) (v10 : Int32), xl1 (m_M_pair_B3 st p1 p2 v8 v9) n v10 = some res → ∀ (ls : Array Slot), lv_has ls 6 [(5, .int v10), (4, .int v9), (3, .int v8), (0, .ref (a 0)), (1, .int p1), (2, .int p2)] → W p l e { frames := 2, cells := 0, slots := 0, locals := 42 } s m ([.ref (a 0), .int p1, .int p2] : List Value).toArray below meth c H locs 0 0 (MQ below (va_Qi (fun r (_ : Unit) => r = res.1) (fun _ t => va_P (dC, dI) vwCl (m_W cs a res.2) t.heap) (m_A a)) ([.ref (a 0), .int p1, .int p2] : List Value).toArray s 0 0 (m_A a)) (F0 m 57 ls []) := by
                intro n
                induction n with
                | zero => intro v10 hf; exact absurd hf (by simp [xl1])
                | succ n ih3 =>
                  intro v10 hf ls hl
                  replace hf : (m_M_pair_B3 st p1 p2 v8 v9) (xl1 (m_M_pair_B3 st p1 p2 v8 v9) n) v10 = some res := hf
                  generalize xl1 (m_M_pair_B3 st p1 p2 v8 v9) n = self3 at hf ih3
                  unfold m_M_pair_B3 at hf
                  refine lv_iload hx hb d_M_pair_57 (lv_at hl 0 rfl) ?_
                  refine lv_aload_n hx hb d_M_pair_59 rfl (lv_at hl 3 rfl) ?_
                  refine va_get (D := (dC, dI)) (ci := 5) (v := .int (m_causes (m_code_s st (0 : Int32)))) (C := "GuideSearchModel") (T := F_M) (N := 25) hx hb hT i_M hown hK hP 0 rfl rfl 1 (by decide) (hT _ k_508) (fun _ h9 => h9) rfl d_M_pair_60 ?_
                  refine lv_icmp_gt (tgt := 98) hx hb d_M_pair_63 (by decide) (fun c11 => ?_) (fun c11 => ?_)
                  · rw [if_pos c11] at hf
                    refine lv_aload_n hx hb d_M_pair_98 rfl (lv_at hl 3 rfl) ?_
                    refine va_get (D := (dC, dI)) (ci := 5) (v := .int (m_causes (m_code_s st (0 : Int32)))) (C := "GuideSearchModel") (T := F_M) (N := 25) hx hb hT i_M hown hK hP 0 rfl rfl 1 (by decide) (hT _ k_508) (fun _ h9 => h9) rfl d_M_pair_99 ?_
                    refine lv_bipush (v := (12 : Int32)) hx hb d_M_pair_102 (by decide) ?_
                    refine lv_icmp_ne (tgt := 110) hx hb d_M_pair_104 (by decide) (fun c12 => ?_) (fun c12 => ?_)
                    · rw [if_neg c12] at hf
                      refine lv_aload_n hx hb d_M_pair_110 rfl (lv_at hl 3 rfl) ?_
                      refine lv_dup hx hb d_M_pair_111 rfl ?_
                      refine va_get (D := (dC, dI)) (ci := 5) (v := .int (m_causes (m_code_s st (0 : Int32)))) (C := "GuideSearchModel") (T := F_M) (N := 25) hx hb hT i_M hown hK hP 0 rfl rfl 1 (by decide) (hT _ k_508) (fun _ h9 => h9) rfl d_M_pair_112 ?_
                      refine lv_iconst (v := (1 : Int32)) hx hb d_M_pair_115 (by decide) ?_
                      refine lv_iadd hx hb d_M_pair_116 ?_
                      refine va_put (D := (dC, dI)) (ci := 5) (v := .int ((m_causes (m_code_s st (0 : Int32))) + (1 : Int32))) (ty := .int) (C := "GuideSearchModel") (T := F_M) (N := 25) hx hb hT i_M ft_M ft_M_ok n_M hown hK hP (hD _) hS 0 rfl rfl 1 (by decide) (hT _ k_508) (fun _ h9 => h9) rfl (by decide +kernel) rfl rfl (Nat.le_of_ble_eq_true rfl) d_M_pair_117 (fun H locs hP _ hS => ?_)
                      rw [m_causes_put cs a (m_code_s st (0 : Int32)) ((m_causes (m_code_s st (0 : Int32))) + (1 : Int32))] at hP
                      refine lv_aload_n hx hb d_M_pair_120 rfl (lv_at hl 3 rfl) ?_
                      refine va_get (D := (dC, dI)) (ci := 5) (v := .ref (a 1)) (C := "GuideSearchModel") (T := F_M) (N := 25) hx hb hT i_M hown hK hP 0 rfl rfl 3 (by decide) (hT _ k_510) (fun _ h9 => h9) rfl d_M_pair_121 ?_
                      refine lv_aload_n hx hb d_M_pair_124 rfl (lv_at hl 3 rfl) ?_
                      refine va_get (D := (dC, dI)) (ci := 5) (v := .int (m_causes (m_causes_s (m_code_s st (0 : Int32)) ((m_causes (m_code_s st (0 : Int32))) + (1 : Int32))))) (C := "GuideSearchModel") (T := F_M) (N := 25) hx hb hT i_M hown hK hP 0 rfl rfl 1 (by decide) (hT _ k_508) (fun _ h9 => h9) rfl d_M_pair_125 ?_
                      refine lv_iload_n hx hb d_M_pair_128 rfl (lv_at hl 2 rfl) ?_
                      obtain ⟨j13, ej15, hi14, hf⟩ := ix_some hf
                      refine xa_iast hx hb hK hP (hD _) hS 1 1 rfl rfl ej15 hi14 d_M_pair_129 (fun H locs hP hS => ?_)
                      rw [m_one_put cs a (m_causes_s (m_code_s st (0 : Int32)) ((m_causes (m_code_s st (0 : Int32))) + (1 : Int32))) j13 v8] at hP
                      refine lv_aload_n hx hb d_M_pair_130 rfl (lv_at hl 3 rfl) ?_
                      refine va_get (D := (dC, dI)) (ci := 5) (v := .ref (a 2)) (C := "GuideSearchModel") (T := F_M) (N := 25) hx hb hT i_M hown hK hP 0 rfl rfl 4 (by decide) (hT _ k_511) (fun _ h9 => h9) rfl d_M_pair_131 ?_
                      refine lv_aload_n hx hb d_M_pair_134 rfl (lv_at hl 3 rfl) ?_
                      refine va_get (D := (dC, dI)) (ci := 5) (v := .int (m_causes (m_one_s (m_causes_s (m_code_s st (0 : Int32)) ((m_causes (m_code_s st (0 : Int32))) + (1 : Int32))) j13 v8))) (C := "GuideSearchModel") (T := F_M) (N := 25) hx hb hT i_M hown hK hP 0 rfl rfl 1 (by decide) (hT _ k_508) (fun _ h9 => h9) rfl d_M_pair_135 ?_
                      refine lv_iload hx hb d_M_pair_138 (lv_at hl 1 rfl) ?_
                      obtain ⟨j16, ej18, hi17, hf⟩ := ix_some hf
                      refine xa_iast hx hb hK hP (hD _) hS 2 1 rfl rfl ej18 hi17 d_M_pair_140 (fun H locs hP hS => ?_)
                      rw [m_two_put cs a (m_one_s (m_causes_s (m_code_s st (0 : Int32)) ((m_causes (m_code_s st (0 : Int32))) + (1 : Int32))) j13 v8) j16 v9] at hP
                      refine lv_aload_n hx hb d_M_pair_141 rfl (lv_at hl 3 rfl) ?_
                      refine va_get (D := (dC, dI)) (ci := 5) (v := .ref (a 3)) (C := "GuideSearchModel") (T := F_M) (N := 25) hx hb hT i_M hown hK hP 0 rfl rfl 5 (by decide) (hT _ k_512) (fun _ h9 => h9) rfl d_M_pair_142 ?_
                      refine lv_aload_n hx hb d_M_pair_145 rfl (lv_at hl 3 rfl) ?_
                      refine va_get (D := (dC, dI)) (ci := 5) (v := .int (m_causes (m_two_s (m_one_s (m_causes_s (m_code_s st (0 : Int32)) ((m_causes (m_code_s st (0 : Int32))) + (1 : Int32))) j13 v8) j16 v9))) (C := "GuideSearchModel") (T := F_M) (N := 25) hx hb hT i_M hown hK hP 0 rfl rfl 1 (by decide) (hT _ k_508) (fun _ h9 => h9) rfl d_M_pair_146 ?_
                      refine lv_aload_n hx hb d_M_pair_149 rfl (lv_at hl 3 rfl) ?_
                      refine va_get (D := (dC, dI)) (ci := 5) (v := .ref (a 3)) (C := "GuideSearchModel") (T := F_M) (N := 25) hx hb hT i_M hown hK hP 0 rfl rfl 5 (by decide) (hT _ k_512) (fun _ h9 => h9) rfl d_M_pair_150 ?_
                      refine lv_iload_n hx hb d_M_pair_153 rfl (lv_at hl 4 rfl) ?_
                      obtain ⟨j19, ej21, hi20, hf⟩ := ix_some hf
                      refine xa_lald hx hb hK hP 3 0 rfl rfl ej21 hi20 d_M_pair_154 ?_
                      refine lv_ldc2 (v := (2520 : Int64)) hx hb hown (hT _ k_606) d_M_pair_155 ?_
                      refine lv_ldiv hx hb d_M_pair_158 (by decide) ?_
                      refine lv_aload_n hx hb d_M_pair_159 rfl (lv_at hl 3 rfl) ?_
                      refine va_get (D := (dC, dI)) (ci := 5) (v := .ref (a 3)) (C := "GuideSearchModel") (T := F_M) (N := 25) hx hb hT i_M hown hK hP 0 rfl rfl 5 (by decide) (hT _ k_512) (fun _ h9 => h9) rfl d_M_pair_160 ?_
                      refine lv_iload_n hx hb d_M_pair_163 rfl (lv_at hl 5 rfl) ?_
                      obtain ⟨j22, ej24, hi23, hf⟩ := ix_some hf
                      refine xa_lald hx hb hK hP 3 0 rfl rfl ej24 hi23 d_M_pair_164 ?_
                      refine lv_ldc2 (v := (2520 : Int64)) hx hb hown (hT _ k_606) d_M_pair_165 ?_
                      refine lv_ldiv hx hb d_M_pair_168 (by decide) ?_
                      refine lv_lmul hx hb d_M_pair_169 ?_
                      obtain ⟨j25, ej27, hi26, hf⟩ := ix_some hf
                      refine xa_last hx hb hK hP (hD _) hS 3 0 rfl rfl ej27 hi26 d_M_pair_170 (fun H locs hP hS => ?_)
                      rw [m_prior_put cs a (m_two_s (m_one_s (m_causes_s (m_code_s st (0 : Int32)) ((m_causes (m_code_s st (0 : Int32))) + (1 : Int32))) j13 v8) j16 v9) j25 (((m_prior (m_two_s (m_one_s (m_causes_s (m_code_s st (0 : Int32)) ((m_causes (m_code_s st (0 : Int32))) + (1 : Int32))) j13 v8) j16 v9) j19) / (2520 : Int64)) * ((m_prior (m_two_s (m_one_s (m_causes_s (m_code_s st (0 : Int32)) ((m_causes (m_code_s st (0 : Int32))) + (1 : Int32))) j13 v8) j16 v9) j22) / (2520 : Int64)))] at hP
                      refine lv_aload_n hx hb d_M_pair_171 rfl (lv_at hl 3 rfl) ?_
                      refine va_get (D := (dC, dI)) (ci := 5) (v := .int (m_causes (m_prior_s (m_two_s (m_one_s (m_causes_s (m_code_s st (0 : Int32)) ((m_causes (m_code_s st (0 : Int32))) + (1 : Int32))) j13 v8) j16 v9) j25 (((m_prior (m_two_s (m_one_s (m_causes_s (m_code_s st (0 : Int32)) ((m_causes (m_code_s st (0 : Int32))) + (1 : Int32))) j13 v8) j16 v9) j19) / (2520 : Int64)) * ((m_prior (m_two_s (m_one_s (m_causes_s (m_code_s st (0 : Int32)) ((m_causes (m_code_s st (0 : Int32))) + (1 : Int32))) j13 v8) j16 v9) j22) / (2520 : Int64)))))) (C := "GuideSearchModel") (T := F_M) (N := 25) hx hb hT i_M hown hK hP 0 rfl rfl 1 (by decide) (hT _ k_508) (fun _ h9 => h9) rfl d_M_pair_172 ?_
                      exact W.iret hx hb hr (fun t ht _ => ⟨⟨_, (), rfl, congrArg Prod.fst (Option.some.inj hf), m_fin ht (congrArg Prod.snd (Option.some.inj hf)) hP⟩, hS.F ht⟩) hS.2.2 d_M_pair_175
                    · rw [if_pos c12] at hf
                      refine lv_bipush (v := (-4 : Int32)) hx hb d_M_pair_107 (by decide) ?_
                      exact W.iret hx hb hr (fun t ht _ => ⟨⟨_, (), rfl, congrArg Prod.fst (Option.some.inj hf), m_fin ht (congrArg Prod.snd (Option.some.inj hf)) hP⟩, hS.F ht⟩) hS.2.2 d_M_pair_109
                  · rw [if_neg c11] at hf
                    refine lv_aload_n hx hb d_M_pair_66 rfl (lv_at hl 3 rfl) ?_
                    refine va_get (D := (dC, dI)) (ci := 5) (v := .ref (a 1)) (C := "GuideSearchModel") (T := F_M) (N := 25) hx hb hT i_M hown hK hP 0 rfl rfl 3 (by decide) (hT _ k_510) (fun _ h9 => h9) rfl d_M_pair_67 ?_
                    refine lv_iload hx hb d_M_pair_70 (lv_at hl 0 rfl) ?_
                    obtain ⟨j28, ej30, hi29, hf⟩ := ix_some hf
                    refine xa_iald hx hb hK hP 1 1 rfl rfl ej30 hi29 d_M_pair_72 ?_
                    refine lv_iload_n hx hb d_M_pair_73 rfl (lv_at hl 2 rfl) ?_
                    refine lv_icmp_ne (tgt := 92) hx hb d_M_pair_74 (by decide) (fun c31 => ?_) (fun c31 => ?_)
                    · rw [if_neg c31] at hf
                      refine lv_iinc (v := (v10 + 1)) (lv' := [(5, .int (v10 + 1)), (4, .int v9), (3, .int v8), (0, .ref (a 0)), (1, .int p1), (2, .int p2)]) hx hb d_M_pair_92 hl (k := 0) rfl rfl (by decide) rfl (fun ls hl => ?_)
                      refine lv_goto (tgt := 57) hx hb d_M_pair_95 (by decide) ?_
                      exact ih3 (v10 + 1) hf ls (lv_sub hl [0, 1, 2, 3, 4, 5] rfl)
                    · rw [if_pos c31] at hf
                      refine lv_aload_n hx hb d_M_pair_77 rfl (lv_at hl 3 rfl) ?_
                      refine va_get (D := (dC, dI)) (ci := 5) (v := .ref (a 2)) (C := "GuideSearchModel") (T := F_M) (N := 25) hx hb hT i_M hown hK hP 0 rfl rfl 4 (by decide) (hT _ k_511) (fun _ h9 => h9) rfl d_M_pair_78 ?_
                      refine lv_iload hx hb d_M_pair_81 (lv_at hl 0 rfl) ?_
                      obtain ⟨j32, ej34, hi33, hf⟩ := ix_some hf
                      refine xa_iald hx hb hK hP 2 1 rfl rfl ej34 hi33 d_M_pair_83 ?_
                      refine lv_iload hx hb d_M_pair_84 (lv_at hl 1 rfl) ?_
                      refine lv_icmp_ne (tgt := 92) hx hb d_M_pair_86 (by decide) (fun c35 => ?_) (fun c35 => ?_)
                      · rw [if_neg c35] at hf
                        refine lv_iinc (v := (v10 + 1)) (lv' := [(5, .int (v10 + 1)), (4, .int v9), (3, .int v8), (0, .ref (a 0)), (1, .int p1), (2, .int p2)]) hx hb d_M_pair_92 hl (k := 0) rfl rfl (by decide) rfl (fun ls hl => ?_)
                        refine lv_goto (tgt := 57) hx hb d_M_pair_95 (by decide) ?_
                        exact ih3 (v10 + 1) hf ls (lv_sub hl [0, 1, 2, 3, 4, 5] rfl)
                      · rw [if_pos c35] at hf
                        refine lv_bipush (v := (-3 : Int32)) hx hb d_M_pair_89 (by decide) ?_
                        exact W.iret hx hb hr (fun t ht _ => ⟨⟨_, (), rfl, congrArg Prod.fst (Option.some.inj hf), m_fin ht (congrArg Prod.snd (Option.some.inj hf)) hP⟩, hS.F ht⟩) hS.2.2 d_M_pair_91
              exact loop3 _ (1 : Int32) hf ls (lv_sub hl [0, 1, 2, 3, 4, 5] rfl)
            refine lv_icmp_ge (tgt := 51) hx hb d_M_pair_44 (by decide) (fun c36 => ?_) (fun c36 => ?_)
            · rw [if_pos c36] at hf
              refine lv_iload_n hx hb d_M_pair_51 rfl (lv_at hl 2 rfl) ?_
              exact join2 p1 hf ls (lv_sub hl [0, 1, 2, 3] rfl)
            · rw [if_neg c36] at hf
              refine lv_iload_n hx hb d_M_pair_47 rfl (lv_at hl 3 rfl) ?_
              refine lv_goto (tgt := 52) hx hb d_M_pair_48 (by decide) ?_
              exact join2 p2 hf ls (lv_sub hl [0, 1, 2, 3] rfl)
          refine lv_icmp_ge (tgt := 40) hx hb d_M_pair_33 (by decide) (fun c37 => ?_) (fun c37 => ?_)
          · rw [if_pos c37] at hf
            refine lv_iload_n hx hb d_M_pair_40 rfl (lv_at hl 2 rfl) ?_
            exact join1 p2 hf ls (lv_sub hl [0, 1, 2] rfl)
          · rw [if_neg c37] at hf
            refine lv_iload_n hx hb d_M_pair_36 rfl (lv_at hl 1 rfl) ?_
            refine lv_goto (tgt := 41) hx hb d_M_pair_37 (by decide) ?_
            exact join1 p1 hf ls (lv_sub hl [0, 1, 2] rfl)
        · rw [if_pos c7] at hf
          refine lv_bipush (v := (-2 : Int32)) hx hb d_M_pair_28 (by decide) ?_
          exact W.iret hx hb hr (fun t ht _ => ⟨⟨_, (), rfl, congrArg Prod.fst (Option.some.inj hf), m_fin ht (congrArg Prod.snd (Option.some.inj hf)) hP⟩, hS.F ht⟩) hS.2.2 d_M_pair_30
      · rw [if_neg c6] at hf
        refine lv_iconst (v := (-1 : Int32)) hx hb d_M_pair_21 (by decide) ?_
        exact W.iret hx hb hr (fun t ht _ => ⟨⟨_, (), rfl, congrArg Prod.fst (Option.some.inj hf), m_fin ht (congrArg Prod.snd (Option.some.inj hf)) hP⟩, hS.F ht⟩) hS.2.2 d_M_pair_22
  exact main _ _ hP va_S.rf
set_option maxHeartbeats 4000000 in
set_option maxRecDepth 100000 in
theorem c_M_test (l : Launch) (dC : Nat → ClassId) (dI : Nat → Nat → Nat) (cs : Nat → ClassId) (a : Nat → Nat) (hi : ∀ i j : Nat, i < 18 → j < 18 → a i = a j → i = j) (st : MS) (p1 : Int64) (res : Int32 × MS) (hf : m_M_test st p1 = some res) : Met l (⟨"GuideSearchModel", "test", "(J)I"⟩ : MethodName) (Cond.code (⟨"GuideSearchModel", "test", "(J)I"⟩ : MethodName) prog_7_method_8_code 3 (some .int) :: wg) { frames := 0, cells := 0, slots := 0, locals := 0 } (va_Pc ([.ref (a 0), .long p1] : List Value) (m_pre dC dI cs a st)) (va_Qi (fun r (_ : Unit) => r = res.1) (fun _ t => va_P (dC, dI) vwCl (m_W cs a res.2) t.heap) (m_A a)) 0 0 (m_A a) := by
  refine ro_start (cc := prog_7_method_8_code) (maxL := 3) (ret := (some .int)) (by decide) (Nat.le_of_ble_eq_true rfl) ?_
  intro p e s m below meth c hx hb hr hml hT hown hlocks hB ls hl
  replace hown : s.vm.findClass "GuideSearchModel" = some m.cls := hown
  obtain ⟨hP, hK, hN⟩ := hB
  replace hl : lv_has ls 3 [(0, .ref (a 0)), (1, .long p1)] := hl
  unfold m_M_test at hf
  have hD : ∀ st : MS, va_D (m_A a) (m_W cs a st) := fun st => m_D hi cs st
  have main : ∀ (H : Heap) (locs : List Loc), va_P (dC, dI) vwCl (m_W cs a st) H → va_S (m_A a) s.heap H locs → W p l e { frames := 0, cells := 0, slots := 0, locals := 0 } s m ([.ref (a 0), .long p1] : List Value).toArray below meth c H locs 0 0 (MQ below (va_Qi (fun r (_ : Unit) => r = res.1) (fun _ t => va_P (dC, dI) vwCl (m_W cs a res.2) t.heap) (m_A a)) ([.ref (a 0), .long p1] : List Value).toArray s 0 0 (m_A a)) (F0 m 0 ls []) := by
    intro H locs hP hS
    refine lv_aload_n hx hb d_M_test_0 rfl (lv_at hl 0 rfl) ?_
    refine lv_iconst (v := (0 : Int32)) hx hb d_M_test_1 (by decide) ?_
    refine va_put (D := (dC, dI)) (ci := 5) (v := .int (0 : Int32)) (ty := .int) (C := "GuideSearchModel") (T := F_M) (N := 25) hx hb hT i_M ft_M ft_M_ok n_M hown hK hP (hD _) hS 0 rfl rfl 0 (by decide) (hT _ k_507) (fun _ h9 => h9) rfl (by decide +kernel) rfl rfl (Nat.le_of_ble_eq_true rfl) d_M_test_2 (fun H locs hP _ hS => ?_)
    rw [m_code_put cs a st (0 : Int32)] at hP
    refine lv_lload_n hx hb d_M_test_5 rfl (lv_at hl 1 rfl) ?_
    refine lv_lconst (v := (0 : Int64)) hx hb d_M_test_6 (by decide) ?_
    refine W.lcmp hx hb d_M_test_7 ?_
    refine lv_if_lt (tgt := 19) hx hb d_M_test_8 (by decide) (fun c1 => ?_) (fun c1 => ?_)
    · rw [if_pos ((lg_cmp_lt _ _).mp c1)] at hf
      refine lv_bipush (v := (-2 : Int32)) hx hb d_M_test_19 (by decide) ?_
      exact W.iret hx hb hr (fun t ht _ => ⟨⟨_, (), rfl, congrArg Prod.fst (Option.some.inj hf), m_fin ht (congrArg Prod.snd (Option.some.inj hf)) hP⟩, hS.F ht⟩) hS.2.2 d_M_test_21
    · rw [if_neg (mt (lg_cmp_lt _ _).mpr c1)] at hf
      refine lv_lload_n hx hb d_M_test_11 rfl (lv_at hl 1 rfl) ?_
      refine lv_ldc2 (v := (400 : Int64)) hx hb hown (hT _ k_611) d_M_test_12 ?_
      refine W.lcmp hx hb d_M_test_15 ?_
      refine lv_if_le (tgt := 22) hx hb d_M_test_16 (by decide) (fun c2 => ?_) (fun c2 => ?_)
      · rw [if_pos ((lg_cmp_le _ _).mp c2)] at hf
        refine lv_aload_n hx hb d_M_test_22 rfl (lv_at hl 0 rfl) ?_
        refine va_get (D := (dC, dI)) (ci := 5) (v := .int (m_tests (m_code_s st (0 : Int32)))) (C := "GuideSearchModel") (T := F_M) (N := 25) hx hb hT i_M hown hK hP 0 rfl rfl 8 (by decide) (hT _ k_515) (fun _ h9 => h9) rfl d_M_test_23 ?_
        refine lv_iconst (v := (5 : Int32)) hx hb d_M_test_26 (by decide) ?_
        refine lv_icmp_ne (tgt := 33) hx hb d_M_test_27 (by decide) (fun c3 => ?_) (fun c3 => ?_)
        · rw [if_neg c3] at hf
          refine lv_aload_n hx hb d_M_test_33 rfl (lv_at hl 0 rfl) ?_
          refine lv_dup hx hb d_M_test_34 rfl ?_
          refine va_get (D := (dC, dI)) (ci := 5) (v := .int (m_tests (m_code_s st (0 : Int32)))) (C := "GuideSearchModel") (T := F_M) (N := 25) hx hb hT i_M hown hK hP 0 rfl rfl 8 (by decide) (hT _ k_515) (fun _ h9 => h9) rfl d_M_test_35 ?_
          refine lv_iconst (v := (1 : Int32)) hx hb d_M_test_38 (by decide) ?_
          refine lv_iadd hx hb d_M_test_39 ?_
          refine va_put (D := (dC, dI)) (ci := 5) (v := .int ((m_tests (m_code_s st (0 : Int32))) + (1 : Int32))) (ty := .int) (C := "GuideSearchModel") (T := F_M) (N := 25) hx hb hT i_M ft_M ft_M_ok n_M hown hK hP (hD _) hS 0 rfl rfl 8 (by decide) (hT _ k_515) (fun _ h9 => h9) rfl (by decide +kernel) rfl rfl (Nat.le_of_ble_eq_true rfl) d_M_test_40 (fun H locs hP _ hS => ?_)
          rw [m_tests_put cs a (m_code_s st (0 : Int32)) ((m_tests (m_code_s st (0 : Int32))) + (1 : Int32))] at hP
          refine lv_aload_n hx hb d_M_test_43 rfl (lv_at hl 0 rfl) ?_
          refine va_get (D := (dC, dI)) (ci := 5) (v := .ref (a 5)) (C := "GuideSearchModel") (T := F_M) (N := 25) hx hb hT i_M hown hK hP 0 rfl rfl 9 (by decide) (hT _ k_516) (fun _ h9 => h9) rfl d_M_test_44 ?_
          refine lv_aload_n hx hb d_M_test_47 rfl (lv_at hl 0 rfl) ?_
          refine va_get (D := (dC, dI)) (ci := 5) (v := .int (m_tests (m_tests_s (m_code_s st (0 : Int32)) ((m_tests (m_code_s st (0 : Int32))) + (1 : Int32))))) (C := "GuideSearchModel") (T := F_M) (N := 25) hx hb hT i_M hown hK hP 0 rfl rfl 8 (by decide) (hT _ k_515) (fun _ h9 => h9) rfl d_M_test_48 ?_
          refine lv_lload_n hx hb d_M_test_51 rfl (lv_at hl 1 rfl) ?_
          obtain ⟨j4, ej6, hi5, hf⟩ := ix_some hf
          refine xa_last hx hb hK hP (hD _) hS 5 0 rfl rfl ej6 hi5 d_M_test_52 (fun H locs hP hS => ?_)
          rw [m_price_put cs a (m_tests_s (m_code_s st (0 : Int32)) ((m_tests (m_code_s st (0 : Int32))) + (1 : Int32))) j4 p1] at hP
          refine lv_aload_n hx hb d_M_test_53 rfl (lv_at hl 0 rfl) ?_
          refine va_get (D := (dC, dI)) (ci := 5) (v := .int (m_tests (m_price_s (m_tests_s (m_code_s st (0 : Int32)) ((m_tests (m_code_s st (0 : Int32))) + (1 : Int32))) j4 p1))) (C := "GuideSearchModel") (T := F_M) (N := 25) hx hb hT i_M hown hK hP 0 rfl rfl 8 (by decide) (hT _ k_515) (fun _ h9 => h9) rfl d_M_test_54 ?_
          exact W.iret hx hb hr (fun t ht _ => ⟨⟨_, (), rfl, congrArg Prod.fst (Option.some.inj hf), m_fin ht (congrArg Prod.snd (Option.some.inj hf)) hP⟩, hS.F ht⟩) hS.2.2 d_M_test_57
        · rw [if_pos c3] at hf
          refine lv_bipush (v := (-4 : Int32)) hx hb d_M_test_30 (by decide) ?_
          exact W.iret hx hb hr (fun t ht _ => ⟨⟨_, (), rfl, congrArg Prod.fst (Option.some.inj hf), m_fin ht (congrArg Prod.snd (Option.some.inj hf)) hP⟩, hS.F ht⟩) hS.2.2 d_M_test_32
      · rw [if_neg (mt (lg_cmp_le _ _).mpr c2)] at hf
        refine lv_bipush (v := (-2 : Int32)) hx hb d_M_test_19 (by decide) ?_
        exact W.iret hx hb hr (fun t ht _ => ⟨⟨_, (), rfl, congrArg Prod.fst (Option.some.inj hf), m_fin ht (congrArg Prod.snd (Option.some.inj hf)) hP⟩, hS.F ht⟩) hS.2.2 d_M_test_21
  exact main _ _ hP va_S.rf
set_option maxHeartbeats 4000000 in
set_option maxRecDepth 100000 in
theorem c_M_oddsOf (l : Launch) (dC : Nat → ClassId) (dI : Nat → Nat → Nat) (cs : Nat → ClassId) (a : Nat → Nat) (st : MS) (p1 : Int32) (p2 : Int32) (p3 : Int32) (res : Int32) (hf : m_M_oddsOf st p1 p2 p3 = some res) : Met l (⟨"GuideSearchModel", "oddsOf", "(III)I"⟩ : MethodName) (Cond.code (⟨"GuideSearchModel", "oddsOf", "(III)I"⟩ : MethodName) prog_7_method_9_code 4 (some .int) :: wg) { frames := 0, cells := 0, slots := 0, locals := 0 } (va_Pc ([.ref (a 0), .int p1, .int p2, .int p3] : List Value) (m_pre dC dI cs a st)) (vp_Si (fun r => r = res)) 0 0 (fun _ => False) := by
  refine ro_start (cc := prog_7_method_9_code) (maxL := 4) (ret := (some .int)) (by decide) (Nat.le_of_ble_eq_true rfl) ?_
  intro p e s m below meth c hx hb hr hml hT hown hlocks hB ls hl
  replace hown : s.vm.findClass "GuideSearchModel" = some m.cls := hown
  obtain ⟨hP, hK, hN⟩ := hB
  replace hl : lv_has ls 4 [(0, .ref (a 0)), (1, .int p1), (2, .int p2), (3, .int p3)] := hl
  unfold m_M_oddsOf at hf
  refine lv_aload_n hx hb d_M_oddsOf_0 rfl (lv_at hl 0 rfl) ?_
  refine va_get (D := (dC, dI)) (ci := 5) (v := .ref (a 7)) (C := "GuideSearchModel") (T := F_M) (N := 25) hx hb hT i_M hown hK hP 0 rfl rfl 11 (by decide) (hT _ k_518) (fun _ h9 => h9) rfl d_M_oddsOf_1 ?_
  refine lv_bipush (v := (39 : Int32)) hx hb d_M_oddsOf_4 (by decide) ?_
  refine lv_iload_n hx hb d_M_oddsOf_6 rfl (lv_at hl 1 rfl) ?_
  refine lv_imul hx hb d_M_oddsOf_7 ?_
  refine lv_iconst (v := (3 : Int32)) hx hb d_M_oddsOf_8 (by decide) ?_
  refine lv_iload_n hx hb d_M_oddsOf_9 rfl (lv_at hl 2 rfl) ?_
  refine lv_imul hx hb d_M_oddsOf_10 ?_
  refine lv_iadd hx hb d_M_oddsOf_11 ?_
  refine lv_iload_n hx hb d_M_oddsOf_12 rfl (lv_at hl 3 rfl) ?_
  refine lv_iadd hx hb d_M_oddsOf_13 ?_
  obtain ⟨j1, ej3, hi2, hf⟩ := ix_some hf
  refine xa_iald hx hb hK hP 7 1 rfl rfl ej3 hi2 d_M_oddsOf_14 ?_
  exact W.iret hx hb hr (fun t ht _ => ⟨_, rfl, Option.some.inj hf, ht⟩) (fun _ h => absurd h List.not_mem_nil) d_M_oddsOf_15
set_option maxHeartbeats 4000000 in
set_option maxRecDepth 100000 in
theorem c_M_odds (l : Launch) (dC : Nat → ClassId) (dI : Nat → Nat → Nat) (cs : Nat → ClassId) (a : Nat → Nat) (hi : ∀ i j : Nat, i < 18 → j < 18 → a i = a j → i = j) (st : MS) (p1 : Int32) (p2 : Int32) (p3 : Int32) (p4 : Int64) (p6 : Int64) (res : Int32 × MS) (hf : m_M_odds st p1 p2 p3 p4 p6 = some res) : Met l (⟨"GuideSearchModel", "odds", "(IIIJJ)I"⟩ : MethodName) (Cond.code (⟨"GuideSearchModel", "odds", "(IIIJJ)I"⟩ : MethodName) prog_7_method_10_code 11 (some .int) :: wg) { frames := 1, cells := 0, slots := 0, locals := 23 } (va_Pc ([.ref (a 0), .int p1, .int p2, .int p3, .long p4, .long p6] : List Value) (m_pre dC dI cs a st)) (va_Qi (fun r (_ : Unit) => r = res.1) (fun _ t => va_P (dC, dI) vwCl (m_W cs a res.2) t.heap) (m_A a)) 0 0 (m_A a) := by
  refine ro_start (cc := prog_7_method_10_code) (maxL := 11) (ret := (some .int)) (by decide) (Nat.le_of_ble_eq_true rfl) ?_
  intro p e s m below meth c hx hb hr hml hT hown hlocks hB ls hl
  replace hown : s.vm.findClass "GuideSearchModel" = some m.cls := hown
  obtain ⟨hP, hK, hN⟩ := hB
  replace hl : lv_has ls 11 [(0, .ref (a 0)), (1, .int p1), (2, .int p2), (3, .int p3), (4, .long p4), (6, .long p6)] := hl
  unfold m_M_odds at hf
  have hD : ∀ st : MS, va_D (m_A a) (m_W cs a st) := fun st => m_D hi cs st
  have main : ∀ (H : Heap) (locs : List Loc), va_P (dC, dI) vwCl (m_W cs a st) H → va_S (m_A a) s.heap H locs → W p l e { frames := 1, cells := 0, slots := 0, locals := 23 } s m ([.ref (a 0), .int p1, .int p2, .int p3, .long p4, .long p6] : List Value).toArray below meth c H locs 0 0 (MQ below (va_Qi (fun r (_ : Unit) => r = res.1) (fun _ t => va_P (dC, dI) vwCl (m_W cs a res.2) t.heap) (m_A a)) ([.ref (a 0), .int p1, .int p2, .int p3, .long p4, .long p6] : List Value).toArray s 0 0 (m_A a)) (F0 m 0 ls []) := by
    intro H locs hP hS
    refine lv_aload_n hx hb d_M_odds_0 rfl (lv_at hl 0 rfl) ?_
    refine lv_iconst (v := (0 : Int32)) hx hb d_M_odds_1 (by decide) ?_
    refine va_put (D := (dC, dI)) (ci := 5) (v := .int (0 : Int32)) (ty := .int) (C := "GuideSearchModel") (T := F_M) (N := 25) hx hb hT i_M ft_M ft_M_ok n_M hown hK hP (hD _) hS 0 rfl rfl 0 (by decide) (hT _ k_507) (fun _ h9 => h9) rfl (by decide +kernel) rfl rfl (Nat.le_of_ble_eq_true rfl) d_M_odds_2 (fun H locs hP _ hS => ?_)
    rw [m_code_put cs a st (0 : Int32)] at hP
    refine lv_aload_n hx hb d_M_odds_5 rfl (lv_at hl 0 rfl) ?_
    refine lv_iload_n hx hb d_M_odds_6 rfl (lv_at hl 1 rfl) ?_
    obtain ⟨r2, hr1, hf⟩ := ob hf
    refine ro_calli (va_runV (C := "GuideSearchModel") (As := [.int p1]) (rest := []) ⟨hx, hb, hml, hown, hT⟩ (c_M_noTest l dC dI cs a (m_code_s st (0 : Int32)) p1 r2 hr1) (cwV 1 hT (gV k_616 k_618 ks_14 k_7 k_619) rfl rfl rfl (by decide +kernel) ⟨Nat.le_of_ble_eq_true rfl, Nat.le_of_ble_eq_true rfl⟩) (ro_preV hP hK hN (va_recv hK hP (ci := 5) (q0 := 0) rfl rfl)) rfl rfl hl.1 rfl (lv_room (Nat.le_of_ble_eq_true rfl)) d_M_odds_7 ⟨Nat.le_of_ble_eq_true rfl, Nat.le_of_ble_eq_true rfl⟩) ?_
    refine lv_if_ne (tgt := 21) hx hb d_M_odds_10 (by decide) (fun c3 => ?_) (fun c3 => ?_)
    · rw [if_neg c3] at hf
      refine lv_iconst (v := (-1 : Int32)) hx hb d_M_odds_21 (by decide) ?_
      exact W.iret hx hb hr (fun t ht _ => ⟨⟨_, (), rfl, congrArg Prod.fst (Option.some.inj hf), m_fin ht (congrArg Prod.snd (Option.some.inj hf)) hP⟩, hS.F ht⟩) hS.2.2 d_M_odds_22
    · rw [if_pos c3] at hf
      refine lv_aload_n hx hb d_M_odds_13 rfl (lv_at hl 0 rfl) ?_
      refine lv_iload_n hx hb d_M_odds_14 rfl (lv_at hl 2 rfl) ?_
      obtain ⟨r5, hr4, hf⟩ := ob hf
      refine ro_calli (va_runV (C := "GuideSearchModel") (As := [.int p2]) (rest := []) ⟨hx, hb, hml, hown, hT⟩ (c_M_noCause l dC dI cs a (m_code_s st (0 : Int32)) p2 r5 hr4) (cwV 1 hT (gV k_602 k_604 ks_13 k_7 k_605) rfl rfl rfl (by decide +kernel) ⟨Nat.le_of_ble_eq_true rfl, Nat.le_of_ble_eq_true rfl⟩) (ro_preV hP hK hN (va_recv hK hP (ci := 5) (q0 := 0) rfl rfl)) rfl rfl hl.1 rfl (lv_room (Nat.le_of_ble_eq_true rfl)) d_M_odds_15 ⟨Nat.le_of_ble_eq_true rfl, Nat.le_of_ble_eq_true rfl⟩) ?_
      refine lv_if_eq (tgt := 23) hx hb d_M_odds_18 (by decide) (fun c6 => ?_) (fun c6 => ?_)
      · rw [if_pos c6] at hf
        refine lv_iload_n hx hb d_M_odds_23 rfl (lv_at hl 3 rfl) ?_
        refine lv_if_lt (tgt := 74) hx hb d_M_odds_24 (by decide) (fun c7 => ?_) (fun c7 => ?_)
        · rw [if_pos c7] at hf
          refine lv_bipush (v := (-2 : Int32)) hx hb d_M_odds_74 (by decide) ?_
          exact W.iret hx hb hr (fun t ht _ => ⟨⟨_, (), rfl, congrArg Prod.fst (Option.some.inj hf), m_fin ht (congrArg Prod.snd (Option.some.inj hf)) hP⟩, hS.F ht⟩) hS.2.2 d_M_odds_76
        · rw [if_neg c7] at hf
          refine lv_iload_n hx hb d_M_odds_27 rfl (lv_at hl 3 rfl) ?_
          refine lv_iconst (v := (2 : Int32)) hx hb d_M_odds_28 (by decide) ?_
          refine lv_icmp_gt (tgt := 74) hx hb d_M_odds_29 (by decide) (fun c8 => ?_) (fun c8 => ?_)
          · rw [if_pos c8] at hf
            refine lv_bipush (v := (-2 : Int32)) hx hb d_M_odds_74 (by decide) ?_
            exact W.iret hx hb hr (fun t ht _ => ⟨⟨_, (), rfl, congrArg Prod.fst (Option.some.inj hf), m_fin ht (congrArg Prod.snd (Option.some.inj hf)) hP⟩, hS.F ht⟩) hS.2.2 d_M_odds_76
          · rw [if_neg c8] at hf
            refine lv_lload hx hb d_M_odds_32 (lv_at hl 5 rfl) ?_
            refine lv_lconst (v := (1 : Int64)) hx hb d_M_odds_34 (by decide) ?_
            refine W.lcmp hx hb d_M_odds_35 ?_
            refine lv_if_lt (tgt := 74) hx hb d_M_odds_36 (by decide) (fun c9 => ?_) (fun c9 => ?_)
            · rw [if_pos ((lg_cmp_lt _ _).mp c9)] at hf
              refine lv_bipush (v := (-2 : Int32)) hx hb d_M_odds_74 (by decide) ?_
              exact W.iret hx hb hr (fun t ht _ => ⟨⟨_, (), rfl, congrArg Prod.fst (Option.some.inj hf), m_fin ht (congrArg Prod.snd (Option.some.inj hf)) hP⟩, hS.F ht⟩) hS.2.2 d_M_odds_76
            · rw [if_neg (mt (lg_cmp_lt _ _).mpr c9)] at hf
              refine lv_lload hx hb d_M_odds_39 (lv_at hl 5 rfl) ?_
              refine lv_ldc2 (v := (12 : Int64)) hx hb hown (hT _ k_620) d_M_odds_41 ?_
              refine W.lcmp hx hb d_M_odds_44 ?_
              refine lv_if_gt (tgt := 74) hx hb d_M_odds_45 (by decide) (fun c10 => ?_) (fun c10 => ?_)
              · rw [if_pos ((lg_cmp_gt _ _).mp c10)] at hf
                refine lv_bipush (v := (-2 : Int32)) hx hb d_M_odds_74 (by decide) ?_
                exact W.iret hx hb hr (fun t ht _ => ⟨⟨_, (), rfl, congrArg Prod.fst (Option.some.inj hf), m_fin ht (congrArg Prod.snd (Option.some.inj hf)) hP⟩, hS.F ht⟩) hS.2.2 d_M_odds_76
              · rw [if_neg (mt (lg_cmp_gt _ _).mpr c10)] at hf
                refine lv_ldc2 (v := (12 : Int64)) hx hb hown (hT _ k_620) d_M_odds_48 ?_
                refine lv_lload hx hb d_M_odds_51 (lv_at hl 5 rfl) ?_
                obtain ⟨hz11, hf⟩ := dzl_some hf
                refine lv_lrem hx hb d_M_odds_53 hz11 ?_
                refine lv_lconst (v := (0 : Int64)) hx hb d_M_odds_54 (by decide) ?_
                refine W.lcmp hx hb d_M_odds_55 ?_
                refine lv_if_gt (tgt := 74) hx hb d_M_odds_56 (by decide) (fun c12 => ?_) (fun c12 => ?_)
                · rw [if_pos ((lg_cmp_gt _ _).mp c12)] at hf
                  refine lv_bipush (v := (-2 : Int32)) hx hb d_M_odds_74 (by decide) ?_
                  exact W.iret hx hb hr (fun t ht _ => ⟨⟨_, (), rfl, congrArg Prod.fst (Option.some.inj hf), m_fin ht (congrArg Prod.snd (Option.some.inj hf)) hP⟩, hS.F ht⟩) hS.2.2 d_M_odds_76
                · rw [if_neg (mt (lg_cmp_gt _ _).mpr c12)] at hf
                  refine lv_lload hx hb d_M_odds_59 (lv_at hl 4 rfl) ?_
                  refine lv_lconst (v := (0 : Int64)) hx hb d_M_odds_61 (by decide) ?_
                  refine W.lcmp hx hb d_M_odds_62 ?_
                  refine lv_if_lt (tgt := 74) hx hb d_M_odds_63 (by decide) (fun c13 => ?_) (fun c13 => ?_)
                  · rw [if_pos ((lg_cmp_lt _ _).mp c13)] at hf
                    refine lv_bipush (v := (-2 : Int32)) hx hb d_M_odds_74 (by decide) ?_
                    exact W.iret hx hb hr (fun t ht _ => ⟨⟨_, (), rfl, congrArg Prod.fst (Option.some.inj hf), m_fin ht (congrArg Prod.snd (Option.some.inj hf)) hP⟩, hS.F ht⟩) hS.2.2 d_M_odds_76
                  · rw [if_neg (mt (lg_cmp_lt _ _).mpr c13)] at hf
                    refine lv_lload hx hb d_M_odds_66 (lv_at hl 4 rfl) ?_
                    refine lv_lload hx hb d_M_odds_68 (lv_at hl 5 rfl) ?_
                    refine W.lcmp hx hb d_M_odds_70 ?_
                    refine lv_if_le (tgt := 77) hx hb d_M_odds_71 (by decide) (fun c14 => ?_) (fun c14 => ?_)
                    · rw [if_pos ((lg_cmp_le _ _).mp c14)] at hf
                      refine lv_ldc2 (v := (12 : Int64)) hx hb hown (hT _ k_620) d_M_odds_77 ?_
                      refine lv_lload hx hb d_M_odds_80 (lv_at hl 4 rfl) ?_
                      refine lv_lmul hx hb d_M_odds_82 ?_
                      refine lv_lload hx hb d_M_odds_83 (lv_at hl 5 rfl) ?_
                      obtain ⟨hz15, hf⟩ := dzl_some hf
                      refine lv_ldiv hx hb d_M_odds_85 hz15 ?_
                      refine lv_l2i (v := (((12 : Int64) * p4) / p6).toInt32) hx hb d_M_odds_86 rfl ?_
                      refine lv_istore (lv' := [(8, .int (((12 : Int64) * p4) / p6).toInt32), (0, .ref (a 0)), (1, .int p1), (2, .int p2), (3, .int p3), (4, .long p4), (6, .long p6)]) hx hb d_M_odds_87 hl (by decide) rfl (fun ls hl => ?_)
                      refine lv_iload hx hb d_M_odds_89 (lv_at hl 0 rfl) ?_
                      refine lv_istore (lv' := [(9, .int (((12 : Int64) * p4) / p6).toInt32), (8, .int (((12 : Int64) * p4) / p6).toInt32), (0, .ref (a 0)), (1, .int p1), (2, .int p2), (3, .int p3), (4, .long p4), (6, .long p6)]) hx hb d_M_odds_91 hl (by decide) rfl (fun ls hl => ?_)
                      refine lv_iconst (v := (0 : Int32)) hx hb d_M_odds_93 (by decide) ?_
                      refine lv_istore (lv' := [(10, .int (0 : Int32)), (9, .int (((12 : Int64) * p4) / p6).toInt32), (8, .int (((12 : Int64) * p4) / p6).toInt32), (0, .ref (a 0)), (1, .int p1), (2, .int p2), (3, .int p3), (4, .long p4), (6, .long p6)]) hx hb d_M_odds_94 hl (by decide) rfl (fun ls hl => ?_)
                      have loop1 : ∀ (n : Nat) (v16 : Int32) (v17 : Int32), xl2 (m_M_odds_B1 st p1 p2 p3 p4 p6) n v16 v17 = some res → ∀ (ls : Array Slot), lv_has ls 11 [(10, .int v16), (9, .int v17), (8, .int (((12 : Int64) * p4) / p6).toInt32), (0, .ref (a 0)), (1, .int p1), (2, .int p2), (3, .int p3)] → W p l e { frames := 1, cells := 0, slots := 0, locals := 23 } s m ([.ref (a 0), .int p1, .int p2, .int p3, .long p4, .long p6] : List Value).toArray below meth c H locs 0 0 (MQ below (va_Qi (fun r (_ : Unit) => r = res.1) (fun _ t => va_P (dC, dI) vwCl (m_W cs a res.2) t.heap) (m_A a)) ([.ref (a 0), .int p1, .int p2, .int p3, .long p4, .long p6] : List Value).toArray s 0 0 (m_A a)) (F0 m 96 ls []) := by
                        intro n
                        induction n with
                        | zero => intro v16 v17 hf; exact absurd hf (by simp [xl2])
                        | succ n ih1 =>
                          intro v16 v17 hf ls hl
                          replace hf : (m_M_odds_B1 st p1 p2 p3 p4 p6) (xl2 (m_M_odds_B1 st p1 p2 p3 p4 p6) n) v16 v17 = some res := hf
                          generalize xl2 (m_M_odds_B1 st p1 p2 p3 p4 p6) n = self1 at hf ih1
                          unfold m_M_odds_B1 at hf
                          refine lv_iload hx hb d_M_odds_96 (lv_at hl 0 rfl) ?_
                          refine lv_iconst (v := (3 : Int32)) hx hb d_M_odds_98 (by decide) ?_
                          refine lv_icmp_ge (tgt := 132) hx hb d_M_odds_99 (by decide) (fun c18 => ?_) (fun c18 => ?_)
                          · rw [if_pos c18] at hf
                            refine lv_iload hx hb d_M_odds_132 (lv_at hl 1 rfl) ?_
                            refine lv_bipush (v := (12 : Int32)) hx hb d_M_odds_134 (by decide) ?_
                            refine lv_icmp_le (tgt := 142) hx hb d_M_odds_136 (by decide) (fun c19 => ?_) (fun c19 => ?_)
                            · rw [if_pos c19] at hf
                              refine lv_aload_n hx hb d_M_odds_142 rfl (lv_at hl 3 rfl) ?_
                              refine va_get (D := (dC, dI)) (ci := 5) (v := .ref (a 8)) (C := "GuideSearchModel") (T := F_M) (N := 25) hx hb hT i_M hown hK hP 0 rfl rfl 12 (by decide) (hT _ k_519) (fun _ h9 => h9) rfl d_M_odds_143 ?_
                              refine lv_iload_n hx hb d_M_odds_146 rfl (lv_at hl 4 rfl) ?_
                              obtain ⟨j20, ej22, hi21, hf⟩ := ix_some hf
                              refine xa_iald hx hb hK hP 8 1 rfl rfl ej22 hi21 d_M_odds_147 ?_
                              refine lv_if_lt (tgt := 154) hx hb d_M_odds_148 (by decide) (fun c23 => ?_) (fun c23 => ?_)
                              · rw [if_pos c23] at hf
                                refine lv_aload_n hx hb d_M_odds_154 rfl (lv_at hl 3 rfl) ?_
                                refine va_get (D := (dC, dI)) (ci := 5) (v := .ref (a 7)) (C := "GuideSearchModel") (T := F_M) (N := 25) hx hb hT i_M hown hK hP 0 rfl rfl 11 (by decide) (hT _ k_518) (fun _ h9 => h9) rfl d_M_odds_155 ?_
                                refine lv_bipush (v := (39 : Int32)) hx hb d_M_odds_158 (by decide) ?_
                                refine lv_iload_n hx hb d_M_odds_160 rfl (lv_at hl 4 rfl) ?_
                                refine lv_imul hx hb d_M_odds_161 ?_
                                refine lv_iconst (v := (3 : Int32)) hx hb d_M_odds_162 (by decide) ?_
                                refine lv_iload_n hx hb d_M_odds_163 rfl (lv_at hl 5 rfl) ?_
                                refine lv_imul hx hb d_M_odds_164 ?_
                                refine lv_iadd hx hb d_M_odds_165 ?_
                                refine lv_iload_n hx hb d_M_odds_166 rfl (lv_at hl 6 rfl) ?_
                                refine lv_iadd hx hb d_M_odds_167 ?_
                                refine lv_iload hx hb d_M_odds_168 (lv_at hl 2 rfl) ?_
                                obtain ⟨j24, ej26, hi25, hf⟩ := ix_some hf
                                refine xa_iast hx hb hK hP (hD _) hS 7 1 rfl rfl ej26 hi25 d_M_odds_170 (fun H locs hP hS => ?_)
                                rw [m_odds_put cs a (m_code_s st (0 : Int32)) j24 (((12 : Int64) * p4) / p6).toInt32] at hP
                                refine lv_iload hx hb d_M_odds_171 (lv_at hl 1 rfl) ?_
                                exact W.iret hx hb hr (fun t ht _ => ⟨⟨_, (), rfl, congrArg Prod.fst (Option.some.inj hf), m_fin ht (congrArg Prod.snd (Option.some.inj hf)) hP⟩, hS.F ht⟩) hS.2.2 d_M_odds_173
                              · rw [if_neg c23] at hf
                                refine lv_bipush (v := (-3 : Int32)) hx hb d_M_odds_151 (by decide) ?_
                                exact W.iret hx hb hr (fun t ht _ => ⟨⟨_, (), rfl, congrArg Prod.fst (Option.some.inj hf), m_fin ht (congrArg Prod.snd (Option.some.inj hf)) hP⟩, hS.F ht⟩) hS.2.2 d_M_odds_153
                            · rw [if_neg c19] at hf
                              refine lv_bipush (v := (-2 : Int32)) hx hb d_M_odds_139 (by decide) ?_
                              exact W.iret hx hb hr (fun t ht _ => ⟨⟨_, (), rfl, congrArg Prod.fst (Option.some.inj hf), m_fin ht (congrArg Prod.snd (Option.some.inj hf)) hP⟩, hS.F ht⟩) hS.2.2 d_M_odds_141
                          · rw [if_neg c18] at hf
                            refine lv_iload hx hb d_M_odds_102 (lv_at hl 0 rfl) ?_
                            refine lv_iload_n hx hb d_M_odds_104 rfl (lv_at hl 6 rfl) ?_
                            refine lv_icmp_ne (tgt := 113) hx hb d_M_odds_105 (by decide) (fun c27 => ?_) (fun c27 => ?_)
                            · rw [if_neg c27] at hf
                              refine lv_iload hx hb d_M_odds_113 (lv_at hl 1 rfl) ?_
                              refine lv_aload_n hx hb d_M_odds_115 rfl (lv_at hl 3 rfl) ?_
                              refine lv_iload_n hx hb d_M_odds_116 rfl (lv_at hl 4 rfl) ?_
                              refine lv_iload_n hx hb d_M_odds_117 rfl (lv_at hl 5 rfl) ?_
                              refine lv_iload hx hb d_M_odds_118 (lv_at hl 0 rfl) ?_
                              obtain ⟨r29, hr28, hf⟩ := ob hf
                              refine ro_calli (va_runV (C := "GuideSearchModel") (As := [.int p1, .int p2, .int v16]) (rest := [.int v17]) ⟨hx, hb, hml, hown, hT⟩ (c_M_oddsOf l dC dI cs a (m_code_s st (0 : Int32)) p1 p2 v16 r29 hr28) (cwV 3 hT (gV k_621 k_623 ks_15 k_7 k_624) rfl rfl rfl (by decide +kernel) ⟨Nat.le_of_ble_eq_true rfl, Nat.le_of_ble_eq_true rfl⟩) (ro_preV hP hK hN (va_recv hK hP (ci := 5) (q0 := 0) rfl rfl)) rfl rfl hl.1 rfl (lv_room (Nat.le_of_ble_eq_true rfl)) d_M_odds_120 ⟨Nat.le_of_ble_eq_true rfl, Nat.le_of_ble_eq_true rfl⟩) ?_
                              refine lv_iadd hx hb d_M_odds_123 ?_
                              refine lv_istore (lv' := [(9, .int (v17 + r29)), (10, .int v16), (8, .int (((12 : Int64) * p4) / p6).toInt32), (0, .ref (a 0)), (1, .int p1), (2, .int p2), (3, .int p3)]) hx hb d_M_odds_124 hl (by decide) rfl (fun ls hl => ?_)
                              refine lv_iinc (v := (v16 + 1)) (lv' := [(10, .int (v16 + 1)), (9, .int (v17 + r29)), (8, .int (((12 : Int64) * p4) / p6).toInt32), (0, .ref (a 0)), (1, .int p1), (2, .int p2), (3, .int p3)]) hx hb d_M_odds_126 hl (k := 1) rfl rfl (by decide) rfl (fun ls hl => ?_)
                              refine lv_goto (tgt := 96) hx hb d_M_odds_129 (by decide) ?_
                              exact ih1 (v16 + 1) (v17 + r29) hf ls (lv_sub hl [0, 1, 2, 3, 4, 5, 6] rfl)
                            · rw [if_pos c27] at hf
                              refine lv_iload hx hb d_M_odds_108 (lv_at hl 1 rfl) ?_
                              refine lv_goto (tgt := 124) hx hb d_M_odds_110 (by decide) ?_
                              refine lv_istore (lv' := [(9, .int v17), (10, .int v16), (8, .int (((12 : Int64) * p4) / p6).toInt32), (0, .ref (a 0)), (1, .int p1), (2, .int p2), (3, .int p3)]) hx hb d_M_odds_124 hl (by decide) rfl (fun ls hl => ?_)
                              refine lv_iinc (v := (v16 + 1)) (lv' := [(10, .int (v16 + 1)), (9, .int v17), (8, .int (((12 : Int64) * p4) / p6).toInt32), (0, .ref (a 0)), (1, .int p1), (2, .int p2), (3, .int p3)]) hx hb d_M_odds_126 hl (k := 1) rfl rfl (by decide) rfl (fun ls hl => ?_)
                              refine lv_goto (tgt := 96) hx hb d_M_odds_129 (by decide) ?_
                              exact ih1 (v16 + 1) v17 hf ls (lv_sub hl [0, 1, 2, 3, 4, 5, 6] rfl)
                      exact loop1 _ (0 : Int32) (((12 : Int64) * p4) / p6).toInt32 hf ls (lv_sub hl [0, 1, 2, 3, 4, 5, 6] rfl)
                    · rw [if_neg (mt (lg_cmp_le _ _).mpr c14)] at hf
                      refine lv_bipush (v := (-2 : Int32)) hx hb d_M_odds_74 (by decide) ?_
                      exact W.iret hx hb hr (fun t ht _ => ⟨⟨_, (), rfl, congrArg Prod.fst (Option.some.inj hf), m_fin ht (congrArg Prod.snd (Option.some.inj hf)) hP⟩, hS.F ht⟩) hS.2.2 d_M_odds_76
      · rw [if_neg c6] at hf
        refine lv_iconst (v := (-1 : Int32)) hx hb d_M_odds_21 (by decide) ?_
        exact W.iret hx hb hr (fun t ht _ => ⟨⟨_, (), rfl, congrArg Prod.fst (Option.some.inj hf), m_fin ht (congrArg Prod.snd (Option.some.inj hf)) hP⟩, hS.F ht⟩) hS.2.2 d_M_odds_22
  exact main _ _ hP va_S.rf
set_option maxHeartbeats 4000000 in
set_option maxRecDepth 100000 in
theorem c_M_needs (l : Launch) (dC : Nat → ClassId) (dI : Nat → Nat → Nat) (cs : Nat → ClassId) (a : Nat → Nat) (hi : ∀ i j : Nat, i < 18 → j < 18 → a i = a j → i = j) (st : MS) (p1 : Int32) (p2 : Int32) (res : Int32 × MS) (hf : m_M_needs st p1 p2 = some res) : Met l (⟨"GuideSearchModel", "needs", "(II)I"⟩ : MethodName) (Cond.code (⟨"GuideSearchModel", "needs", "(II)I"⟩ : MethodName) prog_7_method_11_code 6 (some .int) :: wg) { frames := 1, cells := 0, slots := 0, locals := 21 } (va_Pc ([.ref (a 0), .int p1, .int p2] : List Value) (m_pre dC dI cs a st)) (va_Qi (fun r (_ : Unit) => r = res.1) (fun _ t => va_P (dC, dI) vwCl (m_W cs a res.2) t.heap) (m_A a)) 0 0 (m_A a) := by
  refine ro_start (cc := prog_7_method_11_code) (maxL := 6) (ret := (some .int)) (by decide) (Nat.le_of_ble_eq_true rfl) ?_
  intro p e s m below meth c hx hb hr hml hT hown hlocks hB ls hl
  replace hown : s.vm.findClass "GuideSearchModel" = some m.cls := hown
  obtain ⟨hP, hK, hN⟩ := hB
  replace hl : lv_has ls 6 [(0, .ref (a 0)), (1, .int p1), (2, .int p2)] := hl
  unfold m_M_needs at hf
  have hD : ∀ st : MS, va_D (m_A a) (m_W cs a st) := fun st => m_D hi cs st
  have main : ∀ (H : Heap) (locs : List Loc), va_P (dC, dI) vwCl (m_W cs a st) H → va_S (m_A a) s.heap H locs → W p l e { frames := 1, cells := 0, slots := 0, locals := 21 } s m ([.ref (a 0), .int p1, .int p2] : List Value).toArray below meth c H locs 0 0 (MQ below (va_Qi (fun r (_ : Unit) => r = res.1) (fun _ t => va_P (dC, dI) vwCl (m_W cs a res.2) t.heap) (m_A a)) ([.ref (a 0), .int p1, .int p2] : List Value).toArray s 0 0 (m_A a)) (F0 m 0 ls []) := by
    intro H locs hP hS
    refine lv_aload_n hx hb d_M_needs_0 rfl (lv_at hl 0 rfl) ?_
    refine lv_iconst (v := (0 : Int32)) hx hb d_M_needs_1 (by decide) ?_
    refine va_put (D := (dC, dI)) (ci := 5) (v := .int (0 : Int32)) (ty := .int) (C := "GuideSearchModel") (T := F_M) (N := 25) hx hb hT i_M ft_M ft_M_ok n_M hown hK hP (hD _) hS 0 rfl rfl 0 (by decide) (hT _ k_507) (fun _ h9 => h9) rfl (by decide +kernel) rfl rfl (Nat.le_of_ble_eq_true rfl) d_M_needs_2 (fun H locs hP _ hS => ?_)
    rw [m_code_put cs a st (0 : Int32)] at hP
    refine lv_aload_n hx hb d_M_needs_5 rfl (lv_at hl 0 rfl) ?_
    refine lv_iload_n hx hb d_M_needs_6 rfl (lv_at hl 1 rfl) ?_
    obtain ⟨r2, hr1, hf⟩ := ob hf
    refine ro_calli (va_runV (C := "GuideSearchModel") (As := [.int p1]) (rest := []) ⟨hx, hb, hml, hown, hT⟩ (c_M_noTest l dC dI cs a (m_code_s st (0 : Int32)) p1 r2 hr1) (cwV 1 hT (gV k_616 k_618 ks_14 k_7 k_619) rfl rfl rfl (by decide +kernel) ⟨Nat.le_of_ble_eq_true rfl, Nat.le_of_ble_eq_true rfl⟩) (ro_preV hP hK hN (va_recv hK hP (ci := 5) (q0 := 0) rfl rfl)) rfl rfl hl.1 rfl (lv_room (Nat.le_of_ble_eq_true rfl)) d_M_needs_7 ⟨Nat.le_of_ble_eq_true rfl, Nat.le_of_ble_eq_true rfl⟩) ?_
    refine lv_if_ne (tgt := 21) hx hb d_M_needs_10 (by decide) (fun c3 => ?_) (fun c3 => ?_)
    · rw [if_neg c3] at hf
      refine lv_iconst (v := (-1 : Int32)) hx hb d_M_needs_21 (by decide) ?_
      exact W.iret hx hb hr (fun t ht _ => ⟨⟨_, (), rfl, congrArg Prod.fst (Option.some.inj hf), m_fin ht (congrArg Prod.snd (Option.some.inj hf)) hP⟩, hS.F ht⟩) hS.2.2 d_M_needs_22
    · rw [if_pos c3] at hf
      refine lv_aload_n hx hb d_M_needs_13 rfl (lv_at hl 0 rfl) ?_
      refine lv_iload_n hx hb d_M_needs_14 rfl (lv_at hl 2 rfl) ?_
      obtain ⟨r5, hr4, hf⟩ := ob hf
      refine ro_calli (va_runV (C := "GuideSearchModel") (As := [.int p2]) (rest := []) ⟨hx, hb, hml, hown, hT⟩ (c_M_noTest l dC dI cs a (m_code_s st (0 : Int32)) p2 r5 hr4) (cwV 1 hT (gV k_616 k_618 ks_14 k_7 k_619) rfl rfl rfl (by decide +kernel) ⟨Nat.le_of_ble_eq_true rfl, Nat.le_of_ble_eq_true rfl⟩) (ro_preV hP hK hN (va_recv hK hP (ci := 5) (q0 := 0) rfl rfl)) rfl rfl hl.1 rfl (lv_room (Nat.le_of_ble_eq_true rfl)) d_M_needs_15 ⟨Nat.le_of_ble_eq_true rfl, Nat.le_of_ble_eq_true rfl⟩) ?_
      refine lv_if_eq (tgt := 23) hx hb d_M_needs_18 (by decide) (fun c6 => ?_) (fun c6 => ?_)
      · rw [if_pos c6] at hf
        refine lv_iload_n hx hb d_M_needs_23 rfl (lv_at hl 1 rfl) ?_
        refine lv_iload_n hx hb d_M_needs_24 rfl (lv_at hl 2 rfl) ?_
        refine lv_icmp_ne (tgt := 31) hx hb d_M_needs_25 (by decide) (fun c7 => ?_) (fun c7 => ?_)
        · rw [if_neg c7] at hf
          refine lv_iconst (v := (0 : Int32)) hx hb d_M_needs_31 (by decide) ?_
          refine lv_istore_n (lv' := [(3, .int (0 : Int32)), (0, .ref (a 0)), (1, .int p1), (2, .int p2)]) hx hb d_M_needs_32 rfl hl (by decide) rfl (fun ls hl => ?_)
          have loop1 : ∀ (n : Nat) (v8 : Int32) (s9 : MS), xl2 (m_M_needs_B1 p1 p2) n v8 s9 = some res → ∀ (H : Heap) (locs : List Loc), va_P (dC, dI) vwCl (m_W cs a s9) H → va_S (m_A a) s.heap H locs → ∀ (ls : Array Slot), lv_has ls 6 [(3, .int v8), (0, .ref (a 0)), (1, .int p1), (2, .int p2)] → W p l e { frames := 1, cells := 0, slots := 0, locals := 21 } s m ([.ref (a 0), .int p1, .int p2] : List Value).toArray below meth c H locs 0 0 (MQ below (va_Qi (fun r (_ : Unit) => r = res.1) (fun _ t => va_P (dC, dI) vwCl (m_W cs a res.2) t.heap) (m_A a)) ([.ref (a 0), .int p1, .int p2] : List Value).toArray s 0 0 (m_A a)) (F0 m 33 ls []) := by
            intro n
            induction n with
            | zero => intro v8 s9 hf; exact absurd hf (by simp [xl2])
            | succ n ih1 =>
              intro v8 s9 hf H locs hP hS ls hl
              replace hf : (m_M_needs_B1 p1 p2) (xl2 (m_M_needs_B1 p1 p2) n) v8 s9 = some res := hf
              generalize xl2 (m_M_needs_B1 p1 p2) n = self1 at hf ih1
              unfold m_M_needs_B1 at hf
              refine lv_iload_n hx hb d_M_needs_33 rfl (lv_at hl 0 rfl) ?_
              refine lv_bipush (v := (7 : Int32)) hx hb d_M_needs_34 (by decide) ?_
              refine lv_icmp_ge (tgt := 61) hx hb d_M_needs_36 (by decide) (fun c10 => ?_) (fun c10 => ?_)
              · rw [if_pos c10] at hf
                refine lv_iconst (v := (0 : Int32)) hx hb d_M_needs_61 (by decide) ?_
                refine lv_istore_n (lv' := [(3, .int (0 : Int32)), (0, .ref (a 0)), (1, .int p1), (2, .int p2)]) hx hb d_M_needs_62 rfl hl (by decide) rfl (fun ls hl => ?_)
                have loop2 : ∀ (n : Nat) (v11 : Int32) (s12 : MS), xl2 (m_M_needs_B2 p1 p2) n v11 s12 = some res → ∀ (H : Heap) (locs : List Loc), va_P (dC, dI) vwCl (m_W cs a s12) H → va_S (m_A a) s.heap H locs → ∀ (ls : Array Slot), lv_has ls 6 [(3, .int v11), (0, .ref (a 0)), (1, .int p1), (2, .int p2)] → W p l e { frames := 1, cells := 0, slots := 0, locals := 21 } s m ([.ref (a 0), .int p1, .int p2] : List Value).toArray below meth c H locs 0 0 (MQ below (va_Qi (fun r (_ : Unit) => r = res.1) (fun _ t => va_P (dC, dI) vwCl (m_W cs a res.2) t.heap) (m_A a)) ([.ref (a 0), .int p1, .int p2] : List Value).toArray s 0 0 (m_A a)) (F0 m 63 ls []) := by
                  intro n
                  induction n with
                  | zero => intro v11 s12 hf; exact absurd hf (by simp [xl2])
                  | succ n ih2 =>
                    intro v11 s12 hf H locs hP hS ls hl
                    replace hf : (m_M_needs_B2 p1 p2) (xl2 (m_M_needs_B2 p1 p2) n) v11 s12 = some res := hf
                    generalize xl2 (m_M_needs_B2 p1 p2) n = self2 at hf ih2
                    unfold m_M_needs_B2 at hf
                    refine lv_iload_n hx hb d_M_needs_63 rfl (lv_at hl 0 rfl) ?_
                    refine lv_bipush (v := (6 : Int32)) hx hb d_M_needs_64 (by decide) ?_
                    refine lv_icmp_ge (tgt := 155) hx hb d_M_needs_66 (by decide) (fun c13 => ?_) (fun c13 => ?_)
                    · rw [if_pos c13] at hf
                      refine lv_aload_n hx hb d_M_needs_155 rfl (lv_at hl 1 rfl) ?_
                      refine va_get (D := (dC, dI)) (ci := 5) (v := .ref (a 16)) (C := "GuideSearchModel") (T := F_M) (N := 25) hx hb hT i_M hown hK hP 0 rfl rfl 23 (by decide) (hT _ k_530) (fun _ h9 => h9) rfl d_M_needs_156 ?_
                      refine lv_iload_n hx hb d_M_needs_159 rfl (lv_at hl 2 rfl) ?_
                      obtain ⟨j14, ej16, hi15, hf⟩ := ix_some hf
                      refine xa_zald hx hb hK hP 16 5 rfl rfl ej16 hi15 d_M_needs_160 ?_
                      refine lv_if_eq (tgt := 167) hx hb d_M_needs_161 (by decide) (fun c17 => ?_) (fun c17 => ?_)
                      · rw [if_pos c17] at hf
                        refine lv_aload_n hx hb d_M_needs_167 rfl (lv_at hl 1 rfl) ?_
                        refine va_get (D := (dC, dI)) (ci := 5) (v := .ref (a 6)) (C := "GuideSearchModel") (T := F_M) (N := 25) hx hb hT i_M hown hK hP 0 rfl rfl 10 (by decide) (hT _ k_517) (fun _ h9 => h9) rfl d_M_needs_168 ?_
                        refine lv_bipush (v := (7 : Int32)) hx hb d_M_needs_171 (by decide) ?_
                        refine lv_iload_n hx hb d_M_needs_173 rfl (lv_at hl 2 rfl) ?_
                        refine lv_imul hx hb d_M_needs_174 ?_
                        refine lv_iload_n hx hb d_M_needs_175 rfl (lv_at hl 3 rfl) ?_
                        refine lv_iadd hx hb d_M_needs_176 ?_
                        refine lv_iconst (v := (1 : Int32)) hx hb d_M_needs_177 (by decide) ?_
                        obtain ⟨j18, ej20, hi19, hf⟩ := ix_some hf
                        refine xa_zast hx hb hK hP (hD _) hS 6 5 rfl rfl ej20 hi19 d_M_needs_178 (fun H locs hP hS => ?_)
                        rw [m_needs_put cs a s12 j18 (vp_nar .boolean (1 : Int32))] at hP
                        refine lv_iconst (v := (0 : Int32)) hx hb d_M_needs_179 (by decide) ?_
                        refine lv_istore_n (lv' := [(3, .int (0 : Int32)), (0, .ref (a 0)), (1, .int p1), (2, .int p2)]) hx hb d_M_needs_180 rfl hl (by decide) rfl (fun ls hl => ?_)
                        refine lv_iconst (v := (1 : Int32)) hx hb d_M_needs_181 (by decide) ?_
                        refine lv_istore (lv' := [(4, .int (1 : Int32)), (3, .int (0 : Int32)), (0, .ref (a 0)), (1, .int p1), (2, .int p2)]) hx hb d_M_needs_182 hl (by decide) rfl (fun ls hl => ?_)
                        have loop3 : ∀ (n : Nat) (v21 : Int32) (v22 : Int32), xl2 (m_M_needs_B3 p1 s12 j18) n v21 v22 = some res → ∀ (ls : Array Slot), lv_has ls 6 [(4, .int v21), (3, .int v22), (0, .ref (a 0)), (1, .int p1)] → W p l e { frames := 1, cells := 0, slots := 0, locals := 21 } s m ([.ref (a 0), .int p1, .int p2] : List Value).toArray below meth c H locs 0 0 (MQ below (va_Qi (fun r (_ : Unit) => r = res.1) (fun _ t => va_P (dC, dI) vwCl (m_W cs a res.2) t.heap) (m_A a)) ([.ref (a 0), .int p1, .int p2] : List Value).toArray s 0 0 (m_A a)) (F0 m 184 ls []) := by
                          intro n
                          induction n with
                          | zero => intro v21 v22 hf; exact absurd hf (by simp [xl2])
                          | succ n ih3 =>
                            intro v21 v22 hf ls hl
                            replace hf : (m_M_needs_B3 p1 s12 j18) (xl2 (m_M_needs_B3 p1 s12 j18) n) v21 v22 = some res := hf
                            generalize xl2 (m_M_needs_B3 p1 s12 j18) n = self3 at hf ih3
                            unfold m_M_needs_B3 at hf
                            refine lv_iload hx hb d_M_needs_184 (lv_at hl 0 rfl) ?_
                            refine lv_bipush (v := (7 : Int32)) hx hb d_M_needs_186 (by decide) ?_
                            refine lv_icmp_ge (tgt := 220) hx hb d_M_needs_188 (by decide) (fun c23 => ?_) (fun c23 => ?_)
                            · rw [if_pos c23] at hf
                              refine lv_iload_n hx hb d_M_needs_220 rfl (lv_at hl 1 rfl) ?_
                              exact W.iret hx hb hr (fun t ht _ => ⟨⟨_, (), rfl, congrArg Prod.fst (Option.some.inj hf), m_fin ht (congrArg Prod.snd (Option.some.inj hf)) hP⟩, hS.F ht⟩) hS.2.2 d_M_needs_221
                            · rw [if_neg c23] at hf
                              refine lv_aload_n hx hb d_M_needs_191 rfl (lv_at hl 2 rfl) ?_
                              refine va_get (D := (dC, dI)) (ci := 5) (v := .ref (a 6)) (C := "GuideSearchModel") (T := F_M) (N := 25) hx hb hT i_M hown hK hP 0 rfl rfl 10 (by decide) (hT _ k_517) (fun _ h9 => h9) rfl d_M_needs_192 ?_
                              refine lv_bipush (v := (7 : Int32)) hx hb d_M_needs_195 (by decide) ?_
                              refine lv_iload_n hx hb d_M_needs_197 rfl (lv_at hl 3 rfl) ?_
                              refine lv_imul hx hb d_M_needs_198 ?_
                              refine lv_iload hx hb d_M_needs_199 (lv_at hl 0 rfl) ?_
                              refine lv_iadd hx hb d_M_needs_201 ?_
                              obtain ⟨j24, ej26, hi25, hf⟩ := ix_some hf
                              refine xa_zald hx hb hK hP 6 5 rfl rfl ej26 hi25 d_M_needs_202 ?_
                              refine lv_if_eq (tgt := 212) hx hb d_M_needs_203 (by decide) (fun c27 => ?_) (fun c27 => ?_)
                              · rw [if_pos c27] at hf
                                refine lv_iload_n hx hb d_M_needs_212 rfl (lv_at hl 1 rfl) ?_
                                refine lv_istore_n (lv' := [(3, .int v22), (4, .int v21), (0, .ref (a 0)), (1, .int p1)]) hx hb d_M_needs_213 rfl hl (by decide) rfl (fun ls hl => ?_)
                                refine lv_iinc (v := (v21 + 1)) (lv' := [(4, .int (v21 + 1)), (3, .int v22), (0, .ref (a 0)), (1, .int p1)]) hx hb d_M_needs_214 hl (k := 1) rfl rfl (by decide) rfl (fun ls hl => ?_)
                                refine lv_goto (tgt := 184) hx hb d_M_needs_217 (by decide) ?_
                                exact ih3 (v21 + 1) v22 hf ls (lv_sub hl [0, 1, 2, 3] rfl)
                              · rw [if_neg c27] at hf
                                refine lv_iload_n hx hb d_M_needs_206 rfl (lv_at hl 1 rfl) ?_
                                refine lv_iconst (v := (1 : Int32)) hx hb d_M_needs_207 (by decide) ?_
                                refine lv_iadd hx hb d_M_needs_208 ?_
                                refine lv_goto (tgt := 213) hx hb d_M_needs_209 (by decide) ?_
                                refine lv_istore_n (lv' := [(3, .int (v22 + (1 : Int32))), (4, .int v21), (0, .ref (a 0)), (1, .int p1)]) hx hb d_M_needs_213 rfl hl (by decide) rfl (fun ls hl => ?_)
                                refine lv_iinc (v := (v21 + 1)) (lv' := [(4, .int (v21 + 1)), (3, .int (v22 + (1 : Int32))), (0, .ref (a 0)), (1, .int p1)]) hx hb d_M_needs_214 hl (k := 1) rfl rfl (by decide) rfl (fun ls hl => ?_)
                                refine lv_goto (tgt := 184) hx hb d_M_needs_217 (by decide) ?_
                                exact ih3 (v21 + 1) (v22 + (1 : Int32)) hf ls (lv_sub hl [0, 1, 2, 3] rfl)
                        exact loop3 _ (1 : Int32) (0 : Int32) hf ls (lv_sub hl [0, 1, 2, 3] rfl)
                      · rw [if_neg c17] at hf
                        refine lv_bipush (v := (-3 : Int32)) hx hb d_M_needs_164 (by decide) ?_
                        exact W.iret hx hb hr (fun t ht _ => ⟨⟨_, (), rfl, congrArg Prod.fst (Option.some.inj hf), m_fin ht (congrArg Prod.snd (Option.some.inj hf)) hP⟩, hS.F ht⟩) hS.2.2 d_M_needs_166
                    · rw [if_neg c13] at hf
                      refine lv_iconst (v := (1 : Int32)) hx hb d_M_needs_69 (by decide) ?_
                      refine lv_istore (lv' := [(4, .int (1 : Int32)), (3, .int v11), (0, .ref (a 0)), (1, .int p1), (2, .int p2)]) hx hb d_M_needs_70 hl (by decide) rfl (fun ls hl => ?_)
                      have loop4 : ∀ (n : Nat) (v28 : Int32) (s29 : MS), xl2 (m_M_needs_B4 v11 self2) n v28 s29 = some res → ∀ (H : Heap) (locs : List Loc), va_P (dC, dI) vwCl (m_W cs a s29) H → va_S (m_A a) s.heap H locs → ∀ (ls : Array Slot), lv_has ls 6 [(4, .int v28), (3, .int v11), (0, .ref (a 0)), (1, .int p1), (2, .int p2)] → W p l e { frames := 1, cells := 0, slots := 0, locals := 21 } s m ([.ref (a 0), .int p1, .int p2] : List Value).toArray below meth c H locs 0 0 (MQ below (va_Qi (fun r (_ : Unit) => r = res.1) (fun _ t => va_P (dC, dI) vwCl (m_W cs a res.2) t.heap) (m_A a)) ([.ref (a 0), .int p1, .int p2] : List Value).toArray s 0 0 (m_A a)) (F0 m 72 ls []) := by
                        intro n
                        induction n with
                        | zero => intro v28 s29 hf; exact absurd hf (by simp [xl2])
                        | succ n ih4 =>
                          intro v28 s29 hf H locs hP hS ls hl
                          replace hf : (m_M_needs_B4 v11 self2) (xl2 (m_M_needs_B4 v11 self2) n) v28 s29 = some res := hf
                          generalize xl2 (m_M_needs_B4 v11 self2) n = self4 at hf ih4
                          unfold m_M_needs_B4 at hf
                          refine lv_iload hx hb d_M_needs_72 (lv_at hl 0 rfl) ?_
                          refine lv_bipush (v := (7 : Int32)) hx hb d_M_needs_74 (by decide) ?_
                          refine lv_icmp_ge (tgt := 149) hx hb d_M_needs_76 (by decide) (fun c30 => ?_) (fun c30 => ?_)
                          · rw [if_pos c30] at hf
                            refine lv_iinc (v := (v11 + 1)) (lv' := [(3, .int (v11 + 1)), (4, .int v28), (0, .ref (a 0)), (1, .int p1), (2, .int p2)]) hx hb d_M_needs_149 hl (k := 1) rfl rfl (by decide) rfl (fun ls hl => ?_)
                            refine lv_goto (tgt := 63) hx hb d_M_needs_152 (by decide) ?_
                            exact ih2 (v11 + 1) s29 hf _ _ hP hS ls (lv_sub hl [0, 2, 3, 4] rfl)
                          · rw [if_neg c30] at hf
                            refine lv_iconst (v := (1 : Int32)) hx hb d_M_needs_79 (by decide) ?_
                            refine lv_istore (lv' := [(5, .int (1 : Int32)), (4, .int v28), (3, .int v11), (0, .ref (a 0)), (1, .int p1), (2, .int p2)]) hx hb d_M_needs_80 hl (by decide) rfl (fun ls hl => ?_)
                            have loop5 : ∀ (n : Nat) (v31 : Int32) (s32 : MS), xl2 (m_M_needs_B5 v28 self4) n v31 s32 = some res → ∀ (H : Heap) (locs : List Loc), va_P (dC, dI) vwCl (m_W cs a s32) H → va_S (m_A a) s.heap H locs → ∀ (ls : Array Slot), lv_has ls 6 [(5, .int v31), (4, .int v28), (3, .int v11), (0, .ref (a 0)), (1, .int p1), (2, .int p2)] → W p l e { frames := 1, cells := 0, slots := 0, locals := 21 } s m ([.ref (a 0), .int p1, .int p2] : List Value).toArray below meth c H locs 0 0 (MQ below (va_Qi (fun r (_ : Unit) => r = res.1) (fun _ t => va_P (dC, dI) vwCl (m_W cs a res.2) t.heap) (m_A a)) ([.ref (a 0), .int p1, .int p2] : List Value).toArray s 0 0 (m_A a)) (F0 m 82 ls []) := by
                              intro n
                              induction n with
                              | zero => intro v31 s32 hf; exact absurd hf (by simp [xl2])
                              | succ n ih5 =>
                                intro v31 s32 hf H locs hP hS ls hl
                                replace hf : (m_M_needs_B5 v28 self4) (xl2 (m_M_needs_B5 v28 self4) n) v31 s32 = some res := hf
                                generalize xl2 (m_M_needs_B5 v28 self4) n = self5 at hf ih5
                                unfold m_M_needs_B5 at hf
                                refine lv_iload hx hb d_M_needs_82 (lv_at hl 0 rfl) ?_
                                refine lv_bipush (v := (7 : Int32)) hx hb d_M_needs_84 (by decide) ?_
                                refine lv_icmp_ge (tgt := 143) hx hb d_M_needs_86 (by decide) (fun c33 => ?_) (fun c33 => ?_)
                                · rw [if_pos c33] at hf
                                  refine lv_iinc (v := (v28 + 1)) (lv' := [(4, .int (v28 + 1)), (5, .int v31), (3, .int v11), (0, .ref (a 0)), (1, .int p1), (2, .int p2)]) hx hb d_M_needs_143 hl (k := 1) rfl rfl (by decide) rfl (fun ls hl => ?_)
                                  refine lv_goto (tgt := 72) hx hb d_M_needs_146 (by decide) ?_
                                  exact ih4 (v28 + 1) s32 hf _ _ hP hS ls (lv_sub hl [0, 2, 3, 4, 5] rfl)
                                · rw [if_neg c33] at hf
                                  refine lv_aload_n hx hb d_M_needs_89 rfl (lv_at hl 3 rfl) ?_
                                  refine va_get (D := (dC, dI)) (ci := 5) (v := .ref (a 16)) (C := "GuideSearchModel") (T := F_M) (N := 25) hx hb hT i_M hown hK hP 0 rfl rfl 23 (by decide) (hT _ k_530) (fun _ h9 => h9) rfl d_M_needs_90 ?_
                                  refine lv_iload hx hb d_M_needs_93 (lv_at hl 0 rfl) ?_
                                  refine lv_aload_n hx hb d_M_needs_95 rfl (lv_at hl 3 rfl) ?_
                                  refine va_get (D := (dC, dI)) (ci := 5) (v := .ref (a 16)) (C := "GuideSearchModel") (T := F_M) (N := 25) hx hb hT i_M hown hK hP 0 rfl rfl 23 (by decide) (hT _ k_530) (fun _ h9 => h9) rfl d_M_needs_96 ?_
                                  refine lv_iload hx hb d_M_needs_99 (lv_at hl 0 rfl) ?_
                                  obtain ⟨j34, ej36, hi35, hf⟩ := ix_some hf
                                  refine xa_zald hx hb hK hP 16 5 rfl rfl ej36 hi35 d_M_needs_101 ?_
                                  refine lv_if_ne (tgt := 131) hx hb d_M_needs_102 (by decide) (fun c37 => ?_) (fun c37 => ?_)
                                  · rw [if_neg c37] at hf
                                    refine lv_iconst (v := (1 : Int32)) hx hb d_M_needs_131 (by decide) ?_
                                    refine lv_goto (tgt := 136) hx hb d_M_needs_132 (by decide) ?_
                                    obtain ⟨j38, ej40, hi39, hf⟩ := ix_some hf
                                    refine xa_zast hx hb hK hP (hD _) hS 16 5 rfl rfl ej40 hi39 d_M_needs_136 (fun H locs hP hS => ?_)
                                    rw [m_found_put cs a s32 j38 (vp_nar .boolean (1 : Int32))] at hP
                                    refine lv_iinc (v := (v31 + 1)) (lv' := [(5, .int (v31 + 1)), (4, .int v28), (3, .int v11), (0, .ref (a 0)), (1, .int p1), (2, .int p2)]) hx hb d_M_needs_137 hl (k := 0) rfl rfl (by decide) rfl (fun ls hl => ?_)
                                    refine lv_goto (tgt := 82) hx hb d_M_needs_140 (by decide) ?_
                                    exact ih5 (v31 + 1) (m_found_s s32 j38 (vp_nar .boolean (1 : Int32))) hf _ _ hP hS ls (lv_sub hl [0, 1, 2, 3, 4, 5] rfl)
                                  · rw [if_pos c37] at hf
                                    refine lv_aload_n hx hb d_M_needs_105 rfl (lv_at hl 3 rfl) ?_
                                    refine va_get (D := (dC, dI)) (ci := 5) (v := .ref (a 16)) (C := "GuideSearchModel") (T := F_M) (N := 25) hx hb hT i_M hown hK hP 0 rfl rfl 23 (by decide) (hT _ k_530) (fun _ h9 => h9) rfl d_M_needs_106 ?_
                                    refine lv_iload hx hb d_M_needs_109 (lv_at hl 1 rfl) ?_
                                    obtain ⟨j41, ej43, hi42, hf⟩ := ix_some hf
                                    refine xa_zald hx hb hK hP 16 5 rfl rfl ej43 hi42 d_M_needs_111 ?_
                                    refine lv_if_eq (tgt := 135) hx hb d_M_needs_112 (by decide) (fun c44 => ?_) (fun c44 => ?_)
                                    · rw [if_pos c44] at hf
                                      refine lv_iconst (v := (0 : Int32)) hx hb d_M_needs_135 (by decide) ?_
                                      obtain ⟨j45, ej47, hi46, hf⟩ := ix_some hf
                                      refine xa_zast hx hb hK hP (hD _) hS 16 5 rfl rfl ej47 hi46 d_M_needs_136 (fun H locs hP hS => ?_)
                                      rw [m_found_put cs a s32 j45 (vp_nar .boolean (0 : Int32))] at hP
                                      refine lv_iinc (v := (v31 + 1)) (lv' := [(5, .int (v31 + 1)), (4, .int v28), (3, .int v11), (0, .ref (a 0)), (1, .int p1), (2, .int p2)]) hx hb d_M_needs_137 hl (k := 0) rfl rfl (by decide) rfl (fun ls hl => ?_)
                                      refine lv_goto (tgt := 82) hx hb d_M_needs_140 (by decide) ?_
                                      exact ih5 (v31 + 1) (m_found_s s32 j45 (vp_nar .boolean (0 : Int32))) hf _ _ hP hS ls (lv_sub hl [0, 1, 2, 3, 4, 5] rfl)
                                    · rw [if_neg c44] at hf
                                      refine lv_aload_n hx hb d_M_needs_115 rfl (lv_at hl 3 rfl) ?_
                                      refine va_get (D := (dC, dI)) (ci := 5) (v := .ref (a 6)) (C := "GuideSearchModel") (T := F_M) (N := 25) hx hb hT i_M hown hK hP 0 rfl rfl 10 (by decide) (hT _ k_517) (fun _ h9 => h9) rfl d_M_needs_116 ?_
                                      refine lv_bipush (v := (7 : Int32)) hx hb d_M_needs_119 (by decide) ?_
                                      refine lv_iload hx hb d_M_needs_121 (lv_at hl 1 rfl) ?_
                                      refine lv_imul hx hb d_M_needs_123 ?_
                                      refine lv_iload hx hb d_M_needs_124 (lv_at hl 0 rfl) ?_
                                      refine lv_iadd hx hb d_M_needs_126 ?_
                                      obtain ⟨j48, ej50, hi49, hf⟩ := ix_some hf
                                      refine xa_zald hx hb hK hP 6 5 rfl rfl ej50 hi49 d_M_needs_127 ?_
                                      refine lv_if_eq (tgt := 135) hx hb d_M_needs_128 (by decide) (fun c51 => ?_) (fun c51 => ?_)
                                      · rw [if_pos c51] at hf
                                        refine lv_iconst (v := (0 : Int32)) hx hb d_M_needs_135 (by decide) ?_
                                        obtain ⟨j52, ej54, hi53, hf⟩ := ix_some hf
                                        refine xa_zast hx hb hK hP (hD _) hS 16 5 rfl rfl ej54 hi53 d_M_needs_136 (fun H locs hP hS => ?_)
                                        rw [m_found_put cs a s32 j52 (vp_nar .boolean (0 : Int32))] at hP
                                        refine lv_iinc (v := (v31 + 1)) (lv' := [(5, .int (v31 + 1)), (4, .int v28), (3, .int v11), (0, .ref (a 0)), (1, .int p1), (2, .int p2)]) hx hb d_M_needs_137 hl (k := 0) rfl rfl (by decide) rfl (fun ls hl => ?_)
                                        refine lv_goto (tgt := 82) hx hb d_M_needs_140 (by decide) ?_
                                        exact ih5 (v31 + 1) (m_found_s s32 j52 (vp_nar .boolean (0 : Int32))) hf _ _ hP hS ls (lv_sub hl [0, 1, 2, 3, 4, 5] rfl)
                                      · rw [if_neg c51] at hf
                                        refine lv_iconst (v := (1 : Int32)) hx hb d_M_needs_131 (by decide) ?_
                                        refine lv_goto (tgt := 136) hx hb d_M_needs_132 (by decide) ?_
                                        obtain ⟨j55, ej57, hi56, hf⟩ := ix_some hf
                                        refine xa_zast hx hb hK hP (hD _) hS 16 5 rfl rfl ej57 hi56 d_M_needs_136 (fun H locs hP hS => ?_)
                                        rw [m_found_put cs a s32 j55 (vp_nar .boolean (1 : Int32))] at hP
                                        refine lv_iinc (v := (v31 + 1)) (lv' := [(5, .int (v31 + 1)), (4, .int v28), (3, .int v11), (0, .ref (a 0)), (1, .int p1), (2, .int p2)]) hx hb d_M_needs_137 hl (k := 0) rfl rfl (by decide) rfl (fun ls hl => ?_)
                                        refine lv_goto (tgt := 82) hx hb d_M_needs_140 (by decide) ?_
                                        exact ih5 (v31 + 1) (m_found_s s32 j55 (vp_nar .boolean (1 : Int32))) hf _ _ hP hS ls (lv_sub hl [0, 1, 2, 3, 4, 5] rfl)
                            exact loop5 _ (1 : Int32) s29 hf _ _ hP hS ls (lv_sub hl [0, 1, 2, 3, 4, 5] rfl)
                      exact loop4 _ (1 : Int32) s12 hf _ _ hP hS ls (lv_sub hl [0, 1, 2, 3, 4] rfl)
                exact loop2 _ (0 : Int32) s9 hf _ _ hP hS ls (lv_sub hl [0, 1, 2, 3] rfl)
              · rw [if_neg c10] at hf
                refine lv_aload_n hx hb d_M_needs_39 rfl (lv_at hl 1 rfl) ?_
                refine va_get (D := (dC, dI)) (ci := 5) (v := .ref (a 16)) (C := "GuideSearchModel") (T := F_M) (N := 25) hx hb hT i_M hown hK hP 0 rfl rfl 23 (by decide) (hT _ k_530) (fun _ h9 => h9) rfl d_M_needs_40 ?_
                refine lv_iload_n hx hb d_M_needs_43 rfl (lv_at hl 0 rfl) ?_
                refine lv_iload_n hx hb d_M_needs_44 rfl (lv_at hl 0 rfl) ?_
                refine lv_iload_n hx hb d_M_needs_45 rfl (lv_at hl 3 rfl) ?_
                refine lv_icmp_ne (tgt := 53) hx hb d_M_needs_46 (by decide) (fun c58 => ?_) (fun c58 => ?_)
                · rw [if_neg c58] at hf
                  refine lv_iconst (v := (0 : Int32)) hx hb d_M_needs_53 (by decide) ?_
                  obtain ⟨j59, ej61, hi60, hf⟩ := ix_some hf
                  refine xa_zast hx hb hK hP (hD _) hS 16 5 rfl rfl ej61 hi60 d_M_needs_54 (fun H locs hP hS => ?_)
                  rw [m_found_put cs a s9 j59 (vp_nar .boolean (0 : Int32))] at hP
                  refine lv_iinc (v := (v8 + 1)) (lv' := [(3, .int (v8 + 1)), (0, .ref (a 0)), (1, .int p1), (2, .int p2)]) hx hb d_M_needs_55 hl (k := 0) rfl rfl (by decide) rfl (fun ls hl => ?_)
                  refine lv_goto (tgt := 33) hx hb d_M_needs_58 (by decide) ?_
                  exact ih1 (v8 + 1) (m_found_s s9 j59 (vp_nar .boolean (0 : Int32))) hf _ _ hP hS ls (lv_sub hl [0, 1, 2, 3] rfl)
                · rw [if_pos c58] at hf
                  refine lv_iconst (v := (1 : Int32)) hx hb d_M_needs_49 (by decide) ?_
                  refine lv_goto (tgt := 54) hx hb d_M_needs_50 (by decide) ?_
                  obtain ⟨j62, ej64, hi63, hf⟩ := ix_some hf
                  refine xa_zast hx hb hK hP (hD _) hS 16 5 rfl rfl ej64 hi63 d_M_needs_54 (fun H locs hP hS => ?_)
                  rw [m_found_put cs a s9 j62 (vp_nar .boolean (1 : Int32))] at hP
                  refine lv_iinc (v := (v8 + 1)) (lv' := [(3, .int (v8 + 1)), (0, .ref (a 0)), (1, .int p1), (2, .int p2)]) hx hb d_M_needs_55 hl (k := 0) rfl rfl (by decide) rfl (fun ls hl => ?_)
                  refine lv_goto (tgt := 33) hx hb d_M_needs_58 (by decide) ?_
                  exact ih1 (v8 + 1) (m_found_s s9 j62 (vp_nar .boolean (1 : Int32))) hf _ _ hP hS ls (lv_sub hl [0, 1, 2, 3] rfl)
          exact loop1 _ (0 : Int32) (m_code_s st (0 : Int32)) hf _ _ hP hS ls (lv_sub hl [0, 1, 2, 3] rfl)
        · rw [if_pos c7] at hf
          refine lv_bipush (v := (-2 : Int32)) hx hb d_M_needs_28 (by decide) ?_
          exact W.iret hx hb hr (fun t ht _ => ⟨⟨_, (), rfl, congrArg Prod.fst (Option.some.inj hf), m_fin ht (congrArg Prod.snd (Option.some.inj hf)) hP⟩, hS.F ht⟩) hS.2.2 d_M_needs_30
      · rw [if_neg c6] at hf
        refine lv_iconst (v := (-1 : Int32)) hx hb d_M_needs_21 (by decide) ?_
        exact W.iret hx hb hr (fun t ht _ => ⟨⟨_, (), rfl, congrArg Prod.fst (Option.some.inj hf), m_fin ht (congrArg Prod.snd (Option.some.inj hf)) hP⟩, hS.F ht⟩) hS.2.2 d_M_needs_22
  exact main _ _ hP va_S.rf
set_option maxHeartbeats 4000000 in
set_option maxRecDepth 100000 in
theorem c_M_look (l : Launch) (dC : Nat → ClassId) (dI : Nat → Nat → Nat) (cs : Nat → ClassId) (a : Nat → Nat) (hi : ∀ i j : Nat, i < 18 → j < 18 → a i = a j → i = j) (st : MS) (p1 : Int32) (res : MS) (hf : m_M_look st p1 = some res) : Met l (⟨"GuideSearchModel", "look", "(I)V"⟩ : MethodName) (Cond.code (⟨"GuideSearchModel", "look", "(I)V"⟩ : MethodName) prog_7_method_12_code 6 none :: wg) { frames := 1, cells := 0, slots := 0, locals := 23 } (va_Pc ([.ref (a 0), .int p1] : List Value) (m_pre dC dI cs a st)) (va_Qv (fun _ : Unit => True) (fun _ t => va_P (dC, dI) vwCl (m_W cs a res) t.heap) (m_A a)) 0 0 (m_A a) := by
  refine ro_start (cc := prog_7_method_12_code) (maxL := 6) (ret := none) (by decide) (Nat.le_of_ble_eq_true rfl) ?_
  intro p e s m below meth c hx hb hr hml hT hown hlocks hB ls hl
  replace hown : s.vm.findClass "GuideSearchModel" = some m.cls := hown
  obtain ⟨hP, hK, hN⟩ := hB
  replace hl : lv_has ls 6 [(0, .ref (a 0)), (1, .int p1)] := hl
  unfold m_M_look at hf
  have hD : ∀ st : MS, va_D (m_A a) (m_W cs a st) := fun st => m_D hi cs st
  have main : ∀ (H : Heap) (locs : List Loc), va_P (dC, dI) vwCl (m_W cs a st) H → va_S (m_A a) s.heap H locs → W p l e { frames := 1, cells := 0, slots := 0, locals := 23 } s m ([.ref (a 0), .int p1] : List Value).toArray below meth c H locs 0 0 (MQ below (va_Qv (fun _ : Unit => True) (fun _ t => va_P (dC, dI) vwCl (m_W cs a res) t.heap) (m_A a)) ([.ref (a 0), .int p1] : List Value).toArray s 0 0 (m_A a)) (F0 m 0 ls []) := by
    intro H locs hP hS
    refine lv_iload_n hx hb d_M_look_0 rfl (lv_at hl 1 rfl) ?_
    refine lv_istore_n (lv' := [(2, .int p1), (0, .ref (a 0)), (1, .int p1)]) hx hb d_M_look_1 rfl hl (by decide) rfl (fun ls hl => ?_)
    refine lv_iconst (v := (1 : Int32)) hx hb d_M_look_2 (by decide) ?_
    refine lv_istore_n (lv' := [(3, .int (1 : Int32)), (2, .int p1), (0, .ref (a 0)), (1, .int p1)]) hx hb d_M_look_3 rfl hl (by decide) rfl (fun ls hl => ?_)
    have loop1 : ∀ (n : Nat) (v1 : Int32) (v2 : Int32) (s3 : MS), xl3 m_M_look_B1 n v1 v2 s3 = some res → ∀ (H : Heap) (locs : List Loc), va_P (dC, dI) vwCl (m_W cs a s3) H → va_S (m_A a) s.heap H locs → ∀ (ls : Array Slot), lv_has ls 6 [(3, .int v1), (2, .int v2), (0, .ref (a 0))] → W p l e { frames := 1, cells := 0, slots := 0, locals := 23 } s m ([.ref (a 0), .int p1] : List Value).toArray below meth c H locs 0 0 (MQ below (va_Qv (fun _ : Unit => True) (fun _ t => va_P (dC, dI) vwCl (m_W cs a res) t.heap) (m_A a)) ([.ref (a 0), .int p1] : List Value).toArray s 0 0 (m_A a)) (F0 m 4 ls []) := by
      intro n
      induction n with
      | zero => intro v1 v2 s3 hf; exact absurd hf (by simp [xl3])
      | succ n ih1 =>
        intro v1 v2 s3 hf H locs hP hS ls hl
        replace hf : m_M_look_B1 (xl3 m_M_look_B1 n) v1 v2 s3 = some res := hf
        generalize xl3 m_M_look_B1 n = self1 at hf ih1
        unfold m_M_look_B1 at hf
        refine lv_iload_n hx hb d_M_look_4 rfl (lv_at hl 0 rfl) ?_
        refine lv_bipush (v := (7 : Int32)) hx hb d_M_look_5 (by decide) ?_
        refine lv_icmp_ge (tgt := 31) hx hb d_M_look_7 (by decide) (fun c4 => ?_) (fun c4 => ?_)
        · rw [if_pos c4] at hf
          refine lv_iconst (v := (1 : Int32)) hx hb d_M_look_31 (by decide) ?_
          refine lv_istore_n (lv' := [(3, .int (1 : Int32)), (2, .int v2), (0, .ref (a 0))]) hx hb d_M_look_32 rfl hl (by decide) rfl (fun ls hl => ?_)
          have loop2 : ∀ (n : Nat) (v5 : Int32) (s6 : MS), xl2 m_M_look_B2 n v5 s6 = some res → ∀ (H : Heap) (locs : List Loc), va_P (dC, dI) vwCl (m_W cs a s6) H → va_S (m_A a) s.heap H locs → ∀ (ls : Array Slot), lv_has ls 6 [(3, .int v5), (0, .ref (a 0))] → W p l e { frames := 1, cells := 0, slots := 0, locals := 23 } s m ([.ref (a 0), .int p1] : List Value).toArray below meth c H locs 0 0 (MQ below (va_Qv (fun _ : Unit => True) (fun _ t => va_P (dC, dI) vwCl (m_W cs a res) t.heap) (m_A a)) ([.ref (a 0), .int p1] : List Value).toArray s 0 0 (m_A a)) (F0 m 33 ls []) := by
            intro n
            induction n with
            | zero => intro v5 s6 hf; exact absurd hf (by simp [xl2])
            | succ n ih2 =>
              intro v5 s6 hf H locs hP hS ls hl
              replace hf : m_M_look_B2 (xl2 m_M_look_B2 n) v5 s6 = some res := hf
              generalize xl2 m_M_look_B2 n = self2 at hf ih2
              unfold m_M_look_B2 at hf
              refine lv_iload_n hx hb d_M_look_33 rfl (lv_at hl 0 rfl) ?_
              refine lv_aload_n hx hb d_M_look_34 rfl (lv_at hl 1 rfl) ?_
              refine va_get (D := (dC, dI)) (ci := 5) (v := .int (m_causes s6)) (C := "GuideSearchModel") (T := F_M) (N := 25) hx hb hT i_M hown hK hP 0 rfl rfl 1 (by decide) (hT _ k_508) (fun _ h9 => h9) rfl d_M_look_35 ?_
              refine lv_icmp_gt (tgt := 147) hx hb d_M_look_38 (by decide) (fun c7 => ?_) (fun c7 => ?_)
              · rw [if_pos c7] at hf
                exact W.vret hx hb hr (fun t ht _ => ⟨⟨(), rfl, trivial, m_fin ht (Option.some.inj hf) hP⟩, hS.F ht⟩) hS.2.2 d_M_look_147
              · rw [if_neg c7] at hf
                refine lv_aload_n hx hb d_M_look_41 rfl (lv_at hl 1 rfl) ?_
                refine va_get (D := (dC, dI)) (ci := 5) (v := .ref (a 4)) (C := "GuideSearchModel") (T := F_M) (N := 25) hx hb hT i_M hown hK hP 0 rfl rfl 6 (by decide) (hT _ k_513) (fun _ h9 => h9) rfl d_M_look_42 ?_
                refine lv_iload_n hx hb d_M_look_45 rfl (lv_at hl 0 rfl) ?_
                obtain ⟨j8, ej10, hi9, hf⟩ := ix_some hf
                refine xa_iald hx hb hK hP 4 1 rfl rfl ej10 hi9 d_M_look_46 ?_
                refine lv_iconst (v := (5 : Int32)) hx hb d_M_look_47 (by decide) ?_
                have join3 : ∀ (v11 : Int32), m_M_look_J3 v5 s6 self2 v11 = some res → ∀ (ls : Array Slot), lv_has ls 6 [(3, .int v5), (0, .ref (a 0))] → W p l e { frames := 1, cells := 0, slots := 0, locals := 23 } s m ([.ref (a 0), .int p1] : List Value).toArray below meth c H locs 0 0 (MQ below (va_Qv (fun _ : Unit => True) (fun _ t => va_P (dC, dI) vwCl (m_W cs a res) t.heap) (m_A a)) ([.ref (a 0), .int p1] : List Value).toArray s 0 0 (m_A a)) (F0 m 64 ls [.int v11]) := by
                  intro v11 hf ls hl
                  unfold m_M_look_J3 at hf
                  refine lv_istore (lv' := [(4, .int v11), (3, .int v5), (0, .ref (a 0))]) hx hb d_M_look_64 hl (by decide) rfl (fun ls hl => ?_)
                  refine lv_aload_n hx hb d_M_look_66 rfl (lv_at hl 2 rfl) ?_
                  refine va_get (D := (dC, dI)) (ci := 5) (v := .ref (a 13)) (C := "GuideSearchModel") (T := F_M) (N := 25) hx hb hT i_M hown hK hP 0 rfl rfl 20 (by decide) (hT _ k_527) (fun _ h9 => h9) rfl d_M_look_67 ?_
                  refine lv_iload_n hx hb d_M_look_70 rfl (lv_at hl 1 rfl) ?_
                  refine lv_aload_n hx hb d_M_look_71 rfl (lv_at hl 2 rfl) ?_
                  refine va_get (D := (dC, dI)) (ci := 5) (v := .ref (a 3)) (C := "GuideSearchModel") (T := F_M) (N := 25) hx hb hT i_M hown hK hP 0 rfl rfl 5 (by decide) (hT _ k_512) (fun _ h9 => h9) rfl d_M_look_72 ?_
                  refine lv_iload_n hx hb d_M_look_75 rfl (lv_at hl 1 rfl) ?_
                  obtain ⟨j12, ej14, hi13, hf⟩ := ix_some hf
                  refine xa_lald hx hb hK hP 3 0 rfl rfl ej14 hi13 d_M_look_76 ?_
                  refine lv_iload hx hb d_M_look_77 (lv_at hl 0 rfl) ?_
                  refine lv_i2l (v := v11.toInt64) hx hb d_M_look_79 rfl ?_
                  refine lv_lmul hx hb d_M_look_80 ?_
                  obtain ⟨j15, ej17, hi16, hf⟩ := ix_some hf
                  refine xa_last hx hb hK hP (hD _) hS 13 0 rfl rfl ej17 hi16 d_M_look_81 (fun H locs hP hS => ?_)
                  rw [m_weight_put cs a s6 j15 ((m_prior s6 j12) * v11.toInt64)] at hP
                  refine lv_iconst (v := (1 : Int32)) hx hb d_M_look_82 (by decide) ?_
                  refine lv_istore (lv' := [(5, .int (1 : Int32)), (4, .int v11), (3, .int v5), (0, .ref (a 0))]) hx hb d_M_look_83 hl (by decide) rfl (fun ls hl => ?_)
                  have loop4 : ∀ (n : Nat) (v18 : Int32) (s19 : MS), xl2 (m_M_look_B4 v5 self2) n v18 s19 = some res → ∀ (H : Heap) (locs : List Loc), va_P (dC, dI) vwCl (m_W cs a s19) H → va_S (m_A a) s.heap H locs → ∀ (ls : Array Slot), lv_has ls 6 [(5, .int v18), (3, .int v5), (0, .ref (a 0))] → W p l e { frames := 1, cells := 0, slots := 0, locals := 23 } s m ([.ref (a 0), .int p1] : List Value).toArray below meth c H locs 0 0 (MQ below (va_Qv (fun _ : Unit => True) (fun _ t => va_P (dC, dI) vwCl (m_W cs a res) t.heap) (m_A a)) ([.ref (a 0), .int p1] : List Value).toArray s 0 0 (m_A a)) (F0 m 85 ls []) := by
                    intro n
                    induction n with
                    | zero => intro v18 s19 hf; exact absurd hf (by simp [xl2])
                    | succ n ih4 =>
                      intro v18 s19 hf H locs hP hS ls hl
                      replace hf : (m_M_look_B4 v5 self2) (xl2 (m_M_look_B4 v5 self2) n) v18 s19 = some res := hf
                      generalize xl2 (m_M_look_B4 v5 self2) n = self4 at hf ih4
                      unfold m_M_look_B4 at hf
                      refine lv_iload hx hb d_M_look_85 (lv_at hl 0 rfl) ?_
                      refine lv_bipush (v := (7 : Int32)) hx hb d_M_look_87 (by decide) ?_
                      refine lv_icmp_ge (tgt := 141) hx hb d_M_look_89 (by decide) (fun c20 => ?_) (fun c20 => ?_)
                      · rw [if_pos c20] at hf
                        refine lv_iinc (v := (v5 + 1)) (lv' := [(3, .int (v5 + 1)), (5, .int v18), (0, .ref (a 0))]) hx hb d_M_look_141 hl (k := 1) rfl rfl (by decide) rfl (fun ls hl => ?_)
                        refine lv_goto (tgt := 33) hx hb d_M_look_144 (by decide) ?_
                        exact ih2 (v5 + 1) s19 hf _ _ hP hS ls (lv_sub hl [0, 2] rfl)
                      · rw [if_neg c20] at hf
                        refine lv_aload_n hx hb d_M_look_92 rfl (lv_at hl 2 rfl) ?_
                        refine va_get (D := (dC, dI)) (ci := 5) (v := .ref (a 13)) (C := "GuideSearchModel") (T := F_M) (N := 25) hx hb hT i_M hown hK hP 0 rfl rfl 20 (by decide) (hT _ k_527) (fun _ h9 => h9) rfl d_M_look_93 ?_
                        refine lv_iload_n hx hb d_M_look_96 rfl (lv_at hl 1 rfl) ?_
                        refine lv_aload_n hx hb d_M_look_97 rfl (lv_at hl 2 rfl) ?_
                        refine va_get (D := (dC, dI)) (ci := 5) (v := .ref (a 13)) (C := "GuideSearchModel") (T := F_M) (N := 25) hx hb hT i_M hown hK hP 0 rfl rfl 20 (by decide) (hT _ k_527) (fun _ h9 => h9) rfl d_M_look_98 ?_
                        refine lv_iload_n hx hb d_M_look_101 rfl (lv_at hl 1 rfl) ?_
                        obtain ⟨j21, ej23, hi22, hf⟩ := ix_some hf
                        refine xa_lald hx hb hK hP 13 0 rfl rfl ej23 hi22 d_M_look_102 ?_
                        refine lv_aload_n hx hb d_M_look_103 rfl (lv_at hl 2 rfl) ?_
                        refine va_get (D := (dC, dI)) (ci := 5) (v := .ref (a 12)) (C := "GuideSearchModel") (T := F_M) (N := 25) hx hb hT i_M hown hK hP 0 rfl rfl 19 (by decide) (hT _ k_526) (fun _ h9 => h9) rfl d_M_look_104 ?_
                        refine lv_iload hx hb d_M_look_107 (lv_at hl 0 rfl) ?_
                        obtain ⟨j24, ej26, hi25, hf⟩ := ix_some hf
                        refine xa_iald hx hb hK hP 12 1 rfl rfl ej26 hi25 d_M_look_109 ?_
                        refine lv_if_ge (tgt := 118) hx hb d_M_look_110 (by decide) (fun c27 => ?_) (fun c27 => ?_)
                        · rw [if_pos c27] at hf
                          refine lv_aload_n hx hb d_M_look_118 rfl (lv_at hl 2 rfl) ?_
                          refine lv_iload hx hb d_M_look_119 (lv_at hl 0 rfl) ?_
                          refine lv_iload_n hx hb d_M_look_121 rfl (lv_at hl 1 rfl) ?_
                          refine lv_aload_n hx hb d_M_look_122 rfl (lv_at hl 2 rfl) ?_
                          refine va_get (D := (dC, dI)) (ci := 5) (v := .ref (a 12)) (C := "GuideSearchModel") (T := F_M) (N := 25) hx hb hT i_M hown hK hP 0 rfl rfl 19 (by decide) (hT _ k_526) (fun _ h9 => h9) rfl d_M_look_123 ?_
                          refine lv_iload hx hb d_M_look_126 (lv_at hl 0 rfl) ?_
                          obtain ⟨j28, ej30, hi29, hf⟩ := ix_some hf
                          refine xa_iald hx hb hK hP 12 1 rfl rfl ej30 hi29 d_M_look_128 ?_
                          obtain ⟨r32, hr31, hf⟩ := ob hf
                          refine ro_calli (va_runV (C := "GuideSearchModel") (As := [.int v18, .int v5, .int (m_digit s19 j28)]) (rest := [.long (m_weight s19 j21), .int v5, .ref (a 13)]) ⟨hx, hb, hml, hown, hT⟩ (c_M_oddsOf l dC dI cs a s19 v18 v5 (m_digit s19 j28) r32 hr31) (cwV 3 hT (gV k_621 k_623 ks_15 k_7 k_624) rfl rfl rfl (by decide +kernel) ⟨Nat.le_of_ble_eq_true rfl, Nat.le_of_ble_eq_true rfl⟩) (ro_preV hP hK hN (va_recv hK hP (ci := 5) (q0 := 0) rfl rfl)) rfl rfl hl.1 rfl (lv_room (Nat.le_of_ble_eq_true rfl)) d_M_look_129 ⟨Nat.le_of_ble_eq_true rfl, Nat.le_of_ble_eq_true rfl⟩) ?_
                          refine lv_i2l (v := r32.toInt64) hx hb d_M_look_132 rfl ?_
                          refine lv_lmul hx hb d_M_look_133 ?_
                          obtain ⟨j33, ej35, hi34, hf⟩ := ix_some hf
                          refine xa_last hx hb hK hP (hD _) hS 13 0 rfl rfl ej35 hi34 d_M_look_134 (fun H locs hP hS => ?_)
                          rw [m_weight_put cs a s19 j33 ((m_weight s19 j21) * r32.toInt64)] at hP
                          refine lv_iinc (v := (v18 + 1)) (lv' := [(5, .int (v18 + 1)), (3, .int v5), (0, .ref (a 0))]) hx hb d_M_look_135 hl (k := 0) rfl rfl (by decide) rfl (fun ls hl => ?_)
                          refine lv_goto (tgt := 85) hx hb d_M_look_138 (by decide) ?_
                          exact ih4 (v18 + 1) (m_weight_s s19 j33 ((m_weight s19 j21) * r32.toInt64)) hf _ _ hP hS ls (lv_sub hl [0, 1, 2] rfl)
                        · rw [if_neg c27] at hf
                          refine lv_bipush (v := (12 : Int32)) hx hb d_M_look_113 (by decide) ?_
                          refine lv_goto (tgt := 132) hx hb d_M_look_115 (by decide) ?_
                          refine lv_i2l (v := (12 : Int32).toInt64) hx hb d_M_look_132 rfl ?_
                          refine lv_lmul hx hb d_M_look_133 ?_
                          obtain ⟨j36, ej38, hi37, hf⟩ := ix_some hf
                          refine xa_last hx hb hK hP (hD _) hS 13 0 rfl rfl ej38 hi37 d_M_look_134 (fun H locs hP hS => ?_)
                          rw [m_weight_put cs a s19 j36 ((m_weight s19 j21) * (12 : Int32).toInt64)] at hP
                          refine lv_iinc (v := (v18 + 1)) (lv' := [(5, .int (v18 + 1)), (3, .int v5), (0, .ref (a 0))]) hx hb d_M_look_135 hl (k := 0) rfl rfl (by decide) rfl (fun ls hl => ?_)
                          refine lv_goto (tgt := 85) hx hb d_M_look_138 (by decide) ?_
                          exact ih4 (v18 + 1) (m_weight_s s19 j36 ((m_weight s19 j21) * (12 : Int32).toInt64)) hf _ _ hP hS ls (lv_sub hl [0, 1, 2] rfl)
                  exact loop4 _ (1 : Int32) (m_weight_s s6 j15 ((m_prior s6 j12) * v11.toInt64)) hf _ _ hP hS ls (lv_sub hl [0, 2, 3] rfl)
                refine lv_icmp_le (tgt := 56) hx hb d_M_look_48 (by decide) (fun c39 => ?_) (fun c39 => ?_)
                · rw [if_pos c39] at hf
                  refine lv_aload_n hx hb d_M_look_56 rfl (lv_at hl 1 rfl) ?_
                  refine va_get (D := (dC, dI)) (ci := 5) (v := .ref (a 4)) (C := "GuideSearchModel") (T := F_M) (N := 25) hx hb hT i_M hown hK hP 0 rfl rfl 6 (by decide) (hT _ k_513) (fun _ h9 => h9) rfl d_M_look_57 ?_
                  refine lv_iload_n hx hb d_M_look_60 rfl (lv_at hl 0 rfl) ?_
                  obtain ⟨j40, ej42, hi41, hf⟩ := ix_some hf
                  refine xa_iald hx hb hK hP 4 1 rfl rfl ej42 hi41 d_M_look_61 ?_
                  refine lv_iconst (v := (1 : Int32)) hx hb d_M_look_62 (by decide) ?_
                  refine lv_iadd hx hb d_M_look_63 ?_
                  exact join3 ((m_learned s6 j40) + (1 : Int32)) hf ls (lv_sub hl [0, 1] rfl)
                · rw [if_neg c39] at hf
                  refine lv_bipush (v := (6 : Int32)) hx hb d_M_look_51 (by decide) ?_
                  refine lv_goto (tgt := 64) hx hb d_M_look_53 (by decide) ?_
                  exact join3 (6 : Int32) hf ls (lv_sub hl [0, 1] rfl)
          exact loop2 _ (1 : Int32) s3 hf _ _ hP hS ls (lv_sub hl [0, 2] rfl)
        · rw [if_neg c4] at hf
          refine lv_aload_n hx hb d_M_look_10 rfl (lv_at hl 2 rfl) ?_
          refine va_get (D := (dC, dI)) (ci := 5) (v := .ref (a 12)) (C := "GuideSearchModel") (T := F_M) (N := 25) hx hb hT i_M hown hK hP 0 rfl rfl 19 (by decide) (hT _ k_526) (fun _ h9 => h9) rfl d_M_look_11 ?_
          refine lv_iload_n hx hb d_M_look_14 rfl (lv_at hl 0 rfl) ?_
          refine lv_iload_n hx hb d_M_look_15 rfl (lv_at hl 1 rfl) ?_
          refine lv_iconst (v := (4 : Int32)) hx hb d_M_look_16 (by decide) ?_
          refine lv_irem hx hb d_M_look_17 (by decide) ?_
          refine lv_iconst (v := (1 : Int32)) hx hb d_M_look_18 (by decide) ?_
          refine lv_isub hx hb d_M_look_19 ?_
          obtain ⟨j43, ej45, hi44, hf⟩ := ix_some hf
          refine xa_iast hx hb hK hP (hD _) hS 12 1 rfl rfl ej45 hi44 d_M_look_20 (fun H locs hP hS => ?_)
          rw [m_digit_put cs a s3 j43 ((v2 - v2 / (4 : Int32) * (4 : Int32)) - (1 : Int32))] at hP
          refine lv_iload_n hx hb d_M_look_21 rfl (lv_at hl 1 rfl) ?_
          refine lv_iconst (v := (4 : Int32)) hx hb d_M_look_22 (by decide) ?_
          refine lv_idiv hx hb d_M_look_23 (by decide) ?_
          refine lv_istore_n (lv' := [(2, .int (v2 / (4 : Int32))), (3, .int v1), (0, .ref (a 0))]) hx hb d_M_look_24 rfl hl (by decide) rfl (fun ls hl => ?_)
          refine lv_iinc (v := (v1 + 1)) (lv' := [(3, .int (v1 + 1)), (2, .int (v2 / (4 : Int32))), (0, .ref (a 0))]) hx hb d_M_look_25 hl (k := 1) rfl rfl (by decide) rfl (fun ls hl => ?_)
          refine lv_goto (tgt := 4) hx hb d_M_look_28 (by decide) ?_
          exact ih1 (v1 + 1) (v2 / (4 : Int32)) (m_digit_s s3 j43 ((v2 - v2 / (4 : Int32) * (4 : Int32)) - (1 : Int32))) hf _ _ hP hS ls (lv_sub hl [0, 1, 2] rfl)
    exact loop1 _ (1 : Int32) p1 st hf _ _ hP hS ls (lv_sub hl [0, 1, 2] rfl)
  exact main _ _ hP va_S.rf
