set_option maxHeartbeats 4000000 in
set_option maxRecDepth 100000 in
theorem c_M_stateNow (l : Launch) (dC : Nat → ClassId) (dI : Nat → Nat → Nat) (cs : Nat → ClassId) (a : Nat → Nat) (st : MS) (res : Int32) (hf : m_M_stateNow st = some res) : Met l (⟨"GuideSearchModel", "stateNow", "()I"⟩ : MethodName) (Cond.code (⟨"GuideSearchModel", "stateNow", "()I"⟩ : MethodName) prog_7_method_13_code 3 (some .int) :: wg) { frames := 0, cells := 0, slots := 0, locals := 0 } (va_Pc ([.ref (a 0)] : List Value) (m_pre dC dI cs a st)) (vp_Si (fun r => r = res)) 0 0 (fun _ => False) := by
  refine ro_start (cc := prog_7_method_13_code) (maxL := 3) (ret := (some .int)) (by decide) (Nat.le_of_ble_eq_true rfl) ?_
  intro p e s m below meth c hx hb hr hml hT hown hlocks hB ls hl
  replace hown : s.vm.findClass "GuideSearchModel" = some m.cls := hown
  obtain ⟨hP, hK, hN⟩ := hB
  replace hl : lv_has ls 3 [(0, .ref (a 0))] := hl
  unfold m_M_stateNow at hf
  refine lv_iconst (v := (0 : Int32)) hx hb d_M_stateNow_0 (by decide) ?_
  refine lv_istore_n (lv' := [(1, .int (0 : Int32)), (0, .ref (a 0))]) hx hb d_M_stateNow_1 rfl hl (by decide) rfl (fun ls hl => ?_)
  refine lv_bipush (v := (6 : Int32)) hx hb d_M_stateNow_2 (by decide) ?_
  refine lv_istore_n (lv' := [(2, .int (6 : Int32)), (1, .int (0 : Int32)), (0, .ref (a 0))]) hx hb d_M_stateNow_4 rfl hl (by decide) rfl (fun ls hl => ?_)
  have loop1 : ∀ (n : Nat) (v1 : Int32) (v2 : Int32), xl2 (m_M_stateNow_B1 st) n v1 v2 = some res → ∀ (ls : Array Slot), lv_has ls 3 [(2, .int v1), (1, .int v2), (0, .ref (a 0))] → W p l e { frames := 0, cells := 0, slots := 0, locals := 0 } s m ([.ref (a 0)] : List Value).toArray below meth c s.heap [] 0 0 (MQ below (vp_Si (fun r => r = res)) ([.ref (a 0)] : List Value).toArray s 0 0 (fun _ => False)) (F0 m 5 ls []) := by
    intro n
    induction n with
    | zero => intro v1 v2 hf; exact absurd hf (by simp [xl2])
    | succ n ih1 =>
      intro v1 v2 hf ls hl
      replace hf : (m_M_stateNow_B1 st) (xl2 (m_M_stateNow_B1 st) n) v1 v2 = some res := hf
      generalize xl2 (m_M_stateNow_B1 st) n = self1 at hf ih1
      unfold m_M_stateNow_B1 at hf
      refine lv_iload_n hx hb d_M_stateNow_5 rfl (lv_at hl 0 rfl) ?_
      refine lv_if_le (tgt := 28) hx hb d_M_stateNow_6 (by decide) (fun c3 => ?_) (fun c3 => ?_)
      · rw [if_pos c3] at hf
        refine lv_iload_n hx hb d_M_stateNow_28 rfl (lv_at hl 1 rfl) ?_
        exact W.iret hx hb hr (fun t ht _ => ⟨_, rfl, Option.some.inj hf, ht⟩) (fun _ h => absurd h List.not_mem_nil) d_M_stateNow_29
      · rw [if_neg c3] at hf
        refine lv_iconst (v := (4 : Int32)) hx hb d_M_stateNow_9 (by decide) ?_
        refine lv_iload_n hx hb d_M_stateNow_10 rfl (lv_at hl 1 rfl) ?_
        refine lv_imul hx hb d_M_stateNow_11 ?_
        refine lv_aload_n hx hb d_M_stateNow_12 rfl (lv_at hl 2 rfl) ?_
        refine va_get (D := (dC, dI)) (ci := 5) (v := .ref (a 8)) (C := "GuideSearchModel") (T := F_M) (N := 25) hx hb hT i_M hown hK hP 0 rfl rfl 12 (by decide) (hT _ k_519) (fun _ h9 => h9) rfl d_M_stateNow_13 ?_
        refine lv_iload_n hx hb d_M_stateNow_16 rfl (lv_at hl 0 rfl) ?_
        obtain ⟨j4, ej6, hi5, hf⟩ := ix_some hf
        refine xa_iald hx hb hK hP 8 1 rfl rfl ej6 hi5 d_M_stateNow_17 ?_
        refine lv_iadd hx hb d_M_stateNow_18 ?_
        refine lv_iconst (v := (1 : Int32)) hx hb d_M_stateNow_19 (by decide) ?_
        refine lv_iadd hx hb d_M_stateNow_20 ?_
        refine lv_istore_n (lv' := [(1, .int ((((4 : Int32) * v2) + (m_given st j4)) + (1 : Int32))), (2, .int v1), (0, .ref (a 0))]) hx hb d_M_stateNow_21 rfl hl (by decide) rfl (fun ls hl => ?_)
        refine lv_iinc (v := (v1 + (-1))) (lv' := [(2, .int (v1 + (-1))), (1, .int ((((4 : Int32) * v2) + (m_given st j4)) + (1 : Int32))), (0, .ref (a 0))]) hx hb d_M_stateNow_22 hl (k := 1) rfl rfl (by decide) rfl (fun ls hl => ?_)
        refine lv_goto (tgt := 5) hx hb d_M_stateNow_25 (by decide) ?_
        exact ih1 (v1 + (-1)) ((((4 : Int32) * v2) + (m_given st j4)) + (1 : Int32)) hf ls (lv_sub hl [0, 1, 2] rfl)
  exact loop1 _ (6 : Int32) (0 : Int32) hf ls (lv_sub hl [0, 1, 2] rfl)
set_option maxHeartbeats 4000000 in
set_option maxRecDepth 100000 in
theorem c_M_unit (l : Launch) (p0 : Int32) (res : Int32) (hf : m_M_unit p0 = some res) : Met l (⟨"GuideSearchModel", "unit", "(I)I"⟩ : MethodName) (Cond.code (⟨"GuideSearchModel", "unit", "(I)I"⟩ : MethodName) prog_7_method_14_code 1 (some .int) :: wg) { frames := 0, cells := 0, slots := 0, locals := 0 } (va_Pc ([.int p0] : List Value) (fun _ => True)) (vp_Si (fun r => r = res)) 0 0 (fun _ => False) := by
  refine ro_start (cc := prog_7_method_14_code) (maxL := 1) (ret := (some .int)) (by decide) (Nat.le_of_ble_eq_true rfl) ?_
  intro p e s m below meth c hx hb hr hml hT hown hlocks hB ls hl
  replace hown : s.vm.findClass "GuideSearchModel" = some m.cls := hown
  replace hl : lv_has ls 1 [(0, .int p0)] := hl
  unfold m_M_unit at hf
  refine lv_iconst (v := (1 : Int32)) hx hb d_M_unit_0 (by decide) ?_
  refine lv_iconst (v := (2 : Int32)) hx hb d_M_unit_1 (by decide) ?_
  refine lv_iload_n hx hb d_M_unit_2 rfl (lv_at hl 0 rfl) ?_
  refine lv_iconst (v := (1 : Int32)) hx hb d_M_unit_3 (by decide) ?_
  refine lv_isub hx hb d_M_unit_4 ?_
  refine lv_imul hx hb d_M_unit_5 ?_
  refine lv_ishl hx hb d_M_unit_6 ?_
  exact W.iret hx hb hr (fun t ht _ => ⟨_, rfl, Option.some.inj hf, ht⟩) (fun _ h => absurd h List.not_mem_nil) d_M_unit_7
set_option maxHeartbeats 4000000 in
set_option maxRecDepth 100000 in
theorem c_M_sum (l : Launch) (dC : Nat → ClassId) (dI : Nat → Nat → Nat) (cs : Nat → ClassId) (a : Nat → Nat) (st : MS) (res : Int64) (hf : m_M_sum st = some res) : Met l (⟨"GuideSearchModel", "sum", "()J"⟩ : MethodName) (Cond.code (⟨"GuideSearchModel", "sum", "()J"⟩ : MethodName) prog_7_method_15_code 4 (some .long) :: wg) { frames := 0, cells := 0, slots := 0, locals := 0 } (va_Pc ([.ref (a 0)] : List Value) (m_pre dC dI cs a st)) (vp_Sl (fun r => r = res)) 0 0 (fun _ => False) := by
  refine ro_start (cc := prog_7_method_15_code) (maxL := 4) (ret := (some .long)) (by decide) (Nat.le_of_ble_eq_true rfl) ?_
  intro p e s m below meth c hx hb hr hml hT hown hlocks hB ls hl
  replace hown : s.vm.findClass "GuideSearchModel" = some m.cls := hown
  obtain ⟨hP, hK, hN⟩ := hB
  replace hl : lv_has ls 4 [(0, .ref (a 0))] := hl
  unfold m_M_sum at hf
  refine lv_lconst (v := (0 : Int64)) hx hb d_M_sum_0 (by decide) ?_
  refine lv_lstore_n (lv' := [(1, .long (0 : Int64)), (0, .ref (a 0))]) hx hb d_M_sum_1 rfl hl (by decide) rfl (fun ls hl => ?_)
  refine lv_iconst (v := (1 : Int32)) hx hb d_M_sum_2 (by decide) ?_
  refine lv_istore_n (lv' := [(3, .int (1 : Int32)), (1, .long (0 : Int64)), (0, .ref (a 0))]) hx hb d_M_sum_3 rfl hl (by decide) rfl (fun ls hl => ?_)
  have loop1 : ∀ (n : Nat) (v1 : Int32) (v2 : Int64), xl2 (m_M_sum_B1 st) n v1 v2 = some res → ∀ (ls : Array Slot), lv_has ls 4 [(3, .int v1), (1, .long v2), (0, .ref (a 0))] → W p l e { frames := 0, cells := 0, slots := 0, locals := 0 } s m ([.ref (a 0)] : List Value).toArray below meth c s.heap [] 0 0 (MQ below (vp_Sl (fun r => r = res)) ([.ref (a 0)] : List Value).toArray s 0 0 (fun _ => False)) (F0 m 4 ls []) := by
    intro n
    induction n with
    | zero => intro v1 v2 hf; exact absurd hf (by simp [xl2])
    | succ n ih1 =>
      intro v1 v2 hf ls hl
      replace hf : (m_M_sum_B1 st) (xl2 (m_M_sum_B1 st) n) v1 v2 = some res := hf
      generalize xl2 (m_M_sum_B1 st) n = self1 at hf ih1
      unfold m_M_sum_B1 at hf
      refine lv_iload_n hx hb d_M_sum_4 rfl (lv_at hl 0 rfl) ?_
      refine lv_aload_n hx hb d_M_sum_5 rfl (lv_at hl 2 rfl) ?_
      refine va_get (D := (dC, dI)) (ci := 5) (v := .int (m_causes st)) (C := "GuideSearchModel") (T := F_M) (N := 25) hx hb hT i_M hown hK hP 0 rfl rfl 1 (by decide) (hT _ k_508) (fun _ h9 => h9) rfl d_M_sum_6 ?_
      refine lv_icmp_gt (tgt := 27) hx hb d_M_sum_9 (by decide) (fun c3 => ?_) (fun c3 => ?_)
      · rw [if_pos c3] at hf
        refine lv_lload_n hx hb d_M_sum_27 rfl (lv_at hl 1 rfl) ?_
        exact W.lret hx hb hr (fun t ht _ => ⟨_, rfl, Option.some.inj hf, ht⟩) (fun _ h => absurd h List.not_mem_nil) d_M_sum_28
      · rw [if_neg c3] at hf
        refine lv_lload_n hx hb d_M_sum_12 rfl (lv_at hl 1 rfl) ?_
        refine lv_aload_n hx hb d_M_sum_13 rfl (lv_at hl 2 rfl) ?_
        refine va_get (D := (dC, dI)) (ci := 5) (v := .ref (a 13)) (C := "GuideSearchModel") (T := F_M) (N := 25) hx hb hT i_M hown hK hP 0 rfl rfl 20 (by decide) (hT _ k_527) (fun _ h9 => h9) rfl d_M_sum_14 ?_
        refine lv_iload_n hx hb d_M_sum_17 rfl (lv_at hl 0 rfl) ?_
        obtain ⟨j4, ej6, hi5, hf⟩ := ix_some hf
        refine xa_lald hx hb hK hP 13 0 rfl rfl ej6 hi5 d_M_sum_18 ?_
        refine lv_ladd hx hb d_M_sum_19 ?_
        refine lv_lstore_n (lv' := [(1, .long (v2 + (m_weight st j4))), (3, .int v1), (0, .ref (a 0))]) hx hb d_M_sum_20 rfl hl (by decide) rfl (fun ls hl => ?_)
        refine lv_iinc (v := (v1 + 1)) (lv' := [(3, .int (v1 + 1)), (1, .long (v2 + (m_weight st j4))), (0, .ref (a 0))]) hx hb d_M_sum_21 hl (k := 1) rfl rfl (by decide) rfl (fun ls hl => ?_)
        refine lv_goto (tgt := 4) hx hb d_M_sum_24 (by decide) ?_
        exact ih1 (v1 + 1) (v2 + (m_weight st j4)) hf ls (lv_sub hl [0, 1, 2] rfl)
  exact loop1 _ (1 : Int32) (0 : Int64) hf ls (lv_sub hl [0, 1, 2] rfl)
set_option maxHeartbeats 4000000 in
set_option maxRecDepth 100000 in
theorem c_M_most (l : Launch) (dC : Nat → ClassId) (dI : Nat → Nat → Nat) (cs : Nat → ClassId) (a : Nat → Nat) (st : MS) (res : Int64) (hf : m_M_most st = some res) : Met l (⟨"GuideSearchModel", "most", "()J"⟩ : MethodName) (Cond.code (⟨"GuideSearchModel", "most", "()J"⟩ : MethodName) prog_7_method_16_code 4 (some .long) :: wg) { frames := 0, cells := 0, slots := 0, locals := 0 } (va_Pc ([.ref (a 0)] : List Value) (m_pre dC dI cs a st)) (vp_Sl (fun r => r = res)) 0 0 (fun _ => False) := by
  refine ro_start (cc := prog_7_method_16_code) (maxL := 4) (ret := (some .long)) (by decide) (Nat.le_of_ble_eq_true rfl) ?_
  intro p e s m below meth c hx hb hr hml hT hown hlocks hB ls hl
  replace hown : s.vm.findClass "GuideSearchModel" = some m.cls := hown
  obtain ⟨hP, hK, hN⟩ := hB
  replace hl : lv_has ls 4 [(0, .ref (a 0))] := hl
  unfold m_M_most at hf
  refine lv_lconst (v := (0 : Int64)) hx hb d_M_most_0 (by decide) ?_
  refine lv_lstore_n (lv' := [(1, .long (0 : Int64)), (0, .ref (a 0))]) hx hb d_M_most_1 rfl hl (by decide) rfl (fun ls hl => ?_)
  refine lv_iconst (v := (1 : Int32)) hx hb d_M_most_2 (by decide) ?_
  refine lv_istore_n (lv' := [(3, .int (1 : Int32)), (1, .long (0 : Int64)), (0, .ref (a 0))]) hx hb d_M_most_3 rfl hl (by decide) rfl (fun ls hl => ?_)
  have loop1 : ∀ (n : Nat) (v1 : Int32) (v2 : Int64), xl2 (m_M_most_B1 st) n v1 v2 = some res → ∀ (ls : Array Slot), lv_has ls 4 [(3, .int v1), (1, .long v2), (0, .ref (a 0))] → W p l e { frames := 0, cells := 0, slots := 0, locals := 0 } s m ([.ref (a 0)] : List Value).toArray below meth c s.heap [] 0 0 (MQ below (vp_Sl (fun r => r = res)) ([.ref (a 0)] : List Value).toArray s 0 0 (fun _ => False)) (F0 m 4 ls []) := by
    intro n
    induction n with
    | zero => intro v1 v2 hf; exact absurd hf (by simp [xl2])
    | succ n ih1 =>
      intro v1 v2 hf ls hl
      replace hf : (m_M_most_B1 st) (xl2 (m_M_most_B1 st) n) v1 v2 = some res := hf
      generalize xl2 (m_M_most_B1 st) n = self1 at hf ih1
      unfold m_M_most_B1 at hf
      refine lv_iload_n hx hb d_M_most_4 rfl (lv_at hl 0 rfl) ?_
      refine lv_aload_n hx hb d_M_most_5 rfl (lv_at hl 2 rfl) ?_
      refine va_get (D := (dC, dI)) (ci := 5) (v := .int (m_causes st)) (C := "GuideSearchModel") (T := F_M) (N := 25) hx hb hT i_M hown hK hP 0 rfl rfl 1 (by decide) (hT _ k_508) (fun _ h9 => h9) rfl d_M_most_6 ?_
      refine lv_icmp_gt (tgt := 40) hx hb d_M_most_9 (by decide) (fun c3 => ?_) (fun c3 => ?_)
      · rw [if_pos c3] at hf
        refine lv_lload_n hx hb d_M_most_40 rfl (lv_at hl 1 rfl) ?_
        exact W.lret hx hb hr (fun t ht _ => ⟨_, rfl, Option.some.inj hf, ht⟩) (fun _ h => absurd h List.not_mem_nil) d_M_most_41
      · rw [if_neg c3] at hf
        refine lv_aload_n hx hb d_M_most_12 rfl (lv_at hl 2 rfl) ?_
        refine va_get (D := (dC, dI)) (ci := 5) (v := .ref (a 13)) (C := "GuideSearchModel") (T := F_M) (N := 25) hx hb hT i_M hown hK hP 0 rfl rfl 20 (by decide) (hT _ k_527) (fun _ h9 => h9) rfl d_M_most_13 ?_
        refine lv_iload_n hx hb d_M_most_16 rfl (lv_at hl 0 rfl) ?_
        obtain ⟨j4, ej6, hi5, hf⟩ := ix_some hf
        refine xa_lald hx hb hK hP 13 0 rfl rfl ej6 hi5 d_M_most_17 ?_
        refine lv_lload_n hx hb d_M_most_18 rfl (lv_at hl 1 rfl) ?_
        refine W.lcmp hx hb d_M_most_19 ?_
        refine lv_if_le (tgt := 32) hx hb d_M_most_20 (by decide) (fun c7 => ?_) (fun c7 => ?_)
        · rw [if_pos ((lg_cmp_le _ _).mp c7)] at hf
          refine lv_lload_n hx hb d_M_most_32 rfl (lv_at hl 1 rfl) ?_
          refine lv_lstore_n (lv' := [(1, .long v2), (3, .int v1), (0, .ref (a 0))]) hx hb d_M_most_33 rfl hl (by decide) rfl (fun ls hl => ?_)
          refine lv_iinc (v := (v1 + 1)) (lv' := [(3, .int (v1 + 1)), (1, .long v2), (0, .ref (a 0))]) hx hb d_M_most_34 hl (k := 1) rfl rfl (by decide) rfl (fun ls hl => ?_)
          refine lv_goto (tgt := 4) hx hb d_M_most_37 (by decide) ?_
          exact ih1 (v1 + 1) v2 hf ls (lv_sub hl [0, 1, 2] rfl)
        · rw [if_neg (mt (lg_cmp_le _ _).mpr c7)] at hf
          refine lv_aload_n hx hb d_M_most_23 rfl (lv_at hl 2 rfl) ?_
          refine va_get (D := (dC, dI)) (ci := 5) (v := .ref (a 13)) (C := "GuideSearchModel") (T := F_M) (N := 25) hx hb hT i_M hown hK hP 0 rfl rfl 20 (by decide) (hT _ k_527) (fun _ h9 => h9) rfl d_M_most_24 ?_
          refine lv_iload_n hx hb d_M_most_27 rfl (lv_at hl 0 rfl) ?_
          obtain ⟨j8, ej10, hi9, hf⟩ := ix_some hf
          refine xa_lald hx hb hK hP 13 0 rfl rfl ej10 hi9 d_M_most_28 ?_
          refine lv_goto (tgt := 33) hx hb d_M_most_29 (by decide) ?_
          refine lv_lstore_n (lv' := [(1, .long (m_weight st j8)), (3, .int v1), (0, .ref (a 0))]) hx hb d_M_most_33 rfl hl (by decide) rfl (fun ls hl => ?_)
          refine lv_iinc (v := (v1 + 1)) (lv' := [(3, .int (v1 + 1)), (1, .long (m_weight st j8)), (0, .ref (a 0))]) hx hb d_M_most_34 hl (k := 1) rfl rfl (by decide) rfl (fun ls hl => ?_)
          refine lv_goto (tgt := 4) hx hb d_M_most_37 (by decide) ?_
          exact ih1 (v1 + 1) (m_weight st j8) hf ls (lv_sub hl [0, 1, 2] rfl)
  exact loop1 _ (1 : Int32) (0 : Int64) hf ls (lv_sub hl [0, 1, 2] rfl)
set_option maxHeartbeats 4000000 in
set_option maxRecDepth 100000 in
theorem c_M_left (l : Launch) (dC : Nat → ClassId) (dI : Nat → Nat → Nat) (cs : Nat → ClassId) (a : Nat → Nat) (st : MS) (res : Int32) (hf : m_M_left st = some res) : Met l (⟨"GuideSearchModel", "left", "()I"⟩ : MethodName) (Cond.code (⟨"GuideSearchModel", "left", "()I"⟩ : MethodName) prog_7_method_17_code 3 (some .int) :: wg) { frames := 0, cells := 0, slots := 0, locals := 0 } (va_Pc ([.ref (a 0)] : List Value) (m_pre dC dI cs a st)) (vp_Si (fun r => r = res)) 0 0 (fun _ => False) := by
  refine ro_start (cc := prog_7_method_17_code) (maxL := 3) (ret := (some .int)) (by decide) (Nat.le_of_ble_eq_true rfl) ?_
  intro p e s m below meth c hx hb hr hml hT hown hlocks hB ls hl
  replace hown : s.vm.findClass "GuideSearchModel" = some m.cls := hown
  obtain ⟨hP, hK, hN⟩ := hB
  replace hl : lv_has ls 3 [(0, .ref (a 0))] := hl
  unfold m_M_left at hf
  refine lv_iconst (v := (0 : Int32)) hx hb d_M_left_0 (by decide) ?_
  refine lv_istore_n (lv' := [(1, .int (0 : Int32)), (0, .ref (a 0))]) hx hb d_M_left_1 rfl hl (by decide) rfl (fun ls hl => ?_)
  refine lv_iconst (v := (1 : Int32)) hx hb d_M_left_2 (by decide) ?_
  refine lv_istore_n (lv' := [(2, .int (1 : Int32)), (1, .int (0 : Int32)), (0, .ref (a 0))]) hx hb d_M_left_3 rfl hl (by decide) rfl (fun ls hl => ?_)
  have loop1 : ∀ (n : Nat) (v1 : Int32) (v2 : Int32), xl2 (m_M_left_B1 st) n v1 v2 = some res → ∀ (ls : Array Slot), lv_has ls 3 [(2, .int v1), (1, .int v2), (0, .ref (a 0))] → W p l e { frames := 0, cells := 0, slots := 0, locals := 0 } s m ([.ref (a 0)] : List Value).toArray below meth c s.heap [] 0 0 (MQ below (vp_Si (fun r => r = res)) ([.ref (a 0)] : List Value).toArray s 0 0 (fun _ => False)) (F0 m 4 ls []) := by
    intro n
    induction n with
    | zero => intro v1 v2 hf; exact absurd hf (by simp [xl2])
    | succ n ih1 =>
      intro v1 v2 hf ls hl
      replace hf : (m_M_left_B1 st) (xl2 (m_M_left_B1 st) n) v1 v2 = some res := hf
      generalize xl2 (m_M_left_B1 st) n = self1 at hf ih1
      unfold m_M_left_B1 at hf
      refine lv_iload_n hx hb d_M_left_4 rfl (lv_at hl 0 rfl) ?_
      refine lv_aload_n hx hb d_M_left_5 rfl (lv_at hl 2 rfl) ?_
      refine va_get (D := (dC, dI)) (ci := 5) (v := .int (m_causes st)) (C := "GuideSearchModel") (T := F_M) (N := 25) hx hb hT i_M hown hK hP 0 rfl rfl 1 (by decide) (hT _ k_508) (fun _ h9 => h9) rfl d_M_left_6 ?_
      refine lv_icmp_gt (tgt := 37) hx hb d_M_left_9 (by decide) (fun c3 => ?_) (fun c3 => ?_)
      · rw [if_pos c3] at hf
        refine lv_iload_n hx hb d_M_left_37 rfl (lv_at hl 1 rfl) ?_
        exact W.iret hx hb hr (fun t ht _ => ⟨_, rfl, Option.some.inj hf, ht⟩) (fun _ h => absurd h List.not_mem_nil) d_M_left_38
      · rw [if_neg c3] at hf
        refine lv_aload_n hx hb d_M_left_12 rfl (lv_at hl 2 rfl) ?_
        refine va_get (D := (dC, dI)) (ci := 5) (v := .ref (a 13)) (C := "GuideSearchModel") (T := F_M) (N := 25) hx hb hT i_M hown hK hP 0 rfl rfl 20 (by decide) (hT _ k_527) (fun _ h9 => h9) rfl d_M_left_13 ?_
        refine lv_iload_n hx hb d_M_left_16 rfl (lv_at hl 0 rfl) ?_
        obtain ⟨j4, ej6, hi5, hf⟩ := ix_some hf
        refine xa_lald hx hb hK hP 13 0 rfl rfl ej6 hi5 d_M_left_17 ?_
        refine lv_lconst (v := (0 : Int64)) hx hb d_M_left_18 (by decide) ?_
        refine W.lcmp hx hb d_M_left_19 ?_
        refine lv_if_le (tgt := 29) hx hb d_M_left_20 (by decide) (fun c7 => ?_) (fun c7 => ?_)
        · rw [if_pos ((lg_cmp_le _ _).mp c7)] at hf
          refine lv_iload_n hx hb d_M_left_29 rfl (lv_at hl 1 rfl) ?_
          refine lv_istore_n (lv' := [(1, .int v2), (2, .int v1), (0, .ref (a 0))]) hx hb d_M_left_30 rfl hl (by decide) rfl (fun ls hl => ?_)
          refine lv_iinc (v := (v1 + 1)) (lv' := [(2, .int (v1 + 1)), (1, .int v2), (0, .ref (a 0))]) hx hb d_M_left_31 hl (k := 1) rfl rfl (by decide) rfl (fun ls hl => ?_)
          refine lv_goto (tgt := 4) hx hb d_M_left_34 (by decide) ?_
          exact ih1 (v1 + 1) v2 hf ls (lv_sub hl [0, 1, 2] rfl)
        · rw [if_neg (mt (lg_cmp_le _ _).mpr c7)] at hf
          refine lv_iload_n hx hb d_M_left_23 rfl (lv_at hl 1 rfl) ?_
          refine lv_iconst (v := (1 : Int32)) hx hb d_M_left_24 (by decide) ?_
          refine lv_iadd hx hb d_M_left_25 ?_
          refine lv_goto (tgt := 30) hx hb d_M_left_26 (by decide) ?_
          refine lv_istore_n (lv' := [(1, .int (v2 + (1 : Int32))), (2, .int v1), (0, .ref (a 0))]) hx hb d_M_left_30 rfl hl (by decide) rfl (fun ls hl => ?_)
          refine lv_iinc (v := (v1 + 1)) (lv' := [(2, .int (v1 + 1)), (1, .int (v2 + (1 : Int32))), (0, .ref (a 0))]) hx hb d_M_left_31 hl (k := 1) rfl rfl (by decide) rfl (fun ls hl => ?_)
          refine lv_goto (tgt := 4) hx hb d_M_left_34 (by decide) ?_
          exact ih1 (v1 + 1) (v2 + (1 : Int32)) hf ls (lv_sub hl [0, 1, 2] rfl)
  exact loop1 _ (1 : Int32) (0 : Int32) hf ls (lv_sub hl [0, 1, 2] rfl)
set_option maxHeartbeats 4000000 in
set_option maxRecDepth 100000 in
theorem c_M_may (l : Launch) (dC : Nat → ClassId) (dI : Nat → Nat → Nat) (cs : Nat → ClassId) (a : Nat → Nat) (st : MS) (p1 : Int32) (res : Int32) (hf : m_M_may st p1 = some res) : Met l (⟨"GuideSearchModel", "may", "(I)Z"⟩ : MethodName) (Cond.code (⟨"GuideSearchModel", "may", "(I)Z"⟩ : MethodName) prog_7_method_18_code 4 (some .boolean) :: wg) { frames := 0, cells := 0, slots := 0, locals := 0 } (va_Pc ([.ref (a 0), .int p1] : List Value) (m_pre dC dI cs a st)) (vp_Si (fun r => r = res)) 0 0 (fun _ => False) := by
  refine ro_start (cc := prog_7_method_18_code) (maxL := 4) (ret := (some .boolean)) (by decide) (Nat.le_of_ble_eq_true rfl) ?_
  intro p e s m below meth c hx hb hr hml hT hown hlocks hB ls hl
  replace hown : s.vm.findClass "GuideSearchModel" = some m.cls := hown
  obtain ⟨hP, hK, hN⟩ := hB
  replace hl : lv_has ls 4 [(0, .ref (a 0)), (1, .int p1)] := hl
  unfold m_M_may at hf
  refine lv_aload_n hx hb d_M_may_0 rfl (lv_at hl 0 rfl) ?_
  refine va_get (D := (dC, dI)) (ci := 5) (v := .ref (a 12)) (C := "GuideSearchModel") (T := F_M) (N := 25) hx hb hT i_M hown hK hP 0 rfl rfl 19 (by decide) (hT _ k_526) (fun _ h9 => h9) rfl d_M_may_1 ?_
  refine lv_iload_n hx hb d_M_may_4 rfl (lv_at hl 1 rfl) ?_
  obtain ⟨j1, ej3, hi2, hf⟩ := ix_some hf
  refine xa_iald hx hb hK hP 12 1 rfl rfl ej3 hi2 d_M_may_5 ?_
  have join1 : ∀ (v4 : Int32), m_M_may_J1 st p1 v4 = some res → ∀ (ls : Array Slot), lv_has ls 4 [(0, .ref (a 0)), (1, .int p1)] → W p l e { frames := 0, cells := 0, slots := 0, locals := 0 } s m ([.ref (a 0), .int p1] : List Value).toArray below meth c s.heap [] 0 0 (MQ below (vp_Si (fun r => r = res)) ([.ref (a 0), .int p1] : List Value).toArray s 0 0 (fun _ => False)) (F0 m 14 ls [.int v4]) := by
    intro v4 hf ls hl
    unfold m_M_may_J1 at hf
    refine lv_istore_n (lv' := [(2, .int v4), (0, .ref (a 0)), (1, .int p1)]) hx hb d_M_may_14 rfl hl (by decide) rfl (fun ls hl => ?_)
    refine lv_iconst (v := (1 : Int32)) hx hb d_M_may_15 (by decide) ?_
    refine lv_istore_n (lv' := [(3, .int (1 : Int32)), (2, .int v4), (0, .ref (a 0)), (1, .int p1)]) hx hb d_M_may_16 rfl hl (by decide) rfl (fun ls hl => ?_)
    have loop2 : ∀ (n : Nat) (v5 : Int32) (v6 : Int32), xl2 (m_M_may_B2 st p1) n v5 v6 = some res → ∀ (ls : Array Slot), lv_has ls 4 [(3, .int v5), (2, .int v6), (0, .ref (a 0)), (1, .int p1)] → W p l e { frames := 0, cells := 0, slots := 0, locals := 0 } s m ([.ref (a 0), .int p1] : List Value).toArray below meth c s.heap [] 0 0 (MQ below (vp_Si (fun r => r = res)) ([.ref (a 0), .int p1] : List Value).toArray s 0 0 (fun _ => False)) (F0 m 17 ls []) := by
      intro n
      induction n with
      | zero => intro v5 v6 hf; exact absurd hf (by simp [xl2])
      | succ n ih2 =>
        intro v5 v6 hf ls hl
        replace hf : (m_M_may_B2 st p1) (xl2 (m_M_may_B2 st p1) n) v5 v6 = some res := hf
        generalize xl2 (m_M_may_B2 st p1) n = self2 at hf ih2
        unfold m_M_may_B2 at hf
        refine lv_iload_n hx hb d_M_may_17 rfl (lv_at hl 0 rfl) ?_
        refine lv_aload_n hx hb d_M_may_18 rfl (lv_at hl 2 rfl) ?_
        refine va_get (D := (dC, dI)) (ci := 5) (v := .int (m_tests st)) (C := "GuideSearchModel") (T := F_M) (N := 25) hx hb hT i_M hown hK hP 0 rfl rfl 8 (by decide) (hT _ k_515) (fun _ h9 => h9) rfl d_M_may_19 ?_
        refine lv_icmp_gt (tgt := 64) hx hb d_M_may_22 (by decide) (fun c7 => ?_) (fun c7 => ?_)
        · rw [if_pos c7] at hf
          refine lv_iload_n hx hb d_M_may_64 rfl (lv_at hl 1 rfl) ?_
          obtain ⟨hz8, hf⟩ := zb_some hf
          exact W.zret (ty := .boolean) hx hb hr (zb_nar hz8) (fun t ht _ => ⟨_, rfl, Option.some.inj hf, ht⟩) (fun _ h => absurd h List.not_mem_nil) d_M_may_65
        · rw [if_neg c7] at hf
          refine lv_iload_n hx hb d_M_may_25 rfl (lv_at hl 1 rfl) ?_
          refine lv_if_eq (tgt := 56) hx hb d_M_may_26 (by decide) (fun c9 => ?_) (fun c9 => ?_)
          · rw [if_pos c9] at hf
            refine lv_iconst (v := (0 : Int32)) hx hb d_M_may_56 (by decide) ?_
            refine lv_istore_n (lv' := [(2, .int (0 : Int32)), (3, .int v5), (0, .ref (a 0)), (1, .int p1)]) hx hb d_M_may_57 rfl hl (by decide) rfl (fun ls hl => ?_)
            refine lv_iinc (v := (v5 + 1)) (lv' := [(3, .int (v5 + 1)), (2, .int (0 : Int32)), (0, .ref (a 0)), (1, .int p1)]) hx hb d_M_may_58 hl (k := 1) rfl rfl (by decide) rfl (fun ls hl => ?_)
            refine lv_goto (tgt := 17) hx hb d_M_may_61 (by decide) ?_
            exact ih2 (v5 + 1) (0 : Int32) hf ls (lv_sub hl [0, 1, 2, 3] rfl)
          · rw [if_neg c9] at hf
            refine lv_aload_n hx hb d_M_may_29 rfl (lv_at hl 2 rfl) ?_
            refine va_get (D := (dC, dI)) (ci := 5) (v := .ref (a 6)) (C := "GuideSearchModel") (T := F_M) (N := 25) hx hb hT i_M hown hK hP 0 rfl rfl 10 (by decide) (hT _ k_517) (fun _ h9 => h9) rfl d_M_may_30 ?_
            refine lv_bipush (v := (7 : Int32)) hx hb d_M_may_33 (by decide) ?_
            refine lv_iload_n hx hb d_M_may_35 rfl (lv_at hl 3 rfl) ?_
            refine lv_imul hx hb d_M_may_36 ?_
            refine lv_iload_n hx hb d_M_may_37 rfl (lv_at hl 0 rfl) ?_
            refine lv_iadd hx hb d_M_may_38 ?_
            obtain ⟨j10, ej12, hi11, hf⟩ := ix_some hf
            refine xa_zald hx hb hK hP 6 5 rfl rfl ej12 hi11 d_M_may_39 ?_
            refine lv_if_eq (tgt := 52) hx hb d_M_may_40 (by decide) (fun c13 => ?_) (fun c13 => ?_)
            · rw [if_pos c13] at hf
              refine lv_iconst (v := (1 : Int32)) hx hb d_M_may_52 (by decide) ?_
              refine lv_goto (tgt := 57) hx hb d_M_may_53 (by decide) ?_
              refine lv_istore_n (lv' := [(2, .int (1 : Int32)), (3, .int v5), (0, .ref (a 0)), (1, .int p1)]) hx hb d_M_may_57 rfl hl (by decide) rfl (fun ls hl => ?_)
              refine lv_iinc (v := (v5 + 1)) (lv' := [(3, .int (v5 + 1)), (2, .int (1 : Int32)), (0, .ref (a 0)), (1, .int p1)]) hx hb d_M_may_58 hl (k := 1) rfl rfl (by decide) rfl (fun ls hl => ?_)
              refine lv_goto (tgt := 17) hx hb d_M_may_61 (by decide) ?_
              exact ih2 (v5 + 1) (1 : Int32) hf ls (lv_sub hl [0, 1, 2, 3] rfl)
            · rw [if_neg c13] at hf
              refine lv_aload_n hx hb d_M_may_43 rfl (lv_at hl 2 rfl) ?_
              refine va_get (D := (dC, dI)) (ci := 5) (v := .ref (a 12)) (C := "GuideSearchModel") (T := F_M) (N := 25) hx hb hT i_M hown hK hP 0 rfl rfl 19 (by decide) (hT _ k_526) (fun _ h9 => h9) rfl d_M_may_44 ?_
              refine lv_iload_n hx hb d_M_may_47 rfl (lv_at hl 0 rfl) ?_
              obtain ⟨j14, ej16, hi15, hf⟩ := ix_some hf
              refine xa_iald hx hb hK hP 12 1 rfl rfl ej16 hi15 d_M_may_48 ?_
              refine lv_if_lt (tgt := 56) hx hb d_M_may_49 (by decide) (fun c17 => ?_) (fun c17 => ?_)
              · rw [if_pos c17] at hf
                refine lv_iconst (v := (0 : Int32)) hx hb d_M_may_56 (by decide) ?_
                refine lv_istore_n (lv' := [(2, .int (0 : Int32)), (3, .int v5), (0, .ref (a 0)), (1, .int p1)]) hx hb d_M_may_57 rfl hl (by decide) rfl (fun ls hl => ?_)
                refine lv_iinc (v := (v5 + 1)) (lv' := [(3, .int (v5 + 1)), (2, .int (0 : Int32)), (0, .ref (a 0)), (1, .int p1)]) hx hb d_M_may_58 hl (k := 1) rfl rfl (by decide) rfl (fun ls hl => ?_)
                refine lv_goto (tgt := 17) hx hb d_M_may_61 (by decide) ?_
                exact ih2 (v5 + 1) (0 : Int32) hf ls (lv_sub hl [0, 1, 2, 3] rfl)
              · rw [if_neg c17] at hf
                refine lv_iconst (v := (1 : Int32)) hx hb d_M_may_52 (by decide) ?_
                refine lv_goto (tgt := 57) hx hb d_M_may_53 (by decide) ?_
                refine lv_istore_n (lv' := [(2, .int (1 : Int32)), (3, .int v5), (0, .ref (a 0)), (1, .int p1)]) hx hb d_M_may_57 rfl hl (by decide) rfl (fun ls hl => ?_)
                refine lv_iinc (v := (v5 + 1)) (lv' := [(3, .int (v5 + 1)), (2, .int (1 : Int32)), (0, .ref (a 0)), (1, .int p1)]) hx hb d_M_may_58 hl (k := 1) rfl rfl (by decide) rfl (fun ls hl => ?_)
                refine lv_goto (tgt := 17) hx hb d_M_may_61 (by decide) ?_
                exact ih2 (v5 + 1) (1 : Int32) hf ls (lv_sub hl [0, 1, 2, 3] rfl)
    exact loop2 _ (1 : Int32) v4 hf ls (lv_sub hl [0, 1, 2, 3] rfl)
  refine lv_if_ge (tgt := 13) hx hb d_M_may_6 (by decide) (fun c18 => ?_) (fun c18 => ?_)
  · rw [if_pos c18] at hf
    refine lv_iconst (v := (0 : Int32)) hx hb d_M_may_13 (by decide) ?_
    exact join1 (0 : Int32) hf ls (lv_sub hl [0, 1] rfl)
  · rw [if_neg c18] at hf
    refine lv_iconst (v := (1 : Int32)) hx hb d_M_may_9 (by decide) ?_
    refine lv_goto (tgt := 14) hx hb d_M_may_10 (by decide) ?_
    exact join1 (1 : Int32) hf ls (lv_sub hl [0, 1] rfl)
set_option maxHeartbeats 4000000 in
set_option maxRecDepth 100000 in
theorem c_M_findUse (l : Launch) (dC : Nat → ClassId) (dI : Nat → Nat → Nat) (cs : Nat → ClassId) (a : Nat → Nat) (hi : ∀ i j : Nat, i < 18 → j < 18 → a i = a j → i = j) (st : MS) (res : MS) (hf : m_M_findUse st = some res) : Met l (⟨"GuideSearchModel", "findUse", "()V"⟩ : MethodName) (Cond.code (⟨"GuideSearchModel", "findUse", "()V"⟩ : MethodName) prog_7_method_19_code 6 none :: wg) { frames := 1, cells := 0, slots := 0, locals := 23 } (va_Pc ([.ref (a 0)] : List Value) (m_pre dC dI cs a st)) (va_Qv (fun _ : Unit => True) (fun _ t => va_P (dC, dI) vwCl (m_W cs a res) t.heap) (m_A a)) 0 0 (m_A a) := by
  refine ro_start (cc := prog_7_method_19_code) (maxL := 6) (ret := none) (by decide) (Nat.le_of_ble_eq_true rfl) ?_
  intro p e s m below meth c hx hb hr hml hT hown hlocks hB ls hl
  replace hown : s.vm.findClass "GuideSearchModel" = some m.cls := hown
  obtain ⟨hP, hK, hN⟩ := hB
  replace hl : lv_has ls 6 [(0, .ref (a 0))] := hl
  unfold m_M_findUse at hf
  have hD : ∀ st : MS, va_D (m_A a) (m_W cs a st) := fun st => m_D hi cs st
  have main : ∀ (H : Heap) (locs : List Loc), va_P (dC, dI) vwCl (m_W cs a st) H → va_S (m_A a) s.heap H locs → W p l e { frames := 1, cells := 0, slots := 0, locals := 23 } s m ([.ref (a 0)] : List Value).toArray below meth c H locs 0 0 (MQ below (va_Qv (fun _ : Unit => True) (fun _ t => va_P (dC, dI) vwCl (m_W cs a res) t.heap) (m_A a)) ([.ref (a 0)] : List Value).toArray s 0 0 (m_A a)) (F0 m 0 ls []) := by
    intro H locs hP hS
    refine lv_iconst (v := (0 : Int32)) hx hb d_M_findUse_0 (by decide) ?_
    refine lv_istore_n (lv' := [(1, .int (0 : Int32)), (0, .ref (a 0))]) hx hb d_M_findUse_1 rfl hl (by decide) rfl (fun ls hl => ?_)
    refine lv_iconst (v := (1 : Int32)) hx hb d_M_findUse_2 (by decide) ?_
    refine lv_istore_n (lv' := [(2, .int (1 : Int32)), (1, .int (0 : Int32)), (0, .ref (a 0))]) hx hb d_M_findUse_3 rfl hl (by decide) rfl (fun ls hl => ?_)
    have loop1 : ∀ (n : Nat) (v1 : Int32) (v2 : Int32), xl2 (m_M_findUse_B1 st) n v1 v2 = some res → ∀ (ls : Array Slot), lv_has ls 6 [(2, .int v1), (1, .int v2), (0, .ref (a 0))] → W p l e { frames := 1, cells := 0, slots := 0, locals := 23 } s m ([.ref (a 0)] : List Value).toArray below meth c H locs 0 0 (MQ below (va_Qv (fun _ : Unit => True) (fun _ t => va_P (dC, dI) vwCl (m_W cs a res) t.heap) (m_A a)) ([.ref (a 0)] : List Value).toArray s 0 0 (m_A a)) (F0 m 4 ls []) := by
      intro n
      induction n with
      | zero => intro v1 v2 hf; exact absurd hf (by simp [xl2])
      | succ n ih1 =>
        intro v1 v2 hf ls hl
        replace hf : (m_M_findUse_B1 st) (xl2 (m_M_findUse_B1 st) n) v1 v2 = some res := hf
        generalize xl2 (m_M_findUse_B1 st) n = self1 at hf ih1
        unfold m_M_findUse_B1 at hf
        refine lv_iload_n hx hb d_M_findUse_4 rfl (lv_at hl 0 rfl) ?_
        refine lv_aload_n hx hb d_M_findUse_5 rfl (lv_at hl 2 rfl) ?_
        refine va_get (D := (dC, dI)) (ci := 5) (v := .int (m_causes st)) (C := "GuideSearchModel") (T := F_M) (N := 25) hx hb hT i_M hown hK hP 0 rfl rfl 1 (by decide) (hT _ k_508) (fun _ h9 => h9) rfl d_M_findUse_6 ?_
        refine lv_icmp_gt (tgt := 35) hx hb d_M_findUse_9 (by decide) (fun c3 => ?_) (fun c3 => ?_)
        · rw [if_pos c3] at hf
          refine lv_iconst (v := (1 : Int32)) hx hb d_M_findUse_35 (by decide) ?_
          refine lv_istore_n (lv' := [(2, .int (1 : Int32)), (1, .int v2), (0, .ref (a 0))]) hx hb d_M_findUse_36 rfl hl (by decide) rfl (fun ls hl => ?_)
          have loop2 : ∀ (n : Nat) (v4 : Int32) (s5 : MS), xl2 (m_M_findUse_B2 v2) n v4 s5 = some res → ∀ (H : Heap) (locs : List Loc), va_P (dC, dI) vwCl (m_W cs a s5) H → va_S (m_A a) s.heap H locs → ∀ (ls : Array Slot), lv_has ls 6 [(2, .int v4), (1, .int v2), (0, .ref (a 0))] → W p l e { frames := 1, cells := 0, slots := 0, locals := 23 } s m ([.ref (a 0)] : List Value).toArray below meth c H locs 0 0 (MQ below (va_Qv (fun _ : Unit => True) (fun _ t => va_P (dC, dI) vwCl (m_W cs a res) t.heap) (m_A a)) ([.ref (a 0)] : List Value).toArray s 0 0 (m_A a)) (F0 m 37 ls []) := by
            intro n
            induction n with
            | zero => intro v4 s5 hf; exact absurd hf (by simp [xl2])
            | succ n ih2 =>
              intro v4 s5 hf H locs hP hS ls hl
              replace hf : (m_M_findUse_B2 v2) (xl2 (m_M_findUse_B2 v2) n) v4 s5 = some res := hf
              generalize xl2 (m_M_findUse_B2 v2) n = self2 at hf ih2
              unfold m_M_findUse_B2 at hf
              refine lv_iload_n hx hb d_M_findUse_37 rfl (lv_at hl 0 rfl) ?_
              refine lv_aload_n hx hb d_M_findUse_38 rfl (lv_at hl 2 rfl) ?_
              refine va_get (D := (dC, dI)) (ci := 5) (v := .int (m_tests s5)) (C := "GuideSearchModel") (T := F_M) (N := 25) hx hb hT i_M hown hK hP 0 rfl rfl 8 (by decide) (hT _ k_515) (fun _ h9 => h9) rfl d_M_findUse_39 ?_
              refine lv_icmp_gt (tgt := 179) hx hb d_M_findUse_42 (by decide) (fun c6 => ?_) (fun c6 => ?_)
              · rw [if_pos c6] at hf
                exact W.vret hx hb hr (fun t ht _ => ⟨⟨(), rfl, trivial, m_fin ht (Option.some.inj hf) hP⟩, hS.F ht⟩) hS.2.2 d_M_findUse_179
              · rw [if_neg c6] at hf
                refine lv_iconst (v := (0 : Int32)) hx hb d_M_findUse_45 (by decide) ?_
                refine lv_istore_n (lv' := [(3, .int (0 : Int32)), (2, .int v4), (1, .int v2), (0, .ref (a 0))]) hx hb d_M_findUse_46 rfl hl (by decide) rfl (fun ls hl => ?_)
                refine lv_iconst (v := (1 : Int32)) hx hb d_M_findUse_47 (by decide) ?_
                refine lv_istore (lv' := [(4, .int (1 : Int32)), (3, .int (0 : Int32)), (2, .int v4), (1, .int v2), (0, .ref (a 0))]) hx hb d_M_findUse_48 hl (by decide) rfl (fun ls hl => ?_)
                have loop3 : ∀ (n : Nat) (v7 : Int32) (v8 : Int32), xl2 (m_M_findUse_B3 v2 v4 s5 self2) n v7 v8 = some res → ∀ (ls : Array Slot), lv_has ls 6 [(4, .int v7), (3, .int v8), (2, .int v4), (1, .int v2), (0, .ref (a 0))] → W p l e { frames := 1, cells := 0, slots := 0, locals := 23 } s m ([.ref (a 0)] : List Value).toArray below meth c H locs 0 0 (MQ below (va_Qv (fun _ : Unit => True) (fun _ t => va_P (dC, dI) vwCl (m_W cs a res) t.heap) (m_A a)) ([.ref (a 0)] : List Value).toArray s 0 0 (m_A a)) (F0 m 50 ls []) := by
                  intro n
                  induction n with
                  | zero => intro v7 v8 hf; exact absurd hf (by simp [xl2])
                  | succ n ih3 =>
                    intro v7 v8 hf ls hl
                    replace hf : (m_M_findUse_B3 v2 v4 s5 self2) (xl2 (m_M_findUse_B3 v2 v4 s5 self2) n) v7 v8 = some res := hf
                    generalize xl2 (m_M_findUse_B3 v2 v4 s5 self2) n = self3 at hf ih3
                    unfold m_M_findUse_B3 at hf
                    refine lv_iload hx hb d_M_findUse_50 (lv_at hl 0 rfl) ?_
                    refine lv_iload_n hx hb d_M_findUse_52 rfl (lv_at hl 3 rfl) ?_
                    refine lv_icmp_ge (tgt := 150) hx hb d_M_findUse_53 (by decide) (fun c9 => ?_) (fun c9 => ?_)
                    · rw [if_pos c9] at hf
                      refine lv_aload_n hx hb d_M_findUse_150 rfl (lv_at hl 4 rfl) ?_
                      refine va_get (D := (dC, dI)) (ci := 5) (v := .ref (a 17)) (C := "GuideSearchModel") (T := F_M) (N := 25) hx hb hT i_M hown hK hP 0 rfl rfl 24 (by decide) (hT _ k_531) (fun _ h9 => h9) rfl d_M_findUse_151 ?_
                      refine lv_iload_n hx hb d_M_findUse_154 rfl (lv_at hl 2 rfl) ?_
                      refine lv_iload_n hx hb d_M_findUse_155 rfl (lv_at hl 1 rfl) ?_
                      refine lv_if_eq (tgt := 171) hx hb d_M_findUse_156 (by decide) (fun c10 => ?_) (fun c10 => ?_)
                      · rw [if_pos c10] at hf
                        refine lv_iconst (v := (0 : Int32)) hx hb d_M_findUse_171 (by decide) ?_
                        obtain ⟨j11, ej13, hi12, hf⟩ := ix_some hf
                        refine xa_zast hx hb hK hP (hD _) hS 17 5 rfl rfl ej13 hi12 d_M_findUse_172 (fun H locs hP hS => ?_)
                        rw [m_use_put cs a s5 j11 (vp_nar .boolean (0 : Int32))] at hP
                        refine lv_iinc (v := (v4 + 1)) (lv' := [(2, .int (v4 + 1)), (4, .int v7), (3, .int v8), (1, .int v2), (0, .ref (a 0))]) hx hb d_M_findUse_173 hl (k := 2) rfl rfl (by decide) rfl (fun ls hl => ?_)
                        refine lv_goto (tgt := 37) hx hb d_M_findUse_176 (by decide) ?_
                        exact ih2 (v4 + 1) (m_use_s s5 j11 (vp_nar .boolean (0 : Int32))) hf _ _ hP hS ls (lv_sub hl [0, 3, 4] rfl)
                      · rw [if_neg c10] at hf
                        refine lv_aload_n hx hb d_M_findUse_159 rfl (lv_at hl 4 rfl) ?_
                        refine lv_iload_n hx hb d_M_findUse_160 rfl (lv_at hl 2 rfl) ?_
                        obtain ⟨r15, hr14, hf⟩ := ob hf
                        refine ro_calli (va_runV (C := "GuideSearchModel") (As := [.int v4]) (rest := [.int v4, .ref (a 17)]) ⟨hx, hb, hml, hown, hT⟩ (c_M_may l dC dI cs a s5 v4 r15 hr14) (cwV 1 hT (gV k_654 k_656 ks_21 k_7 k_657) rfl rfl rfl (by decide +kernel) ⟨Nat.le_of_ble_eq_true rfl, Nat.le_of_ble_eq_true rfl⟩) (ro_preV hP hK hN (va_recv hK hP (ci := 5) (q0 := 0) rfl rfl)) rfl rfl hl.1 rfl (lv_room (Nat.le_of_ble_eq_true rfl)) d_M_findUse_161 ⟨Nat.le_of_ble_eq_true rfl, Nat.le_of_ble_eq_true rfl⟩) ?_
                        refine lv_if_eq (tgt := 171) hx hb d_M_findUse_164 (by decide) (fun c16 => ?_) (fun c16 => ?_)
                        · rw [if_pos c16] at hf
                          refine lv_iconst (v := (0 : Int32)) hx hb d_M_findUse_171 (by decide) ?_
                          obtain ⟨j17, ej19, hi18, hf⟩ := ix_some hf
                          refine xa_zast hx hb hK hP (hD _) hS 17 5 rfl rfl ej19 hi18 d_M_findUse_172 (fun H locs hP hS => ?_)
                          rw [m_use_put cs a s5 j17 (vp_nar .boolean (0 : Int32))] at hP
                          refine lv_iinc (v := (v4 + 1)) (lv' := [(2, .int (v4 + 1)), (4, .int v7), (3, .int v8), (1, .int v2), (0, .ref (a 0))]) hx hb d_M_findUse_173 hl (k := 2) rfl rfl (by decide) rfl (fun ls hl => ?_)
                          refine lv_goto (tgt := 37) hx hb d_M_findUse_176 (by decide) ?_
                          exact ih2 (v4 + 1) (m_use_s s5 j17 (vp_nar .boolean (0 : Int32))) hf _ _ hP hS ls (lv_sub hl [0, 3, 4] rfl)
                        · rw [if_neg c16] at hf
                          refine lv_iconst (v := (1 : Int32)) hx hb d_M_findUse_167 (by decide) ?_
                          refine lv_goto (tgt := 172) hx hb d_M_findUse_168 (by decide) ?_
                          obtain ⟨j20, ej22, hi21, hf⟩ := ix_some hf
                          refine xa_zast hx hb hK hP (hD _) hS 17 5 rfl rfl ej22 hi21 d_M_findUse_172 (fun H locs hP hS => ?_)
                          rw [m_use_put cs a s5 j20 (vp_nar .boolean (1 : Int32))] at hP
                          refine lv_iinc (v := (v4 + 1)) (lv' := [(2, .int (v4 + 1)), (4, .int v7), (3, .int v8), (1, .int v2), (0, .ref (a 0))]) hx hb d_M_findUse_173 hl (k := 2) rfl rfl (by decide) rfl (fun ls hl => ?_)
                          refine lv_goto (tgt := 37) hx hb d_M_findUse_176 (by decide) ?_
                          exact ih2 (v4 + 1) (m_use_s s5 j20 (vp_nar .boolean (1 : Int32))) hf _ _ hP hS ls (lv_sub hl [0, 3, 4] rfl)
                    · rw [if_neg c9] at hf
                      refine lv_aload_n hx hb d_M_findUse_56 rfl (lv_at hl 4 rfl) ?_
                      refine lv_iload_n hx hb d_M_findUse_57 rfl (lv_at hl 2 rfl) ?_
                      refine lv_iload hx hb d_M_findUse_58 (lv_at hl 0 rfl) ?_
                      refine lv_iconst (v := (0 : Int32)) hx hb d_M_findUse_60 (by decide) ?_
                      obtain ⟨r24, hr23, hf⟩ := ob hf
                      refine ro_calli (va_runV (C := "GuideSearchModel") (As := [.int v4, .int v7, .int (0 : Int32)]) (rest := []) ⟨hx, hb, hml, hown, hT⟩ (c_M_oddsOf l dC dI cs a s5 v4 v7 (0 : Int32) r24 hr23) (cwV 3 hT (gV k_621 k_623 ks_15 k_7 k_624) rfl rfl rfl (by decide +kernel) ⟨Nat.le_of_ble_eq_true rfl, Nat.le_of_ble_eq_true rfl⟩) (ro_preV hP hK hN (va_recv hK hP (ci := 5) (q0 := 0) rfl rfl)) rfl rfl hl.1 rfl (lv_room (Nat.le_of_ble_eq_true rfl)) d_M_findUse_61 ⟨Nat.le_of_ble_eq_true rfl, Nat.le_of_ble_eq_true rfl⟩) ?_
                      refine lv_aload_n hx hb d_M_findUse_64 rfl (lv_at hl 4 rfl) ?_
                      refine lv_iload_n hx hb d_M_findUse_65 rfl (lv_at hl 2 rfl) ?_
                      refine lv_iload_n hx hb d_M_findUse_66 rfl (lv_at hl 3 rfl) ?_
                      refine lv_iconst (v := (0 : Int32)) hx hb d_M_findUse_67 (by decide) ?_
                      obtain ⟨r26, hr25, hf⟩ := ob hf
                      refine ro_calli (va_runV (C := "GuideSearchModel") (As := [.int v4, .int v2, .int (0 : Int32)]) (rest := [.int r24]) ⟨hx, hb, hml, hown, hT⟩ (c_M_oddsOf l dC dI cs a s5 v4 v2 (0 : Int32) r26 hr25) (cwV 3 hT (gV k_621 k_623 ks_15 k_7 k_624) rfl rfl rfl (by decide +kernel) ⟨Nat.le_of_ble_eq_true rfl, Nat.le_of_ble_eq_true rfl⟩) (ro_preV hP hK hN (va_recv hK hP (ci := 5) (q0 := 0) rfl rfl)) rfl rfl hl.1 rfl (lv_room (Nat.le_of_ble_eq_true rfl)) d_M_findUse_68 ⟨Nat.le_of_ble_eq_true rfl, Nat.le_of_ble_eq_true rfl⟩) ?_
                      have join4 : ∀ (v27 : Int32), m_M_findUse_J4 s5 v7 v8 self3 v27 = some res → ∀ (ls : Array Slot), lv_has ls 6 [(4, .int v7), (3, .int v8), (2, .int v4), (1, .int v2), (0, .ref (a 0))] → W p l e { frames := 1, cells := 0, slots := 0, locals := 23 } s m ([.ref (a 0)] : List Value).toArray below meth c H locs 0 0 (MQ below (va_Qv (fun _ : Unit => True) (fun _ t => va_P (dC, dI) vwCl (m_W cs a res) t.heap) (m_A a)) ([.ref (a 0)] : List Value).toArray s 0 0 (m_A a)) (F0 m 115 ls [.int v27]) := by
                        intro v27 hf ls hl
                        unfold m_M_findUse_J4 at hf
                        refine lv_istore (lv' := [(5, .int v27), (4, .int v7), (3, .int v8), (2, .int v4), (1, .int v2), (0, .ref (a 0))]) hx hb d_M_findUse_115 hl (by decide) rfl (fun ls hl => ?_)
                        refine lv_iload_n hx hb d_M_findUse_117 rfl (lv_at hl 2 rfl) ?_
                        refine lv_if_ne (tgt := 138) hx hb d_M_findUse_118 (by decide) (fun c28 => ?_) (fun c28 => ?_)
                        · rw [if_neg c28] at hf
                          refine lv_iconst (v := (1 : Int32)) hx hb d_M_findUse_138 (by decide) ?_
                          refine lv_goto (tgt := 143) hx hb d_M_findUse_139 (by decide) ?_
                          refine lv_istore_n (lv' := [(3, .int (1 : Int32)), (5, .int v27), (4, .int v7), (2, .int v4), (1, .int v2), (0, .ref (a 0))]) hx hb d_M_findUse_143 rfl hl (by decide) rfl (fun ls hl => ?_)
                          refine lv_iinc (v := (v7 + 1)) (lv' := [(4, .int (v7 + 1)), (3, .int (1 : Int32)), (5, .int v27), (2, .int v4), (1, .int v2), (0, .ref (a 0))]) hx hb d_M_findUse_144 hl (k := 2) rfl rfl (by decide) rfl (fun ls hl => ?_)
                          refine lv_goto (tgt := 50) hx hb d_M_findUse_147 (by decide) ?_
                          exact ih3 (v7 + 1) (1 : Int32) hf ls (lv_sub hl [0, 1, 3, 4, 5] rfl)
                        · rw [if_pos c28] at hf
                          refine lv_aload_n hx hb d_M_findUse_121 rfl (lv_at hl 5 rfl) ?_
                          refine va_get (D := (dC, dI)) (ci := 5) (v := .ref (a 13)) (C := "GuideSearchModel") (T := F_M) (N := 25) hx hb hT i_M hown hK hP 0 rfl rfl 20 (by decide) (hT _ k_527) (fun _ h9 => h9) rfl d_M_findUse_122 ?_
                          refine lv_iload hx hb d_M_findUse_125 (lv_at hl 1 rfl) ?_
                          obtain ⟨j29, ej31, hi30, hf⟩ := ix_some hf
                          refine xa_lald hx hb hK hP 13 0 rfl rfl ej31 hi30 d_M_findUse_127 ?_
                          refine lv_lconst (v := (0 : Int64)) hx hb d_M_findUse_128 (by decide) ?_
                          refine W.lcmp hx hb d_M_findUse_129 ?_
                          refine lv_if_le (tgt := 142) hx hb d_M_findUse_130 (by decide) (fun c32 => ?_) (fun c32 => ?_)
                          · rw [if_pos ((lg_cmp_le _ _).mp c32)] at hf
                            refine lv_iconst (v := (0 : Int32)) hx hb d_M_findUse_142 (by decide) ?_
                            refine lv_istore_n (lv' := [(3, .int (0 : Int32)), (5, .int v27), (4, .int v7), (2, .int v4), (1, .int v2), (0, .ref (a 0))]) hx hb d_M_findUse_143 rfl hl (by decide) rfl (fun ls hl => ?_)
                            refine lv_iinc (v := (v7 + 1)) (lv' := [(4, .int (v7 + 1)), (3, .int (0 : Int32)), (5, .int v27), (2, .int v4), (1, .int v2), (0, .ref (a 0))]) hx hb d_M_findUse_144 hl (k := 2) rfl rfl (by decide) rfl (fun ls hl => ?_)
                            refine lv_goto (tgt := 50) hx hb d_M_findUse_147 (by decide) ?_
                            exact ih3 (v7 + 1) (0 : Int32) hf ls (lv_sub hl [0, 1, 3, 4, 5] rfl)
                          · rw [if_neg (mt (lg_cmp_le _ _).mpr c32)] at hf
                            refine lv_iload hx hb d_M_findUse_133 (lv_at hl 0 rfl) ?_
                            refine lv_if_ne (tgt := 142) hx hb d_M_findUse_135 (by decide) (fun c33 => ?_) (fun c33 => ?_)
                            · rw [if_neg c33] at hf
                              refine lv_iconst (v := (0 : Int32)) hx hb d_M_findUse_142 (by decide) ?_
                              refine lv_istore_n (lv' := [(3, .int (0 : Int32)), (5, .int v27), (4, .int v7), (2, .int v4), (1, .int v2), (0, .ref (a 0))]) hx hb d_M_findUse_143 rfl hl (by decide) rfl (fun ls hl => ?_)
                              refine lv_iinc (v := (v7 + 1)) (lv' := [(4, .int (v7 + 1)), (3, .int (0 : Int32)), (5, .int v27), (2, .int v4), (1, .int v2), (0, .ref (a 0))]) hx hb d_M_findUse_144 hl (k := 2) rfl rfl (by decide) rfl (fun ls hl => ?_)
                              refine lv_goto (tgt := 50) hx hb d_M_findUse_147 (by decide) ?_
                              exact ih3 (v7 + 1) (0 : Int32) hf ls (lv_sub hl [0, 1, 3, 4, 5] rfl)
                            · rw [if_pos c33] at hf
                              refine lv_iconst (v := (1 : Int32)) hx hb d_M_findUse_138 (by decide) ?_
                              refine lv_goto (tgt := 143) hx hb d_M_findUse_139 (by decide) ?_
                              refine lv_istore_n (lv' := [(3, .int (1 : Int32)), (5, .int v27), (4, .int v7), (2, .int v4), (1, .int v2), (0, .ref (a 0))]) hx hb d_M_findUse_143 rfl hl (by decide) rfl (fun ls hl => ?_)
                              refine lv_iinc (v := (v7 + 1)) (lv' := [(4, .int (v7 + 1)), (3, .int (1 : Int32)), (5, .int v27), (2, .int v4), (1, .int v2), (0, .ref (a 0))]) hx hb d_M_findUse_144 hl (k := 2) rfl rfl (by decide) rfl (fun ls hl => ?_)
                              refine lv_goto (tgt := 50) hx hb d_M_findUse_147 (by decide) ?_
                              exact ih3 (v7 + 1) (1 : Int32) hf ls (lv_sub hl [0, 1, 3, 4, 5] rfl)
                      have join5 : m_M_findUse_J5 s5 v7 v8 self3  = some res → ∀ (ls : Array Slot), lv_has ls 6 [(4, .int v7), (3, .int v8), (2, .int v4), (1, .int v2), (0, .ref (a 0))] → W p l e { frames := 1, cells := 0, slots := 0, locals := 23 } s m ([.ref (a 0)] : List Value).toArray below meth c H locs 0 0 (MQ below (va_Qv (fun _ : Unit => True) (fun _ t => va_P (dC, dI) vwCl (m_W cs a res) t.heap) (m_A a)) ([.ref (a 0)] : List Value).toArray s 0 0 (m_A a)) (F0 m 114 ls []) := by
                        intro  hf ls hl
                        unfold m_M_findUse_J5 at hf
                        refine lv_iconst (v := (0 : Int32)) hx hb d_M_findUse_114 (by decide) ?_
                        exact join4 (0 : Int32) hf ls (lv_sub hl [0, 1, 2, 3, 4] rfl)
                      refine lv_icmp_ne (tgt := 114) hx hb d_M_findUse_71 (by decide) (fun c34 => ?_) (fun c34 => ?_)
                      · rw [if_neg c34] at hf
                        exact join5 hf ls (lv_sub hl [0, 1, 2, 3, 4] rfl)
                      · rw [if_pos c34] at hf
                        refine lv_aload_n hx hb d_M_findUse_74 rfl (lv_at hl 4 rfl) ?_
                        refine lv_iload_n hx hb d_M_findUse_75 rfl (lv_at hl 2 rfl) ?_
                        refine lv_iload hx hb d_M_findUse_76 (lv_at hl 0 rfl) ?_
                        refine lv_iconst (v := (1 : Int32)) hx hb d_M_findUse_78 (by decide) ?_
                        obtain ⟨r36, hr35, hf⟩ := ob hf
                        refine ro_calli (va_runV (C := "GuideSearchModel") (As := [.int v4, .int v7, .int (1 : Int32)]) (rest := []) ⟨hx, hb, hml, hown, hT⟩ (c_M_oddsOf l dC dI cs a s5 v4 v7 (1 : Int32) r36 hr35) (cwV 3 hT (gV k_621 k_623 ks_15 k_7 k_624) rfl rfl rfl (by decide +kernel) ⟨Nat.le_of_ble_eq_true rfl, Nat.le_of_ble_eq_true rfl⟩) (ro_preV hP hK hN (va_recv hK hP (ci := 5) (q0 := 0) rfl rfl)) rfl rfl hl.1 rfl (lv_room (Nat.le_of_ble_eq_true rfl)) d_M_findUse_79 ⟨Nat.le_of_ble_eq_true rfl, Nat.le_of_ble_eq_true rfl⟩) ?_
                        refine lv_aload_n hx hb d_M_findUse_82 rfl (lv_at hl 4 rfl) ?_
                        refine lv_iload_n hx hb d_M_findUse_83 rfl (lv_at hl 2 rfl) ?_
                        refine lv_iload_n hx hb d_M_findUse_84 rfl (lv_at hl 3 rfl) ?_
                        refine lv_iconst (v := (1 : Int32)) hx hb d_M_findUse_85 (by decide) ?_
                        obtain ⟨r38, hr37, hf⟩ := ob hf
                        refine ro_calli (va_runV (C := "GuideSearchModel") (As := [.int v4, .int v2, .int (1 : Int32)]) (rest := [.int r36]) ⟨hx, hb, hml, hown, hT⟩ (c_M_oddsOf l dC dI cs a s5 v4 v2 (1 : Int32) r38 hr37) (cwV 3 hT (gV k_621 k_623 ks_15 k_7 k_624) rfl rfl rfl (by decide +kernel) ⟨Nat.le_of_ble_eq_true rfl, Nat.le_of_ble_eq_true rfl⟩) (ro_preV hP hK hN (va_recv hK hP (ci := 5) (q0 := 0) rfl rfl)) rfl rfl hl.1 rfl (lv_room (Nat.le_of_ble_eq_true rfl)) d_M_findUse_86 ⟨Nat.le_of_ble_eq_true rfl, Nat.le_of_ble_eq_true rfl⟩) ?_
                        refine lv_icmp_ne (tgt := 114) hx hb d_M_findUse_89 (by decide) (fun c39 => ?_) (fun c39 => ?_)
                        · rw [if_neg c39] at hf
                          exact join5 hf ls (lv_sub hl [0, 1, 2, 3, 4] rfl)
                        · rw [if_pos c39] at hf
                          refine lv_aload_n hx hb d_M_findUse_92 rfl (lv_at hl 4 rfl) ?_
                          refine lv_iload_n hx hb d_M_findUse_93 rfl (lv_at hl 2 rfl) ?_
                          refine lv_iload hx hb d_M_findUse_94 (lv_at hl 0 rfl) ?_
                          refine lv_iconst (v := (2 : Int32)) hx hb d_M_findUse_96 (by decide) ?_
                          obtain ⟨r41, hr40, hf⟩ := ob hf
                          refine ro_calli (va_runV (C := "GuideSearchModel") (As := [.int v4, .int v7, .int (2 : Int32)]) (rest := []) ⟨hx, hb, hml, hown, hT⟩ (c_M_oddsOf l dC dI cs a s5 v4 v7 (2 : Int32) r41 hr40) (cwV 3 hT (gV k_621 k_623 ks_15 k_7 k_624) rfl rfl rfl (by decide +kernel) ⟨Nat.le_of_ble_eq_true rfl, Nat.le_of_ble_eq_true rfl⟩) (ro_preV hP hK hN (va_recv hK hP (ci := 5) (q0 := 0) rfl rfl)) rfl rfl hl.1 rfl (lv_room (Nat.le_of_ble_eq_true rfl)) d_M_findUse_97 ⟨Nat.le_of_ble_eq_true rfl, Nat.le_of_ble_eq_true rfl⟩) ?_
                          refine lv_aload_n hx hb d_M_findUse_100 rfl (lv_at hl 4 rfl) ?_
                          refine lv_iload_n hx hb d_M_findUse_101 rfl (lv_at hl 2 rfl) ?_
                          refine lv_iload_n hx hb d_M_findUse_102 rfl (lv_at hl 3 rfl) ?_
                          refine lv_iconst (v := (2 : Int32)) hx hb d_M_findUse_103 (by decide) ?_
                          obtain ⟨r43, hr42, hf⟩ := ob hf
                          refine ro_calli (va_runV (C := "GuideSearchModel") (As := [.int v4, .int v2, .int (2 : Int32)]) (rest := [.int r41]) ⟨hx, hb, hml, hown, hT⟩ (c_M_oddsOf l dC dI cs a s5 v4 v2 (2 : Int32) r43 hr42) (cwV 3 hT (gV k_621 k_623 ks_15 k_7 k_624) rfl rfl rfl (by decide +kernel) ⟨Nat.le_of_ble_eq_true rfl, Nat.le_of_ble_eq_true rfl⟩) (ro_preV hP hK hN (va_recv hK hP (ci := 5) (q0 := 0) rfl rfl)) rfl rfl hl.1 rfl (lv_room (Nat.le_of_ble_eq_true rfl)) d_M_findUse_104 ⟨Nat.le_of_ble_eq_true rfl, Nat.le_of_ble_eq_true rfl⟩) ?_
                          refine lv_icmp_ne (tgt := 114) hx hb d_M_findUse_107 (by decide) (fun c44 => ?_) (fun c44 => ?_)
                          · rw [if_neg c44] at hf
                            exact join5 hf ls (lv_sub hl [0, 1, 2, 3, 4] rfl)
                          · rw [if_pos c44] at hf
                            refine lv_iconst (v := (1 : Int32)) hx hb d_M_findUse_110 (by decide) ?_
                            refine lv_goto (tgt := 115) hx hb d_M_findUse_111 (by decide) ?_
                            exact join4 (1 : Int32) hf ls (lv_sub hl [0, 1, 2, 3, 4] rfl)
                exact loop3 _ (1 : Int32) (0 : Int32) hf ls (lv_sub hl [0, 1, 2, 3, 4] rfl)
          exact loop2 _ (1 : Int32) st hf _ _ hP hS ls (lv_sub hl [0, 1, 2] rfl)
        · rw [if_neg c3] at hf
          refine lv_aload_n hx hb d_M_findUse_12 rfl (lv_at hl 2 rfl) ?_
          refine va_get (D := (dC, dI)) (ci := 5) (v := .ref (a 13)) (C := "GuideSearchModel") (T := F_M) (N := 25) hx hb hT i_M hown hK hP 0 rfl rfl 20 (by decide) (hT _ k_527) (fun _ h9 => h9) rfl d_M_findUse_13 ?_
          refine lv_iload_n hx hb d_M_findUse_16 rfl (lv_at hl 0 rfl) ?_
          obtain ⟨j45, ej47, hi46, hf⟩ := ix_some hf
          refine xa_lald hx hb hK hP 13 0 rfl rfl ej47 hi46 d_M_findUse_17 ?_
          refine lv_lconst (v := (0 : Int64)) hx hb d_M_findUse_18 (by decide) ?_
          refine W.lcmp hx hb d_M_findUse_19 ?_
          refine lv_if_le (tgt := 27) hx hb d_M_findUse_20 (by decide) (fun c48 => ?_) (fun c48 => ?_)
          · rw [if_pos ((lg_cmp_le _ _).mp c48)] at hf
            refine lv_iload_n hx hb d_M_findUse_27 rfl (lv_at hl 1 rfl) ?_
            refine lv_istore_n (lv' := [(1, .int v2), (2, .int v1), (0, .ref (a 0))]) hx hb d_M_findUse_28 rfl hl (by decide) rfl (fun ls hl => ?_)
            refine lv_iinc (v := (v1 + 1)) (lv' := [(2, .int (v1 + 1)), (1, .int v2), (0, .ref (a 0))]) hx hb d_M_findUse_29 hl (k := 1) rfl rfl (by decide) rfl (fun ls hl => ?_)
            refine lv_goto (tgt := 4) hx hb d_M_findUse_32 (by decide) ?_
            exact ih1 (v1 + 1) v2 hf ls (lv_sub hl [0, 1, 2] rfl)
          · rw [if_neg (mt (lg_cmp_le _ _).mpr c48)] at hf
            refine lv_iload_n hx hb d_M_findUse_23 rfl (lv_at hl 0 rfl) ?_
            refine lv_goto (tgt := 28) hx hb d_M_findUse_24 (by decide) ?_
            refine lv_istore_n (lv' := [(1, .int v1), (2, .int v1), (0, .ref (a 0))]) hx hb d_M_findUse_28 rfl hl (by decide) rfl (fun ls hl => ?_)
            refine lv_iinc (v := (v1 + 1)) (lv' := [(2, .int (v1 + 1)), (1, .int v1), (0, .ref (a 0))]) hx hb d_M_findUse_29 hl (k := 1) rfl rfl (by decide) rfl (fun ls hl => ?_)
            refine lv_goto (tgt := 4) hx hb d_M_findUse_32 (by decide) ?_
            exact ih1 (v1 + 1) v1 hf ls (lv_sub hl [0, 1, 2] rfl)
    exact loop1 _ (1 : Int32) (0 : Int32) hf ls (lv_sub hl [0, 1, 2] rfl)
  exact main _ _ hP va_S.rf
set_option maxHeartbeats 4000000 in
set_option maxRecDepth 100000 in
theorem c_M_free (l : Launch) (dC : Nat → ClassId) (dI : Nat → Nat → Nat) (cs : Nat → ClassId) (a : Nat → Nat) (st : MS) (res : Int32) (hf : m_M_free st = some res) : Met l (⟨"GuideSearchModel", "free", "()I"⟩ : MethodName) (Cond.code (⟨"GuideSearchModel", "free", "()I"⟩ : MethodName) prog_7_method_20_code 2 (some .int) :: wg) { frames := 0, cells := 0, slots := 0, locals := 0 } (va_Pc ([.ref (a 0)] : List Value) (m_pre dC dI cs a st)) (vp_Si (fun r => r = res)) 0 0 (fun _ => False) := by
  refine ro_start (cc := prog_7_method_20_code) (maxL := 2) (ret := (some .int)) (by decide) (Nat.le_of_ble_eq_true rfl) ?_
  intro p e s m below meth c hx hb hr hml hT hown hlocks hB ls hl
  replace hown : s.vm.findClass "GuideSearchModel" = some m.cls := hown
  obtain ⟨hP, hK, hN⟩ := hB
  replace hl : lv_has ls 2 [(0, .ref (a 0))] := hl
  unfold m_M_free at hf
  refine lv_iconst (v := (1 : Int32)) hx hb d_M_free_0 (by decide) ?_
  refine lv_istore_n (lv' := [(1, .int (1 : Int32)), (0, .ref (a 0))]) hx hb d_M_free_1 rfl hl (by decide) rfl (fun ls hl => ?_)
  have loop1 : ∀ (n : Nat) (v1 : Int32), xl1 (m_M_free_B1 st) n v1 = some res → ∀ (ls : Array Slot), lv_has ls 2 [(1, .int v1), (0, .ref (a 0))] → W p l e { frames := 0, cells := 0, slots := 0, locals := 0 } s m ([.ref (a 0)] : List Value).toArray below meth c s.heap [] 0 0 (MQ below (vp_Si (fun r => r = res)) ([.ref (a 0)] : List Value).toArray s 0 0 (fun _ => False)) (F0 m 2 ls []) := by
    intro n
    induction n with
    | zero => intro v1 hf; exact absurd hf (by simp [xl1])
    | succ n ih1 =>
      intro v1 hf ls hl
      replace hf : (m_M_free_B1 st) (xl1 (m_M_free_B1 st) n) v1 = some res := hf
      generalize xl1 (m_M_free_B1 st) n = self1 at hf ih1
      unfold m_M_free_B1 at hf
      refine lv_iload_n hx hb d_M_free_2 rfl (lv_at hl 0 rfl) ?_
      refine lv_aload_n hx hb d_M_free_3 rfl (lv_at hl 1 rfl) ?_
      refine va_get (D := (dC, dI)) (ci := 5) (v := .int (m_tests st)) (C := "GuideSearchModel") (T := F_M) (N := 25) hx hb hT i_M hown hK hP 0 rfl rfl 8 (by decide) (hT _ k_515) (fun _ h9 => h9) rfl d_M_free_4 ?_
      refine lv_icmp_gt (tgt := 38) hx hb d_M_free_7 (by decide) (fun c2 => ?_) (fun c2 => ?_)
      · rw [if_pos c2] at hf
        refine lv_iconst (v := (0 : Int32)) hx hb d_M_free_38 (by decide) ?_
        exact W.iret hx hb hr (fun t ht _ => ⟨_, rfl, Option.some.inj hf, ht⟩) (fun _ h => absurd h List.not_mem_nil) d_M_free_39
      · rw [if_neg c2] at hf
        refine lv_aload_n hx hb d_M_free_10 rfl (lv_at hl 1 rfl) ?_
        refine va_get (D := (dC, dI)) (ci := 5) (v := .ref (a 5)) (C := "GuideSearchModel") (T := F_M) (N := 25) hx hb hT i_M hown hK hP 0 rfl rfl 9 (by decide) (hT _ k_516) (fun _ h9 => h9) rfl d_M_free_11 ?_
        refine lv_iload_n hx hb d_M_free_14 rfl (lv_at hl 0 rfl) ?_
        obtain ⟨j3, ej5, hi4, hf⟩ := ix_some hf
        refine xa_lald hx hb hK hP 5 0 rfl rfl ej5 hi4 d_M_free_15 ?_
        refine lv_lconst (v := (0 : Int64)) hx hb d_M_free_16 (by decide) ?_
        refine W.lcmp hx hb d_M_free_17 ?_
        refine lv_if_ne (tgt := 32) hx hb d_M_free_18 (by decide) (fun c6 => ?_) (fun c6 => ?_)
        · rw [if_neg (mt (lg_cmp_eq _ _).mpr c6)] at hf
          refine lv_iinc (v := (v1 + 1)) (lv' := [(1, .int (v1 + 1)), (0, .ref (a 0))]) hx hb d_M_free_32 hl (k := 0) rfl rfl (by decide) rfl (fun ls hl => ?_)
          refine lv_goto (tgt := 2) hx hb d_M_free_35 (by decide) ?_
          exact ih1 (v1 + 1) hf ls (lv_sub hl [0, 1] rfl)
        · rw [if_pos ((lg_cmp_eq _ _).mp c6)] at hf
          refine lv_aload_n hx hb d_M_free_21 rfl (lv_at hl 1 rfl) ?_
          refine va_get (D := (dC, dI)) (ci := 5) (v := .ref (a 17)) (C := "GuideSearchModel") (T := F_M) (N := 25) hx hb hT i_M hown hK hP 0 rfl rfl 24 (by decide) (hT _ k_531) (fun _ h9 => h9) rfl d_M_free_22 ?_
          refine lv_iload_n hx hb d_M_free_25 rfl (lv_at hl 0 rfl) ?_
          obtain ⟨j7, ej9, hi8, hf⟩ := ix_some hf
          refine xa_zald hx hb hK hP 17 5 rfl rfl ej9 hi8 d_M_free_26 ?_
          refine lv_if_eq (tgt := 32) hx hb d_M_free_27 (by decide) (fun c10 => ?_) (fun c10 => ?_)
          · rw [if_pos c10] at hf
            refine lv_iinc (v := (v1 + 1)) (lv' := [(1, .int (v1 + 1)), (0, .ref (a 0))]) hx hb d_M_free_32 hl (k := 0) rfl rfl (by decide) rfl (fun ls hl => ?_)
            refine lv_goto (tgt := 2) hx hb d_M_free_35 (by decide) ?_
            exact ih1 (v1 + 1) hf ls (lv_sub hl [0, 1] rfl)
          · rw [if_neg c10] at hf
            refine lv_iload_n hx hb d_M_free_30 rfl (lv_at hl 0 rfl) ?_
            exact W.iret hx hb hr (fun t ht _ => ⟨_, rfl, Option.some.inj hf, ht⟩) (fun _ h => absurd h List.not_mem_nil) d_M_free_31
  exact loop1 _ (1 : Int32) hf ls (lv_sub hl [0, 1] rfl)
set_option maxHeartbeats 4000000 in
set_option maxRecDepth 100000 in
theorem c_M_find (l : Launch) (dC : Nat → ClassId) (dI : Nat → Nat → Nat) (cs : Nat → ClassId) (a : Nat → Nat) (hi : ∀ i j : Nat, i < 18 → j < 18 → a i = a j → i = j) (st : MS) (p1 : Int32) (res : MS) (hf : m_M_find st p1 = some res) : Met l (⟨"GuideSearchModel", "find", "(I)V"⟩ : MethodName) (Cond.code (⟨"GuideSearchModel", "find", "(I)V"⟩ : MethodName) prog_7_method_21_code 10 none :: wg) { frames := 2, cells := 0, slots := 0, locals := 48 } (va_Pc ([.ref (a 0), .int p1] : List Value) (m_pre dC dI cs a st)) (va_Qv (fun _ : Unit => True) (fun _ t => va_P (dC, dI) vwCl (m_W cs a res) t.heap) (m_A a)) 0 0 (m_A a) := by
  refine ro_start (cc := prog_7_method_21_code) (maxL := 10) (ret := none) (by decide) (Nat.le_of_ble_eq_true rfl) ?_
  intro p e s m below meth c hx hb hr hml hT hown hlocks hB ls hl
  replace hown : s.vm.findClass "GuideSearchModel" = some m.cls := hown
  obtain ⟨hP, hK, hN⟩ := hB
  replace hl : lv_has ls 10 [(0, .ref (a 0)), (1, .int p1)] := hl
  unfold m_M_find at hf
  have hD : ∀ st : MS, va_D (m_A a) (m_W cs a st) := fun st => m_D hi cs st
  have main : ∀ (H : Heap) (locs : List Loc), va_P (dC, dI) vwCl (m_W cs a st) H → va_S (m_A a) s.heap H locs → W p l e { frames := 2, cells := 0, slots := 0, locals := 48 } s m ([.ref (a 0), .int p1] : List Value).toArray below meth c H locs 0 0 (MQ below (va_Qv (fun _ : Unit => True) (fun _ t => va_P (dC, dI) vwCl (m_W cs a res) t.heap) (m_A a)) ([.ref (a 0), .int p1] : List Value).toArray s 0 0 (m_A a)) (F0 m 0 ls []) := by
    intro H locs hP hS
    refine lv_aload_n hx hb d_M_find_0 rfl (lv_at hl 0 rfl) ?_
    refine lv_iload_n hx hb d_M_find_1 rfl (lv_at hl 1 rfl) ?_
    obtain ⟨s2, hr1, hf⟩ := ob hf
    refine rw_callv (va_runV (C := "GuideSearchModel") (As := [.int p1]) (rest := []) ⟨hx, hb, hml, hown, hT⟩ (c_M_look l dC dI cs a hi st p1 s2 hr1) (cwV 1 hT (gV k_642 k_644 ks_18 k_7 k_645) rfl rfl rfl (by decide +kernel) ⟨Nat.le_of_ble_eq_true rfl, Nat.le_of_ble_eq_true rfl⟩) (ro_preV hP hK hN (va_recv hK hP (ci := 5) (q0 := 0) rfl rfl)) rfl rfl hl.1 rfl (lv_room (Nat.le_of_ble_eq_true rfl)) d_M_find_2 ⟨Nat.le_of_ble_eq_true rfl, Nat.le_of_ble_eq_true rfl⟩) hS (fun H locs hP hS => ?_)
    refine lv_aload_n hx hb d_M_find_5 rfl (lv_at hl 0 rfl) ?_
    obtain ⟨r4, hr3, hf⟩ := ob hf
    refine ro_calli (va_runV (C := "GuideSearchModel") (As := []) (rest := []) ⟨hx, hb, hml, hown, hT⟩ (c_M_left l dC dI cs a s2 r4 hr3) (cwV 0 hT (gV k_646 k_648 ks_19 k_7 k_649) rfl rfl rfl (by decide +kernel) ⟨Nat.le_of_ble_eq_true rfl, Nat.le_of_ble_eq_true rfl⟩) (ro_preV hP hK hN (va_recv hK hP (ci := 5) (q0 := 0) rfl rfl)) rfl rfl hl.1 rfl (lv_room (Nat.le_of_ble_eq_true rfl)) d_M_find_6 ⟨Nat.le_of_ble_eq_true rfl, Nat.le_of_ble_eq_true rfl⟩) ?_
    refine lv_istore_n (lv' := [(2, .int r4), (0, .ref (a 0)), (1, .int p1)]) hx hb d_M_find_9 rfl hl (by decide) rfl (fun ls hl => ?_)
    refine lv_aload_n hx hb d_M_find_10 rfl (lv_at hl 1 rfl) ?_
    obtain ⟨r6, hr5, hf⟩ := ob hf
    refine ro_calll (va_runV (C := "GuideSearchModel") (As := []) (rest := []) ⟨hx, hb, hml, hown, hT⟩ (c_M_sum l dC dI cs a s2 r6 hr5) (cwV 0 hT (gV k_684 k_686 ks_27 k_7 k_687) rfl rfl rfl (by decide +kernel) ⟨Nat.le_of_ble_eq_true rfl, Nat.le_of_ble_eq_true rfl⟩) (ro_preV hP hK hN (va_recv hK hP (ci := 5) (q0 := 0) rfl rfl)) rfl rfl hl.1 rfl (lv_room (Nat.le_of_ble_eq_true rfl)) d_M_find_11 ⟨Nat.le_of_ble_eq_true rfl, Nat.le_of_ble_eq_true rfl⟩) ?_
    refine lv_lstore_n (lv' := [(3, .long r6), (2, .int r4), (0, .ref (a 0)), (1, .int p1)]) hx hb d_M_find_14 rfl hl (by decide) rfl (fun ls hl => ?_)
    refine lv_aload_n hx hb d_M_find_15 rfl (lv_at hl 2 rfl) ?_
    refine va_get (D := (dC, dI)) (ci := 5) (v := .ref (a 10)) (C := "GuideSearchModel") (T := F_M) (N := 25) hx hb hT i_M hown hK hP 0 rfl rfl 17 (by decide) (hT _ k_524) (fun _ h9 => h9) rfl d_M_find_16 ?_
    refine lv_iload_n hx hb d_M_find_19 rfl (lv_at hl 3 rfl) ?_
    refine lv_iload_n hx hb d_M_find_20 rfl (lv_at hl 1 rfl) ?_
    have join1 : ∀ (v7 : Int64), m_M_find_J1 p1 s2 r4 r6 v7 = some res → ∀ (ls : Array Slot), lv_has ls 10 [(3, .long r6), (2, .int r4), (0, .ref (a 0)), (1, .int p1)] → W p l e { frames := 2, cells := 0, slots := 0, locals := 48 } s m ([.ref (a 0), .int p1] : List Value).toArray below meth c H locs 0 0 (MQ below (va_Qv (fun _ : Unit => True) (fun _ t => va_P (dC, dI) vwCl (m_W cs a res) t.heap) (m_A a)) ([.ref (a 0), .int p1] : List Value).toArray s 0 0 (m_A a)) (F0 m 38 ls [.long v7, .int p1, .ref (a 10)]) := by
      intro v7 hf ls hl
      unfold m_M_find_J1 at hf
      obtain ⟨j8, ej10, hi9, hf⟩ := ix_some hf
      refine xa_last hx hb hK hP (hD _) hS 10 0 rfl rfl ej10 hi9 d_M_find_38 (fun H locs hP hS => ?_)
      rw [m_value_put cs a s2 j8 v7] at hP
      refine lv_aload_n hx hb d_M_find_39 rfl (lv_at hl 2 rfl) ?_
      refine va_get (D := (dC, dI)) (ci := 5) (v := .ref (a 11)) (C := "GuideSearchModel") (T := F_M) (N := 25) hx hb hT i_M hown hK hP 0 rfl rfl 18 (by decide) (hT _ k_525) (fun _ h9 => h9) rfl d_M_find_40 ?_
      refine lv_iload_n hx hb d_M_find_43 rfl (lv_at hl 3 rfl) ?_
      refine lv_iconst (v := (0 : Int32)) hx hb d_M_find_44 (by decide) ?_
      obtain ⟨j11, ej13, hi12, hf⟩ := ix_some hf
      refine xa_iast hx hb hK hP (hD _) hS 11 1 rfl rfl ej13 hi12 d_M_find_45 (fun H locs hP hS => ?_)
      rw [m_best_put cs a (m_value_s s2 j8 v7) j11 (0 : Int32)] at hP
      refine lv_iload_n hx hb d_M_find_46 rfl (lv_at hl 1 rfl) ?_
      refine lv_iconst (v := (2 : Int32)) hx hb d_M_find_47 (by decide) ?_
      refine lv_icmp_ge (tgt := 52) hx hb d_M_find_48 (by decide) (fun c14 => ?_) (fun c14 => ?_)
      · rw [if_pos c14] at hf
        refine lv_aload_n hx hb d_M_find_52 rfl (lv_at hl 2 rfl) ?_
        obtain ⟨s16, hr15, hf⟩ := ob hf
        refine rw_callv (va_runV (C := "GuideSearchModel") (As := []) (rest := []) ⟨hx, hb, hml, hown, hT⟩ (c_M_findUse l dC dI cs a hi (m_best_s (m_value_s s2 j8 v7) j11 (0 : Int32)) s16 hr15) (cwV 0 hT (gV k_650 k_652 ks_20 k_7 k_653) rfl rfl rfl (by decide +kernel) ⟨Nat.le_of_ble_eq_true rfl, Nat.le_of_ble_eq_true rfl⟩) (ro_preV hP hK hN (va_recv hK hP (ci := 5) (q0 := 0) rfl rfl)) rfl rfl hl.1 rfl (lv_room (Nat.le_of_ble_eq_true rfl)) d_M_find_53 ⟨Nat.le_of_ble_eq_true rfl, Nat.le_of_ble_eq_true rfl⟩) hS (fun H locs hP hS => ?_)
        refine lv_aload_n hx hb d_M_find_56 rfl (lv_at hl 2 rfl) ?_
        obtain ⟨r18, hr17, hf⟩ := ob hf
        refine ro_calli (va_runV (C := "GuideSearchModel") (As := []) (rest := []) ⟨hx, hb, hml, hown, hT⟩ (c_M_free l dC dI cs a s16 r18 hr17) (cwV 0 hT (gV k_658 k_660 ks_22 k_7 k_661) rfl rfl rfl (by decide +kernel) ⟨Nat.le_of_ble_eq_true rfl, Nat.le_of_ble_eq_true rfl⟩) (ro_preV hP hK hN (va_recv hK hP (ci := 5) (q0 := 0) rfl rfl)) rfl rfl hl.1 rfl (lv_room (Nat.le_of_ble_eq_true rfl)) d_M_find_57 ⟨Nat.le_of_ble_eq_true rfl, Nat.le_of_ble_eq_true rfl⟩) ?_
        refine lv_istore (lv' := [(5, .int r18), (3, .long r6), (2, .int r4), (0, .ref (a 0)), (1, .int p1)]) hx hb d_M_find_60 hl (by decide) rfl (fun ls hl => ?_)
        refine lv_iconst (v := (1 : Int32)) hx hb d_M_find_62 (by decide) ?_
        refine lv_istore (lv' := [(6, .int (1 : Int32)), (5, .int r18), (3, .long r6), (2, .int r4), (0, .ref (a 0)), (1, .int p1)]) hx hb d_M_find_63 hl (by decide) rfl (fun ls hl => ?_)
        have loop2 : ∀ (n : Nat) (v19 : Int32) (s20 : MS), xl2 (m_M_find_B2 p1 r6 r18) n v19 s20 = some res → ∀ (H : Heap) (locs : List Loc), va_P (dC, dI) vwCl (m_W cs a s20) H → va_S (m_A a) s.heap H locs → ∀ (ls : Array Slot), lv_has ls 10 [(6, .int v19), (5, .int r18), (3, .long r6), (0, .ref (a 0)), (1, .int p1)] → W p l e { frames := 2, cells := 0, slots := 0, locals := 48 } s m ([.ref (a 0), .int p1] : List Value).toArray below meth c H locs 0 0 (MQ below (va_Qv (fun _ : Unit => True) (fun _ t => va_P (dC, dI) vwCl (m_W cs a res) t.heap) (m_A a)) ([.ref (a 0), .int p1] : List Value).toArray s 0 0 (m_A a)) (F0 m 65 ls []) := by
          intro n
          induction n with
          | zero => intro v19 s20 hf; exact absurd hf (by simp [xl2])
          | succ n ih2 =>
            intro v19 s20 hf H locs hP hS ls hl
            replace hf : (m_M_find_B2 p1 r6 r18) (xl2 (m_M_find_B2 p1 r6 r18) n) v19 s20 = some res := hf
            generalize xl2 (m_M_find_B2 p1 r6 r18) n = self2 at hf ih2
            unfold m_M_find_B2 at hf
            refine lv_iload hx hb d_M_find_65 (lv_at hl 0 rfl) ?_
            refine lv_aload_n hx hb d_M_find_67 rfl (lv_at hl 3 rfl) ?_
            refine va_get (D := (dC, dI)) (ci := 5) (v := .int (m_tests s20)) (C := "GuideSearchModel") (T := F_M) (N := 25) hx hb hT i_M hown hK hP 0 rfl rfl 8 (by decide) (hT _ k_515) (fun _ h9 => h9) rfl d_M_find_68 ?_
            refine lv_icmp_gt (tgt := 188) hx hb d_M_find_71 (by decide) (fun c21 => ?_) (fun c21 => ?_)
            · rw [if_pos c21] at hf
              exact W.vret hx hb hr (fun t ht _ => ⟨⟨(), rfl, trivial, m_fin ht (Option.some.inj hf) hP⟩, hS.F ht⟩) hS.2.2 d_M_find_188
            · rw [if_neg c21] at hf
              refine lv_aload_n hx hb d_M_find_74 rfl (lv_at hl 3 rfl) ?_
              refine va_get (D := (dC, dI)) (ci := 5) (v := .ref (a 17)) (C := "GuideSearchModel") (T := F_M) (N := 25) hx hb hT i_M hown hK hP 0 rfl rfl 24 (by decide) (hT _ k_531) (fun _ h9 => h9) rfl d_M_find_75 ?_
              refine lv_iload hx hb d_M_find_78 (lv_at hl 0 rfl) ?_
              obtain ⟨j22, ej24, hi23, hf⟩ := ix_some hf
              refine xa_zald hx hb hK hP 17 5 rfl rfl ej24 hi23 d_M_find_80 ?_
              refine lv_if_eq (tgt := 182) hx hb d_M_find_81 (by decide) (fun c25 => ?_) (fun c25 => ?_)
              · rw [if_pos c25] at hf
                refine lv_iinc (v := (v19 + 1)) (lv' := [(6, .int (v19 + 1)), (5, .int r18), (3, .long r6), (0, .ref (a 0)), (1, .int p1)]) hx hb d_M_find_182 hl (k := 0) rfl rfl (by decide) rfl (fun ls hl => ?_)
                refine lv_goto (tgt := 65) hx hb d_M_find_185 (by decide) ?_
                exact ih2 (v19 + 1) s20 hf _ _ hP hS ls (lv_sub hl [0, 1, 2, 3, 4] rfl)
              · rw [if_neg c25] at hf
                refine lv_iload hx hb d_M_find_84 (lv_at hl 1 rfl) ?_
                have join3 : m_M_find_J3 p1 r6 v19 s20 self2  = some res → ∀ (ls : Array Slot), lv_has ls 10 [(6, .int v19), (5, .int r18), (3, .long r6), (0, .ref (a 0)), (1, .int p1)] → W p l e { frames := 2, cells := 0, slots := 0, locals := 48 } s m ([.ref (a 0), .int p1] : List Value).toArray below meth c H locs 0 0 (MQ below (va_Qv (fun _ : Unit => True) (fun _ t => va_P (dC, dI) vwCl (m_W cs a res) t.heap) (m_A a)) ([.ref (a 0), .int p1] : List Value).toArray s 0 0 (m_A a)) (F0 m 99 ls []) := by
                  intro  hf ls hl
                  unfold m_M_find_J3 at hf
                  refine lv_aload_n hx hb d_M_find_99 rfl (lv_at hl 3 rfl) ?_
                  refine va_get (D := (dC, dI)) (ci := 5) (v := .ref (a 5)) (C := "GuideSearchModel") (T := F_M) (N := 25) hx hb hT i_M hown hK hP 0 rfl rfl 9 (by decide) (hT _ k_516) (fun _ h9 => h9) rfl d_M_find_100 ?_
                  refine lv_iload hx hb d_M_find_103 (lv_at hl 0 rfl) ?_
                  obtain ⟨j26, ej28, hi27, hf⟩ := ix_some hf
                  refine xa_lald hx hb hK hP 5 0 rfl rfl ej28 hi27 d_M_find_105 ?_
                  refine lv_lload_n hx hb d_M_find_106 rfl (lv_at hl 2 rfl) ?_
                  refine lv_lmul hx hb d_M_find_107 ?_
                  refine lv_lstore (lv' := [(7, .long ((m_price s20 j26) * r6)), (6, .int v19), (5, .int r18), (3, .long r6), (0, .ref (a 0)), (1, .int p1)]) hx hb d_M_find_108 hl (by decide) rfl (fun ls hl => ?_)
                  refine lv_iconst (v := (1 : Int32)) hx hb d_M_find_110 (by decide) ?_
                  refine lv_istore (lv' := [(9, .int (1 : Int32)), (7, .long ((m_price s20 j26) * r6)), (6, .int v19), (5, .int r18), (3, .long r6), (0, .ref (a 0)), (1, .int p1)]) hx hb d_M_find_111 hl (by decide) rfl (fun ls hl => ?_)
                  have loop4 : ∀ (n : Nat) (v29 : Int32) (v30 : Int64), xl2 (m_M_find_B4 p1 v19 s20 self2) n v29 v30 = some res → ∀ (ls : Array Slot), lv_has ls 10 [(9, .int v29), (7, .long v30), (6, .int v19), (5, .int r18), (3, .long r6), (0, .ref (a 0)), (1, .int p1)] → W p l e { frames := 2, cells := 0, slots := 0, locals := 48 } s m ([.ref (a 0), .int p1] : List Value).toArray below meth c H locs 0 0 (MQ below (va_Qv (fun _ : Unit => True) (fun _ t => va_P (dC, dI) vwCl (m_W cs a res) t.heap) (m_A a)) ([.ref (a 0), .int p1] : List Value).toArray s 0 0 (m_A a)) (F0 m 113 ls []) := by
                    intro n
                    induction n with
                    | zero => intro v29 v30 hf; exact absurd hf (by simp [xl2])
                    | succ n ih4 =>
                      intro v29 v30 hf ls hl
                      replace hf : (m_M_find_B4 p1 v19 s20 self2) (xl2 (m_M_find_B4 p1 v19 s20 self2) n) v29 v30 = some res := hf
                      generalize xl2 (m_M_find_B4 p1 v19 s20 self2) n = self4 at hf ih4
                      unfold m_M_find_B4 at hf
                      refine lv_iload hx hb d_M_find_113 (lv_at hl 0 rfl) ?_
                      refine lv_iconst (v := (4 : Int32)) hx hb d_M_find_115 (by decide) ?_
                      refine lv_icmp_ge (tgt := 145) hx hb d_M_find_116 (by decide) (fun c31 => ?_) (fun c31 => ?_)
                      · rw [if_pos c31] at hf
                        refine lv_aload_n hx hb d_M_find_145 rfl (lv_at hl 5 rfl) ?_
                        refine va_get (D := (dC, dI)) (ci := 5) (v := .ref (a 11)) (C := "GuideSearchModel") (T := F_M) (N := 25) hx hb hT i_M hown hK hP 0 rfl rfl 18 (by decide) (hT _ k_525) (fun _ h9 => h9) rfl d_M_find_146 ?_
                        refine lv_iload_n hx hb d_M_find_149 rfl (lv_at hl 6 rfl) ?_
                        obtain ⟨j32, ej34, hi33, hf⟩ := ix_some hf
                        refine xa_iald hx hb hK hP 11 1 rfl rfl ej34 hi33 d_M_find_150 ?_
                        refine lv_if_eq (tgt := 166) hx hb d_M_find_151 (by decide) (fun c35 => ?_) (fun c35 => ?_)
                        · rw [if_pos c35] at hf
                          refine lv_aload_n hx hb d_M_find_166 rfl (lv_at hl 5 rfl) ?_
                          refine va_get (D := (dC, dI)) (ci := 5) (v := .ref (a 10)) (C := "GuideSearchModel") (T := F_M) (N := 25) hx hb hT i_M hown hK hP 0 rfl rfl 17 (by decide) (hT _ k_524) (fun _ h9 => h9) rfl d_M_find_167 ?_
                          refine lv_iload_n hx hb d_M_find_170 rfl (lv_at hl 6 rfl) ?_
                          refine lv_lload hx hb d_M_find_171 (lv_at hl 1 rfl) ?_
                          obtain ⟨j36, ej38, hi37, hf⟩ := ix_some hf
                          refine xa_last hx hb hK hP (hD _) hS 10 0 rfl rfl ej38 hi37 d_M_find_173 (fun H locs hP hS => ?_)
                          rw [m_value_put cs a s20 j36 v30] at hP
                          refine lv_aload_n hx hb d_M_find_174 rfl (lv_at hl 5 rfl) ?_
                          refine va_get (D := (dC, dI)) (ci := 5) (v := .ref (a 11)) (C := "GuideSearchModel") (T := F_M) (N := 25) hx hb hT i_M hown hK hP 0 rfl rfl 18 (by decide) (hT _ k_525) (fun _ h9 => h9) rfl d_M_find_175 ?_
                          refine lv_iload_n hx hb d_M_find_178 rfl (lv_at hl 6 rfl) ?_
                          refine lv_iload hx hb d_M_find_179 (lv_at hl 2 rfl) ?_
                          obtain ⟨j39, ej41, hi40, hf⟩ := ix_some hf
                          refine xa_iast hx hb hK hP (hD _) hS 11 1 rfl rfl ej41 hi40 d_M_find_181 (fun H locs hP hS => ?_)
                          rw [m_best_put cs a (m_value_s s20 j36 v30) j39 v19] at hP
                          refine lv_iinc (v := (v19 + 1)) (lv' := [(6, .int (v19 + 1)), (9, .int v29), (7, .long v30), (5, .int r18), (3, .long r6), (0, .ref (a 0)), (1, .int p1)]) hx hb d_M_find_182 hl (k := 2) rfl rfl (by decide) rfl (fun ls hl => ?_)
                          refine lv_goto (tgt := 65) hx hb d_M_find_185 (by decide) ?_
                          exact ih2 (v19 + 1) (m_best_s (m_value_s s20 j36 v30) j39 v19) hf _ _ hP hS ls (lv_sub hl [0, 3, 4, 5, 6] rfl)
                        · rw [if_neg c35] at hf
                          refine lv_lload hx hb d_M_find_154 (lv_at hl 1 rfl) ?_
                          refine lv_aload_n hx hb d_M_find_156 rfl (lv_at hl 5 rfl) ?_
                          refine va_get (D := (dC, dI)) (ci := 5) (v := .ref (a 10)) (C := "GuideSearchModel") (T := F_M) (N := 25) hx hb hT i_M hown hK hP 0 rfl rfl 17 (by decide) (hT _ k_524) (fun _ h9 => h9) rfl d_M_find_157 ?_
                          refine lv_iload_n hx hb d_M_find_160 rfl (lv_at hl 6 rfl) ?_
                          obtain ⟨j42, ej44, hi43, hf⟩ := ix_some hf
                          refine xa_lald hx hb hK hP 10 0 rfl rfl ej44 hi43 d_M_find_161 ?_
                          refine W.lcmp hx hb d_M_find_162 ?_
                          refine lv_if_ge (tgt := 182) hx hb d_M_find_163 (by decide) (fun c45 => ?_) (fun c45 => ?_)
                          · rw [if_pos ((lg_cmp_ge _ _).mp c45)] at hf
                            refine lv_iinc (v := (v19 + 1)) (lv' := [(6, .int (v19 + 1)), (9, .int v29), (7, .long v30), (5, .int r18), (3, .long r6), (0, .ref (a 0)), (1, .int p1)]) hx hb d_M_find_182 hl (k := 2) rfl rfl (by decide) rfl (fun ls hl => ?_)
                            refine lv_goto (tgt := 65) hx hb d_M_find_185 (by decide) ?_
                            exact ih2 (v19 + 1) s20 hf _ _ hP hS ls (lv_sub hl [0, 3, 4, 5, 6] rfl)
                          · rw [if_neg (mt (lg_cmp_ge _ _).mpr c45)] at hf
                            refine lv_aload_n hx hb d_M_find_166 rfl (lv_at hl 5 rfl) ?_
                            refine va_get (D := (dC, dI)) (ci := 5) (v := .ref (a 10)) (C := "GuideSearchModel") (T := F_M) (N := 25) hx hb hT i_M hown hK hP 0 rfl rfl 17 (by decide) (hT _ k_524) (fun _ h9 => h9) rfl d_M_find_167 ?_
                            refine lv_iload_n hx hb d_M_find_170 rfl (lv_at hl 6 rfl) ?_
                            refine lv_lload hx hb d_M_find_171 (lv_at hl 1 rfl) ?_
                            obtain ⟨j46, ej48, hi47, hf⟩ := ix_some hf
                            refine xa_last hx hb hK hP (hD _) hS 10 0 rfl rfl ej48 hi47 d_M_find_173 (fun H locs hP hS => ?_)
                            rw [m_value_put cs a s20 j46 v30] at hP
                            refine lv_aload_n hx hb d_M_find_174 rfl (lv_at hl 5 rfl) ?_
                            refine va_get (D := (dC, dI)) (ci := 5) (v := .ref (a 11)) (C := "GuideSearchModel") (T := F_M) (N := 25) hx hb hT i_M hown hK hP 0 rfl rfl 18 (by decide) (hT _ k_525) (fun _ h9 => h9) rfl d_M_find_175 ?_
                            refine lv_iload_n hx hb d_M_find_178 rfl (lv_at hl 6 rfl) ?_
                            refine lv_iload hx hb d_M_find_179 (lv_at hl 2 rfl) ?_
                            obtain ⟨j49, ej51, hi50, hf⟩ := ix_some hf
                            refine xa_iast hx hb hK hP (hD _) hS 11 1 rfl rfl ej51 hi50 d_M_find_181 (fun H locs hP hS => ?_)
                            rw [m_best_put cs a (m_value_s s20 j46 v30) j49 v19] at hP
                            refine lv_iinc (v := (v19 + 1)) (lv' := [(6, .int (v19 + 1)), (9, .int v29), (7, .long v30), (5, .int r18), (3, .long r6), (0, .ref (a 0)), (1, .int p1)]) hx hb d_M_find_182 hl (k := 2) rfl rfl (by decide) rfl (fun ls hl => ?_)
                            refine lv_goto (tgt := 65) hx hb d_M_find_185 (by decide) ?_
                            exact ih2 (v19 + 1) (m_best_s (m_value_s s20 j46 v30) j49 v19) hf _ _ hP hS ls (lv_sub hl [0, 3, 4, 5, 6] rfl)
                      · rw [if_neg c31] at hf
                        refine lv_lload hx hb d_M_find_119 (lv_at hl 1 rfl) ?_
                        refine lv_aload_n hx hb d_M_find_121 rfl (lv_at hl 5 rfl) ?_
                        refine va_get (D := (dC, dI)) (ci := 5) (v := .ref (a 10)) (C := "GuideSearchModel") (T := F_M) (N := 25) hx hb hT i_M hown hK hP 0 rfl rfl 17 (by decide) (hT _ k_524) (fun _ h9 => h9) rfl d_M_find_122 ?_
                        refine lv_iload_n hx hb d_M_find_125 rfl (lv_at hl 6 rfl) ?_
                        refine lv_iload hx hb d_M_find_126 (lv_at hl 0 rfl) ?_
                        refine lv_iload hx hb d_M_find_128 (lv_at hl 2 rfl) ?_
                        obtain ⟨r53, hr52, hf⟩ := ob hf
                        refine ro_calli (va_runS (As := [.int v19]) (rest := [.int v29, .int p1, .ref (a 10), .long v30]) ⟨hx, hb, hml, hown, hT⟩ (c_M_unit l v19 r53 hr52) (va_cwS 1 hT (gS k_670 k_671 k_7 k_672) rfl rfl rfl (by decide +kernel) ⟨Nat.le_of_ble_eq_true rfl, Nat.le_of_ble_eq_true rfl⟩) ⟨fun _ _ _ _ q => q, fun _ _ _ => ⟨rfl, trivial⟩⟩ rfl rfl hl.1 rfl (lv_room (Nat.le_of_ble_eq_true rfl)) d_M_find_130 ⟨Nat.le_of_ble_eq_true rfl, Nat.le_of_ble_eq_true rfl⟩) ?_
                        refine lv_imul hx hb d_M_find_133 ?_
                        refine lv_iadd hx hb d_M_find_134 ?_
                        obtain ⟨j54, ej56, hi55, hf⟩ := ix_some hf
                        refine xa_lald hx hb hK hP 10 0 rfl rfl ej56 hi55 d_M_find_135 ?_
                        refine lv_ladd hx hb d_M_find_136 ?_
                        refine lv_lstore (lv' := [(7, .long (v30 + (m_value s20 j54))), (9, .int v29), (6, .int v19), (5, .int r18), (3, .long r6), (0, .ref (a 0)), (1, .int p1)]) hx hb d_M_find_137 hl (by decide) rfl (fun ls hl => ?_)
                        refine lv_iinc (v := (v29 + 1)) (lv' := [(9, .int (v29 + 1)), (7, .long (v30 + (m_value s20 j54))), (6, .int v19), (5, .int r18), (3, .long r6), (0, .ref (a 0)), (1, .int p1)]) hx hb d_M_find_139 hl (k := 1) rfl rfl (by decide) rfl (fun ls hl => ?_)
                        refine lv_goto (tgt := 113) hx hb d_M_find_142 (by decide) ?_
                        exact ih4 (v29 + 1) (v30 + (m_value s20 j54)) hf ls (lv_sub hl [0, 1, 2, 3, 4, 5, 6] rfl)
                  exact loop4 _ (1 : Int32) ((m_price s20 j26) * r6) hf ls (lv_sub hl [0, 1, 2, 3, 4, 5, 6] rfl)
                refine lv_if_le (tgt := 99) hx hb d_M_find_86 (by decide) (fun c57 => ?_) (fun c57 => ?_)
                · rw [if_pos c57] at hf
                  exact join3 hf ls (lv_sub hl [0, 1, 2, 3, 4] rfl)
                · rw [if_neg c57] at hf
                  refine lv_iload hx hb d_M_find_89 (lv_at hl 0 rfl) ?_
                  refine lv_iload hx hb d_M_find_91 (lv_at hl 1 rfl) ?_
                  refine lv_icmp_eq (tgt := 99) hx hb d_M_find_93 (by decide) (fun c58 => ?_) (fun c58 => ?_)
                  · rw [if_pos c58] at hf
                    exact join3 hf ls (lv_sub hl [0, 1, 2, 3, 4] rfl)
                  · rw [if_neg c58] at hf
                    refine lv_goto (tgt := 182) hx hb d_M_find_96 (by decide) ?_
                    refine lv_iinc (v := (v19 + 1)) (lv' := [(6, .int (v19 + 1)), (5, .int r18), (3, .long r6), (0, .ref (a 0)), (1, .int p1)]) hx hb d_M_find_182 hl (k := 0) rfl rfl (by decide) rfl (fun ls hl => ?_)
                    refine lv_goto (tgt := 65) hx hb d_M_find_185 (by decide) ?_
                    exact ih2 (v19 + 1) s20 hf _ _ hP hS ls (lv_sub hl [0, 1, 2, 3, 4] rfl)
        exact loop2 _ (1 : Int32) s16 hf _ _ hP hS ls (lv_sub hl [0, 1, 2, 4, 5] rfl)
      · rw [if_neg c14] at hf
        exact W.vret hx hb hr (fun t ht _ => ⟨⟨(), rfl, trivial, m_fin ht (Option.some.inj hf) hP⟩, hS.F ht⟩) hS.2.2 d_M_find_51
    refine lv_if_ne (tgt := 28) hx hb d_M_find_21 (by decide) (fun c59 => ?_) (fun c59 => ?_)
    · rw [if_neg c59] at hf
      refine lv_ldc2 (v := (300 : Int64)) hx hb hown (hT _ k_688) d_M_find_28 ?_
      refine lv_iload_n hx hb d_M_find_31 rfl (lv_at hl 1 rfl) ?_
      refine lv_iconst (v := (1 : Int32)) hx hb d_M_find_32 (by decide) ?_
      refine lv_isub hx hb d_M_find_33 ?_
      refine lv_i2l (v := (r4 - (1 : Int32)).toInt64) hx hb d_M_find_34 rfl ?_
      refine lv_lmul hx hb d_M_find_35 ?_
      refine lv_lload_n hx hb d_M_find_36 rfl (lv_at hl 0 rfl) ?_
      refine lv_lmul hx hb d_M_find_37 ?_
      exact join1 (((300 : Int64) * (r4 - (1 : Int32)).toInt64) * r6) hf ls (lv_sub hl [0, 1, 2, 3] rfl)
    · rw [if_pos c59] at hf
      refine lv_lconst (v := (0 : Int64)) hx hb d_M_find_24 (by decide) ?_
      refine lv_goto (tgt := 38) hx hb d_M_find_25 (by decide) ?_
      exact join1 (0 : Int64) hf ls (lv_sub hl [0, 1, 2, 3] rfl)
  exact main _ _ hP va_S.rf
set_option maxHeartbeats 4000000 in
set_option maxRecDepth 100000 in
theorem c_M_isBehind (l : Launch) (dC : Nat → ClassId) (dI : Nat → Nat → Nat) (cs : Nat → ClassId) (a : Nat → Nat) (st : MS) (p1 : Int32) (p2 : Int32) (res : Int32) (hf : m_M_isBehind st p1 p2 = some res) : Met l (⟨"GuideSearchModel", "isBehind", "(II)Z"⟩ : MethodName) (Cond.code (⟨"GuideSearchModel", "isBehind", "(II)Z"⟩ : MethodName) prog_7_method_22_code 7 (some .boolean) :: wg) { frames := 1, cells := 0, slots := 0, locals := 20 } (va_Pc ([.ref (a 0), .int p1, .int p2] : List Value) (m_pre dC dI cs a st)) (vp_Si (fun r => r = res)) 0 0 (fun _ => False) := by
  refine ro_start (cc := prog_7_method_22_code) (maxL := 7) (ret := (some .boolean)) (by decide) (Nat.le_of_ble_eq_true rfl) ?_
  intro p e s m below meth c hx hb hr hml hT hown hlocks hB ls hl
  replace hown : s.vm.findClass "GuideSearchModel" = some m.cls := hown
  obtain ⟨hP, hK, hN⟩ := hB
  replace hl : lv_has ls 7 [(0, .ref (a 0)), (1, .int p1), (2, .int p2)] := hl
  unfold m_M_isBehind at hf
  refine lv_iconst (v := (1 : Int32)) hx hb d_M_isBehind_0 (by decide) ?_
  refine lv_istore_n (lv' := [(3, .int (1 : Int32)), (0, .ref (a 0)), (1, .int p1), (2, .int p2)]) hx hb d_M_isBehind_1 rfl hl (by decide) rfl (fun ls hl => ?_)
  refine lv_iconst (v := (1 : Int32)) hx hb d_M_isBehind_2 (by decide) ?_
  refine lv_istore (lv' := [(4, .int (1 : Int32)), (3, .int (1 : Int32)), (0, .ref (a 0)), (1, .int p1), (2, .int p2)]) hx hb d_M_isBehind_3 hl (by decide) rfl (fun ls hl => ?_)
  have loop1 : ∀ (n : Nat) (v1 : Int32) (v2 : Int32), xl2 (m_M_isBehind_B1 st p1 p2) n v1 v2 = some res → ∀ (ls : Array Slot), lv_has ls 7 [(4, .int v1), (3, .int v2), (0, .ref (a 0)), (1, .int p1), (2, .int p2)] → W p l e { frames := 1, cells := 0, slots := 0, locals := 20 } s m ([.ref (a 0), .int p1, .int p2] : List Value).toArray below meth c s.heap [] 0 0 (MQ below (vp_Si (fun r => r = res)) ([.ref (a 0), .int p1, .int p2] : List Value).toArray s 0 0 (fun _ => False)) (F0 m 5 ls []) := by
    intro n
    induction n with
    | zero => intro v1 v2 hf; exact absurd hf (by simp [xl2])
    | succ n ih1 =>
      intro v1 v2 hf ls hl
      replace hf : (m_M_isBehind_B1 st p1 p2) (xl2 (m_M_isBehind_B1 st p1 p2) n) v1 v2 = some res := hf
      generalize xl2 (m_M_isBehind_B1 st p1 p2) n = self1 at hf ih1
      unfold m_M_isBehind_B1 at hf
      refine lv_iload hx hb d_M_isBehind_5 (lv_at hl 0 rfl) ?_
      refine lv_bipush (v := (7 : Int32)) hx hb d_M_isBehind_7 (by decide) ?_
      refine lv_icmp_ge (tgt := 79) hx hb d_M_isBehind_9 (by decide) (fun c3 => ?_) (fun c3 => ?_)
      · rw [if_pos c3] at hf
        refine lv_iload_n hx hb d_M_isBehind_79 rfl (lv_at hl 1 rfl) ?_
        obtain ⟨hz4, hf⟩ := zb_some hf
        exact W.zret (ty := .boolean) hx hb hr (zb_nar hz4) (fun t ht _ => ⟨_, rfl, Option.some.inj hf, ht⟩) (fun _ h => absurd h List.not_mem_nil) d_M_isBehind_80
      · rw [if_neg c3] at hf
        refine lv_iload_n hx hb d_M_isBehind_12 rfl (lv_at hl 3 rfl) ?_
        refine lv_iload hx hb d_M_isBehind_13 (lv_at hl 0 rfl) ?_
        obtain ⟨r6, hr5, hf⟩ := ob hf
        refine ro_calli (va_runS (As := [.int v1]) (rest := [.int p1]) ⟨hx, hb, hml, hown, hT⟩ (c_M_unit l v1 r6 hr5) (va_cwS 1 hT (gS k_670 k_671 k_7 k_672) rfl rfl rfl (by decide +kernel) ⟨Nat.le_of_ble_eq_true rfl, Nat.le_of_ble_eq_true rfl⟩) ⟨fun _ _ _ _ q => q, fun _ _ _ => ⟨rfl, trivial⟩⟩ rfl rfl hl.1 rfl (lv_room (Nat.le_of_ble_eq_true rfl)) d_M_isBehind_15 ⟨Nat.le_of_ble_eq_true rfl, Nat.le_of_ble_eq_true rfl⟩) ?_
        obtain ⟨hz7, hf⟩ := dzi_some hf
        refine lv_idiv hx hb d_M_isBehind_18 hz7 ?_
        refine lv_iconst (v := (4 : Int32)) hx hb d_M_isBehind_19 (by decide) ?_
        refine lv_irem hx hb d_M_isBehind_20 (by decide) ?_
        refine lv_istore (lv' := [(5, .int ((p1 / r6) - (p1 / r6) / (4 : Int32) * (4 : Int32))), (4, .int v1), (3, .int v2), (0, .ref (a 0)), (1, .int p1), (2, .int p2)]) hx hb d_M_isBehind_21 hl (by decide) rfl (fun ls hl => ?_)
        refine lv_iload_n hx hb d_M_isBehind_23 rfl (lv_at hl 5 rfl) ?_
        refine lv_iload hx hb d_M_isBehind_24 (lv_at hl 1 rfl) ?_
        obtain ⟨r9, hr8, hf⟩ := ob hf
        refine ro_calli (va_runS (As := [.int v1]) (rest := [.int p2]) ⟨hx, hb, hml, hown, hT⟩ (c_M_unit l v1 r9 hr8) (va_cwS 1 hT (gS k_670 k_671 k_7 k_672) rfl rfl rfl (by decide +kernel) ⟨Nat.le_of_ble_eq_true rfl, Nat.le_of_ble_eq_true rfl⟩) ⟨fun _ _ _ _ q => q, fun _ _ _ => ⟨rfl, trivial⟩⟩ rfl rfl hl.1 rfl (lv_room (Nat.le_of_ble_eq_true rfl)) d_M_isBehind_26 ⟨Nat.le_of_ble_eq_true rfl, Nat.le_of_ble_eq_true rfl⟩) ?_
        obtain ⟨hz10, hf⟩ := dzi_some hf
        refine lv_idiv hx hb d_M_isBehind_29 hz10 ?_
        refine lv_iconst (v := (4 : Int32)) hx hb d_M_isBehind_30 (by decide) ?_
        refine lv_irem hx hb d_M_isBehind_31 (by decide) ?_
        refine lv_istore (lv' := [(6, .int ((p2 / r9) - (p2 / r9) / (4 : Int32) * (4 : Int32))), (5, .int ((p1 / r6) - (p1 / r6) / (4 : Int32) * (4 : Int32))), (4, .int v1), (3, .int v2), (0, .ref (a 0)), (1, .int p1), (2, .int p2)]) hx hb d_M_isBehind_32 hl (by decide) rfl (fun ls hl => ?_)
        refine lv_iload_n hx hb d_M_isBehind_34 rfl (lv_at hl 3 rfl) ?_
        refine lv_if_eq (tgt := 71) hx hb d_M_isBehind_35 (by decide) (fun c11 => ?_) (fun c11 => ?_)
        · rw [if_pos c11] at hf
          refine lv_iconst (v := (0 : Int32)) hx hb d_M_isBehind_71 (by decide) ?_
          refine lv_istore_n (lv' := [(3, .int (0 : Int32)), (6, .int ((p2 / r9) - (p2 / r9) / (4 : Int32) * (4 : Int32))), (5, .int ((p1 / r6) - (p1 / r6) / (4 : Int32) * (4 : Int32))), (4, .int v1), (0, .ref (a 0)), (1, .int p1), (2, .int p2)]) hx hb d_M_isBehind_72 rfl hl (by decide) rfl (fun ls hl => ?_)
          refine lv_iinc (v := (v1 + 1)) (lv' := [(4, .int (v1 + 1)), (3, .int (0 : Int32)), (6, .int ((p2 / r9) - (p2 / r9) / (4 : Int32) * (4 : Int32))), (5, .int ((p1 / r6) - (p1 / r6) / (4 : Int32) * (4 : Int32))), (0, .ref (a 0)), (1, .int p1), (2, .int p2)]) hx hb d_M_isBehind_73 hl (k := 3) rfl rfl (by decide) rfl (fun ls hl => ?_)
          refine lv_goto (tgt := 5) hx hb d_M_isBehind_76 (by decide) ?_
          exact ih1 (v1 + 1) (0 : Int32) hf ls (lv_sub hl [0, 1, 4, 5, 6] rfl)
        · rw [if_neg c11] at hf
          refine lv_iload hx hb d_M_isBehind_38 (lv_at hl 0 rfl) ?_
          refine lv_if_ne (tgt := 60) hx hb d_M_isBehind_40 (by decide) (fun c12 => ?_) (fun c12 => ?_)
          · rw [if_neg c12] at hf
            refine lv_iload hx hb d_M_isBehind_60 (lv_at hl 1 rfl) ?_
            refine lv_iload hx hb d_M_isBehind_62 (lv_at hl 0 rfl) ?_
            refine lv_icmp_ne (tgt := 71) hx hb d_M_isBehind_64 (by decide) (fun c13 => ?_) (fun c13 => ?_)
            · rw [if_neg c13] at hf
              refine lv_iconst (v := (0 : Int32)) hx hb d_M_isBehind_71 (by decide) ?_
              refine lv_istore_n (lv' := [(3, .int (0 : Int32)), (6, .int ((p2 / r9) - (p2 / r9) / (4 : Int32) * (4 : Int32))), (5, .int ((p1 / r6) - (p1 / r6) / (4 : Int32) * (4 : Int32))), (4, .int v1), (0, .ref (a 0)), (1, .int p1), (2, .int p2)]) hx hb d_M_isBehind_72 rfl hl (by decide) rfl (fun ls hl => ?_)
              refine lv_iinc (v := (v1 + 1)) (lv' := [(4, .int (v1 + 1)), (3, .int (0 : Int32)), (6, .int ((p2 / r9) - (p2 / r9) / (4 : Int32) * (4 : Int32))), (5, .int ((p1 / r6) - (p1 / r6) / (4 : Int32) * (4 : Int32))), (0, .ref (a 0)), (1, .int p1), (2, .int p2)]) hx hb d_M_isBehind_73 hl (k := 3) rfl rfl (by decide) rfl (fun ls hl => ?_)
              refine lv_goto (tgt := 5) hx hb d_M_isBehind_76 (by decide) ?_
              exact ih1 (v1 + 1) (0 : Int32) hf ls (lv_sub hl [0, 1, 4, 5, 6] rfl)
            · rw [if_pos c13] at hf
              refine lv_iconst (v := (1 : Int32)) hx hb d_M_isBehind_67 (by decide) ?_
              refine lv_goto (tgt := 72) hx hb d_M_isBehind_68 (by decide) ?_
              refine lv_istore_n (lv' := [(3, .int (1 : Int32)), (6, .int ((p2 / r9) - (p2 / r9) / (4 : Int32) * (4 : Int32))), (5, .int ((p1 / r6) - (p1 / r6) / (4 : Int32) * (4 : Int32))), (4, .int v1), (0, .ref (a 0)), (1, .int p1), (2, .int p2)]) hx hb d_M_isBehind_72 rfl hl (by decide) rfl (fun ls hl => ?_)
              refine lv_iinc (v := (v1 + 1)) (lv' := [(4, .int (v1 + 1)), (3, .int (1 : Int32)), (6, .int ((p2 / r9) - (p2 / r9) / (4 : Int32) * (4 : Int32))), (5, .int ((p1 / r6) - (p1 / r6) / (4 : Int32) * (4 : Int32))), (0, .ref (a 0)), (1, .int p1), (2, .int p2)]) hx hb d_M_isBehind_73 hl (k := 3) rfl rfl (by decide) rfl (fun ls hl => ?_)
              refine lv_goto (tgt := 5) hx hb d_M_isBehind_76 (by decide) ?_
              exact ih1 (v1 + 1) (1 : Int32) hf ls (lv_sub hl [0, 1, 4, 5, 6] rfl)
          · rw [if_pos c12] at hf
            refine lv_iload hx hb d_M_isBehind_43 (lv_at hl 2 rfl) ?_
            refine lv_aload_n hx hb d_M_isBehind_45 rfl (lv_at hl 4 rfl) ?_
            refine va_get (D := (dC, dI)) (ci := 5) (v := .int (m_tests st)) (C := "GuideSearchModel") (T := F_M) (N := 25) hx hb hT i_M hown hK hP 0 rfl rfl 8 (by decide) (hT _ k_515) (fun _ h9 => h9) rfl d_M_isBehind_46 ?_
            refine lv_icmp_le (tgt := 67) hx hb d_M_isBehind_49 (by decide) (fun c14 => ?_) (fun c14 => ?_)
            · rw [if_pos c14] at hf
              refine lv_iconst (v := (1 : Int32)) hx hb d_M_isBehind_67 (by decide) ?_
              refine lv_goto (tgt := 72) hx hb d_M_isBehind_68 (by decide) ?_
              refine lv_istore_n (lv' := [(3, .int (1 : Int32)), (6, .int ((p2 / r9) - (p2 / r9) / (4 : Int32) * (4 : Int32))), (5, .int ((p1 / r6) - (p1 / r6) / (4 : Int32) * (4 : Int32))), (4, .int v1), (0, .ref (a 0)), (1, .int p1), (2, .int p2)]) hx hb d_M_isBehind_72 rfl hl (by decide) rfl (fun ls hl => ?_)
              refine lv_iinc (v := (v1 + 1)) (lv' := [(4, .int (v1 + 1)), (3, .int (1 : Int32)), (6, .int ((p2 / r9) - (p2 / r9) / (4 : Int32) * (4 : Int32))), (5, .int ((p1 / r6) - (p1 / r6) / (4 : Int32) * (4 : Int32))), (0, .ref (a 0)), (1, .int p1), (2, .int p2)]) hx hb d_M_isBehind_73 hl (k := 3) rfl rfl (by decide) rfl (fun ls hl => ?_)
              refine lv_goto (tgt := 5) hx hb d_M_isBehind_76 (by decide) ?_
              exact ih1 (v1 + 1) (1 : Int32) hf ls (lv_sub hl [0, 1, 4, 5, 6] rfl)
            · rw [if_neg c14] at hf
              refine lv_iload hx hb d_M_isBehind_52 (lv_at hl 1 rfl) ?_
              refine lv_if_ne (tgt := 71) hx hb d_M_isBehind_54 (by decide) (fun c15 => ?_) (fun c15 => ?_)
              · rw [if_neg c15] at hf
                refine lv_iconst (v := (0 : Int32)) hx hb d_M_isBehind_71 (by decide) ?_
                refine lv_istore_n (lv' := [(3, .int (0 : Int32)), (6, .int ((p2 / r9) - (p2 / r9) / (4 : Int32) * (4 : Int32))), (5, .int ((p1 / r6) - (p1 / r6) / (4 : Int32) * (4 : Int32))), (4, .int v1), (0, .ref (a 0)), (1, .int p1), (2, .int p2)]) hx hb d_M_isBehind_72 rfl hl (by decide) rfl (fun ls hl => ?_)
                refine lv_iinc (v := (v1 + 1)) (lv' := [(4, .int (v1 + 1)), (3, .int (0 : Int32)), (6, .int ((p2 / r9) - (p2 / r9) / (4 : Int32) * (4 : Int32))), (5, .int ((p1 / r6) - (p1 / r6) / (4 : Int32) * (4 : Int32))), (0, .ref (a 0)), (1, .int p1), (2, .int p2)]) hx hb d_M_isBehind_73 hl (k := 3) rfl rfl (by decide) rfl (fun ls hl => ?_)
                refine lv_goto (tgt := 5) hx hb d_M_isBehind_76 (by decide) ?_
                exact ih1 (v1 + 1) (0 : Int32) hf ls (lv_sub hl [0, 1, 4, 5, 6] rfl)
              · rw [if_pos c15] at hf
                refine lv_goto (tgt := 67) hx hb d_M_isBehind_57 (by decide) ?_
                refine lv_iconst (v := (1 : Int32)) hx hb d_M_isBehind_67 (by decide) ?_
                refine lv_goto (tgt := 72) hx hb d_M_isBehind_68 (by decide) ?_
                refine lv_istore_n (lv' := [(3, .int (1 : Int32)), (6, .int ((p2 / r9) - (p2 / r9) / (4 : Int32) * (4 : Int32))), (5, .int ((p1 / r6) - (p1 / r6) / (4 : Int32) * (4 : Int32))), (4, .int v1), (0, .ref (a 0)), (1, .int p1), (2, .int p2)]) hx hb d_M_isBehind_72 rfl hl (by decide) rfl (fun ls hl => ?_)
                refine lv_iinc (v := (v1 + 1)) (lv' := [(4, .int (v1 + 1)), (3, .int (1 : Int32)), (6, .int ((p2 / r9) - (p2 / r9) / (4 : Int32) * (4 : Int32))), (5, .int ((p1 / r6) - (p1 / r6) / (4 : Int32) * (4 : Int32))), (0, .ref (a 0)), (1, .int p1), (2, .int p2)]) hx hb d_M_isBehind_73 hl (k := 3) rfl rfl (by decide) rfl (fun ls hl => ?_)
                refine lv_goto (tgt := 5) hx hb d_M_isBehind_76 (by decide) ?_
                exact ih1 (v1 + 1) (1 : Int32) hf ls (lv_sub hl [0, 1, 4, 5, 6] rfl)
  exact loop1 _ (1 : Int32) (1 : Int32) hf ls (lv_sub hl [0, 1, 2, 3, 4] rfl)
set_option maxHeartbeats 4000000 in
set_option maxRecDepth 100000 in
theorem c_M_answers (l : Launch) (p0 : Int32) (res : Int32) (hf : m_M_answers p0 = some res) : Met l (⟨"GuideSearchModel", "answers", "(I)I"⟩ : MethodName) (Cond.code (⟨"GuideSearchModel", "answers", "(I)I"⟩ : MethodName) prog_7_method_23_code 3 (some .int) :: wg) { frames := 1, cells := 0, slots := 0, locals := 20 } (va_Pc ([.int p0] : List Value) (fun _ => True)) (vp_Si (fun r => r = res)) 0 0 (fun _ => False) := by
  refine ro_start (cc := prog_7_method_23_code) (maxL := 3) (ret := (some .int)) (by decide) (Nat.le_of_ble_eq_true rfl) ?_
  intro p e s m below meth c hx hb hr hml hT hown hlocks hB ls hl
  replace hown : s.vm.findClass "GuideSearchModel" = some m.cls := hown
  replace hl : lv_has ls 3 [(0, .int p0)] := hl
  unfold m_M_answers at hf
  refine lv_iconst (v := (0 : Int32)) hx hb d_M_answers_0 (by decide) ?_
  refine lv_istore_n (lv' := [(1, .int (0 : Int32)), (0, .int p0)]) hx hb d_M_answers_1 rfl hl (by decide) rfl (fun ls hl => ?_)
  refine lv_iconst (v := (1 : Int32)) hx hb d_M_answers_2 (by decide) ?_
  refine lv_istore_n (lv' := [(2, .int (1 : Int32)), (1, .int (0 : Int32)), (0, .int p0)]) hx hb d_M_answers_3 rfl hl (by decide) rfl (fun ls hl => ?_)
  have loop1 : ∀ (n : Nat) (v1 : Int32) (v2 : Int32), xl2 (m_M_answers_B1 p0) n v1 v2 = some res → ∀ (ls : Array Slot), lv_has ls 3 [(2, .int v1), (1, .int v2), (0, .int p0)] → W p l e { frames := 1, cells := 0, slots := 0, locals := 20 } s m ([.int p0] : List Value).toArray below meth c s.heap [] 0 0 (MQ below (vp_Si (fun r => r = res)) ([.int p0] : List Value).toArray s 0 0 (fun _ => False)) (F0 m 4 ls []) := by
    intro n
    induction n with
    | zero => intro v1 v2 hf; exact absurd hf (by simp [xl2])
    | succ n ih1 =>
      intro v1 v2 hf ls hl
      replace hf : (m_M_answers_B1 p0) (xl2 (m_M_answers_B1 p0) n) v1 v2 = some res := hf
      generalize xl2 (m_M_answers_B1 p0) n = self1 at hf ih1
      unfold m_M_answers_B1 at hf
      refine lv_iload_n hx hb d_M_answers_4 rfl (lv_at hl 0 rfl) ?_
      refine lv_bipush (v := (7 : Int32)) hx hb d_M_answers_5 (by decide) ?_
      refine lv_icmp_ge (tgt := 35) hx hb d_M_answers_7 (by decide) (fun c3 => ?_) (fun c3 => ?_)
      · rw [if_pos c3] at hf
        refine lv_iload_n hx hb d_M_answers_35 rfl (lv_at hl 1 rfl) ?_
        exact W.iret hx hb hr (fun t ht _ => ⟨_, rfl, Option.some.inj hf, ht⟩) (fun _ h => absurd h List.not_mem_nil) d_M_answers_36
      · rw [if_neg c3] at hf
        refine lv_iload_n hx hb d_M_answers_10 rfl (lv_at hl 2 rfl) ?_
        refine lv_iload_n hx hb d_M_answers_11 rfl (lv_at hl 0 rfl) ?_
        obtain ⟨r5, hr4, hf⟩ := ob hf
        refine ro_calli (va_runS (As := [.int v1]) (rest := [.int p0]) ⟨hx, hb, hml, hown, hT⟩ (c_M_unit l v1 r5 hr4) (va_cwS 1 hT (gS k_670 k_671 k_7 k_672) rfl rfl rfl (by decide +kernel) ⟨Nat.le_of_ble_eq_true rfl, Nat.le_of_ble_eq_true rfl⟩) ⟨fun _ _ _ _ q => q, fun _ _ _ => ⟨rfl, trivial⟩⟩ rfl rfl hl.1 rfl (lv_room (Nat.le_of_ble_eq_true rfl)) d_M_answers_12 ⟨Nat.le_of_ble_eq_true rfl, Nat.le_of_ble_eq_true rfl⟩) ?_
        obtain ⟨hz6, hf⟩ := dzi_some hf
        refine lv_idiv hx hb d_M_answers_15 hz6 ?_
        refine lv_iconst (v := (4 : Int32)) hx hb d_M_answers_16 (by decide) ?_
        refine lv_irem hx hb d_M_answers_17 (by decide) ?_
        refine lv_if_le (tgt := 27) hx hb d_M_answers_18 (by decide) (fun c7 => ?_) (fun c7 => ?_)
        · rw [if_pos c7] at hf
          refine lv_iload_n hx hb d_M_answers_27 rfl (lv_at hl 1 rfl) ?_
          refine lv_istore_n (lv' := [(1, .int v2), (2, .int v1), (0, .int p0)]) hx hb d_M_answers_28 rfl hl (by decide) rfl (fun ls hl => ?_)
          refine lv_iinc (v := (v1 + 1)) (lv' := [(2, .int (v1 + 1)), (1, .int v2), (0, .int p0)]) hx hb d_M_answers_29 hl (k := 1) rfl rfl (by decide) rfl (fun ls hl => ?_)
          refine lv_goto (tgt := 4) hx hb d_M_answers_32 (by decide) ?_
          exact ih1 (v1 + 1) v2 hf ls (lv_sub hl [0, 1, 2] rfl)
        · rw [if_neg c7] at hf
          refine lv_iload_n hx hb d_M_answers_21 rfl (lv_at hl 1 rfl) ?_
          refine lv_iconst (v := (1 : Int32)) hx hb d_M_answers_22 (by decide) ?_
          refine lv_iadd hx hb d_M_answers_23 ?_
          refine lv_goto (tgt := 28) hx hb d_M_answers_24 (by decide) ?_
          refine lv_istore_n (lv' := [(1, .int (v2 + (1 : Int32))), (2, .int v1), (0, .int p0)]) hx hb d_M_answers_28 rfl hl (by decide) rfl (fun ls hl => ?_)
          refine lv_iinc (v := (v1 + 1)) (lv' := [(2, .int (v1 + 1)), (1, .int (v2 + (1 : Int32))), (0, .int p0)]) hx hb d_M_answers_29 hl (k := 1) rfl rfl (by decide) rfl (fun ls hl => ?_)
          refine lv_goto (tgt := 4) hx hb d_M_answers_32 (by decide) ?_
          exact ih1 (v1 + 1) (v2 + (1 : Int32)) hf ls (lv_sub hl [0, 1, 2] rfl)
  exact loop1 _ (1 : Int32) (0 : Int32) hf ls (lv_sub hl [0, 1, 2] rfl)
