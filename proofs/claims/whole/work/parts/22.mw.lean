set_option maxHeartbeats 4000000 in
set_option maxRecDepth 100000 in
theorem c_M_gain (l : Launch) (dC : Nat → ClassId) (dI : Nat → Nat → Nat) (cs : Nat → ClassId) (a : Nat → Nat) (hi : ∀ i j : Nat, i < 18 → j < 18 → a i = a j → i = j) (st : MS) (p1 : Int32) (p2 : Int32) (res : Int64 × MS) (hf : m_M_gain st p1 p2 = some res) : Met l (⟨"GuideSearchModel", "gain", "(II)J"⟩ : MethodName) (Cond.code (⟨"GuideSearchModel", "gain", "(II)J"⟩ : MethodName) prog_7_method_27_code 6 (some .long) :: wg) { frames := 2, cells := 0, slots := 0, locals := 48 } (va_Pc ([.ref (a 0), .int p1, .int p2] : List Value) (m_pre dC dI cs a st)) (va_Ql (fun r (_ : Unit) => r = res.1) (fun _ t => va_P (dC, dI) vwCl (m_W cs a res.2) t.heap) (m_A a)) 0 0 (m_A a) := by
  refine ro_start (cc := prog_7_method_27_code) (maxL := 6) (ret := (some .long)) (by decide) (Nat.le_of_ble_eq_true rfl) ?_
  intro p e s m below meth c hx hb hr hml hT hown hlocks hB ls hl
  replace hown : s.vm.findClass "GuideSearchModel" = some m.cls := hown
  obtain ⟨hP, hK, hN⟩ := hB
  replace hl : lv_has ls 6 [(0, .ref (a 0)), (1, .int p1), (2, .int p2)] := hl
  unfold m_M_gain at hf
  have hD : ∀ st : MS, va_D (m_A a) (m_W cs a st) := fun st => m_D hi cs st
  have main : ∀ (H : Heap) (locs : List Loc), va_P (dC, dI) vwCl (m_W cs a st) H → va_S (m_A a) s.heap H locs → W p l e { frames := 2, cells := 0, slots := 0, locals := 48 } s m ([.ref (a 0), .int p1, .int p2] : List Value).toArray below meth c H locs 0 0 (MQ below (va_Ql (fun r (_ : Unit) => r = res.1) (fun _ t => va_P (dC, dI) vwCl (m_W cs a res.2) t.heap) (m_A a)) ([.ref (a 0), .int p1, .int p2] : List Value).toArray s 0 0 (m_A a)) (F0 m 0 ls []) := by
    intro H locs hP hS
    refine lv_aload_n hx hb d_M_gain_0 rfl (lv_at hl 0 rfl) ?_
    refine lv_iload_n hx hb d_M_gain_1 rfl (lv_at hl 1 rfl) ?_
    obtain ⟨s2, hr1, hf⟩ := ob hf
    refine rw_callv (va_runV (C := "GuideSearchModel") (As := [.int p1]) (rest := []) ⟨hx, hb, hml, hown, hT⟩ (c_M_look l dC dI cs a hi st p1 s2 hr1) (cwV 1 hT (gV k_642 k_644 ks_18 k_7 k_645) rfl rfl rfl (by decide +kernel) ⟨Nat.le_of_ble_eq_true rfl, Nat.le_of_ble_eq_true rfl⟩) (ro_preV hP hK hN (va_recv hK hP (ci := 5) (q0 := 0) rfl rfl)) rfl rfl hl.1 rfl (lv_room (Nat.le_of_ble_eq_true rfl)) d_M_gain_2 ⟨Nat.le_of_ble_eq_true rfl, Nat.le_of_ble_eq_true rfl⟩) hS (fun H locs hP hS => ?_)
    refine lv_aload_n hx hb d_M_gain_5 rfl (lv_at hl 0 rfl) ?_
    obtain ⟨r4, hr3, hf⟩ := ob hf
    refine ro_calll (va_runV (C := "GuideSearchModel") (As := []) (rest := []) ⟨hx, hb, hml, hown, hT⟩ (c_M_most l dC dI cs a s2 r4 hr3) (cwV 0 hT (gV k_666 k_668 ks_24 k_7 k_669) rfl rfl rfl (by decide +kernel) ⟨Nat.le_of_ble_eq_true rfl, Nat.le_of_ble_eq_true rfl⟩) (ro_preV hP hK hN (va_recv hK hP (ci := 5) (q0 := 0) rfl rfl)) rfl rfl hl.1 rfl (lv_room (Nat.le_of_ble_eq_true rfl)) d_M_gain_6 ⟨Nat.le_of_ble_eq_true rfl, Nat.le_of_ble_eq_true rfl⟩) ?_
    refine lv_lneg hx hb d_M_gain_9 ?_
    refine lv_lstore_n (lv' := [(3, .long (-r4)), (0, .ref (a 0)), (1, .int p1), (2, .int p2)]) hx hb d_M_gain_10 rfl hl (by decide) rfl (fun ls hl => ?_)
    refine lv_iconst (v := (1 : Int32)) hx hb d_M_gain_11 (by decide) ?_
    refine lv_istore (lv' := [(5, .int (1 : Int32)), (3, .long (-r4)), (0, .ref (a 0)), (1, .int p1), (2, .int p2)]) hx hb d_M_gain_12 hl (by decide) rfl (fun ls hl => ?_)
    have loop1 : ∀ (n : Nat) (v5 : Int32) (v6 : Int64) (s7 : MS), xl3 (m_M_gain_B1 p1 p2) n v5 v6 s7 = some res → ∀ (H : Heap) (locs : List Loc), va_P (dC, dI) vwCl (m_W cs a s7) H → va_S (m_A a) s.heap H locs → ∀ (ls : Array Slot), lv_has ls 6 [(5, .int v5), (3, .long v6), (0, .ref (a 0)), (1, .int p1), (2, .int p2)] → W p l e { frames := 2, cells := 0, slots := 0, locals := 48 } s m ([.ref (a 0), .int p1, .int p2] : List Value).toArray below meth c H locs 0 0 (MQ below (va_Ql (fun r (_ : Unit) => r = res.1) (fun _ t => va_P (dC, dI) vwCl (m_W cs a res.2) t.heap) (m_A a)) ([.ref (a 0), .int p1, .int p2] : List Value).toArray s 0 0 (m_A a)) (F0 m 14 ls []) := by
      intro n
      induction n with
      | zero => intro v5 v6 s7 hf; exact absurd hf (by simp [xl3])
      | succ n ih1 =>
        intro v5 v6 s7 hf H locs hP hS ls hl
        replace hf : (m_M_gain_B1 p1 p2) (xl3 (m_M_gain_B1 p1 p2) n) v5 v6 s7 = some res := hf
        generalize xl3 (m_M_gain_B1 p1 p2) n = self1 at hf ih1
        unfold m_M_gain_B1 at hf
        refine lv_iload hx hb d_M_gain_14 (lv_at hl 0 rfl) ?_
        refine lv_iconst (v := (4 : Int32)) hx hb d_M_gain_16 (by decide) ?_
        refine lv_icmp_ge (tgt := 46) hx hb d_M_gain_17 (by decide) (fun c8 => ?_) (fun c8 => ?_)
        · rw [if_pos c8] at hf
          refine lv_lload_n hx hb d_M_gain_46 rfl (lv_at hl 1 rfl) ?_
          exact W.lret hx hb hr (fun t ht _ => ⟨⟨_, (), rfl, congrArg Prod.fst (Option.some.inj hf), m_fin ht (congrArg Prod.snd (Option.some.inj hf)) hP⟩, hS.F ht⟩) hS.2.2 d_M_gain_47
        · rw [if_neg c8] at hf
          refine lv_aload_n hx hb d_M_gain_20 rfl (lv_at hl 2 rfl) ?_
          refine lv_iload_n hx hb d_M_gain_21 rfl (lv_at hl 3 rfl) ?_
          refine lv_iload hx hb d_M_gain_22 (lv_at hl 0 rfl) ?_
          refine lv_iload_n hx hb d_M_gain_24 rfl (lv_at hl 4 rfl) ?_
          obtain ⟨r10, hr9, hf⟩ := ob hf
          refine ro_calli (va_runS (As := [.int p2]) (rest := [.int v5, .int p1, .ref (a 0)]) ⟨hx, hb, hml, hown, hT⟩ (c_M_unit l p2 r10 hr9) (va_cwS 1 hT (gS k_670 k_671 k_7 k_672) rfl rfl rfl (by decide +kernel) ⟨Nat.le_of_ble_eq_true rfl, Nat.le_of_ble_eq_true rfl⟩) ⟨fun _ _ _ _ q => q, fun _ _ _ => ⟨rfl, trivial⟩⟩ rfl rfl hl.1 rfl (lv_room (Nat.le_of_ble_eq_true rfl)) d_M_gain_25 ⟨Nat.le_of_ble_eq_true rfl, Nat.le_of_ble_eq_true rfl⟩) ?_
          refine lv_imul hx hb d_M_gain_28 ?_
          refine lv_iadd hx hb d_M_gain_29 ?_
          obtain ⟨s12, hr11, hf⟩ := ob hf
          refine rw_callv (va_runV (C := "GuideSearchModel") (As := [.int (p1 + (v5 * r10))]) (rest := []) ⟨hx, hb, hml, hown, hT⟩ (c_M_look l dC dI cs a hi s7 (p1 + (v5 * r10)) s12 hr11) (cwV 1 hT (gV k_642 k_644 ks_18 k_7 k_645) rfl rfl rfl (by decide +kernel) ⟨Nat.le_of_ble_eq_true rfl, Nat.le_of_ble_eq_true rfl⟩) (ro_preV hP hK hN (va_recv hK hP (ci := 5) (q0 := 0) rfl rfl)) rfl rfl hl.1 rfl (lv_room (Nat.le_of_ble_eq_true rfl)) d_M_gain_30 ⟨Nat.le_of_ble_eq_true rfl, Nat.le_of_ble_eq_true rfl⟩) hS (fun H locs hP hS => ?_)
          refine lv_lload_n hx hb d_M_gain_33 rfl (lv_at hl 1 rfl) ?_
          refine lv_aload_n hx hb d_M_gain_34 rfl (lv_at hl 2 rfl) ?_
          obtain ⟨r14, hr13, hf⟩ := ob hf
          refine ro_calll (va_runV (C := "GuideSearchModel") (As := []) (rest := [.long v6]) ⟨hx, hb, hml, hown, hT⟩ (c_M_most l dC dI cs a s12 r14 hr13) (cwV 0 hT (gV k_666 k_668 ks_24 k_7 k_669) rfl rfl rfl (by decide +kernel) ⟨Nat.le_of_ble_eq_true rfl, Nat.le_of_ble_eq_true rfl⟩) (ro_preV hP hK hN (va_recv hK hP (ci := 5) (q0 := 0) rfl rfl)) rfl rfl hl.1 rfl (lv_room (Nat.le_of_ble_eq_true rfl)) d_M_gain_35 ⟨Nat.le_of_ble_eq_true rfl, Nat.le_of_ble_eq_true rfl⟩) ?_
          refine lv_ladd hx hb d_M_gain_38 ?_
          refine lv_lstore_n (lv' := [(3, .long (v6 + r14)), (5, .int v5), (0, .ref (a 0)), (1, .int p1), (2, .int p2)]) hx hb d_M_gain_39 rfl hl (by decide) rfl (fun ls hl => ?_)
          refine lv_iinc (v := (v5 + 1)) (lv' := [(5, .int (v5 + 1)), (3, .long (v6 + r14)), (0, .ref (a 0)), (1, .int p1), (2, .int p2)]) hx hb d_M_gain_40 hl (k := 1) rfl rfl (by decide) rfl (fun ls hl => ?_)
          refine lv_goto (tgt := 14) hx hb d_M_gain_43 (by decide) ?_
          exact ih1 (v5 + 1) (v6 + r14) s12 hf _ _ hP hS ls (lv_sub hl [0, 1, 2, 3, 4] rfl)
    exact loop1 _ (1 : Int32) (-r4) s2 hf _ _ hP hS ls (lv_sub hl [0, 1, 2, 3, 4] rfl)
  exact main _ _ hP va_S.rf
set_option maxHeartbeats 4000000 in
set_option maxRecDepth 100000 in
theorem c_M_oneStep (l : Launch) (dC : Nat → ClassId) (dI : Nat → Nat → Nat) (cs : Nat → ClassId) (a : Nat → Nat) (hi : ∀ i j : Nat, i < 18 → j < 18 → a i = a j → i = j) (st : MS) (p1 : Int32) (res : Int32 × MS) (hf : m_M_oneStep st p1 = some res) : Met l (⟨"GuideSearchModel", "oneStep", "(I)I"⟩ : MethodName) (Cond.code (⟨"GuideSearchModel", "oneStep", "(I)I"⟩ : MethodName) prog_7_method_28_code 5 (some .int) :: wg) { frames := 3, cells := 0, slots := 0, locals := 73 } (va_Pc ([.ref (a 0), .int p1] : List Value) (m_pre dC dI cs a st)) (va_Qi (fun r (_ : Unit) => r = res.1) (fun _ t => va_P (dC, dI) vwCl (m_W cs a res.2) t.heap) (m_A a)) 0 0 (m_A a) := by
  refine ro_start (cc := prog_7_method_28_code) (maxL := 5) (ret := (some .int)) (by decide) (Nat.le_of_ble_eq_true rfl) ?_
  intro p e s m below meth c hx hb hr hml hT hown hlocks hB ls hl
  replace hown : s.vm.findClass "GuideSearchModel" = some m.cls := hown
  obtain ⟨hP, hK, hN⟩ := hB
  replace hl : lv_has ls 5 [(0, .ref (a 0)), (1, .int p1)] := hl
  unfold m_M_oneStep at hf
  have hD : ∀ st : MS, va_D (m_A a) (m_W cs a st) := fun st => m_D hi cs st
  have main : ∀ (H : Heap) (locs : List Loc), va_P (dC, dI) vwCl (m_W cs a st) H → va_S (m_A a) s.heap H locs → W p l e { frames := 3, cells := 0, slots := 0, locals := 73 } s m ([.ref (a 0), .int p1] : List Value).toArray below meth c H locs 0 0 (MQ below (va_Qi (fun r (_ : Unit) => r = res.1) (fun _ t => va_P (dC, dI) vwCl (m_W cs a res.2) t.heap) (m_A a)) ([.ref (a 0), .int p1] : List Value).toArray s 0 0 (m_A a)) (F0 m 0 ls []) := by
    intro H locs hP hS
    refine lv_aload_n hx hb d_M_oneStep_0 rfl (lv_at hl 0 rfl) ?_
    refine lv_iload_n hx hb d_M_oneStep_1 rfl (lv_at hl 1 rfl) ?_
    obtain ⟨s2, hr1, hf⟩ := ob hf
    refine rw_callv (va_runV (C := "GuideSearchModel") (As := [.int p1]) (rest := []) ⟨hx, hb, hml, hown, hT⟩ (c_M_look l dC dI cs a hi st p1 s2 hr1) (cwV 1 hT (gV k_642 k_644 ks_18 k_7 k_645) rfl rfl rfl (by decide +kernel) ⟨Nat.le_of_ble_eq_true rfl, Nat.le_of_ble_eq_true rfl⟩) (ro_preV hP hK hN (va_recv hK hP (ci := 5) (q0 := 0) rfl rfl)) rfl rfl hl.1 rfl (lv_room (Nat.le_of_ble_eq_true rfl)) d_M_oneStep_2 ⟨Nat.le_of_ble_eq_true rfl, Nat.le_of_ble_eq_true rfl⟩) hS (fun H locs hP hS => ?_)
    refine lv_aload_n hx hb d_M_oneStep_5 rfl (lv_at hl 0 rfl) ?_
    obtain ⟨r4, hr3, hf⟩ := ob hf
    refine ro_calli (va_runV (C := "GuideSearchModel") (As := []) (rest := []) ⟨hx, hb, hml, hown, hT⟩ (c_M_left l dC dI cs a s2 r4 hr3) (cwV 0 hT (gV k_646 k_648 ks_19 k_7 k_649) rfl rfl rfl (by decide +kernel) ⟨Nat.le_of_ble_eq_true rfl, Nat.le_of_ble_eq_true rfl⟩) (ro_preV hP hK hN (va_recv hK hP (ci := 5) (q0 := 0) rfl rfl)) rfl rfl hl.1 rfl (lv_room (Nat.le_of_ble_eq_true rfl)) d_M_oneStep_6 ⟨Nat.le_of_ble_eq_true rfl, Nat.le_of_ble_eq_true rfl⟩) ?_
    refine lv_iconst (v := (2 : Int32)) hx hb d_M_oneStep_9 (by decide) ?_
    refine lv_icmp_ge (tgt := 15) hx hb d_M_oneStep_10 (by decide) (fun c5 => ?_) (fun c5 => ?_)
    · rw [if_pos c5] at hf
      refine lv_aload_n hx hb d_M_oneStep_15 rfl (lv_at hl 0 rfl) ?_
      obtain ⟨s7, hr6, hf⟩ := ob hf
      refine rw_callv (va_runV (C := "GuideSearchModel") (As := []) (rest := []) ⟨hx, hb, hml, hown, hT⟩ (c_M_findUse l dC dI cs a hi s2 s7 hr6) (cwV 0 hT (gV k_650 k_652 ks_20 k_7 k_653) rfl rfl rfl (by decide +kernel) ⟨Nat.le_of_ble_eq_true rfl, Nat.le_of_ble_eq_true rfl⟩) (ro_preV hP hK hN (va_recv hK hP (ci := 5) (q0 := 0) rfl rfl)) rfl rfl hl.1 rfl (lv_room (Nat.le_of_ble_eq_true rfl)) d_M_oneStep_16 ⟨Nat.le_of_ble_eq_true rfl, Nat.le_of_ble_eq_true rfl⟩) hS (fun H locs hP hS => ?_)
      refine lv_aload_n hx hb d_M_oneStep_19 rfl (lv_at hl 0 rfl) ?_
      obtain ⟨r9, hr8, hf⟩ := ob hf
      refine ro_calli (va_runV (C := "GuideSearchModel") (As := []) (rest := []) ⟨hx, hb, hml, hown, hT⟩ (c_M_free l dC dI cs a s7 r9 hr8) (cwV 0 hT (gV k_658 k_660 ks_22 k_7 k_661) rfl rfl rfl (by decide +kernel) ⟨Nat.le_of_ble_eq_true rfl, Nat.le_of_ble_eq_true rfl⟩) (ro_preV hP hK hN (va_recv hK hP (ci := 5) (q0 := 0) rfl rfl)) rfl rfl hl.1 rfl (lv_room (Nat.le_of_ble_eq_true rfl)) d_M_oneStep_20 ⟨Nat.le_of_ble_eq_true rfl, Nat.le_of_ble_eq_true rfl⟩) ?_
      refine lv_istore_n (lv' := [(2, .int r9), (0, .ref (a 0)), (1, .int p1)]) hx hb d_M_oneStep_23 rfl hl (by decide) rfl (fun ls hl => ?_)
      refine lv_iload_n hx hb d_M_oneStep_24 rfl (lv_at hl 0 rfl) ?_
      refine lv_if_le (tgt := 30) hx hb d_M_oneStep_25 (by decide) (fun c10 => ?_) (fun c10 => ?_)
      · rw [if_pos c10] at hf
        refine lv_iconst (v := (1 : Int32)) hx hb d_M_oneStep_30 (by decide) ?_
        refine lv_istore_n (lv' := [(3, .int (1 : Int32)), (2, .int r9), (0, .ref (a 0)), (1, .int p1)]) hx hb d_M_oneStep_31 rfl hl (by decide) rfl (fun ls hl => ?_)
        have loop1 : ∀ (n : Nat) (v11 : Int32) (v12 : Int32) (s13 : MS), xl3 (m_M_oneStep_B1 p1) n v11 v12 s13 = some res → ∀ (H : Heap) (locs : List Loc), va_P (dC, dI) vwCl (m_W cs a s13) H → va_S (m_A a) s.heap H locs → ∀ (ls : Array Slot), lv_has ls 5 [(3, .int v11), (2, .int v12), (0, .ref (a 0)), (1, .int p1)] → W p l e { frames := 3, cells := 0, slots := 0, locals := 73 } s m ([.ref (a 0), .int p1] : List Value).toArray below meth c H locs 0 0 (MQ below (va_Qi (fun r (_ : Unit) => r = res.1) (fun _ t => va_P (dC, dI) vwCl (m_W cs a res.2) t.heap) (m_A a)) ([.ref (a 0), .int p1] : List Value).toArray s 0 0 (m_A a)) (F0 m 32 ls []) := by
          intro n
          induction n with
          | zero => intro v11 v12 s13 hf; exact absurd hf (by simp [xl3])
          | succ n ih1 =>
            intro v11 v12 s13 hf H locs hP hS ls hl
            replace hf : (m_M_oneStep_B1 p1) (xl3 (m_M_oneStep_B1 p1) n) v11 v12 s13 = some res := hf
            generalize xl3 (m_M_oneStep_B1 p1) n = self1 at hf ih1
            unfold m_M_oneStep_B1 at hf
            refine lv_iload_n hx hb d_M_oneStep_32 rfl (lv_at hl 0 rfl) ?_
            refine lv_aload_n hx hb d_M_oneStep_33 rfl (lv_at hl 2 rfl) ?_
            refine va_get (D := (dC, dI)) (ci := 5) (v := .int (m_tests s13)) (C := "GuideSearchModel") (T := F_M) (N := 25) hx hb hT i_M hown hK hP 0 rfl rfl 8 (by decide) (hT _ k_515) (fun _ h9 => h9) rfl d_M_oneStep_34 ?_
            refine lv_icmp_gt (tgt := 110) hx hb d_M_oneStep_37 (by decide) (fun c14 => ?_) (fun c14 => ?_)
            · rw [if_pos c14] at hf
              refine lv_iload_n hx hb d_M_oneStep_110 rfl (lv_at hl 1 rfl) ?_
              exact W.iret hx hb hr (fun t ht _ => ⟨⟨_, (), rfl, congrArg Prod.fst (Option.some.inj hf), m_fin ht (congrArg Prod.snd (Option.some.inj hf)) hP⟩, hS.F ht⟩) hS.2.2 d_M_oneStep_111
            · rw [if_neg c14] at hf
              refine lv_aload_n hx hb d_M_oneStep_40 rfl (lv_at hl 2 rfl) ?_
              refine va_get (D := (dC, dI)) (ci := 5) (v := .ref (a 17)) (C := "GuideSearchModel") (T := F_M) (N := 25) hx hb hT i_M hown hK hP 0 rfl rfl 24 (by decide) (hT _ k_531) (fun _ h9 => h9) rfl d_M_oneStep_41 ?_
              refine lv_iload_n hx hb d_M_oneStep_44 rfl (lv_at hl 0 rfl) ?_
              obtain ⟨j15, ej17, hi16, hf⟩ := ix_some hf
              refine xa_zald hx hb hK hP 17 5 rfl rfl ej17 hi16 d_M_oneStep_45 ?_
              refine lv_if_ne (tgt := 52) hx hb d_M_oneStep_46 (by decide) (fun c18 => ?_) (fun c18 => ?_)
              · rw [if_neg c18] at hf
                refine lv_iload_n hx hb d_M_oneStep_52 rfl (lv_at hl 1 rfl) ?_
                have join2 : ∀ (v19 : Int32) (s20 : MS), m_M_oneStep_J2 v11 v12 self1 v19 s20 = some res → ∀ (H : Heap) (locs : List Loc), va_P (dC, dI) vwCl (m_W cs a s20) H → va_S (m_A a) s.heap H locs → ∀ (ls : Array Slot), lv_has ls 5 [(3, .int v11), (2, .int v12), (0, .ref (a 0)), (1, .int p1)] → W p l e { frames := 3, cells := 0, slots := 0, locals := 73 } s m ([.ref (a 0), .int p1] : List Value).toArray below meth c H locs 0 0 (MQ below (va_Qi (fun r (_ : Unit) => r = res.1) (fun _ t => va_P (dC, dI) vwCl (m_W cs a res.2) t.heap) (m_A a)) ([.ref (a 0), .int p1] : List Value).toArray s 0 0 (m_A a)) (F0 m 91 ls [.int v19]) := by
                  intro v19 s20 hf H locs hP hS ls hl
                  unfold m_M_oneStep_J2 at hf
                  refine lv_istore (lv' := [(4, .int v19), (3, .int v11), (2, .int v12), (0, .ref (a 0)), (1, .int p1)]) hx hb d_M_oneStep_91 hl (by decide) rfl (fun ls hl => ?_)
                  refine lv_iload hx hb d_M_oneStep_93 (lv_at hl 0 rfl) ?_
                  refine lv_if_eq (tgt := 102) hx hb d_M_oneStep_95 (by decide) (fun c21 => ?_) (fun c21 => ?_)
                  · rw [if_pos c21] at hf
                    refine lv_iload_n hx hb d_M_oneStep_102 rfl (lv_at hl 2 rfl) ?_
                    refine lv_istore_n (lv' := [(2, .int v12), (4, .int v19), (3, .int v11), (0, .ref (a 0)), (1, .int p1)]) hx hb d_M_oneStep_103 rfl hl (by decide) rfl (fun ls hl => ?_)
                    refine lv_iinc (v := (v11 + 1)) (lv' := [(3, .int (v11 + 1)), (2, .int v12), (4, .int v19), (0, .ref (a 0)), (1, .int p1)]) hx hb d_M_oneStep_104 hl (k := 2) rfl rfl (by decide) rfl (fun ls hl => ?_)
                    refine lv_goto (tgt := 32) hx hb d_M_oneStep_107 (by decide) ?_
                    exact ih1 (v11 + 1) v12 s20 hf _ _ hP hS ls (lv_sub hl [0, 1, 3, 4] rfl)
                  · rw [if_neg c21] at hf
                    refine lv_iload_n hx hb d_M_oneStep_98 rfl (lv_at hl 1 rfl) ?_
                    refine lv_goto (tgt := 103) hx hb d_M_oneStep_99 (by decide) ?_
                    refine lv_istore_n (lv' := [(2, .int v11), (4, .int v19), (3, .int v11), (0, .ref (a 0)), (1, .int p1)]) hx hb d_M_oneStep_103 rfl hl (by decide) rfl (fun ls hl => ?_)
                    refine lv_iinc (v := (v11 + 1)) (lv' := [(3, .int (v11 + 1)), (2, .int v11), (4, .int v19), (0, .ref (a 0)), (1, .int p1)]) hx hb d_M_oneStep_104 hl (k := 2) rfl rfl (by decide) rfl (fun ls hl => ?_)
                    refine lv_goto (tgt := 32) hx hb d_M_oneStep_107 (by decide) ?_
                    exact ih1 (v11 + 1) v11 s20 hf _ _ hP hS ls (lv_sub hl [0, 1, 3, 4] rfl)
                have join3 : ∀ (s22 : MS), m_M_oneStep_J3 v11 v12 self1 s22 = some res → ∀ (H : Heap) (locs : List Loc), va_P (dC, dI) vwCl (m_W cs a s22) H → va_S (m_A a) s.heap H locs → ∀ (ls : Array Slot), lv_has ls 5 [(3, .int v11), (2, .int v12), (0, .ref (a 0)), (1, .int p1)] → W p l e { frames := 3, cells := 0, slots := 0, locals := 73 } s m ([.ref (a 0), .int p1] : List Value).toArray below meth c H locs 0 0 (MQ below (va_Qi (fun r (_ : Unit) => r = res.1) (fun _ t => va_P (dC, dI) vwCl (m_W cs a res.2) t.heap) (m_A a)) ([.ref (a 0), .int p1] : List Value).toArray s 0 0 (m_A a)) (F0 m 86 ls []) := by
                  intro s22 hf H locs hP hS ls hl
                  unfold m_M_oneStep_J3 at hf
                  refine lv_iconst (v := (1 : Int32)) hx hb d_M_oneStep_86 (by decide) ?_
                  refine lv_goto (tgt := 91) hx hb d_M_oneStep_87 (by decide) ?_
                  exact join2 (1 : Int32) s22 hf _ _ hP hS ls (lv_sub hl [0, 1, 2, 3] rfl)
                refine lv_if_eq (tgt := 86) hx hb d_M_oneStep_53 (by decide) (fun c23 => ?_) (fun c23 => ?_)
                · rw [if_pos c23] at hf
                  exact join3 s13 hf _ _ hP hS ls (lv_sub hl [0, 1, 2, 3] rfl)
                · rw [if_neg c23] at hf
                  refine lv_aload_n hx hb d_M_oneStep_56 rfl (lv_at hl 2 rfl) ?_
                  refine lv_iload_n hx hb d_M_oneStep_57 rfl (lv_at hl 3 rfl) ?_
                  refine lv_iload_n hx hb d_M_oneStep_58 rfl (lv_at hl 0 rfl) ?_
                  obtain ⟨r26, s25, hr24, hf⟩ := bd2_some hf
                  refine rw_calll (va_runV (C := "GuideSearchModel") (As := [.int p1, .int v11]) (rest := []) ⟨hx, hb, hml, hown, hT⟩ (c_M_gain l dC dI cs a hi s13 p1 v11 (r26, s25) hr24) (cwV 2 hT (gV k_662 k_664 ks_23 k_7 k_665) rfl rfl rfl (by decide +kernel) ⟨Nat.le_of_ble_eq_true rfl, Nat.le_of_ble_eq_true rfl⟩) (ro_preV hP hK hN (va_recv hK hP (ci := 5) (q0 := 0) rfl rfl)) rfl rfl hl.1 rfl (lv_room (Nat.le_of_ble_eq_true rfl)) d_M_oneStep_59 ⟨Nat.le_of_ble_eq_true rfl, Nat.le_of_ble_eq_true rfl⟩) hS (fun H locs hP hS => ?_)
                  refine lv_aload_n hx hb d_M_oneStep_62 rfl (lv_at hl 2 rfl) ?_
                  refine va_get (D := (dC, dI)) (ci := 5) (v := .ref (a 5)) (C := "GuideSearchModel") (T := F_M) (N := 25) hx hb hT i_M hown hK hP 0 rfl rfl 9 (by decide) (hT _ k_516) (fun _ h9 => h9) rfl d_M_oneStep_63 ?_
                  refine lv_iload_n hx hb d_M_oneStep_66 rfl (lv_at hl 1 rfl) ?_
                  obtain ⟨j27, ej29, hi28, hf⟩ := ix_some hf
                  refine xa_lald hx hb hK hP 5 0 rfl rfl ej29 hi28 d_M_oneStep_67 ?_
                  refine lv_lmul hx hb d_M_oneStep_68 ?_
                  refine lv_aload_n hx hb d_M_oneStep_69 rfl (lv_at hl 2 rfl) ?_
                  refine lv_iload_n hx hb d_M_oneStep_70 rfl (lv_at hl 3 rfl) ?_
                  refine lv_iload_n hx hb d_M_oneStep_71 rfl (lv_at hl 1 rfl) ?_
                  obtain ⟨r32, s31, hr30, hf⟩ := bd2_some hf
                  refine rw_calll (va_runV (C := "GuideSearchModel") (As := [.int p1, .int v12]) (rest := [.long (r26 * (m_price s25 j27))]) ⟨hx, hb, hml, hown, hT⟩ (c_M_gain l dC dI cs a hi s25 p1 v12 (r32, s31) hr30) (cwV 2 hT (gV k_662 k_664 ks_23 k_7 k_665) rfl rfl rfl (by decide +kernel) ⟨Nat.le_of_ble_eq_true rfl, Nat.le_of_ble_eq_true rfl⟩) (ro_preV hP hK hN (va_recv hK hP (ci := 5) (q0 := 0) rfl rfl)) rfl rfl hl.1 rfl (lv_room (Nat.le_of_ble_eq_true rfl)) d_M_oneStep_72 ⟨Nat.le_of_ble_eq_true rfl, Nat.le_of_ble_eq_true rfl⟩) hS (fun H locs hP hS => ?_)
                  refine lv_aload_n hx hb d_M_oneStep_75 rfl (lv_at hl 2 rfl) ?_
                  refine va_get (D := (dC, dI)) (ci := 5) (v := .ref (a 5)) (C := "GuideSearchModel") (T := F_M) (N := 25) hx hb hT i_M hown hK hP 0 rfl rfl 9 (by decide) (hT _ k_516) (fun _ h9 => h9) rfl d_M_oneStep_76 ?_
                  refine lv_iload_n hx hb d_M_oneStep_79 rfl (lv_at hl 0 rfl) ?_
                  obtain ⟨j33, ej35, hi34, hf⟩ := ix_some hf
                  refine xa_lald hx hb hK hP 5 0 rfl rfl ej35 hi34 d_M_oneStep_80 ?_
                  refine lv_lmul hx hb d_M_oneStep_81 ?_
                  refine W.lcmp hx hb d_M_oneStep_82 ?_
                  refine lv_if_le (tgt := 90) hx hb d_M_oneStep_83 (by decide) (fun c36 => ?_) (fun c36 => ?_)
                  · rw [if_pos ((lg_cmp_le _ _).mp c36)] at hf
                    refine lv_iconst (v := (0 : Int32)) hx hb d_M_oneStep_90 (by decide) ?_
                    exact join2 (0 : Int32) s31 hf _ _ hP hS ls (lv_sub hl [0, 1, 2, 3] rfl)
                  · rw [if_neg (mt (lg_cmp_le _ _).mpr c36)] at hf
                    exact join3 s31 hf _ _ hP hS ls (lv_sub hl [0, 1, 2, 3] rfl)
              · rw [if_pos c18] at hf
                refine lv_goto (tgt := 104) hx hb d_M_oneStep_49 (by decide) ?_
                refine lv_iinc (v := (v11 + 1)) (lv' := [(3, .int (v11 + 1)), (2, .int v12), (0, .ref (a 0)), (1, .int p1)]) hx hb d_M_oneStep_104 hl (k := 0) rfl rfl (by decide) rfl (fun ls hl => ?_)
                refine lv_goto (tgt := 32) hx hb d_M_oneStep_107 (by decide) ?_
                exact ih1 (v11 + 1) v12 s13 hf _ _ hP hS ls (lv_sub hl [0, 1, 2, 3] rfl)
        exact loop1 _ (1 : Int32) r9 s7 hf _ _ hP hS ls (lv_sub hl [0, 1, 2, 3] rfl)
      · rw [if_neg c10] at hf
        refine lv_iload_n hx hb d_M_oneStep_28 rfl (lv_at hl 0 rfl) ?_
        exact W.iret hx hb hr (fun t ht _ => ⟨⟨_, (), rfl, congrArg Prod.fst (Option.some.inj hf), m_fin ht (congrArg Prod.snd (Option.some.inj hf)) hP⟩, hS.F ht⟩) hS.2.2 d_M_oneStep_29
    · rw [if_neg c5] at hf
      refine lv_iconst (v := (0 : Int32)) hx hb d_M_oneStep_13 (by decide) ?_
      exact W.iret hx hb hr (fun t ht _ => ⟨⟨_, (), rfl, congrArg Prod.fst (Option.some.inj hf), m_fin ht (congrArg Prod.snd (Option.some.inj hf)) hP⟩, hS.F ht⟩) hS.2.2 d_M_oneStep_14
  exact main _ _ hP va_S.rf
set_option maxHeartbeats 4000000 in
set_option maxRecDepth 100000 in
theorem c_M_thousandth (l : Launch) (p0 : Int64) (p2 : Int64) (res : Int64) (hf : m_M_thousandth p0 p2 = some res) : Met l (⟨"GuideSearchModel", "thousandth", "(JJ)J"⟩ : MethodName) (Cond.code (⟨"GuideSearchModel", "thousandth", "(JJ)J"⟩ : MethodName) prog_7_method_25_code 10 (some .long) :: wg) { frames := 0, cells := 0, slots := 0, locals := 0 } (va_Pc ([.long p0, .long p2] : List Value) (fun _ => True)) (vp_Sl (fun r => r = res)) 0 0 (fun _ => False) := by
  refine ro_start (cc := prog_7_method_25_code) (maxL := 10) (ret := (some .long)) (by decide) (Nat.le_of_ble_eq_true rfl) ?_
  intro p e s m below meth c hx hb hr hml hT hown hlocks hB ls hl
  replace hown : s.vm.findClass "GuideSearchModel" = some m.cls := hown
  replace hl : lv_has ls 10 [(0, .long p0), (2, .long p2)] := hl
  unfold m_M_thousandth at hf
  refine lv_lload_n hx hb d_M_thousandth_0 rfl (lv_at hl 0 rfl) ?_
  refine lv_lload_n hx hb d_M_thousandth_1 rfl (lv_at hl 1 rfl) ?_
  obtain ⟨hz1, hf⟩ := dzl_some hf
  refine lv_ldiv hx hb d_M_thousandth_2 hz1 ?_
  refine lv_ldc2 (v := (1000 : Int64)) hx hb hown (hT _ k_692) d_M_thousandth_3 ?_
  refine lv_lmul hx hb d_M_thousandth_6 ?_
  refine lv_lstore (lv' := [(4, .long ((p0 / p2) * (1000 : Int64))), (0, .long p0), (2, .long p2)]) hx hb d_M_thousandth_7 hl (by decide) rfl (fun ls hl => ?_)
  refine lv_lload_n hx hb d_M_thousandth_9 rfl (lv_at hl 1 rfl) ?_
  refine lv_lload_n hx hb d_M_thousandth_10 rfl (lv_at hl 2 rfl) ?_
  obtain ⟨hz2, hf⟩ := dzl_some hf
  refine lv_lrem hx hb d_M_thousandth_11 hz2 ?_
  refine lv_lstore (lv' := [(6, .long (p0 - p0 / p2 * p2)), (4, .long ((p0 / p2) * (1000 : Int64))), (0, .long p0), (2, .long p2)]) hx hb d_M_thousandth_12 hl (by decide) rfl (fun ls hl => ?_)
  refine lv_lload hx hb d_M_thousandth_14 (lv_at hl 0 rfl) ?_
  refine lv_ldc2 (v := (8 : Int64)) hx hb hown (hT _ k_693) d_M_thousandth_16 ?_
  refine lv_lmul hx hb d_M_thousandth_19 ?_
  refine lv_lstore (lv' := [(8, .long ((p0 - p0 / p2 * p2) * (8 : Int64))), (6, .long (p0 - p0 / p2 * p2)), (4, .long ((p0 / p2) * (1000 : Int64))), (0, .long p0), (2, .long p2)]) hx hb d_M_thousandth_20 hl (by decide) rfl (fun ls hl => ?_)
  refine lv_lload hx hb d_M_thousandth_22 (lv_at hl 2 rfl) ?_
  refine lv_lload hx hb d_M_thousandth_24 (lv_at hl 0 rfl) ?_
  refine lv_lload_n hx hb d_M_thousandth_26 rfl (lv_at hl 4 rfl) ?_
  obtain ⟨hz3, hf⟩ := dzl_some hf
  refine lv_ldiv hx hb d_M_thousandth_27 hz3 ?_
  refine lv_ldc2 (v := (125 : Int64)) hx hb hown (hT _ k_694) d_M_thousandth_28 ?_
  refine lv_lmul hx hb d_M_thousandth_31 ?_
  refine lv_ladd hx hb d_M_thousandth_32 ?_
  refine lv_lstore (lv' := [(4, .long (((p0 / p2) * (1000 : Int64)) + ((((p0 - p0 / p2 * p2) * (8 : Int64)) / p2) * (125 : Int64)))), (8, .long ((p0 - p0 / p2 * p2) * (8 : Int64))), (6, .long (p0 - p0 / p2 * p2)), (0, .long p0), (2, .long p2)]) hx hb d_M_thousandth_33 hl (by decide) rfl (fun ls hl => ?_)
  refine lv_lload hx hb d_M_thousandth_35 (lv_at hl 1 rfl) ?_
  refine lv_lload_n hx hb d_M_thousandth_37 rfl (lv_at hl 4 rfl) ?_
  obtain ⟨hz4, hf⟩ := dzl_some hf
  refine lv_lrem hx hb d_M_thousandth_38 hz4 ?_
  refine lv_lstore (lv' := [(8, .long (((p0 - p0 / p2 * p2) * (8 : Int64)) - ((p0 - p0 / p2 * p2) * (8 : Int64)) / p2 * p2)), (4, .long (((p0 / p2) * (1000 : Int64)) + ((((p0 - p0 / p2 * p2) * (8 : Int64)) / p2) * (125 : Int64)))), (6, .long (p0 - p0 / p2 * p2)), (0, .long p0), (2, .long p2)]) hx hb d_M_thousandth_39 hl (by decide) rfl (fun ls hl => ?_)
  refine lv_lload hx hb d_M_thousandth_41 (lv_at hl 1 rfl) ?_
  refine lv_lload hx hb d_M_thousandth_43 (lv_at hl 0 rfl) ?_
  refine lv_ldc2 (v := (125 : Int64)) hx hb hown (hT _ k_694) d_M_thousandth_45 ?_
  refine lv_lmul hx hb d_M_thousandth_48 ?_
  refine lv_lload_n hx hb d_M_thousandth_49 rfl (lv_at hl 4 rfl) ?_
  obtain ⟨hz5, hf⟩ := dzl_some hf
  refine lv_ldiv hx hb d_M_thousandth_50 hz5 ?_
  refine lv_ladd hx hb d_M_thousandth_51 ?_
  exact W.lret hx hb hr (fun t ht _ => ⟨_, rfl, Option.some.inj hf, ht⟩) (fun _ h => absurd h List.not_mem_nil) d_M_thousandth_52
set_option maxHeartbeats 4000000 in
set_option maxRecDepth 100000 in
theorem c_M_write (l : Launch) (dC : Nat → ClassId) (dI : Nat → Nat → Nat) (cs : Nat → ClassId) (a : Nat → Nat) (hi : ∀ i j : Nat, i < 18 → j < 18 → a i = a j → i = j) (st : MS) (p1 : Int32) (res : MS) (hf : m_M_write st p1 = some res) : Met l (⟨"GuideSearchModel", "write", "(I)V"⟩ : MethodName) (Cond.code (⟨"GuideSearchModel", "write", "(I)V"⟩ : MethodName) prog_7_method_26_code 6 none :: wg) { frames := 2, cells := 0, slots := 0, locals := 48 } (va_Pc ([.ref (a 0), .int p1] : List Value) (m_pre dC dI cs a st)) (va_Qv (fun _ : Unit => True) (fun _ t => va_P (dC, dI) vwCl (m_W cs a res) t.heap) (m_A a)) 0 0 (m_A a) := by
  refine ro_start (cc := prog_7_method_26_code) (maxL := 6) (ret := none) (by decide) (Nat.le_of_ble_eq_true rfl) ?_
  intro p e s m below meth c hx hb hr hml hT hown hlocks hB ls hl
  replace hown : s.vm.findClass "GuideSearchModel" = some m.cls := hown
  obtain ⟨hP, hK, hN⟩ := hB
  replace hl : lv_has ls 6 [(0, .ref (a 0)), (1, .int p1)] := hl
  unfold m_M_write at hf
  have hD : ∀ st : MS, va_D (m_A a) (m_W cs a st) := fun st => m_D hi cs st
  have main : ∀ (H : Heap) (locs : List Loc), va_P (dC, dI) vwCl (m_W cs a st) H → va_S (m_A a) s.heap H locs → W p l e { frames := 2, cells := 0, slots := 0, locals := 48 } s m ([.ref (a 0), .int p1] : List Value).toArray below meth c H locs 0 0 (MQ below (va_Qv (fun _ : Unit => True) (fun _ t => va_P (dC, dI) vwCl (m_W cs a res) t.heap) (m_A a)) ([.ref (a 0), .int p1] : List Value).toArray s 0 0 (m_A a)) (F0 m 0 ls []) := by
    intro H locs hP hS
    refine lv_iconst (v := (1 : Int32)) hx hb d_M_write_0 (by decide) ?_
    refine lv_istore_n (lv' := [(2, .int (1 : Int32)), (0, .ref (a 0)), (1, .int p1)]) hx hb d_M_write_1 rfl hl (by decide) rfl (fun ls hl => ?_)
    refine lv_aload_n hx hb d_M_write_2 rfl (lv_at hl 1 rfl) ?_
    refine va_get (D := (dC, dI)) (ci := 5) (v := .ref (a 14)) (C := "GuideSearchModel") (T := F_M) (N := 25) hx hb hT i_M hown hK hP 0 rfl rfl 21 (by decide) (hT _ k_528) (fun _ h9 => h9) rfl d_M_write_3 ?_
    refine lv_iconst (v := (0 : Int32)) hx hb d_M_write_6 (by decide) ?_
    refine lv_iload_n hx hb d_M_write_7 rfl (lv_at hl 2 rfl) ?_
    obtain ⟨j1, ej3, hi2, hf⟩ := ix_some hf
    refine xa_iast hx hb hK hP (hD _) hS 14 1 rfl rfl ej3 hi2 d_M_write_8 (fun H locs hP hS => ?_)
    rw [m_wait_put cs a st j1 p1] at hP
    refine lv_aload_n hx hb d_M_write_9 rfl (lv_at hl 1 rfl) ?_
    refine va_get (D := (dC, dI)) (ci := 5) (v := .ref (a 15)) (C := "GuideSearchModel") (T := F_M) (N := 25) hx hb hT i_M hown hK hP 0 rfl rfl 22 (by decide) (hT _ k_529) (fun _ h9 => h9) rfl d_M_write_10 ?_
    refine lv_iconst (v := (0 : Int32)) hx hb d_M_write_13 (by decide) ?_
    refine lv_iconst (v := (-1 : Int32)) hx hb d_M_write_14 (by decide) ?_
    obtain ⟨j4, ej6, hi5, hf⟩ := ix_some hf
    refine xa_iast hx hb hK hP (hD _) hS 15 1 rfl rfl ej6 hi5 d_M_write_15 (fun H locs hP hS => ?_)
    rw [m_by_put cs a (m_wait_s st j1 p1) j4 (-1 : Int32)] at hP
    have loop1 : ∀ (n : Nat) (v7 : Int32) (s8 : MS), xl2 m_M_write_B1 n v7 s8 = some res → ∀ (H : Heap) (locs : List Loc), va_P (dC, dI) vwCl (m_W cs a s8) H → va_S (m_A a) s.heap H locs → ∀ (ls : Array Slot), lv_has ls 6 [(2, .int v7), (0, .ref (a 0))] → W p l e { frames := 2, cells := 0, slots := 0, locals := 48 } s m ([.ref (a 0), .int p1] : List Value).toArray below meth c H locs 0 0 (MQ below (va_Qv (fun _ : Unit => True) (fun _ t => va_P (dC, dI) vwCl (m_W cs a res) t.heap) (m_A a)) ([.ref (a 0), .int p1] : List Value).toArray s 0 0 (m_A a)) (F0 m 16 ls []) := by
      intro n
      induction n with
      | zero => intro v7 s8 hf; exact absurd hf (by simp [xl2])
      | succ n ih1 =>
        intro v7 s8 hf H locs hP hS ls hl
        replace hf : m_M_write_B1 (xl2 m_M_write_B1 n) v7 s8 = some res := hf
        generalize xl2 m_M_write_B1 n = self1 at hf ih1
        unfold m_M_write_B1 at hf
        refine lv_iload_n hx hb d_M_write_16 rfl (lv_at hl 0 rfl) ?_
        refine lv_if_le (tgt := 183) hx hb d_M_write_17 (by decide) (fun c9 => ?_) (fun c9 => ?_)
        · rw [if_pos c9] at hf
          exact W.vret hx hb hr (fun t ht _ => ⟨⟨(), rfl, trivial, m_fin ht (Option.some.inj hf) hP⟩, hS.F ht⟩) hS.2.2 d_M_write_183
        · rw [if_neg c9] at hf
          refine lv_iinc (v := (v7 + (-1))) (lv' := [(2, .int (v7 + (-1))), (0, .ref (a 0))]) hx hb d_M_write_20 hl (k := 0) rfl rfl (by decide) rfl (fun ls hl => ?_)
          refine lv_aload_n hx hb d_M_write_23 rfl (lv_at hl 1 rfl) ?_
          refine va_get (D := (dC, dI)) (ci := 5) (v := .ref (a 14)) (C := "GuideSearchModel") (T := F_M) (N := 25) hx hb hT i_M hown hK hP 0 rfl rfl 21 (by decide) (hT _ k_528) (fun _ h9 => h9) rfl d_M_write_24 ?_
          refine lv_iload_n hx hb d_M_write_27 rfl (lv_at hl 0 rfl) ?_
          obtain ⟨j10, ej12, hi11, hf⟩ := ix_some hf
          refine xa_iald hx hb hK hP 14 1 rfl rfl ej12 hi11 d_M_write_28 ?_
          refine lv_istore_n (lv' := [(3, .int (m_wait s8 j10)), (2, .int (v7 + (-1))), (0, .ref (a 0))]) hx hb d_M_write_29 rfl hl (by decide) rfl (fun ls hl => ?_)
          refine lv_aload_n hx hb d_M_write_30 rfl (lv_at hl 2 rfl) ?_
          refine va_get (D := (dC, dI)) (ci := 5) (v := .ref (a 15)) (C := "GuideSearchModel") (T := F_M) (N := 25) hx hb hT i_M hown hK hP 0 rfl rfl 22 (by decide) (hT _ k_529) (fun _ h9 => h9) rfl d_M_write_31 ?_
          refine lv_iload_n hx hb d_M_write_34 rfl (lv_at hl 1 rfl) ?_
          obtain ⟨j13, ej15, hi14, hf⟩ := ix_some hf
          refine xa_iald hx hb hK hP 15 1 rfl rfl ej15 hi14 d_M_write_35 ?_
          refine lv_istore (lv' := [(4, .int (m_by s8 j13)), (3, .int (m_wait s8 j10)), (2, .int (v7 + (-1))), (0, .ref (a 0))]) hx hb d_M_write_36 hl (by decide) rfl (fun ls hl => ?_)
          refine lv_aload_n hx hb d_M_write_38 rfl (lv_at hl 3 rfl) ?_
          refine lv_iload_n hx hb d_M_write_39 rfl (lv_at hl 1 rfl) ?_
          obtain ⟨s17, hr16, hf⟩ := ob hf
          refine rw_callv (va_runV (C := "GuideSearchModel") (As := [.int (m_wait s8 j10)]) (rest := []) ⟨hx, hb, hml, hown, hT⟩ (c_M_look l dC dI cs a hi s8 (m_wait s8 j10) s17 hr16) (cwV 1 hT (gV k_642 k_644 ks_18 k_7 k_645) rfl rfl rfl (by decide +kernel) ⟨Nat.le_of_ble_eq_true rfl, Nat.le_of_ble_eq_true rfl⟩) (ro_preV hP hK hN (va_recv hK hP (ci := 5) (q0 := 0) rfl rfl)) rfl rfl hl.1 rfl (lv_room (Nat.le_of_ble_eq_true rfl)) d_M_write_40 ⟨Nat.le_of_ble_eq_true rfl, Nat.le_of_ble_eq_true rfl⟩) hS (fun H locs hP hS => ?_)
          refine lv_aload_n hx hb d_M_write_43 rfl (lv_at hl 3 rfl) ?_
          obtain ⟨r19, hr18, hf⟩ := ob hf
          refine ro_calll (va_runV (C := "GuideSearchModel") (As := []) (rest := []) ⟨hx, hb, hml, hown, hT⟩ (c_M_sum l dC dI cs a s17 r19 hr18) (cwV 0 hT (gV k_684 k_686 ks_27 k_7 k_687) rfl rfl rfl (by decide +kernel) ⟨Nat.le_of_ble_eq_true rfl, Nat.le_of_ble_eq_true rfl⟩) (ro_preV hP hK hN (va_recv hK hP (ci := 5) (q0 := 0) rfl rfl)) rfl rfl hl.1 rfl (lv_room (Nat.le_of_ble_eq_true rfl)) d_M_write_44 ⟨Nat.le_of_ble_eq_true rfl, Nat.le_of_ble_eq_true rfl⟩) ?_
          refine lv_lconst (v := (0 : Int64)) hx hb d_M_write_47 (by decide) ?_
          refine W.lcmp hx hb d_M_write_48 ?_
          refine lv_if_eq (tgt := 16) hx hb d_M_write_49 (by decide) (fun c20 => ?_) (fun c20 => ?_)
          · rw [if_pos ((lg_cmp_eq _ _).mp c20)] at hf
            exact ih1 (v7 + (-1)) s17 hf _ _ hP hS ls (lv_sub hl [2, 3] rfl)
          · rw [if_neg (mt (lg_cmp_eq _ _).mpr c20)] at hf
            refine lv_aload_n hx hb d_M_write_52 rfl (lv_at hl 3 rfl) ?_
            refine va_get (D := (dC, dI)) (ci := 5) (v := .int (m_nodes s17)) (C := "GuideSearchModel") (T := F_M) (N := 25) hx hb hT i_M hown hK hP 0 rfl rfl 15 (by decide) (hT _ k_522) (fun _ h9 => h9) rfl d_M_write_53 ?_
            refine lv_sipush (v := (300 : Int32)) hx hb d_M_write_56 (by decide) ?_
            refine lv_icmp_ne (tgt := 65) hx hb d_M_write_59 (by decide) (fun c21 => ?_) (fun c21 => ?_)
            · rw [if_neg c21] at hf
              refine lv_aload_n hx hb d_M_write_65 rfl (lv_at hl 3 rfl) ?_
              refine va_get (D := (dC, dI)) (ci := 5) (v := .ref (a 9)) (C := "GuideSearchModel") (T := F_M) (N := 25) hx hb hT i_M hown hK hP 0 rfl rfl 16 (by decide) (hT _ k_523) (fun _ h9 => h9) rfl d_M_write_66 ?_
              refine lv_iconst (v := (3 : Int32)) hx hb d_M_write_69 (by decide) ?_
              refine lv_aload_n hx hb d_M_write_70 rfl (lv_at hl 3 rfl) ?_
              refine va_get (D := (dC, dI)) (ci := 5) (v := .int (m_nodes s17)) (C := "GuideSearchModel") (T := F_M) (N := 25) hx hb hT i_M hown hK hP 0 rfl rfl 15 (by decide) (hT _ k_522) (fun _ h9 => h9) rfl d_M_write_71 ?_
              refine lv_imul hx hb d_M_write_74 ?_
              refine lv_aload_n hx hb d_M_write_75 rfl (lv_at hl 3 rfl) ?_
              refine va_get (D := (dC, dI)) (ci := 5) (v := .ref (a 11)) (C := "GuideSearchModel") (T := F_M) (N := 25) hx hb hT i_M hown hK hP 0 rfl rfl 18 (by decide) (hT _ k_525) (fun _ h9 => h9) rfl d_M_write_76 ?_
              refine lv_iload_n hx hb d_M_write_79 rfl (lv_at hl 1 rfl) ?_
              obtain ⟨j22, ej24, hi23, hf⟩ := ix_some hf
              refine xa_iald hx hb hK hP 11 1 rfl rfl ej24 hi23 d_M_write_80 ?_
              obtain ⟨j25, ej27, hi26, hf⟩ := ix_some hf
              refine xa_iast hx hb hK hP (hD _) hS 9 1 rfl rfl ej27 hi26 d_M_write_81 (fun H locs hP hS => ?_)
              rw [m_node_put cs a s17 j25 (m_best s17 j22)] at hP
              refine lv_aload_n hx hb d_M_write_82 rfl (lv_at hl 3 rfl) ?_
              refine va_get (D := (dC, dI)) (ci := 5) (v := .ref (a 9)) (C := "GuideSearchModel") (T := F_M) (N := 25) hx hb hT i_M hown hK hP 0 rfl rfl 16 (by decide) (hT _ k_523) (fun _ h9 => h9) rfl d_M_write_83 ?_
              refine lv_iconst (v := (3 : Int32)) hx hb d_M_write_86 (by decide) ?_
              refine lv_aload_n hx hb d_M_write_87 rfl (lv_at hl 3 rfl) ?_
              refine va_get (D := (dC, dI)) (ci := 5) (v := .int (m_nodes (m_node_s s17 j25 (m_best s17 j22)))) (C := "GuideSearchModel") (T := F_M) (N := 25) hx hb hT i_M hown hK hP 0 rfl rfl 15 (by decide) (hT _ k_522) (fun _ h9 => h9) rfl d_M_write_88 ?_
              refine lv_imul hx hb d_M_write_91 ?_
              refine lv_iconst (v := (1 : Int32)) hx hb d_M_write_92 (by decide) ?_
              refine lv_iadd hx hb d_M_write_93 ?_
              refine lv_aload_n hx hb d_M_write_94 rfl (lv_at hl 3 rfl) ?_
              obtain ⟨r29, hr28, hf⟩ := ob hf
              refine ro_calli (va_runV (C := "GuideSearchModel") (As := []) (rest := [.int (((3 : Int32) * (m_nodes (m_node_s s17 j25 (m_best s17 j22)))) + (1 : Int32)), .ref (a 9)]) ⟨hx, hb, hml, hown, hT⟩ (c_M_left l dC dI cs a (m_node_s s17 j25 (m_best s17 j22)) r29 hr28) (cwV 0 hT (gV k_646 k_648 ks_19 k_7 k_649) rfl rfl rfl (by decide +kernel) ⟨Nat.le_of_ble_eq_true rfl, Nat.le_of_ble_eq_true rfl⟩) (ro_preV hP hK hN (va_recv hK hP (ci := 5) (q0 := 0) rfl rfl)) rfl rfl hl.1 rfl (lv_room (Nat.le_of_ble_eq_true rfl)) d_M_write_95 ⟨Nat.le_of_ble_eq_true rfl, Nat.le_of_ble_eq_true rfl⟩) ?_
              obtain ⟨j30, ej32, hi31, hf⟩ := ix_some hf
              refine xa_iast hx hb hK hP (hD _) hS 9 1 rfl rfl ej32 hi31 d_M_write_98 (fun H locs hP hS => ?_)
              rw [m_node_put cs a (m_node_s s17 j25 (m_best s17 j22)) j30 r29] at hP
              refine lv_aload_n hx hb d_M_write_99 rfl (lv_at hl 3 rfl) ?_
              refine va_get (D := (dC, dI)) (ci := 5) (v := .ref (a 9)) (C := "GuideSearchModel") (T := F_M) (N := 25) hx hb hT i_M hown hK hP 0 rfl rfl 16 (by decide) (hT _ k_523) (fun _ h9 => h9) rfl d_M_write_100 ?_
              refine lv_iconst (v := (3 : Int32)) hx hb d_M_write_103 (by decide) ?_
              refine lv_aload_n hx hb d_M_write_104 rfl (lv_at hl 3 rfl) ?_
              refine va_get (D := (dC, dI)) (ci := 5) (v := .int (m_nodes (m_node_s (m_node_s s17 j25 (m_best s17 j22)) j30 r29))) (C := "GuideSearchModel") (T := F_M) (N := 25) hx hb hT i_M hown hK hP 0 rfl rfl 15 (by decide) (hT _ k_522) (fun _ h9 => h9) rfl d_M_write_105 ?_
              refine lv_imul hx hb d_M_write_108 ?_
              refine lv_iconst (v := (2 : Int32)) hx hb d_M_write_109 (by decide) ?_
              refine lv_iadd hx hb d_M_write_110 ?_
              refine lv_iload hx hb d_M_write_111 (lv_at hl 0 rfl) ?_
              obtain ⟨j33, ej35, hi34, hf⟩ := ix_some hf
              refine xa_iast hx hb hK hP (hD _) hS 9 1 rfl rfl ej35 hi34 d_M_write_113 (fun H locs hP hS => ?_)
              rw [m_node_put cs a (m_node_s (m_node_s s17 j25 (m_best s17 j22)) j30 r29) j33 (m_by s8 j13)] at hP
              refine lv_aload_n hx hb d_M_write_114 rfl (lv_at hl 3 rfl) ?_
              refine lv_dup hx hb d_M_write_115 rfl ?_
              refine va_get (D := (dC, dI)) (ci := 5) (v := .int (m_nodes (m_node_s (m_node_s (m_node_s s17 j25 (m_best s17 j22)) j30 r29) j33 (m_by s8 j13)))) (C := "GuideSearchModel") (T := F_M) (N := 25) hx hb hT i_M hown hK hP 0 rfl rfl 15 (by decide) (hT _ k_522) (fun _ h9 => h9) rfl d_M_write_116 ?_
              refine lv_iconst (v := (1 : Int32)) hx hb d_M_write_119 (by decide) ?_
              refine lv_iadd hx hb d_M_write_120 ?_
              refine va_put (D := (dC, dI)) (ci := 5) (v := .int ((m_nodes (m_node_s (m_node_s (m_node_s s17 j25 (m_best s17 j22)) j30 r29) j33 (m_by s8 j13))) + (1 : Int32))) (ty := .int) (C := "GuideSearchModel") (T := F_M) (N := 25) hx hb hT i_M ft_M ft_M_ok n_M hown hK hP (hD _) hS 0 rfl rfl 15 (by decide) (hT _ k_522) (fun _ h9 => h9) rfl (by decide +kernel) rfl rfl (Nat.le_of_ble_eq_true rfl) d_M_write_121 (fun H locs hP _ hS => ?_)
              rw [m_nodes_put cs a (m_node_s (m_node_s (m_node_s s17 j25 (m_best s17 j22)) j30 r29) j33 (m_by s8 j13)) ((m_nodes (m_node_s (m_node_s (m_node_s s17 j25 (m_best s17 j22)) j30 r29) j33 (m_by s8 j13))) + (1 : Int32))] at hP
              refine lv_iconst (v := (2 : Int32)) hx hb d_M_write_124 (by decide) ?_
              refine lv_istore (lv' := [(5, .int (2 : Int32)), (4, .int (m_by s8 j13)), (3, .int (m_wait s8 j10)), (2, .int (v7 + (-1))), (0, .ref (a 0))]) hx hb d_M_write_125 hl (by decide) rfl (fun ls hl => ?_)
              have loop2 : ∀ (n : Nat) (v36 : Int32) (v37 : Int32) (s38 : MS), xl3 (m_M_write_B2 s8 self1 j10) n v36 v37 s38 = some res → ∀ (H : Heap) (locs : List Loc), va_P (dC, dI) vwCl (m_W cs a s38) H → va_S (m_A a) s.heap H locs → ∀ (ls : Array Slot), lv_has ls 6 [(5, .int v36), (3, .int (m_wait s8 j10)), (2, .int v37), (0, .ref (a 0))] → W p l e { frames := 2, cells := 0, slots := 0, locals := 48 } s m ([.ref (a 0), .int p1] : List Value).toArray below meth c H locs 0 0 (MQ below (va_Qv (fun _ : Unit => True) (fun _ t => va_P (dC, dI) vwCl (m_W cs a res) t.heap) (m_A a)) ([.ref (a 0), .int p1] : List Value).toArray s 0 0 (m_A a)) (F0 m 127 ls []) := by
                intro n
                induction n with
                | zero => intro v36 v37 s38 hf; exact absurd hf (by simp [xl3])
                | succ n ih2 =>
                  intro v36 v37 s38 hf H locs hP hS ls hl
                  replace hf : (m_M_write_B2 s8 self1 j10) (xl3 (m_M_write_B2 s8 self1 j10) n) v36 v37 s38 = some res := hf
                  generalize xl3 (m_M_write_B2 s8 self1 j10) n = self2 at hf ih2
                  unfold m_M_write_B2 at hf
                  refine lv_iload hx hb d_M_write_127 (lv_at hl 0 rfl) ?_
                  refine lv_if_lt (tgt := 180) hx hb d_M_write_129 (by decide) (fun c39 => ?_) (fun c39 => ?_)
                  · rw [if_pos c39] at hf
                    refine lv_goto (tgt := 16) hx hb d_M_write_180 (by decide) ?_
                    exact ih1 v37 s38 hf _ _ hP hS ls (lv_sub hl [2, 3] rfl)
                  · rw [if_neg c39] at hf
                    refine lv_aload_n hx hb d_M_write_132 rfl (lv_at hl 3 rfl) ?_
                    refine va_get (D := (dC, dI)) (ci := 5) (v := .ref (a 11)) (C := "GuideSearchModel") (T := F_M) (N := 25) hx hb hT i_M hown hK hP 0 rfl rfl 18 (by decide) (hT _ k_525) (fun _ h9 => h9) rfl d_M_write_133 ?_
                    refine lv_iload_n hx hb d_M_write_136 rfl (lv_at hl 1 rfl) ?_
                    obtain ⟨j40, ej42, hi41, hf⟩ := ix_some hf
                    refine xa_iald hx hb hK hP 11 1 rfl rfl ej42 hi41 d_M_write_137 ?_
                    refine lv_if_le (tgt := 180) hx hb d_M_write_138 (by decide) (fun c43 => ?_) (fun c43 => ?_)
                    · rw [if_pos c43] at hf
                      refine lv_goto (tgt := 16) hx hb d_M_write_180 (by decide) ?_
                      exact ih1 v37 s38 hf _ _ hP hS ls (lv_sub hl [2, 3] rfl)
                    · rw [if_neg c43] at hf
                      refine lv_aload_n hx hb d_M_write_141 rfl (lv_at hl 3 rfl) ?_
                      refine va_get (D := (dC, dI)) (ci := 5) (v := .ref (a 14)) (C := "GuideSearchModel") (T := F_M) (N := 25) hx hb hT i_M hown hK hP 0 rfl rfl 21 (by decide) (hT _ k_528) (fun _ h9 => h9) rfl d_M_write_142 ?_
                      refine lv_iload_n hx hb d_M_write_145 rfl (lv_at hl 2 rfl) ?_
                      refine lv_iload_n hx hb d_M_write_146 rfl (lv_at hl 1 rfl) ?_
                      refine lv_iload hx hb d_M_write_147 (lv_at hl 0 rfl) ?_
                      refine lv_iconst (v := (1 : Int32)) hx hb d_M_write_149 (by decide) ?_
                      refine lv_iadd hx hb d_M_write_150 ?_
                      refine lv_aload_n hx hb d_M_write_151 rfl (lv_at hl 3 rfl) ?_
                      refine va_get (D := (dC, dI)) (ci := 5) (v := .ref (a 11)) (C := "GuideSearchModel") (T := F_M) (N := 25) hx hb hT i_M hown hK hP 0 rfl rfl 18 (by decide) (hT _ k_525) (fun _ h9 => h9) rfl d_M_write_152 ?_
                      refine lv_iload_n hx hb d_M_write_155 rfl (lv_at hl 1 rfl) ?_
                      obtain ⟨j44, ej46, hi45, hf⟩ := ix_some hf
                      refine xa_iald hx hb hK hP 11 1 rfl rfl ej46 hi45 d_M_write_156 ?_
                      obtain ⟨r48, hr47, hf⟩ := ob hf
                      refine ro_calli (va_runS (As := [.int (m_best s38 j44)]) (rest := [.int (v36 + (1 : Int32)), .int (m_wait s8 j10), .int v37, .ref (a 14)]) ⟨hx, hb, hml, hown, hT⟩ (c_M_unit l (m_best s38 j44) r48 hr47) (va_cwS 1 hT (gS k_670 k_671 k_7 k_672) rfl rfl rfl (by decide +kernel) ⟨Nat.le_of_ble_eq_true rfl, Nat.le_of_ble_eq_true rfl⟩) ⟨fun _ _ _ _ q => q, fun _ _ _ => ⟨rfl, trivial⟩⟩ rfl rfl hl.1 rfl (lv_room (Nat.le_of_ble_eq_true rfl)) d_M_write_157 ⟨Nat.le_of_ble_eq_true rfl, Nat.le_of_ble_eq_true rfl⟩) ?_
                      refine lv_imul hx hb d_M_write_160 ?_
                      refine lv_iadd hx hb d_M_write_161 ?_
                      obtain ⟨j49, ej51, hi50, hf⟩ := ix_some hf
                      refine xa_iast hx hb hK hP (hD _) hS 14 1 rfl rfl ej51 hi50 d_M_write_162 (fun H locs hP hS => ?_)
                      rw [m_wait_put cs a s38 j49 ((m_wait s8 j10) + ((v36 + (1 : Int32)) * r48))] at hP
                      refine lv_aload_n hx hb d_M_write_163 rfl (lv_at hl 3 rfl) ?_
                      refine va_get (D := (dC, dI)) (ci := 5) (v := .ref (a 15)) (C := "GuideSearchModel") (T := F_M) (N := 25) hx hb hT i_M hown hK hP 0 rfl rfl 22 (by decide) (hT _ k_529) (fun _ h9 => h9) rfl d_M_write_164 ?_
                      refine lv_iload_n hx hb d_M_write_167 rfl (lv_at hl 2 rfl) ?_
                      refine lv_iload hx hb d_M_write_168 (lv_at hl 0 rfl) ?_
                      obtain ⟨j52, ej54, hi53, hf⟩ := ix_some hf
                      refine xa_iast hx hb hK hP (hD _) hS 15 1 rfl rfl ej54 hi53 d_M_write_170 (fun H locs hP hS => ?_)
                      rw [m_by_put cs a (m_wait_s s38 j49 ((m_wait s8 j10) + ((v36 + (1 : Int32)) * r48))) j52 v36] at hP
                      refine lv_iinc (v := (v37 + 1)) (lv' := [(2, .int (v37 + 1)), (5, .int v36), (3, .int (m_wait s8 j10)), (0, .ref (a 0))]) hx hb d_M_write_171 hl (k := 2) rfl rfl (by decide) rfl (fun ls hl => ?_)
                      refine lv_iinc (v := (v36 + (-1))) (lv' := [(5, .int (v36 + (-1))), (2, .int (v37 + 1)), (3, .int (m_wait s8 j10)), (0, .ref (a 0))]) hx hb d_M_write_174 hl (k := 1) rfl rfl (by decide) rfl (fun ls hl => ?_)
                      refine lv_goto (tgt := 127) hx hb d_M_write_177 (by decide) ?_
                      exact ih2 (v36 + (-1)) (v37 + 1) (m_by_s (m_wait_s s38 j49 ((m_wait s8 j10) + ((v36 + (1 : Int32)) * r48))) j52 v36) hf _ _ hP hS ls (lv_sub hl [0, 2, 1, 3] rfl)
              exact loop2 _ (2 : Int32) (v7 + (-1)) (m_nodes_s (m_node_s (m_node_s (m_node_s s17 j25 (m_best s17 j22)) j30 r29) j33 (m_by s8 j13)) ((m_nodes (m_node_s (m_node_s (m_node_s s17 j25 (m_best s17 j22)) j30 r29) j33 (m_by s8 j13))) + (1 : Int32))) hf _ _ hP hS ls (lv_sub hl [0, 2, 3, 4] rfl)
            · rw [if_pos c21] at hf
              refine lv_goto (tgt := 16) hx hb d_M_write_62 (by decide) ?_
              exact ih1 (v7 + (-1)) s17 hf _ _ hP hS ls (lv_sub hl [2, 3] rfl)
    exact loop1 _ (1 : Int32) (m_by_s (m_wait_s st j1 p1) j4 (-1 : Int32)) hf _ _ hP hS ls (lv_sub hl [0, 1] rfl)
  exact main _ _ hP va_S.rf
set_option maxHeartbeats 4000000 in
set_option maxRecDepth 100000 in
theorem c_M_next (l : Launch) (dC : Nat → ClassId) (dI : Nat → Nat → Nat) (cs : Nat → ClassId) (a : Nat → Nat) (hi : ∀ i j : Nat, i < 18 → j < 18 → a i = a j → i = j) (st : MS) (p1 : Int64) (res : Int32 × MS) (hf : m_M_next st p1 = some res) : Met l (⟨"GuideSearchModel", "next", "(J)I"⟩ : MethodName) (Cond.code (⟨"GuideSearchModel", "next", "(J)I"⟩ : MethodName) prog_7_method_24_code 8 (some .int) :: wg) { frames := 4, cells := 0, slots := 0, locals := 97 } (va_Pc ([.ref (a 0), .long p1] : List Value) (m_pre dC dI cs a st)) (va_Qi (fun r (_ : Unit) => r = res.1) (fun _ t => va_P (dC, dI) vwCl (m_W cs a res.2) t.heap) (m_A a)) 0 0 (m_A a) := by
  refine ro_start (cc := prog_7_method_24_code) (maxL := 8) (ret := (some .int)) (by decide) (Nat.le_of_ble_eq_true rfl) ?_
  intro p e s m below meth c hx hb hr hml hT hown hlocks hB ls hl
  replace hown : s.vm.findClass "GuideSearchModel" = some m.cls := hown
  obtain ⟨hP, hK, hN⟩ := hB
  replace hl : lv_has ls 8 [(0, .ref (a 0)), (1, .long p1)] := hl
  unfold m_M_next at hf
  have hD : ∀ st : MS, va_D (m_A a) (m_W cs a st) := fun st => m_D hi cs st
  have main : ∀ (H : Heap) (locs : List Loc), va_P (dC, dI) vwCl (m_W cs a st) H → va_S (m_A a) s.heap H locs → W p l e { frames := 4, cells := 0, slots := 0, locals := 97 } s m ([.ref (a 0), .long p1] : List Value).toArray below meth c H locs 0 0 (MQ below (va_Qi (fun r (_ : Unit) => r = res.1) (fun _ t => va_P (dC, dI) vwCl (m_W cs a res.2) t.heap) (m_A a)) ([.ref (a 0), .long p1] : List Value).toArray s 0 0 (m_A a)) (F0 m 0 ls []) := by
    intro H locs hP hS
    refine lv_aload_n hx hb d_M_next_0 rfl (lv_at hl 0 rfl) ?_
    refine lv_iconst (v := (0 : Int32)) hx hb d_M_next_1 (by decide) ?_
    refine va_put (D := (dC, dI)) (ci := 5) (v := .int (0 : Int32)) (ty := .int) (C := "GuideSearchModel") (T := F_M) (N := 25) hx hb hT i_M ft_M ft_M_ok n_M hown hK hP (hD _) hS 0 rfl rfl 0 (by decide) (hT _ k_507) (fun _ h9 => h9) rfl (by decide +kernel) rfl rfl (Nat.le_of_ble_eq_true rfl) d_M_next_2 (fun H locs hP _ hS => ?_)
    rw [m_code_put cs a st (0 : Int32)] at hP
    refine lv_lload_n hx hb d_M_next_5 rfl (lv_at hl 1 rfl) ?_
    refine lv_lconst (v := (0 : Int64)) hx hb d_M_next_6 (by decide) ?_
    refine W.lcmp hx hb d_M_next_7 ?_
    refine lv_if_ge (tgt := 14) hx hb d_M_next_8 (by decide) (fun c1 => ?_) (fun c1 => ?_)
    · rw [if_pos ((lg_cmp_ge _ _).mp c1)] at hf
      refine lv_aload_n hx hb d_M_next_14 rfl (lv_at hl 0 rfl) ?_
      obtain ⟨r3, hr2, hf⟩ := ob hf
      refine ro_calli (va_runV (C := "GuideSearchModel") (As := []) (rest := []) ⟨hx, hb, hml, hown, hT⟩ (c_M_stateNow l dC dI cs a (m_code_s st (0 : Int32)) r3 hr2) (cwV 0 hT (gV k_633 k_635 ks_16 k_7 k_636) rfl rfl rfl (by decide +kernel) ⟨Nat.le_of_ble_eq_true rfl, Nat.le_of_ble_eq_true rfl⟩) (ro_preV hP hK hN (va_recv hK hP (ci := 5) (q0 := 0) rfl rfl)) rfl rfl hl.1 rfl (lv_room (Nat.le_of_ble_eq_true rfl)) d_M_next_15 ⟨Nat.le_of_ble_eq_true rfl, Nat.le_of_ble_eq_true rfl⟩) ?_
      refine lv_istore_n (lv' := [(3, .int r3), (0, .ref (a 0)), (1, .long p1)]) hx hb d_M_next_18 rfl hl (by decide) rfl (fun ls hl => ?_)
      refine lv_lconst (v := (1 : Int64)) hx hb d_M_next_19 (by decide) ?_
      refine lv_lstore (lv' := [(4, .long (1 : Int64)), (3, .int r3), (0, .ref (a 0)), (1, .long p1)]) hx hb d_M_next_20 hl (by decide) rfl (fun ls hl => ?_)
      refine lv_iconst (v := (1 : Int32)) hx hb d_M_next_22 (by decide) ?_
      refine lv_istore (lv' := [(6, .int (1 : Int32)), (4, .long (1 : Int64)), (3, .int r3), (0, .ref (a 0)), (1, .long p1)]) hx hb d_M_next_23 hl (by decide) rfl (fun ls hl => ?_)
      have loop1 : ∀ (n : Nat) (v4 : Int32) (v5 : Int64), xl2 (m_M_next_B1 st p1 r3) n v4 v5 = some res → ∀ (ls : Array Slot), lv_has ls 8 [(6, .int v4), (4, .long v5), (3, .int r3), (0, .ref (a 0)), (1, .long p1)] → W p l e { frames := 4, cells := 0, slots := 0, locals := 97 } s m ([.ref (a 0), .long p1] : List Value).toArray below meth c H locs 0 0 (MQ below (va_Qi (fun r (_ : Unit) => r = res.1) (fun _ t => va_P (dC, dI) vwCl (m_W cs a res.2) t.heap) (m_A a)) ([.ref (a 0), .long p1] : List Value).toArray s 0 0 (m_A a)) (F0 m 25 ls []) := by
        intro n
        induction n with
        | zero => intro v4 v5 hf; exact absurd hf (by simp [xl2])
        | succ n ih1 =>
          intro v4 v5 hf ls hl
          replace hf : (m_M_next_B1 st p1 r3) (xl2 (m_M_next_B1 st p1 r3) n) v4 v5 = some res := hf
          generalize xl2 (m_M_next_B1 st p1 r3) n = self1 at hf ih1
          unfold m_M_next_B1 at hf
          refine lv_iload hx hb d_M_next_25 (lv_at hl 0 rfl) ?_
          refine lv_aload_n hx hb d_M_next_27 rfl (lv_at hl 3 rfl) ?_
          refine va_get (D := (dC, dI)) (ci := 5) (v := .int (m_tests (m_code_s st (0 : Int32)))) (C := "GuideSearchModel") (T := F_M) (N := 25) hx hb hT i_M hown hK hP 0 rfl rfl 8 (by decide) (hT _ k_515) (fun _ h9 => h9) rfl d_M_next_28 ?_
          refine lv_icmp_gt (tgt := 63) hx hb d_M_next_31 (by decide) (fun c6 => ?_) (fun c6 => ?_)
          · rw [if_pos c6] at hf
            refine lv_aload_n hx hb d_M_next_63 rfl (lv_at hl 3 rfl) ?_
            refine lv_iconst (v := (0 : Int32)) hx hb d_M_next_64 (by decide) ?_
            refine va_put (D := (dC, dI)) (ci := 5) (v := .int (0 : Int32)) (ty := .int) (C := "GuideSearchModel") (T := F_M) (N := 25) hx hb hT i_M ft_M ft_M_ok n_M hown hK hP (hD _) hS 0 rfl rfl 15 (by decide) (hT _ k_522) (fun _ h9 => h9) rfl (by decide +kernel) rfl rfl (Nat.le_of_ble_eq_true rfl) d_M_next_65 (fun H locs hP _ hS => ?_)
            rw [m_nodes_put cs a (m_code_s st (0 : Int32)) (0 : Int32)] at hP
            refine lv_aload_n hx hb d_M_next_68 rfl (lv_at hl 3 rfl) ?_
            refine lv_ldc2 (v := (-1 : Int64)) hx hb hown (hT _ k_506) d_M_next_69 ?_
            refine va_put (D := (dC, dI)) (ci := 5) (v := .long (-1 : Int64)) (ty := .long) (C := "GuideSearchModel") (T := F_M) (N := 25) hx hb hT i_M ft_M ft_M_ok n_M hown hK hP (hD _) hS 0 rfl rfl 14 (by decide) (hT _ k_521) (fun _ h9 => h9) rfl (by decide +kernel) rfl rfl (Nat.le_of_ble_eq_true rfl) d_M_next_72 (fun H locs hP _ hS => ?_)
            rw [m_cost_put cs a (m_nodes_s (m_code_s st (0 : Int32)) (0 : Int32)) (-1 : Int64)] at hP
            refine lv_aload_n hx hb d_M_next_75 rfl (lv_at hl 3 rfl) ?_
            refine lv_lload hx hb d_M_next_76 (lv_at hl 1 rfl) ?_
            refine lv_lload_n hx hb d_M_next_78 rfl (lv_at hl 4 rfl) ?_
            refine W.lcmp hx hb d_M_next_79 ?_
            refine lv_if_gt (tgt := 87) hx hb d_M_next_80 (by decide) (fun c7 => ?_) (fun c7 => ?_)
            · rw [if_pos ((lg_cmp_gt _ _).mp c7)] at hf
              refine lv_iconst (v := (0 : Int32)) hx hb d_M_next_87 (by decide) ?_
              refine va_put (D := (dC, dI)) (ci := 5) (v := .int (0 : Int32)) (ty := .boolean) (C := "GuideSearchModel") (T := F_M) (N := 25) hx hb hT i_M ft_M ft_M_ok n_M hown hK hP (hD _) hS 0 rfl rfl 13 (by decide) (hT _ k_520) (fun _ h9 => h9) rfl (by decide +kernel) rfl rfl (Nat.le_of_ble_eq_true rfl) d_M_next_88 (fun H locs hP _ hS => ?_)
              rw [m_exact_put cs a (m_cost_s (m_nodes_s (m_code_s st (0 : Int32)) (0 : Int32)) (-1 : Int64)) (0 : Int32)] at hP
              refine lv_aload_n hx hb d_M_next_91 rfl (lv_at hl 3 rfl) ?_
              refine va_get (D := (dC, dI)) (ci := 5) (v := .int (m_exact (m_exact_s (m_cost_s (m_nodes_s (m_code_s st (0 : Int32)) (0 : Int32)) (-1 : Int64)) (0 : Int32)))) (C := "GuideSearchModel") (T := F_M) (N := 25) hx hb hT i_M hown hK hP 0 rfl rfl 13 (by decide) (hT _ k_520) (fun _ h9 => h9) rfl d_M_next_92 ?_
              refine lv_if_ne (tgt := 104) hx hb d_M_next_95 (by decide) (fun c8 => ?_) (fun c8 => ?_)
              · rw [if_neg c8] at hf
                refine lv_iconst (v := (5 : Int32)) hx hb d_M_next_104 (by decide) ?_
                refine lv_istore (lv' := [(6, .int (5 : Int32)), (4, .long v5), (3, .int r3), (0, .ref (a 0)), (1, .long p1)]) hx hb d_M_next_105 hl (by decide) rfl (fun ls hl => ?_)
                have loop2 : ∀ (n : Nat) (v9 : Int32) (s10 : MS), xl2 (m_M_next_B2 r3) n v9 s10 = some res → ∀ (H : Heap) (locs : List Loc), va_P (dC, dI) vwCl (m_W cs a s10) H → va_S (m_A a) s.heap H locs → ∀ (ls : Array Slot), lv_has ls 8 [(6, .int v9), (3, .int r3), (0, .ref (a 0))] → W p l e { frames := 4, cells := 0, slots := 0, locals := 97 } s m ([.ref (a 0), .long p1] : List Value).toArray below meth c H locs 0 0 (MQ below (va_Qi (fun r (_ : Unit) => r = res.1) (fun _ t => va_P (dC, dI) vwCl (m_W cs a res.2) t.heap) (m_A a)) ([.ref (a 0), .long p1] : List Value).toArray s 0 0 (m_A a)) (F0 m 107 ls []) := by
                  intro n
                  induction n with
                  | zero => intro v9 s10 hf; exact absurd hf (by simp [xl2])
                  | succ n ih2 =>
                    intro v9 s10 hf H locs hP hS ls hl
                    replace hf : (m_M_next_B2 r3) (xl2 (m_M_next_B2 r3) n) v9 s10 = some res := hf
                    generalize xl2 (m_M_next_B2 r3) n = self2 at hf ih2
                    unfold m_M_next_B2 at hf
                    refine lv_iload hx hb d_M_next_107 (lv_at hl 0 rfl) ?_
                    refine lv_if_lt (tgt := 161) hx hb d_M_next_109 (by decide) (fun c11 => ?_) (fun c11 => ?_)
                    · rw [if_pos c11] at hf
                      refine lv_aload_n hx hb d_M_next_161 rfl (lv_at hl 2 rfl) ?_
                      refine lv_iload_n hx hb d_M_next_162 rfl (lv_at hl 1 rfl) ?_
                      obtain ⟨s13, hr12, hf⟩ := ob hf
                      refine rw_callv (va_runV (C := "GuideSearchModel") (As := [.int r3]) (rest := []) ⟨hx, hb, hml, hown, hT⟩ (c_M_look l dC dI cs a hi s10 r3 s13 hr12) (cwV 1 hT (gV k_642 k_644 ks_18 k_7 k_645) rfl rfl rfl (by decide +kernel) ⟨Nat.le_of_ble_eq_true rfl, Nat.le_of_ble_eq_true rfl⟩) (ro_preV hP hK hN (va_recv hK hP (ci := 5) (q0 := 0) rfl rfl)) rfl rfl hl.1 rfl (lv_room (Nat.le_of_ble_eq_true rfl)) d_M_next_163 ⟨Nat.le_of_ble_eq_true rfl, Nat.le_of_ble_eq_true rfl⟩) hS (fun H locs hP hS => ?_)
                      refine lv_aload_n hx hb d_M_next_166 rfl (lv_at hl 2 rfl) ?_
                      obtain ⟨r15, hr14, hf⟩ := ob hf
                      refine ro_calll (va_runV (C := "GuideSearchModel") (As := []) (rest := []) ⟨hx, hb, hml, hown, hT⟩ (c_M_sum l dC dI cs a s13 r15 hr14) (cwV 0 hT (gV k_684 k_686 ks_27 k_7 k_687) rfl rfl rfl (by decide +kernel) ⟨Nat.le_of_ble_eq_true rfl, Nat.le_of_ble_eq_true rfl⟩) (ro_preV hP hK hN (va_recv hK hP (ci := 5) (q0 := 0) rfl rfl)) rfl rfl hl.1 rfl (lv_room (Nat.le_of_ble_eq_true rfl)) d_M_next_167 ⟨Nat.le_of_ble_eq_true rfl, Nat.le_of_ble_eq_true rfl⟩) ?_
                      refine lv_lconst (v := (0 : Int64)) hx hb d_M_next_170 (by decide) ?_
                      refine W.lcmp hx hb d_M_next_171 ?_
                      refine lv_if_le (tgt := 192) hx hb d_M_next_172 (by decide) (fun c16 => ?_) (fun c16 => ?_)
                      · rw [if_pos ((lg_cmp_le _ _).mp c16)] at hf
                        refine lv_aload_n hx hb d_M_next_192 rfl (lv_at hl 2 rfl) ?_
                        refine lv_iload_n hx hb d_M_next_193 rfl (lv_at hl 1 rfl) ?_
                        obtain ⟨s18, hr17, hf⟩ := ob hf
                        refine rw_callv (va_runV (C := "GuideSearchModel") (As := [.int r3]) (rest := []) ⟨hx, hb, hml, hown, hT⟩ (c_M_write l dC dI cs a hi s13 r3 s18 hr17) (cwV 1 hT (gV k_695 k_697 ks_28 k_7 k_698) rfl rfl rfl (by decide +kernel) ⟨Nat.le_of_ble_eq_true rfl, Nat.le_of_ble_eq_true rfl⟩) (ro_preV hP hK hN (va_recv hK hP (ci := 5) (q0 := 0) rfl rfl)) rfl rfl hl.1 rfl (lv_room (Nat.le_of_ble_eq_true rfl)) d_M_next_194 ⟨Nat.le_of_ble_eq_true rfl, Nat.le_of_ble_eq_true rfl⟩) hS (fun H locs hP hS => ?_)
                        refine lv_aload_n hx hb d_M_next_197 rfl (lv_at hl 2 rfl) ?_
                        refine va_get (D := (dC, dI)) (ci := 5) (v := .ref (a 11)) (C := "GuideSearchModel") (T := F_M) (N := 25) hx hb hT i_M hown hK hP 0 rfl rfl 18 (by decide) (hT _ k_525) (fun _ h9 => h9) rfl d_M_next_198 ?_
                        refine lv_iload_n hx hb d_M_next_201 rfl (lv_at hl 1 rfl) ?_
                        obtain ⟨j19, ej21, hi20, hf⟩ := ix_some hf
                        refine xa_iald hx hb hK hP 11 1 rfl rfl ej21 hi20 d_M_next_202 ?_
                        exact W.iret hx hb hr (fun t ht _ => ⟨⟨_, (), rfl, congrArg Prod.fst (Option.some.inj hf), m_fin ht (congrArg Prod.snd (Option.some.inj hf)) hP⟩, hS.F ht⟩) hS.2.2 d_M_next_203
                      · rw [if_neg (mt (lg_cmp_le _ _).mpr c16)] at hf
                        refine lv_aload_n hx hb d_M_next_175 rfl (lv_at hl 2 rfl) ?_
                        refine lv_aload_n hx hb d_M_next_176 rfl (lv_at hl 2 rfl) ?_
                        refine va_get (D := (dC, dI)) (ci := 5) (v := .ref (a 10)) (C := "GuideSearchModel") (T := F_M) (N := 25) hx hb hT i_M hown hK hP 0 rfl rfl 17 (by decide) (hT _ k_524) (fun _ h9 => h9) rfl d_M_next_177 ?_
                        refine lv_iload_n hx hb d_M_next_180 rfl (lv_at hl 1 rfl) ?_
                        obtain ⟨j22, ej24, hi23, hf⟩ := ix_some hf
                        refine xa_lald hx hb hK hP 10 0 rfl rfl ej24 hi23 d_M_next_181 ?_
                        refine lv_aload_n hx hb d_M_next_182 rfl (lv_at hl 2 rfl) ?_
                        obtain ⟨r26, hr25, hf⟩ := ob hf
                        refine ro_calll (va_runV (C := "GuideSearchModel") (As := []) (rest := [.long (m_value s13 j22), .ref (a 0)]) ⟨hx, hb, hml, hown, hT⟩ (c_M_sum l dC dI cs a s13 r26 hr25) (cwV 0 hT (gV k_684 k_686 ks_27 k_7 k_687) rfl rfl rfl (by decide +kernel) ⟨Nat.le_of_ble_eq_true rfl, Nat.le_of_ble_eq_true rfl⟩) (ro_preV hP hK hN (va_recv hK hP (ci := 5) (q0 := 0) rfl rfl)) rfl rfl hl.1 rfl (lv_room (Nat.le_of_ble_eq_true rfl)) d_M_next_183 ⟨Nat.le_of_ble_eq_true rfl, Nat.le_of_ble_eq_true rfl⟩) ?_
                        obtain ⟨r28, hr27, hf⟩ := ob hf
                        refine ro_calll (va_runS (As := [.long (m_value s13 j22), .long r26]) (rest := [.ref (a 0)]) ⟨hx, hb, hml, hown, hT⟩ (c_M_thousandth l (m_value s13 j22) r26 r28 hr27) (va_cwS 2 hT (gS k_689 k_690 k_7 k_691) rfl rfl rfl (by decide +kernel) ⟨Nat.le_of_ble_eq_true rfl, Nat.le_of_ble_eq_true rfl⟩) ⟨fun _ _ _ _ q => q, fun _ _ _ => ⟨rfl, trivial⟩⟩ rfl rfl hl.1 rfl (lv_room (Nat.le_of_ble_eq_true rfl)) d_M_next_186 ⟨Nat.le_of_ble_eq_true rfl, Nat.le_of_ble_eq_true rfl⟩) ?_
                        refine va_put (D := (dC, dI)) (ci := 5) (v := .long r28) (ty := .long) (C := "GuideSearchModel") (T := F_M) (N := 25) hx hb hT i_M ft_M ft_M_ok n_M hown hK hP (hD _) hS 0 rfl rfl 14 (by decide) (hT _ k_521) (fun _ h9 => h9) rfl (by decide +kernel) rfl rfl (Nat.le_of_ble_eq_true rfl) d_M_next_189 (fun H locs hP _ hS => ?_)
                        rw [m_cost_put cs a s13 r28] at hP
                        refine lv_aload_n hx hb d_M_next_192 rfl (lv_at hl 2 rfl) ?_
                        refine lv_iload_n hx hb d_M_next_193 rfl (lv_at hl 1 rfl) ?_
                        obtain ⟨s30, hr29, hf⟩ := ob hf
                        refine rw_callv (va_runV (C := "GuideSearchModel") (As := [.int r3]) (rest := []) ⟨hx, hb, hml, hown, hT⟩ (c_M_write l dC dI cs a hi (m_cost_s s13 r28) r3 s30 hr29) (cwV 1 hT (gV k_695 k_697 ks_28 k_7 k_698) rfl rfl rfl (by decide +kernel) ⟨Nat.le_of_ble_eq_true rfl, Nat.le_of_ble_eq_true rfl⟩) (ro_preV hP hK hN (va_recv hK hP (ci := 5) (q0 := 0) rfl rfl)) rfl rfl hl.1 rfl (lv_room (Nat.le_of_ble_eq_true rfl)) d_M_next_194 ⟨Nat.le_of_ble_eq_true rfl, Nat.le_of_ble_eq_true rfl⟩) hS (fun H locs hP hS => ?_)
                        refine lv_aload_n hx hb d_M_next_197 rfl (lv_at hl 2 rfl) ?_
                        refine va_get (D := (dC, dI)) (ci := 5) (v := .ref (a 11)) (C := "GuideSearchModel") (T := F_M) (N := 25) hx hb hT i_M hown hK hP 0 rfl rfl 18 (by decide) (hT _ k_525) (fun _ h9 => h9) rfl d_M_next_198 ?_
                        refine lv_iload_n hx hb d_M_next_201 rfl (lv_at hl 1 rfl) ?_
                        obtain ⟨j31, ej33, hi32, hf⟩ := ix_some hf
                        refine xa_iald hx hb hK hP 11 1 rfl rfl ej33 hi32 d_M_next_202 ?_
                        exact W.iret hx hb hr (fun t ht _ => ⟨⟨_, (), rfl, congrArg Prod.fst (Option.some.inj hf), m_fin ht (congrArg Prod.snd (Option.some.inj hf)) hP⟩, hS.F ht⟩) hS.2.2 d_M_next_203
                    · rw [if_neg c11] at hf
                      refine lv_iconst (v := (0 : Int32)) hx hb d_M_next_112 (by decide) ?_
                      refine lv_istore (lv' := [(7, .int (0 : Int32)), (6, .int v9), (3, .int r3), (0, .ref (a 0))]) hx hb d_M_next_113 hl (by decide) rfl (fun ls hl => ?_)
                      have loop3 : ∀ (n : Nat) (v34 : Int32) (s35 : MS), xl2 (m_M_next_B3 r3 v9 self2) n v34 s35 = some res → ∀ (H : Heap) (locs : List Loc), va_P (dC, dI) vwCl (m_W cs a s35) H → va_S (m_A a) s.heap H locs → ∀ (ls : Array Slot), lv_has ls 8 [(7, .int v34), (6, .int v9), (3, .int r3), (0, .ref (a 0))] → W p l e { frames := 4, cells := 0, slots := 0, locals := 97 } s m ([.ref (a 0), .long p1] : List Value).toArray below meth c H locs 0 0 (MQ below (va_Qi (fun r (_ : Unit) => r = res.1) (fun _ t => va_P (dC, dI) vwCl (m_W cs a res.2) t.heap) (m_A a)) ([.ref (a 0), .long p1] : List Value).toArray s 0 0 (m_A a)) (F0 m 115 ls []) := by
                        intro n
                        induction n with
                        | zero => intro v34 s35 hf; exact absurd hf (by simp [xl2])
                        | succ n ih3 =>
                          intro v34 s35 hf H locs hP hS ls hl
                          replace hf : (m_M_next_B3 r3 v9 self2) (xl2 (m_M_next_B3 r3 v9 self2) n) v34 s35 = some res := hf
                          generalize xl2 (m_M_next_B3 r3 v9 self2) n = self3 at hf ih3
                          unfold m_M_next_B3 at hf
                          refine lv_iload hx hb d_M_next_115 (lv_at hl 0 rfl) ?_
                          refine lv_sipush (v := (1024 : Int32)) hx hb d_M_next_117 (by decide) ?_
                          refine lv_icmp_ge (tgt := 155) hx hb d_M_next_120 (by decide) (fun c36 => ?_) (fun c36 => ?_)
                          · rw [if_pos c36] at hf
                            refine lv_iinc (v := (v9 + (-1))) (lv' := [(6, .int (v9 + (-1))), (7, .int v34), (3, .int r3), (0, .ref (a 0))]) hx hb d_M_next_155 hl (k := 1) rfl rfl (by decide) rfl (fun ls hl => ?_)
                            refine lv_goto (tgt := 107) hx hb d_M_next_158 (by decide) ?_
                            exact ih2 (v9 + (-1)) s35 hf _ _ hP hS ls (lv_sub hl [0, 2, 3] rfl)
                          · rw [if_neg c36] at hf
                            refine lv_iload hx hb d_M_next_123 (lv_at hl 0 rfl) ?_
                            obtain ⟨r38, hr37, hf⟩ := ob hf
                            refine ro_calli (va_runS (As := [.int v34]) (rest := []) ⟨hx, hb, hml, hown, hT⟩ (c_M_answers l v34 r38 hr37) (va_cwS 1 hT (gS k_673 k_674 k_7 k_675) rfl rfl rfl (by decide +kernel) ⟨Nat.le_of_ble_eq_true rfl, Nat.le_of_ble_eq_true rfl⟩) ⟨fun _ _ _ _ q => q, fun _ _ _ => ⟨rfl, trivial⟩⟩ rfl rfl hl.1 rfl (lv_room (Nat.le_of_ble_eq_true rfl)) d_M_next_125 ⟨Nat.le_of_ble_eq_true rfl, Nat.le_of_ble_eq_true rfl⟩) ?_
                            refine lv_iload hx hb d_M_next_128 (lv_at hl 1 rfl) ?_
                            refine lv_icmp_ne (tgt := 149) hx hb d_M_next_130 (by decide) (fun c39 => ?_) (fun c39 => ?_)
                            · rw [if_neg c39] at hf
                              refine lv_iinc (v := (v34 + 1)) (lv' := [(7, .int (v34 + 1)), (6, .int v9), (3, .int r3), (0, .ref (a 0))]) hx hb d_M_next_149 hl (k := 0) rfl rfl (by decide) rfl (fun ls hl => ?_)
                              refine lv_goto (tgt := 115) hx hb d_M_next_152 (by decide) ?_
                              exact ih3 (v34 + 1) s35 hf _ _ hP hS ls (lv_sub hl [0, 1, 2, 3] rfl)
                            · rw [if_pos c39] at hf
                              refine lv_aload_n hx hb d_M_next_133 rfl (lv_at hl 3 rfl) ?_
                              refine lv_iload hx hb d_M_next_134 (lv_at hl 0 rfl) ?_
                              refine lv_iload_n hx hb d_M_next_136 rfl (lv_at hl 2 rfl) ?_
                              obtain ⟨r41, hr40, hf⟩ := ob hf
                              refine ro_calli (va_runV (C := "GuideSearchModel") (As := [.int v34, .int r3]) (rest := []) ⟨hx, hb, hml, hown, hT⟩ (c_M_isBehind l dC dI cs a s35 v34 r3 r41 hr40) (cwV 2 hT (gV k_676 k_678 ks_25 k_7 k_679) rfl rfl rfl (by decide +kernel) ⟨Nat.le_of_ble_eq_true rfl, Nat.le_of_ble_eq_true rfl⟩) (ro_preV hP hK hN (va_recv hK hP (ci := 5) (q0 := 0) rfl rfl)) rfl rfl hl.1 rfl (lv_room (Nat.le_of_ble_eq_true rfl)) d_M_next_137 ⟨Nat.le_of_ble_eq_true rfl, Nat.le_of_ble_eq_true rfl⟩) ?_
                              refine lv_if_eq (tgt := 149) hx hb d_M_next_140 (by decide) (fun c42 => ?_) (fun c42 => ?_)
                              · rw [if_pos c42] at hf
                                refine lv_iinc (v := (v34 + 1)) (lv' := [(7, .int (v34 + 1)), (6, .int v9), (3, .int r3), (0, .ref (a 0))]) hx hb d_M_next_149 hl (k := 0) rfl rfl (by decide) rfl (fun ls hl => ?_)
                                refine lv_goto (tgt := 115) hx hb d_M_next_152 (by decide) ?_
                                exact ih3 (v34 + 1) s35 hf _ _ hP hS ls (lv_sub hl [0, 1, 2, 3] rfl)
                              · rw [if_neg c42] at hf
                                refine lv_aload_n hx hb d_M_next_143 rfl (lv_at hl 3 rfl) ?_
                                refine lv_iload hx hb d_M_next_144 (lv_at hl 0 rfl) ?_
                                obtain ⟨s44, hr43, hf⟩ := ob hf
                                refine rw_callv (va_runV (C := "GuideSearchModel") (As := [.int v34]) (rest := []) ⟨hx, hb, hml, hown, hT⟩ (c_M_find l dC dI cs a hi s35 v34 s44 hr43) (cwV 1 hT (gV k_680 k_682 ks_26 k_7 k_683) rfl rfl rfl (by decide +kernel) ⟨Nat.le_of_ble_eq_true rfl, Nat.le_of_ble_eq_true rfl⟩) (ro_preV hP hK hN (va_recv hK hP (ci := 5) (q0 := 0) rfl rfl)) rfl rfl hl.1 rfl (lv_room (Nat.le_of_ble_eq_true rfl)) d_M_next_146 ⟨Nat.le_of_ble_eq_true rfl, Nat.le_of_ble_eq_true rfl⟩) hS (fun H locs hP hS => ?_)
                                refine lv_iinc (v := (v34 + 1)) (lv' := [(7, .int (v34 + 1)), (6, .int v9), (3, .int r3), (0, .ref (a 0))]) hx hb d_M_next_149 hl (k := 0) rfl rfl (by decide) rfl (fun ls hl => ?_)
                                refine lv_goto (tgt := 115) hx hb d_M_next_152 (by decide) ?_
                                exact ih3 (v34 + 1) s44 hf _ _ hP hS ls (lv_sub hl [0, 1, 2, 3] rfl)
                      exact loop3 _ (0 : Int32) s10 hf _ _ hP hS ls (lv_sub hl [0, 1, 2, 3] rfl)
                exact loop2 _ (5 : Int32) (m_exact_s (m_cost_s (m_nodes_s (m_code_s st (0 : Int32)) (0 : Int32)) (-1 : Int64)) (0 : Int32)) hf _ _ hP hS ls (lv_sub hl [0, 2, 3] rfl)
              · rw [if_pos c8] at hf
                refine lv_aload_n hx hb d_M_next_98 rfl (lv_at hl 3 rfl) ?_
                refine lv_iload_n hx hb d_M_next_99 rfl (lv_at hl 2 rfl) ?_
                obtain ⟨r47, s46, hr45, hf⟩ := bd2_some hf
                refine rw_calli (va_runV (C := "GuideSearchModel") (As := [.int r3]) (rest := []) ⟨hx, hb, hml, hown, hT⟩ (c_M_oneStep l dC dI cs a hi (m_exact_s (m_cost_s (m_nodes_s (m_code_s st (0 : Int32)) (0 : Int32)) (-1 : Int64)) (0 : Int32)) r3 (r47, s46) hr45) (cwV 1 hT (gV k_638 k_640 ks_17 k_7 k_641) rfl rfl rfl (by decide +kernel) ⟨Nat.le_of_ble_eq_true rfl, Nat.le_of_ble_eq_true rfl⟩) (ro_preV hP hK hN (va_recv hK hP (ci := 5) (q0 := 0) rfl rfl)) rfl rfl hl.1 rfl (lv_room (Nat.le_of_ble_eq_true rfl)) d_M_next_100 ⟨Nat.le_of_ble_eq_true rfl, Nat.le_of_ble_eq_true rfl⟩) hS (fun H locs hP hS => ?_)
                exact W.iret hx hb hr (fun t ht _ => ⟨⟨_, (), rfl, congrArg Prod.fst (Option.some.inj hf), m_fin ht (congrArg Prod.snd (Option.some.inj hf)) hP⟩, hS.F ht⟩) hS.2.2 d_M_next_103
            · rw [if_neg (mt (lg_cmp_gt _ _).mpr c7)] at hf
              refine lv_iconst (v := (1 : Int32)) hx hb d_M_next_83 (by decide) ?_
              refine lv_goto (tgt := 88) hx hb d_M_next_84 (by decide) ?_
              refine va_put (D := (dC, dI)) (ci := 5) (v := .int (1 : Int32)) (ty := .boolean) (C := "GuideSearchModel") (T := F_M) (N := 25) hx hb hT i_M ft_M ft_M_ok n_M hown hK hP (hD _) hS 0 rfl rfl 13 (by decide) (hT _ k_520) (fun _ h9 => h9) rfl (by decide +kernel) rfl rfl (Nat.le_of_ble_eq_true rfl) d_M_next_88 (fun H locs hP _ hS => ?_)
              rw [m_exact_put cs a (m_cost_s (m_nodes_s (m_code_s st (0 : Int32)) (0 : Int32)) (-1 : Int64)) (1 : Int32)] at hP
              refine lv_aload_n hx hb d_M_next_91 rfl (lv_at hl 3 rfl) ?_
              refine va_get (D := (dC, dI)) (ci := 5) (v := .int (m_exact (m_exact_s (m_cost_s (m_nodes_s (m_code_s st (0 : Int32)) (0 : Int32)) (-1 : Int64)) (1 : Int32)))) (C := "GuideSearchModel") (T := F_M) (N := 25) hx hb hT i_M hown hK hP 0 rfl rfl 13 (by decide) (hT _ k_520) (fun _ h9 => h9) rfl d_M_next_92 ?_
              refine lv_if_ne (tgt := 104) hx hb d_M_next_95 (by decide) (fun c48 => ?_) (fun c48 => ?_)
              · rw [if_neg c48] at hf
                refine lv_iconst (v := (5 : Int32)) hx hb d_M_next_104 (by decide) ?_
                refine lv_istore (lv' := [(6, .int (5 : Int32)), (4, .long v5), (3, .int r3), (0, .ref (a 0)), (1, .long p1)]) hx hb d_M_next_105 hl (by decide) rfl (fun ls hl => ?_)
                have loop4 : ∀ (n : Nat) (v49 : Int32) (s50 : MS), xl2 (m_M_next_B4 r3) n v49 s50 = some res → ∀ (H : Heap) (locs : List Loc), va_P (dC, dI) vwCl (m_W cs a s50) H → va_S (m_A a) s.heap H locs → ∀ (ls : Array Slot), lv_has ls 8 [(6, .int v49), (3, .int r3), (0, .ref (a 0))] → W p l e { frames := 4, cells := 0, slots := 0, locals := 97 } s m ([.ref (a 0), .long p1] : List Value).toArray below meth c H locs 0 0 (MQ below (va_Qi (fun r (_ : Unit) => r = res.1) (fun _ t => va_P (dC, dI) vwCl (m_W cs a res.2) t.heap) (m_A a)) ([.ref (a 0), .long p1] : List Value).toArray s 0 0 (m_A a)) (F0 m 107 ls []) := by
                  intro n
                  induction n with
                  | zero => intro v49 s50 hf; exact absurd hf (by simp [xl2])
                  | succ n ih4 =>
                    intro v49 s50 hf H locs hP hS ls hl
                    replace hf : (m_M_next_B4 r3) (xl2 (m_M_next_B4 r3) n) v49 s50 = some res := hf
                    generalize xl2 (m_M_next_B4 r3) n = self4 at hf ih4
                    unfold m_M_next_B4 at hf
                    refine lv_iload hx hb d_M_next_107 (lv_at hl 0 rfl) ?_
                    refine lv_if_lt (tgt := 161) hx hb d_M_next_109 (by decide) (fun c51 => ?_) (fun c51 => ?_)
                    · rw [if_pos c51] at hf
                      refine lv_aload_n hx hb d_M_next_161 rfl (lv_at hl 2 rfl) ?_
                      refine lv_iload_n hx hb d_M_next_162 rfl (lv_at hl 1 rfl) ?_
                      obtain ⟨s53, hr52, hf⟩ := ob hf
                      refine rw_callv (va_runV (C := "GuideSearchModel") (As := [.int r3]) (rest := []) ⟨hx, hb, hml, hown, hT⟩ (c_M_look l dC dI cs a hi s50 r3 s53 hr52) (cwV 1 hT (gV k_642 k_644 ks_18 k_7 k_645) rfl rfl rfl (by decide +kernel) ⟨Nat.le_of_ble_eq_true rfl, Nat.le_of_ble_eq_true rfl⟩) (ro_preV hP hK hN (va_recv hK hP (ci := 5) (q0 := 0) rfl rfl)) rfl rfl hl.1 rfl (lv_room (Nat.le_of_ble_eq_true rfl)) d_M_next_163 ⟨Nat.le_of_ble_eq_true rfl, Nat.le_of_ble_eq_true rfl⟩) hS (fun H locs hP hS => ?_)
                      refine lv_aload_n hx hb d_M_next_166 rfl (lv_at hl 2 rfl) ?_
                      obtain ⟨r55, hr54, hf⟩ := ob hf
                      refine ro_calll (va_runV (C := "GuideSearchModel") (As := []) (rest := []) ⟨hx, hb, hml, hown, hT⟩ (c_M_sum l dC dI cs a s53 r55 hr54) (cwV 0 hT (gV k_684 k_686 ks_27 k_7 k_687) rfl rfl rfl (by decide +kernel) ⟨Nat.le_of_ble_eq_true rfl, Nat.le_of_ble_eq_true rfl⟩) (ro_preV hP hK hN (va_recv hK hP (ci := 5) (q0 := 0) rfl rfl)) rfl rfl hl.1 rfl (lv_room (Nat.le_of_ble_eq_true rfl)) d_M_next_167 ⟨Nat.le_of_ble_eq_true rfl, Nat.le_of_ble_eq_true rfl⟩) ?_
                      refine lv_lconst (v := (0 : Int64)) hx hb d_M_next_170 (by decide) ?_
                      refine W.lcmp hx hb d_M_next_171 ?_
                      refine lv_if_le (tgt := 192) hx hb d_M_next_172 (by decide) (fun c56 => ?_) (fun c56 => ?_)
                      · rw [if_pos ((lg_cmp_le _ _).mp c56)] at hf
                        refine lv_aload_n hx hb d_M_next_192 rfl (lv_at hl 2 rfl) ?_
                        refine lv_iload_n hx hb d_M_next_193 rfl (lv_at hl 1 rfl) ?_
                        obtain ⟨s58, hr57, hf⟩ := ob hf
                        refine rw_callv (va_runV (C := "GuideSearchModel") (As := [.int r3]) (rest := []) ⟨hx, hb, hml, hown, hT⟩ (c_M_write l dC dI cs a hi s53 r3 s58 hr57) (cwV 1 hT (gV k_695 k_697 ks_28 k_7 k_698) rfl rfl rfl (by decide +kernel) ⟨Nat.le_of_ble_eq_true rfl, Nat.le_of_ble_eq_true rfl⟩) (ro_preV hP hK hN (va_recv hK hP (ci := 5) (q0 := 0) rfl rfl)) rfl rfl hl.1 rfl (lv_room (Nat.le_of_ble_eq_true rfl)) d_M_next_194 ⟨Nat.le_of_ble_eq_true rfl, Nat.le_of_ble_eq_true rfl⟩) hS (fun H locs hP hS => ?_)
                        refine lv_aload_n hx hb d_M_next_197 rfl (lv_at hl 2 rfl) ?_
                        refine va_get (D := (dC, dI)) (ci := 5) (v := .ref (a 11)) (C := "GuideSearchModel") (T := F_M) (N := 25) hx hb hT i_M hown hK hP 0 rfl rfl 18 (by decide) (hT _ k_525) (fun _ h9 => h9) rfl d_M_next_198 ?_
                        refine lv_iload_n hx hb d_M_next_201 rfl (lv_at hl 1 rfl) ?_
                        obtain ⟨j59, ej61, hi60, hf⟩ := ix_some hf
                        refine xa_iald hx hb hK hP 11 1 rfl rfl ej61 hi60 d_M_next_202 ?_
                        exact W.iret hx hb hr (fun t ht _ => ⟨⟨_, (), rfl, congrArg Prod.fst (Option.some.inj hf), m_fin ht (congrArg Prod.snd (Option.some.inj hf)) hP⟩, hS.F ht⟩) hS.2.2 d_M_next_203
                      · rw [if_neg (mt (lg_cmp_le _ _).mpr c56)] at hf
                        refine lv_aload_n hx hb d_M_next_175 rfl (lv_at hl 2 rfl) ?_
                        refine lv_aload_n hx hb d_M_next_176 rfl (lv_at hl 2 rfl) ?_
                        refine va_get (D := (dC, dI)) (ci := 5) (v := .ref (a 10)) (C := "GuideSearchModel") (T := F_M) (N := 25) hx hb hT i_M hown hK hP 0 rfl rfl 17 (by decide) (hT _ k_524) (fun _ h9 => h9) rfl d_M_next_177 ?_
                        refine lv_iload_n hx hb d_M_next_180 rfl (lv_at hl 1 rfl) ?_
                        obtain ⟨j62, ej64, hi63, hf⟩ := ix_some hf
                        refine xa_lald hx hb hK hP 10 0 rfl rfl ej64 hi63 d_M_next_181 ?_
                        refine lv_aload_n hx hb d_M_next_182 rfl (lv_at hl 2 rfl) ?_
                        obtain ⟨r66, hr65, hf⟩ := ob hf
                        refine ro_calll (va_runV (C := "GuideSearchModel") (As := []) (rest := [.long (m_value s53 j62), .ref (a 0)]) ⟨hx, hb, hml, hown, hT⟩ (c_M_sum l dC dI cs a s53 r66 hr65) (cwV 0 hT (gV k_684 k_686 ks_27 k_7 k_687) rfl rfl rfl (by decide +kernel) ⟨Nat.le_of_ble_eq_true rfl, Nat.le_of_ble_eq_true rfl⟩) (ro_preV hP hK hN (va_recv hK hP (ci := 5) (q0 := 0) rfl rfl)) rfl rfl hl.1 rfl (lv_room (Nat.le_of_ble_eq_true rfl)) d_M_next_183 ⟨Nat.le_of_ble_eq_true rfl, Nat.le_of_ble_eq_true rfl⟩) ?_
                        obtain ⟨r68, hr67, hf⟩ := ob hf
                        refine ro_calll (va_runS (As := [.long (m_value s53 j62), .long r66]) (rest := [.ref (a 0)]) ⟨hx, hb, hml, hown, hT⟩ (c_M_thousandth l (m_value s53 j62) r66 r68 hr67) (va_cwS 2 hT (gS k_689 k_690 k_7 k_691) rfl rfl rfl (by decide +kernel) ⟨Nat.le_of_ble_eq_true rfl, Nat.le_of_ble_eq_true rfl⟩) ⟨fun _ _ _ _ q => q, fun _ _ _ => ⟨rfl, trivial⟩⟩ rfl rfl hl.1 rfl (lv_room (Nat.le_of_ble_eq_true rfl)) d_M_next_186 ⟨Nat.le_of_ble_eq_true rfl, Nat.le_of_ble_eq_true rfl⟩) ?_
                        refine va_put (D := (dC, dI)) (ci := 5) (v := .long r68) (ty := .long) (C := "GuideSearchModel") (T := F_M) (N := 25) hx hb hT i_M ft_M ft_M_ok n_M hown hK hP (hD _) hS 0 rfl rfl 14 (by decide) (hT _ k_521) (fun _ h9 => h9) rfl (by decide +kernel) rfl rfl (Nat.le_of_ble_eq_true rfl) d_M_next_189 (fun H locs hP _ hS => ?_)
                        rw [m_cost_put cs a s53 r68] at hP
                        refine lv_aload_n hx hb d_M_next_192 rfl (lv_at hl 2 rfl) ?_
                        refine lv_iload_n hx hb d_M_next_193 rfl (lv_at hl 1 rfl) ?_
                        obtain ⟨s70, hr69, hf⟩ := ob hf
                        refine rw_callv (va_runV (C := "GuideSearchModel") (As := [.int r3]) (rest := []) ⟨hx, hb, hml, hown, hT⟩ (c_M_write l dC dI cs a hi (m_cost_s s53 r68) r3 s70 hr69) (cwV 1 hT (gV k_695 k_697 ks_28 k_7 k_698) rfl rfl rfl (by decide +kernel) ⟨Nat.le_of_ble_eq_true rfl, Nat.le_of_ble_eq_true rfl⟩) (ro_preV hP hK hN (va_recv hK hP (ci := 5) (q0 := 0) rfl rfl)) rfl rfl hl.1 rfl (lv_room (Nat.le_of_ble_eq_true rfl)) d_M_next_194 ⟨Nat.le_of_ble_eq_true rfl, Nat.le_of_ble_eq_true rfl⟩) hS (fun H locs hP hS => ?_)
                        refine lv_aload_n hx hb d_M_next_197 rfl (lv_at hl 2 rfl) ?_
                        refine va_get (D := (dC, dI)) (ci := 5) (v := .ref (a 11)) (C := "GuideSearchModel") (T := F_M) (N := 25) hx hb hT i_M hown hK hP 0 rfl rfl 18 (by decide) (hT _ k_525) (fun _ h9 => h9) rfl d_M_next_198 ?_
                        refine lv_iload_n hx hb d_M_next_201 rfl (lv_at hl 1 rfl) ?_
                        obtain ⟨j71, ej73, hi72, hf⟩ := ix_some hf
                        refine xa_iald hx hb hK hP 11 1 rfl rfl ej73 hi72 d_M_next_202 ?_
                        exact W.iret hx hb hr (fun t ht _ => ⟨⟨_, (), rfl, congrArg Prod.fst (Option.some.inj hf), m_fin ht (congrArg Prod.snd (Option.some.inj hf)) hP⟩, hS.F ht⟩) hS.2.2 d_M_next_203
                    · rw [if_neg c51] at hf
                      refine lv_iconst (v := (0 : Int32)) hx hb d_M_next_112 (by decide) ?_
                      refine lv_istore (lv' := [(7, .int (0 : Int32)), (6, .int v49), (3, .int r3), (0, .ref (a 0))]) hx hb d_M_next_113 hl (by decide) rfl (fun ls hl => ?_)
                      have loop5 : ∀ (n : Nat) (v74 : Int32) (s75 : MS), xl2 (m_M_next_B5 r3 v49 self4) n v74 s75 = some res → ∀ (H : Heap) (locs : List Loc), va_P (dC, dI) vwCl (m_W cs a s75) H → va_S (m_A a) s.heap H locs → ∀ (ls : Array Slot), lv_has ls 8 [(7, .int v74), (6, .int v49), (3, .int r3), (0, .ref (a 0))] → W p l e { frames := 4, cells := 0, slots := 0, locals := 97 } s m ([.ref (a 0), .long p1] : List Value).toArray below meth c H locs 0 0 (MQ below (va_Qi (fun r (_ : Unit) => r = res.1) (fun _ t => va_P (dC, dI) vwCl (m_W cs a res.2) t.heap) (m_A a)) ([.ref (a 0), .long p1] : List Value).toArray s 0 0 (m_A a)) (F0 m 115 ls []) := by
                        intro n
                        induction n with
                        | zero => intro v74 s75 hf; exact absurd hf (by simp [xl2])
                        | succ n ih5 =>
                          intro v74 s75 hf H locs hP hS ls hl
                          replace hf : (m_M_next_B5 r3 v49 self4) (xl2 (m_M_next_B5 r3 v49 self4) n) v74 s75 = some res := hf
                          generalize xl2 (m_M_next_B5 r3 v49 self4) n = self5 at hf ih5
                          unfold m_M_next_B5 at hf
                          refine lv_iload hx hb d_M_next_115 (lv_at hl 0 rfl) ?_
                          refine lv_sipush (v := (1024 : Int32)) hx hb d_M_next_117 (by decide) ?_
                          refine lv_icmp_ge (tgt := 155) hx hb d_M_next_120 (by decide) (fun c76 => ?_) (fun c76 => ?_)
                          · rw [if_pos c76] at hf
                            refine lv_iinc (v := (v49 + (-1))) (lv' := [(6, .int (v49 + (-1))), (7, .int v74), (3, .int r3), (0, .ref (a 0))]) hx hb d_M_next_155 hl (k := 1) rfl rfl (by decide) rfl (fun ls hl => ?_)
                            refine lv_goto (tgt := 107) hx hb d_M_next_158 (by decide) ?_
                            exact ih4 (v49 + (-1)) s75 hf _ _ hP hS ls (lv_sub hl [0, 2, 3] rfl)
                          · rw [if_neg c76] at hf
                            refine lv_iload hx hb d_M_next_123 (lv_at hl 0 rfl) ?_
                            obtain ⟨r78, hr77, hf⟩ := ob hf
                            refine ro_calli (va_runS (As := [.int v74]) (rest := []) ⟨hx, hb, hml, hown, hT⟩ (c_M_answers l v74 r78 hr77) (va_cwS 1 hT (gS k_673 k_674 k_7 k_675) rfl rfl rfl (by decide +kernel) ⟨Nat.le_of_ble_eq_true rfl, Nat.le_of_ble_eq_true rfl⟩) ⟨fun _ _ _ _ q => q, fun _ _ _ => ⟨rfl, trivial⟩⟩ rfl rfl hl.1 rfl (lv_room (Nat.le_of_ble_eq_true rfl)) d_M_next_125 ⟨Nat.le_of_ble_eq_true rfl, Nat.le_of_ble_eq_true rfl⟩) ?_
                            refine lv_iload hx hb d_M_next_128 (lv_at hl 1 rfl) ?_
                            refine lv_icmp_ne (tgt := 149) hx hb d_M_next_130 (by decide) (fun c79 => ?_) (fun c79 => ?_)
                            · rw [if_neg c79] at hf
                              refine lv_iinc (v := (v74 + 1)) (lv' := [(7, .int (v74 + 1)), (6, .int v49), (3, .int r3), (0, .ref (a 0))]) hx hb d_M_next_149 hl (k := 0) rfl rfl (by decide) rfl (fun ls hl => ?_)
                              refine lv_goto (tgt := 115) hx hb d_M_next_152 (by decide) ?_
                              exact ih5 (v74 + 1) s75 hf _ _ hP hS ls (lv_sub hl [0, 1, 2, 3] rfl)
                            · rw [if_pos c79] at hf
                              refine lv_aload_n hx hb d_M_next_133 rfl (lv_at hl 3 rfl) ?_
                              refine lv_iload hx hb d_M_next_134 (lv_at hl 0 rfl) ?_
                              refine lv_iload_n hx hb d_M_next_136 rfl (lv_at hl 2 rfl) ?_
                              obtain ⟨r81, hr80, hf⟩ := ob hf
                              refine ro_calli (va_runV (C := "GuideSearchModel") (As := [.int v74, .int r3]) (rest := []) ⟨hx, hb, hml, hown, hT⟩ (c_M_isBehind l dC dI cs a s75 v74 r3 r81 hr80) (cwV 2 hT (gV k_676 k_678 ks_25 k_7 k_679) rfl rfl rfl (by decide +kernel) ⟨Nat.le_of_ble_eq_true rfl, Nat.le_of_ble_eq_true rfl⟩) (ro_preV hP hK hN (va_recv hK hP (ci := 5) (q0 := 0) rfl rfl)) rfl rfl hl.1 rfl (lv_room (Nat.le_of_ble_eq_true rfl)) d_M_next_137 ⟨Nat.le_of_ble_eq_true rfl, Nat.le_of_ble_eq_true rfl⟩) ?_
                              refine lv_if_eq (tgt := 149) hx hb d_M_next_140 (by decide) (fun c82 => ?_) (fun c82 => ?_)
                              · rw [if_pos c82] at hf
                                refine lv_iinc (v := (v74 + 1)) (lv' := [(7, .int (v74 + 1)), (6, .int v49), (3, .int r3), (0, .ref (a 0))]) hx hb d_M_next_149 hl (k := 0) rfl rfl (by decide) rfl (fun ls hl => ?_)
                                refine lv_goto (tgt := 115) hx hb d_M_next_152 (by decide) ?_
                                exact ih5 (v74 + 1) s75 hf _ _ hP hS ls (lv_sub hl [0, 1, 2, 3] rfl)
                              · rw [if_neg c82] at hf
                                refine lv_aload_n hx hb d_M_next_143 rfl (lv_at hl 3 rfl) ?_
                                refine lv_iload hx hb d_M_next_144 (lv_at hl 0 rfl) ?_
                                obtain ⟨s84, hr83, hf⟩ := ob hf
                                refine rw_callv (va_runV (C := "GuideSearchModel") (As := [.int v74]) (rest := []) ⟨hx, hb, hml, hown, hT⟩ (c_M_find l dC dI cs a hi s75 v74 s84 hr83) (cwV 1 hT (gV k_680 k_682 ks_26 k_7 k_683) rfl rfl rfl (by decide +kernel) ⟨Nat.le_of_ble_eq_true rfl, Nat.le_of_ble_eq_true rfl⟩) (ro_preV hP hK hN (va_recv hK hP (ci := 5) (q0 := 0) rfl rfl)) rfl rfl hl.1 rfl (lv_room (Nat.le_of_ble_eq_true rfl)) d_M_next_146 ⟨Nat.le_of_ble_eq_true rfl, Nat.le_of_ble_eq_true rfl⟩) hS (fun H locs hP hS => ?_)
                                refine lv_iinc (v := (v74 + 1)) (lv' := [(7, .int (v74 + 1)), (6, .int v49), (3, .int r3), (0, .ref (a 0))]) hx hb d_M_next_149 hl (k := 0) rfl rfl (by decide) rfl (fun ls hl => ?_)
                                refine lv_goto (tgt := 115) hx hb d_M_next_152 (by decide) ?_
                                exact ih5 (v74 + 1) s84 hf _ _ hP hS ls (lv_sub hl [0, 1, 2, 3] rfl)
                      exact loop5 _ (0 : Int32) s50 hf _ _ hP hS ls (lv_sub hl [0, 1, 2, 3] rfl)
                exact loop4 _ (5 : Int32) (m_exact_s (m_cost_s (m_nodes_s (m_code_s st (0 : Int32)) (0 : Int32)) (-1 : Int64)) (1 : Int32)) hf _ _ hP hS ls (lv_sub hl [0, 2, 3] rfl)
              · rw [if_pos c48] at hf
                refine lv_aload_n hx hb d_M_next_98 rfl (lv_at hl 3 rfl) ?_
                refine lv_iload_n hx hb d_M_next_99 rfl (lv_at hl 2 rfl) ?_
                obtain ⟨r87, s86, hr85, hf⟩ := bd2_some hf
                refine rw_calli (va_runV (C := "GuideSearchModel") (As := [.int r3]) (rest := []) ⟨hx, hb, hml, hown, hT⟩ (c_M_oneStep l dC dI cs a hi (m_exact_s (m_cost_s (m_nodes_s (m_code_s st (0 : Int32)) (0 : Int32)) (-1 : Int64)) (1 : Int32)) r3 (r87, s86) hr85) (cwV 1 hT (gV k_638 k_640 ks_17 k_7 k_641) rfl rfl rfl (by decide +kernel) ⟨Nat.le_of_ble_eq_true rfl, Nat.le_of_ble_eq_true rfl⟩) (ro_preV hP hK hN (va_recv hK hP (ci := 5) (q0 := 0) rfl rfl)) rfl rfl hl.1 rfl (lv_room (Nat.le_of_ble_eq_true rfl)) d_M_next_100 ⟨Nat.le_of_ble_eq_true rfl, Nat.le_of_ble_eq_true rfl⟩) hS (fun H locs hP hS => ?_)
                exact W.iret hx hb hr (fun t ht _ => ⟨⟨_, (), rfl, congrArg Prod.fst (Option.some.inj hf), m_fin ht (congrArg Prod.snd (Option.some.inj hf)) hP⟩, hS.F ht⟩) hS.2.2 d_M_next_103
          · rw [if_neg c6] at hf
            refine lv_aload_n hx hb d_M_next_34 rfl (lv_at hl 3 rfl) ?_
            refine va_get (D := (dC, dI)) (ci := 5) (v := .ref (a 8)) (C := "GuideSearchModel") (T := F_M) (N := 25) hx hb hT i_M hown hK hP 0 rfl rfl 12 (by decide) (hT _ k_519) (fun _ h9 => h9) rfl d_M_next_35 ?_
            refine lv_iload hx hb d_M_next_38 (lv_at hl 0 rfl) ?_
            obtain ⟨j88, ej90, hi89, hf⟩ := ix_some hf
            refine xa_iald hx hb hK hP 8 1 rfl rfl ej90 hi89 d_M_next_40 ?_
            refine lv_if_ge (tgt := 53) hx hb d_M_next_41 (by decide) (fun c91 => ?_) (fun c91 => ?_)
            · rw [if_pos c91] at hf
              refine lv_lload hx hb d_M_next_53 (lv_at hl 1 rfl) ?_
              refine lv_lstore (lv' := [(4, .long v5), (6, .int v4), (3, .int r3), (0, .ref (a 0)), (1, .long p1)]) hx hb d_M_next_55 hl (by decide) rfl (fun ls hl => ?_)
              refine lv_iinc (v := (v4 + 1)) (lv' := [(6, .int (v4 + 1)), (4, .long v5), (3, .int r3), (0, .ref (a 0)), (1, .long p1)]) hx hb d_M_next_57 hl (k := 1) rfl rfl (by decide) rfl (fun ls hl => ?_)
              refine lv_goto (tgt := 25) hx hb d_M_next_60 (by decide) ?_
              exact ih1 (v4 + 1) v5 hf ls (lv_sub hl [0, 1, 2, 3, 4] rfl)
            · rw [if_neg c91] at hf
              refine lv_ldc2 (v := (4 : Int64)) hx hb hown (hT _ k_637) d_M_next_44 ?_
              refine lv_lload hx hb d_M_next_47 (lv_at hl 1 rfl) ?_
              refine lv_lmul hx hb d_M_next_49 ?_
              refine lv_goto (tgt := 55) hx hb d_M_next_50 (by decide) ?_
              refine lv_lstore (lv' := [(4, .long ((4 : Int64) * v5)), (6, .int v4), (3, .int r3), (0, .ref (a 0)), (1, .long p1)]) hx hb d_M_next_55 hl (by decide) rfl (fun ls hl => ?_)
              refine lv_iinc (v := (v4 + 1)) (lv' := [(6, .int (v4 + 1)), (4, .long ((4 : Int64) * v5)), (3, .int r3), (0, .ref (a 0)), (1, .long p1)]) hx hb d_M_next_57 hl (k := 1) rfl rfl (by decide) rfl (fun ls hl => ?_)
              refine lv_goto (tgt := 25) hx hb d_M_next_60 (by decide) ?_
              exact ih1 (v4 + 1) ((4 : Int64) * v5) hf ls (lv_sub hl [0, 1, 2, 3, 4] rfl)
      exact loop1 _ (1 : Int32) (1 : Int64) hf ls (lv_sub hl [0, 1, 2, 3, 4] rfl)
    · rw [if_neg (mt (lg_cmp_ge _ _).mpr c1)] at hf
      refine lv_bipush (v := (-2 : Int32)) hx hb d_M_next_11 (by decide) ?_
      exact W.iret hx hb hr (fun t ht _ => ⟨⟨_, (), rfl, congrArg Prod.fst (Option.some.inj hf), m_fin ht (congrArg Prod.snd (Option.some.inj hf)) hP⟩, hS.F ht⟩) hS.2.2 d_M_next_13
  exact main _ _ hP va_S.rf
set_option maxHeartbeats 4000000 in
set_option maxRecDepth 100000 in
theorem c_M_answer (l : Launch) (dC : Nat → ClassId) (dI : Nat → Nat → Nat) (cs : Nat → ClassId) (a : Nat → Nat) (hi : ∀ i j : Nat, i < 18 → j < 18 → a i = a j → i = j) (st : MS) (p1 : Int32) (p2 : Int32) (res : Int32 × MS) (hf : m_M_answer st p1 p2 = some res) : Met l (⟨"GuideSearchModel", "answer", "(II)I"⟩ : MethodName) (Cond.code (⟨"GuideSearchModel", "answer", "(II)I"⟩ : MethodName) prog_7_method_29_code 3 (some .int) :: wg) { frames := 2, cells := 0, slots := 0, locals := 48 } (va_Pc ([.ref (a 0), .int p1, .int p2] : List Value) (m_pre dC dI cs a st)) (va_Qi (fun r (_ : Unit) => r = res.1) (fun _ t => va_P (dC, dI) vwCl (m_W cs a res.2) t.heap) (m_A a)) 0 0 (m_A a) := by
  refine ro_start (cc := prog_7_method_29_code) (maxL := 3) (ret := (some .int)) (by decide) (Nat.le_of_ble_eq_true rfl) ?_
  intro p e s m below meth c hx hb hr hml hT hown hlocks hB ls hl
  replace hown : s.vm.findClass "GuideSearchModel" = some m.cls := hown
  obtain ⟨hP, hK, hN⟩ := hB
  replace hl : lv_has ls 3 [(0, .ref (a 0)), (1, .int p1), (2, .int p2)] := hl
  unfold m_M_answer at hf
  have hD : ∀ st : MS, va_D (m_A a) (m_W cs a st) := fun st => m_D hi cs st
  have main : ∀ (H : Heap) (locs : List Loc), va_P (dC, dI) vwCl (m_W cs a st) H → va_S (m_A a) s.heap H locs → W p l e { frames := 2, cells := 0, slots := 0, locals := 48 } s m ([.ref (a 0), .int p1, .int p2] : List Value).toArray below meth c H locs 0 0 (MQ below (va_Qi (fun r (_ : Unit) => r = res.1) (fun _ t => va_P (dC, dI) vwCl (m_W cs a res.2) t.heap) (m_A a)) ([.ref (a 0), .int p1, .int p2] : List Value).toArray s 0 0 (m_A a)) (F0 m 0 ls []) := by
    intro H locs hP hS
    refine lv_aload_n hx hb d_M_answer_0 rfl (lv_at hl 0 rfl) ?_
    refine lv_iconst (v := (0 : Int32)) hx hb d_M_answer_1 (by decide) ?_
    refine va_put (D := (dC, dI)) (ci := 5) (v := .int (0 : Int32)) (ty := .int) (C := "GuideSearchModel") (T := F_M) (N := 25) hx hb hT i_M ft_M ft_M_ok n_M hown hK hP (hD _) hS 0 rfl rfl 0 (by decide) (hT _ k_507) (fun _ h9 => h9) rfl (by decide +kernel) rfl rfl (Nat.le_of_ble_eq_true rfl) d_M_answer_2 (fun H locs hP _ hS => ?_)
    rw [m_code_put cs a st (0 : Int32)] at hP
    refine lv_aload_n hx hb d_M_answer_5 rfl (lv_at hl 0 rfl) ?_
    refine lv_iload_n hx hb d_M_answer_6 rfl (lv_at hl 1 rfl) ?_
    obtain ⟨r2, hr1, hf⟩ := ob hf
    refine ro_calli (va_runV (C := "GuideSearchModel") (As := [.int p1]) (rest := []) ⟨hx, hb, hml, hown, hT⟩ (c_M_noTest l dC dI cs a (m_code_s st (0 : Int32)) p1 r2 hr1) (cwV 1 hT (gV k_616 k_618 ks_14 k_7 k_619) rfl rfl rfl (by decide +kernel) ⟨Nat.le_of_ble_eq_true rfl, Nat.le_of_ble_eq_true rfl⟩) (ro_preV hP hK hN (va_recv hK hP (ci := 5) (q0 := 0) rfl rfl)) rfl rfl hl.1 rfl (lv_room (Nat.le_of_ble_eq_true rfl)) d_M_answer_7 ⟨Nat.le_of_ble_eq_true rfl, Nat.le_of_ble_eq_true rfl⟩) ?_
    refine lv_if_eq (tgt := 15) hx hb d_M_answer_10 (by decide) (fun c3 => ?_) (fun c3 => ?_)
    · rw [if_pos c3] at hf
      refine lv_iload_n hx hb d_M_answer_15 rfl (lv_at hl 2 rfl) ?_
      refine lv_if_lt (tgt := 24) hx hb d_M_answer_16 (by decide) (fun c4 => ?_) (fun c4 => ?_)
      · rw [if_pos c4] at hf
        refine lv_bipush (v := (-2 : Int32)) hx hb d_M_answer_24 (by decide) ?_
        exact W.iret hx hb hr (fun t ht _ => ⟨⟨_, (), rfl, congrArg Prod.fst (Option.some.inj hf), m_fin ht (congrArg Prod.snd (Option.some.inj hf)) hP⟩, hS.F ht⟩) hS.2.2 d_M_answer_26
      · rw [if_neg c4] at hf
        refine lv_iload_n hx hb d_M_answer_19 rfl (lv_at hl 2 rfl) ?_
        refine lv_iconst (v := (2 : Int32)) hx hb d_M_answer_20 (by decide) ?_
        refine lv_icmp_le (tgt := 27) hx hb d_M_answer_21 (by decide) (fun c5 => ?_) (fun c5 => ?_)
        · rw [if_pos c5] at hf
          refine lv_aload_n hx hb d_M_answer_27 rfl (lv_at hl 0 rfl) ?_
          refine lv_aload_n hx hb d_M_answer_28 rfl (lv_at hl 0 rfl) ?_
          obtain ⟨r7, hr6, hf⟩ := ob hf
          refine ro_calli (va_runV (C := "GuideSearchModel") (As := []) (rest := [.ref (a 0)]) ⟨hx, hb, hml, hown, hT⟩ (c_M_stateNow l dC dI cs a (m_code_s st (0 : Int32)) r7 hr6) (cwV 0 hT (gV k_633 k_635 ks_16 k_7 k_636) rfl rfl rfl (by decide +kernel) ⟨Nat.le_of_ble_eq_true rfl, Nat.le_of_ble_eq_true rfl⟩) (ro_preV hP hK hN (va_recv hK hP (ci := 5) (q0 := 0) rfl rfl)) rfl rfl hl.1 rfl (lv_room (Nat.le_of_ble_eq_true rfl)) d_M_answer_29 ⟨Nat.le_of_ble_eq_true rfl, Nat.le_of_ble_eq_true rfl⟩) ?_
          obtain ⟨s9, hr8, hf⟩ := ob hf
          refine rw_callv (va_runV (C := "GuideSearchModel") (As := [.int r7]) (rest := []) ⟨hx, hb, hml, hown, hT⟩ (c_M_look l dC dI cs a hi (m_code_s st (0 : Int32)) r7 s9 hr8) (cwV 1 hT (gV k_642 k_644 ks_18 k_7 k_645) rfl rfl rfl (by decide +kernel) ⟨Nat.le_of_ble_eq_true rfl, Nat.le_of_ble_eq_true rfl⟩) (ro_preV hP hK hN (va_recv hK hP (ci := 5) (q0 := 0) rfl rfl)) rfl rfl hl.1 rfl (lv_room (Nat.le_of_ble_eq_true rfl)) d_M_answer_32 ⟨Nat.le_of_ble_eq_true rfl, Nat.le_of_ble_eq_true rfl⟩) hS (fun H locs hP hS => ?_)
          refine lv_aload_n hx hb d_M_answer_35 rfl (lv_at hl 0 rfl) ?_
          refine lv_iload_n hx hb d_M_answer_36 rfl (lv_at hl 1 rfl) ?_
          obtain ⟨r11, hr10, hf⟩ := ob hf
          refine ro_calli (va_runV (C := "GuideSearchModel") (As := [.int p1]) (rest := []) ⟨hx, hb, hml, hown, hT⟩ (c_M_may l dC dI cs a s9 p1 r11 hr10) (cwV 1 hT (gV k_654 k_656 ks_21 k_7 k_657) rfl rfl rfl (by decide +kernel) ⟨Nat.le_of_ble_eq_true rfl, Nat.le_of_ble_eq_true rfl⟩) (ro_preV hP hK hN (va_recv hK hP (ci := 5) (q0 := 0) rfl rfl)) rfl rfl hl.1 rfl (lv_room (Nat.le_of_ble_eq_true rfl)) d_M_answer_37 ⟨Nat.le_of_ble_eq_true rfl, Nat.le_of_ble_eq_true rfl⟩) ?_
          refine lv_if_ne (tgt := 46) hx hb d_M_answer_40 (by decide) (fun c12 => ?_) (fun c12 => ?_)
          · rw [if_neg c12] at hf
            refine lv_aload_n hx hb d_M_answer_46 rfl (lv_at hl 0 rfl) ?_
            refine va_get (D := (dC, dI)) (ci := 5) (v := .ref (a 8)) (C := "GuideSearchModel") (T := F_M) (N := 25) hx hb hT i_M hown hK hP 0 rfl rfl 12 (by decide) (hT _ k_519) (fun _ h9 => h9) rfl d_M_answer_47 ?_
            refine lv_iload_n hx hb d_M_answer_50 rfl (lv_at hl 1 rfl) ?_
            refine lv_iload_n hx hb d_M_answer_51 rfl (lv_at hl 2 rfl) ?_
            obtain ⟨j13, ej15, hi14, hf⟩ := ix_some hf
            refine xa_iast hx hb hK hP (hD _) hS 8 1 rfl rfl ej15 hi14 d_M_answer_52 (fun H locs hP hS => ?_)
            rw [m_given_put cs a s9 j13 p2] at hP
            refine lv_aload_n hx hb d_M_answer_53 rfl (lv_at hl 0 rfl) ?_
            refine lv_aload_n hx hb d_M_answer_54 rfl (lv_at hl 0 rfl) ?_
            obtain ⟨r17, hr16, hf⟩ := ob hf
            refine ro_calli (va_runV (C := "GuideSearchModel") (As := []) (rest := [.ref (a 0)]) ⟨hx, hb, hml, hown, hT⟩ (c_M_stateNow l dC dI cs a (m_given_s s9 j13 p2) r17 hr16) (cwV 0 hT (gV k_633 k_635 ks_16 k_7 k_636) rfl rfl rfl (by decide +kernel) ⟨Nat.le_of_ble_eq_true rfl, Nat.le_of_ble_eq_true rfl⟩) (ro_preV hP hK hN (va_recv hK hP (ci := 5) (q0 := 0) rfl rfl)) rfl rfl hl.1 rfl (lv_room (Nat.le_of_ble_eq_true rfl)) d_M_answer_55 ⟨Nat.le_of_ble_eq_true rfl, Nat.le_of_ble_eq_true rfl⟩) ?_
            obtain ⟨s19, hr18, hf⟩ := ob hf
            refine rw_callv (va_runV (C := "GuideSearchModel") (As := [.int r17]) (rest := []) ⟨hx, hb, hml, hown, hT⟩ (c_M_look l dC dI cs a hi (m_given_s s9 j13 p2) r17 s19 hr18) (cwV 1 hT (gV k_642 k_644 ks_18 k_7 k_645) rfl rfl rfl (by decide +kernel) ⟨Nat.le_of_ble_eq_true rfl, Nat.le_of_ble_eq_true rfl⟩) (ro_preV hP hK hN (va_recv hK hP (ci := 5) (q0 := 0) rfl rfl)) rfl rfl hl.1 rfl (lv_room (Nat.le_of_ble_eq_true rfl)) d_M_answer_58 ⟨Nat.le_of_ble_eq_true rfl, Nat.le_of_ble_eq_true rfl⟩) hS (fun H locs hP hS => ?_)
            refine lv_aload_n hx hb d_M_answer_61 rfl (lv_at hl 0 rfl) ?_
            obtain ⟨r21, hr20, hf⟩ := ob hf
            refine ro_calli (va_runV (C := "GuideSearchModel") (As := []) (rest := []) ⟨hx, hb, hml, hown, hT⟩ (c_M_left l dC dI cs a s19 r21 hr20) (cwV 0 hT (gV k_646 k_648 ks_19 k_7 k_649) rfl rfl rfl (by decide +kernel) ⟨Nat.le_of_ble_eq_true rfl, Nat.le_of_ble_eq_true rfl⟩) (ro_preV hP hK hN (va_recv hK hP (ci := 5) (q0 := 0) rfl rfl)) rfl rfl hl.1 rfl (lv_room (Nat.le_of_ble_eq_true rfl)) d_M_answer_62 ⟨Nat.le_of_ble_eq_true rfl, Nat.le_of_ble_eq_true rfl⟩) ?_
            exact W.iret hx hb hr (fun t ht _ => ⟨⟨_, (), rfl, congrArg Prod.fst (Option.some.inj hf), m_fin ht (congrArg Prod.snd (Option.some.inj hf)) hP⟩, hS.F ht⟩) hS.2.2 d_M_answer_65
          · rw [if_pos c12] at hf
            refine lv_bipush (v := (-3 : Int32)) hx hb d_M_answer_43 (by decide) ?_
            exact W.iret hx hb hr (fun t ht _ => ⟨⟨_, (), rfl, congrArg Prod.fst (Option.some.inj hf), m_fin ht (congrArg Prod.snd (Option.some.inj hf)) hP⟩, hS.F ht⟩) hS.2.2 d_M_answer_45
        · rw [if_neg c5] at hf
          refine lv_bipush (v := (-2 : Int32)) hx hb d_M_answer_24 (by decide) ?_
          exact W.iret hx hb hr (fun t ht _ => ⟨⟨_, (), rfl, congrArg Prod.fst (Option.some.inj hf), m_fin ht (congrArg Prod.snd (Option.some.inj hf)) hP⟩, hS.F ht⟩) hS.2.2 d_M_answer_26
    · rw [if_neg c3] at hf
      refine lv_iconst (v := (-1 : Int32)) hx hb d_M_answer_13 (by decide) ?_
      exact W.iret hx hb hr (fun t ht _ => ⟨⟨_, (), rfl, congrArg Prod.fst (Option.some.inj hf), m_fin ht (congrArg Prod.snd (Option.some.inj hf)) hP⟩, hS.F ht⟩) hS.2.2 d_M_answer_14
  exact main _ _ hP va_S.rf
set_option maxHeartbeats 4000000 in
set_option maxRecDepth 100000 in
theorem c_M_common (l : Launch) (p0 : Int64) (p2 : Int64) (res : Int64) (hf : m_M_common p0 p2 = some res) : Met l (⟨"GuideSearchModel", "common", "(JJ)J"⟩ : MethodName) (Cond.code (⟨"GuideSearchModel", "common", "(JJ)J"⟩ : MethodName) prog_7_method_30_code 10 (some .long) :: wg) { frames := 0, cells := 0, slots := 0, locals := 0 } (va_Pc ([.long p0, .long p2] : List Value) (fun _ => True)) (vp_Sl (fun r => r = res)) 0 0 (fun _ => False) := by
  refine ro_start (cc := prog_7_method_30_code) (maxL := 10) (ret := (some .long)) (by decide) (Nat.le_of_ble_eq_true rfl) ?_
  intro p e s m below meth c hx hb hr hml hT hown hlocks hB ls hl
  replace hown : s.vm.findClass "GuideSearchModel" = some m.cls := hown
  replace hl : lv_has ls 10 [(0, .long p0), (2, .long p2)] := hl
  unfold m_M_common at hf
  refine lv_lload_n hx hb d_M_common_0 rfl (lv_at hl 0 rfl) ?_
  refine lv_lstore (lv' := [(4, .long p0), (0, .long p0), (2, .long p2)]) hx hb d_M_common_1 hl (by decide) rfl (fun ls hl => ?_)
  refine lv_lload_n hx hb d_M_common_3 rfl (lv_at hl 2 rfl) ?_
  refine lv_lstore (lv' := [(6, .long p2), (4, .long p0), (0, .long p0), (2, .long p2)]) hx hb d_M_common_4 hl (by decide) rfl (fun ls hl => ?_)
  have loop1 : ∀ (n : Nat) (v1 : Int64) (v2 : Int64), xl2 m_M_common_B1 n v1 v2 = some res → ∀ (ls : Array Slot), lv_has ls 10 [(6, .long v1), (4, .long v2)] → W p l e { frames := 0, cells := 0, slots := 0, locals := 0 } s m ([.long p0, .long p2] : List Value).toArray below meth c s.heap [] 0 0 (MQ below (vp_Sl (fun r => r = res)) ([.long p0, .long p2] : List Value).toArray s 0 0 (fun _ => False)) (F0 m 6 ls []) := by
    intro n
    induction n with
    | zero => intro v1 v2 hf; exact absurd hf (by simp [xl2])
    | succ n ih1 =>
      intro v1 v2 hf ls hl
      replace hf : m_M_common_B1 (xl2 m_M_common_B1 n) v1 v2 = some res := hf
      generalize xl2 m_M_common_B1 n = self1 at hf ih1
      unfold m_M_common_B1 at hf
      refine lv_lload hx hb d_M_common_6 (lv_at hl 0 rfl) ?_
      refine lv_lconst (v := (0 : Int64)) hx hb d_M_common_8 (by decide) ?_
      refine W.lcmp hx hb d_M_common_9 ?_
      refine lv_if_le (tgt := 31) hx hb d_M_common_10 (by decide) (fun c3 => ?_) (fun c3 => ?_)
      · rw [if_pos ((lg_cmp_le _ _).mp c3)] at hf
        refine lv_lload hx hb d_M_common_31 (lv_at hl 1 rfl) ?_
        exact W.lret hx hb hr (fun t ht _ => ⟨_, rfl, Option.some.inj hf, ht⟩) (fun _ h => absurd h List.not_mem_nil) d_M_common_33
      · rw [if_neg (mt (lg_cmp_le _ _).mpr c3)] at hf
        refine lv_lload hx hb d_M_common_13 (lv_at hl 1 rfl) ?_
        refine lv_lload hx hb d_M_common_15 (lv_at hl 0 rfl) ?_
        obtain ⟨hz4, hf⟩ := dzl_some hf
        refine lv_lrem hx hb d_M_common_17 hz4 ?_
        refine lv_lstore (lv' := [(8, .long (v2 - v2 / v1 * v1)), (6, .long v1), (4, .long v2)]) hx hb d_M_common_18 hl (by decide) rfl (fun ls hl => ?_)
        refine lv_lload hx hb d_M_common_20 (lv_at hl 1 rfl) ?_
        refine lv_lstore (lv' := [(4, .long v1), (8, .long (v2 - v2 / v1 * v1)), (6, .long v1)]) hx hb d_M_common_22 hl (by decide) rfl (fun ls hl => ?_)
        refine lv_lload hx hb d_M_common_24 (lv_at hl 1 rfl) ?_
        refine lv_lstore (lv' := [(6, .long (v2 - v2 / v1 * v1)), (4, .long v1), (8, .long (v2 - v2 / v1 * v1))]) hx hb d_M_common_26 hl (by decide) rfl (fun ls hl => ?_)
        refine lv_goto (tgt := 6) hx hb d_M_common_28 (by decide) ?_
        exact ih1 (v2 - v2 / v1 * v1) v1 hf ls (lv_sub hl [0, 1] rfl)
  exact loop1 _ p2 p0 hf ls (lv_sub hl [0, 1] rfl)
set_option maxHeartbeats 4000000 in
set_option maxRecDepth 100000 in
theorem c_M_odd (l : Launch) (dC : Nat → ClassId) (dI : Nat → Nat → Nat) (cs : Nat → ClassId) (a : Nat → Nat) (hi : ∀ i j : Nat, i < 18 → j < 18 → a i = a j → i = j) (st : MS) (p1 : Int32) (p2 : Int32) (res : Int64 × MS) (hf : m_M_odd st p1 p2 = some res) : Met l (⟨"GuideSearchModel", "odd", "(II)J"⟩ : MethodName) (Cond.code (⟨"GuideSearchModel", "odd", "(II)J"⟩ : MethodName) prog_7_method_31_code 7 (some .long) :: wg) { frames := 2, cells := 0, slots := 0, locals := 48 } (va_Pc ([.ref (a 0), .int p1, .int p2] : List Value) (m_pre dC dI cs a st)) (va_Ql (fun r (_ : Unit) => r = res.1) (fun _ t => va_P (dC, dI) vwCl (m_W cs a res.2) t.heap) (m_A a)) 0 0 (m_A a) := by
  refine ro_start (cc := prog_7_method_31_code) (maxL := 7) (ret := (some .long)) (by decide) (Nat.le_of_ble_eq_true rfl) ?_
  intro p e s m below meth c hx hb hr hml hT hown hlocks hB ls hl
  replace hown : s.vm.findClass "GuideSearchModel" = some m.cls := hown
  obtain ⟨hP, hK, hN⟩ := hB
  replace hl : lv_has ls 7 [(0, .ref (a 0)), (1, .int p1), (2, .int p2)] := hl
  unfold m_M_odd at hf
  have hD : ∀ st : MS, va_D (m_A a) (m_W cs a st) := fun st => m_D hi cs st
  have main : ∀ (H : Heap) (locs : List Loc), va_P (dC, dI) vwCl (m_W cs a st) H → va_S (m_A a) s.heap H locs → W p l e { frames := 2, cells := 0, slots := 0, locals := 48 } s m ([.ref (a 0), .int p1, .int p2] : List Value).toArray below meth c H locs 0 0 (MQ below (va_Ql (fun r (_ : Unit) => r = res.1) (fun _ t => va_P (dC, dI) vwCl (m_W cs a res.2) t.heap) (m_A a)) ([.ref (a 0), .int p1, .int p2] : List Value).toArray s 0 0 (m_A a)) (F0 m 0 ls []) := by
    intro H locs hP hS
    refine lv_aload_n hx hb d_M_odd_0 rfl (lv_at hl 0 rfl) ?_
    refine lv_iconst (v := (0 : Int32)) hx hb d_M_odd_1 (by decide) ?_
    refine va_put (D := (dC, dI)) (ci := 5) (v := .int (0 : Int32)) (ty := .int) (C := "GuideSearchModel") (T := F_M) (N := 25) hx hb hT i_M ft_M ft_M_ok n_M hown hK hP (hD _) hS 0 rfl rfl 0 (by decide) (hT _ k_507) (fun _ h9 => h9) rfl (by decide +kernel) rfl rfl (Nat.le_of_ble_eq_true rfl) d_M_odd_2 (fun H locs hP _ hS => ?_)
    rw [m_code_put cs a st (0 : Int32)] at hP
    refine lv_aload_n hx hb d_M_odd_5 rfl (lv_at hl 0 rfl) ?_
    refine lv_iload_n hx hb d_M_odd_6 rfl (lv_at hl 1 rfl) ?_
    obtain ⟨r2, hr1, hf⟩ := ob hf
    refine ro_calli (va_runV (C := "GuideSearchModel") (As := [.int p1]) (rest := []) ⟨hx, hb, hml, hown, hT⟩ (c_M_noCause l dC dI cs a (m_code_s st (0 : Int32)) p1 r2 hr1) (cwV 1 hT (gV k_602 k_604 ks_13 k_7 k_605) rfl rfl rfl (by decide +kernel) ⟨Nat.le_of_ble_eq_true rfl, Nat.le_of_ble_eq_true rfl⟩) (ro_preV hP hK hN (va_recv hK hP (ci := 5) (q0 := 0) rfl rfl)) rfl rfl hl.1 rfl (lv_room (Nat.le_of_ble_eq_true rfl)) d_M_odd_7 ⟨Nat.le_of_ble_eq_true rfl, Nat.le_of_ble_eq_true rfl⟩) ?_
    refine lv_if_eq (tgt := 17) hx hb d_M_odd_10 (by decide) (fun c3 => ?_) (fun c3 => ?_)
    · rw [if_pos c3] at hf
      refine lv_aload_n hx hb d_M_odd_17 rfl (lv_at hl 0 rfl) ?_
      refine lv_aload_n hx hb d_M_odd_18 rfl (lv_at hl 0 rfl) ?_
      obtain ⟨r5, hr4, hf⟩ := ob hf
      refine ro_calli (va_runV (C := "GuideSearchModel") (As := []) (rest := [.ref (a 0)]) ⟨hx, hb, hml, hown, hT⟩ (c_M_stateNow l dC dI cs a (m_code_s st (0 : Int32)) r5 hr4) (cwV 0 hT (gV k_633 k_635 ks_16 k_7 k_636) rfl rfl rfl (by decide +kernel) ⟨Nat.le_of_ble_eq_true rfl, Nat.le_of_ble_eq_true rfl⟩) (ro_preV hP hK hN (va_recv hK hP (ci := 5) (q0 := 0) rfl rfl)) rfl rfl hl.1 rfl (lv_room (Nat.le_of_ble_eq_true rfl)) d_M_odd_19 ⟨Nat.le_of_ble_eq_true rfl, Nat.le_of_ble_eq_true rfl⟩) ?_
      obtain ⟨s7, hr6, hf⟩ := ob hf
      refine rw_callv (va_runV (C := "GuideSearchModel") (As := [.int r5]) (rest := []) ⟨hx, hb, hml, hown, hT⟩ (c_M_look l dC dI cs a hi (m_code_s st (0 : Int32)) r5 s7 hr6) (cwV 1 hT (gV k_642 k_644 ks_18 k_7 k_645) rfl rfl rfl (by decide +kernel) ⟨Nat.le_of_ble_eq_true rfl, Nat.le_of_ble_eq_true rfl⟩) (ro_preV hP hK hN (va_recv hK hP (ci := 5) (q0 := 0) rfl rfl)) rfl rfl hl.1 rfl (lv_room (Nat.le_of_ble_eq_true rfl)) d_M_odd_22 ⟨Nat.le_of_ble_eq_true rfl, Nat.le_of_ble_eq_true rfl⟩) hS (fun H locs hP hS => ?_)
      refine lv_aload_n hx hb d_M_odd_25 rfl (lv_at hl 0 rfl) ?_
      obtain ⟨r9, hr8, hf⟩ := ob hf
      refine ro_calll (va_runV (C := "GuideSearchModel") (As := []) (rest := []) ⟨hx, hb, hml, hown, hT⟩ (c_M_sum l dC dI cs a s7 r9 hr8) (cwV 0 hT (gV k_684 k_686 ks_27 k_7 k_687) rfl rfl rfl (by decide +kernel) ⟨Nat.le_of_ble_eq_true rfl, Nat.le_of_ble_eq_true rfl⟩) (ro_preV hP hK hN (va_recv hK hP (ci := 5) (q0 := 0) rfl rfl)) rfl rfl hl.1 rfl (lv_room (Nat.le_of_ble_eq_true rfl)) d_M_odd_26 ⟨Nat.le_of_ble_eq_true rfl, Nat.le_of_ble_eq_true rfl⟩) ?_
      refine lv_lstore_n (lv' := [(3, .long r9), (0, .ref (a 0)), (1, .int p1), (2, .int p2)]) hx hb d_M_odd_29 rfl hl (by decide) rfl (fun ls hl => ?_)
      refine lv_aload_n hx hb d_M_odd_30 rfl (lv_at hl 1 rfl) ?_
      refine lv_lload_n hx hb d_M_odd_31 rfl (lv_at hl 0 rfl) ?_
      refine lv_lconst (v := (0 : Int64)) hx hb d_M_odd_32 (by decide) ?_
      refine W.lcmp hx hb d_M_odd_33 ?_
      refine lv_if_ne (tgt := 41) hx hb d_M_odd_34 (by decide) (fun c10 => ?_) (fun c10 => ?_)
      · rw [if_neg (mt (lg_cmp_eq _ _).mpr c10)] at hf
        refine lv_iconst (v := (0 : Int32)) hx hb d_M_odd_41 (by decide) ?_
        refine va_put (D := (dC, dI)) (ci := 5) (v := .int (0 : Int32)) (ty := .int) (C := "GuideSearchModel") (T := F_M) (N := 25) hx hb hT i_M ft_M ft_M_ok n_M hown hK hP (hD _) hS 0 rfl rfl 0 (by decide) (hT _ k_507) (fun _ h9 => h9) rfl (by decide +kernel) rfl rfl (Nat.le_of_ble_eq_true rfl) d_M_odd_42 (fun H locs hP _ hS => ?_)
        rw [m_code_put cs a s7 (0 : Int32)] at hP
        refine lv_aload_n hx hb d_M_odd_45 rfl (lv_at hl 1 rfl) ?_
        refine va_get (D := (dC, dI)) (ci := 5) (v := .int (m_code (m_code_s s7 (0 : Int32)))) (C := "GuideSearchModel") (T := F_M) (N := 25) hx hb hT i_M hown hK hP 0 rfl rfl 0 (by decide) (hT _ k_507) (fun _ h9 => h9) rfl d_M_odd_46 ?_
        refine lv_if_le (tgt := 54) hx hb d_M_odd_49 (by decide) (fun c11 => ?_) (fun c11 => ?_)
        · rw [if_pos c11] at hf
          refine lv_lload_n hx hb d_M_odd_54 rfl (lv_at hl 0 rfl) ?_
          refine lv_aload_n hx hb d_M_odd_55 rfl (lv_at hl 1 rfl) ?_
          refine va_get (D := (dC, dI)) (ci := 5) (v := .ref (a 13)) (C := "GuideSearchModel") (T := F_M) (N := 25) hx hb hT i_M hown hK hP 0 rfl rfl 20 (by decide) (hT _ k_527) (fun _ h9 => h9) rfl d_M_odd_56 ?_
          refine lv_iload_n hx hb d_M_odd_59 rfl (lv_at hl 2 rfl) ?_
          obtain ⟨j12, ej14, hi13, hf⟩ := ix_some hf
          refine xa_lald hx hb hK hP 13 0 rfl rfl ej14 hi13 d_M_odd_60 ?_
          obtain ⟨r16, hr15, hf⟩ := ob hf
          refine ro_calll (va_runS (As := [.long r9, .long (m_weight (m_code_s s7 (0 : Int32)) j12)]) (rest := []) ⟨hx, hb, hml, hown, hT⟩ (c_M_common l r9 (m_weight (m_code_s s7 (0 : Int32)) j12) r16 hr15) (va_cwS 2 hT (gS k_707 k_708 k_7 k_709) rfl rfl rfl (by decide +kernel) ⟨Nat.le_of_ble_eq_true rfl, Nat.le_of_ble_eq_true rfl⟩) ⟨fun _ _ _ _ q => q, fun _ _ _ => ⟨rfl, trivial⟩⟩ rfl rfl hl.1 rfl (lv_room (Nat.le_of_ble_eq_true rfl)) d_M_odd_61 ⟨Nat.le_of_ble_eq_true rfl, Nat.le_of_ble_eq_true rfl⟩) ?_
          refine lv_lstore (lv' := [(5, .long r16), (3, .long r9), (0, .ref (a 0)), (1, .int p1), (2, .int p2)]) hx hb d_M_odd_64 hl (by decide) rfl (fun ls hl => ?_)
          refine lv_iload_n hx hb d_M_odd_66 rfl (lv_at hl 4 rfl) ?_
          refine lv_if_ne (tgt := 82) hx hb d_M_odd_67 (by decide) (fun c17 => ?_) (fun c17 => ?_)
          · rw [if_neg c17] at hf
            refine lv_lload_n hx hb d_M_odd_82 rfl (lv_at hl 1 rfl) ?_
            refine lv_lload hx hb d_M_odd_83 (lv_at hl 0 rfl) ?_
            obtain ⟨hz18, hf⟩ := dzl_some hf
            refine lv_ldiv hx hb d_M_odd_85 hz18 ?_
            exact W.lret hx hb hr (fun t ht _ => ⟨⟨_, (), rfl, congrArg Prod.fst (Option.some.inj hf), m_fin ht (congrArg Prod.snd (Option.some.inj hf)) hP⟩, hS.F ht⟩) hS.2.2 d_M_odd_86
          · rw [if_pos c17] at hf
            refine lv_aload_n hx hb d_M_odd_70 rfl (lv_at hl 2 rfl) ?_
            refine va_get (D := (dC, dI)) (ci := 5) (v := .ref (a 13)) (C := "GuideSearchModel") (T := F_M) (N := 25) hx hb hT i_M hown hK hP 0 rfl rfl 20 (by decide) (hT _ k_527) (fun _ h9 => h9) rfl d_M_odd_71 ?_
            refine lv_iload_n hx hb d_M_odd_74 rfl (lv_at hl 3 rfl) ?_
            obtain ⟨j19, ej21, hi20, hf⟩ := ix_some hf
            refine xa_lald hx hb hK hP 13 0 rfl rfl ej21 hi20 d_M_odd_75 ?_
            refine lv_lload hx hb d_M_odd_76 (lv_at hl 0 rfl) ?_
            obtain ⟨hz22, hf⟩ := dzl_some hf
            refine lv_ldiv hx hb d_M_odd_78 hz22 ?_
            refine lv_goto (tgt := 86) hx hb d_M_odd_79 (by decide) ?_
            exact W.lret hx hb hr (fun t ht _ => ⟨⟨_, (), rfl, congrArg Prod.fst (Option.some.inj hf), m_fin ht (congrArg Prod.snd (Option.some.inj hf)) hP⟩, hS.F ht⟩) hS.2.2 d_M_odd_86
        · rw [if_neg c11] at hf
          refine lv_lconst (v := (0 : Int64)) hx hb d_M_odd_52 (by decide) ?_
          exact W.lret hx hb hr (fun t ht _ => ⟨⟨_, (), rfl, congrArg Prod.fst (Option.some.inj hf), m_fin ht (congrArg Prod.snd (Option.some.inj hf)) hP⟩, hS.F ht⟩) hS.2.2 d_M_odd_53
      · rw [if_pos ((lg_cmp_eq _ _).mp c10)] at hf
        refine lv_iconst (v := (1 : Int32)) hx hb d_M_odd_37 (by decide) ?_
        refine lv_goto (tgt := 42) hx hb d_M_odd_38 (by decide) ?_
        refine va_put (D := (dC, dI)) (ci := 5) (v := .int (1 : Int32)) (ty := .int) (C := "GuideSearchModel") (T := F_M) (N := 25) hx hb hT i_M ft_M ft_M_ok n_M hown hK hP (hD _) hS 0 rfl rfl 0 (by decide) (hT _ k_507) (fun _ h9 => h9) rfl (by decide +kernel) rfl rfl (Nat.le_of_ble_eq_true rfl) d_M_odd_42 (fun H locs hP _ hS => ?_)
        rw [m_code_put cs a s7 (1 : Int32)] at hP
        refine lv_aload_n hx hb d_M_odd_45 rfl (lv_at hl 1 rfl) ?_
        refine va_get (D := (dC, dI)) (ci := 5) (v := .int (m_code (m_code_s s7 (1 : Int32)))) (C := "GuideSearchModel") (T := F_M) (N := 25) hx hb hT i_M hown hK hP 0 rfl rfl 0 (by decide) (hT _ k_507) (fun _ h9 => h9) rfl d_M_odd_46 ?_
        refine lv_if_le (tgt := 54) hx hb d_M_odd_49 (by decide) (fun c23 => ?_) (fun c23 => ?_)
        · rw [if_pos c23] at hf
          refine lv_lload_n hx hb d_M_odd_54 rfl (lv_at hl 0 rfl) ?_
          refine lv_aload_n hx hb d_M_odd_55 rfl (lv_at hl 1 rfl) ?_
          refine va_get (D := (dC, dI)) (ci := 5) (v := .ref (a 13)) (C := "GuideSearchModel") (T := F_M) (N := 25) hx hb hT i_M hown hK hP 0 rfl rfl 20 (by decide) (hT _ k_527) (fun _ h9 => h9) rfl d_M_odd_56 ?_
          refine lv_iload_n hx hb d_M_odd_59 rfl (lv_at hl 2 rfl) ?_
          obtain ⟨j24, ej26, hi25, hf⟩ := ix_some hf
          refine xa_lald hx hb hK hP 13 0 rfl rfl ej26 hi25 d_M_odd_60 ?_
          obtain ⟨r28, hr27, hf⟩ := ob hf
          refine ro_calll (va_runS (As := [.long r9, .long (m_weight (m_code_s s7 (1 : Int32)) j24)]) (rest := []) ⟨hx, hb, hml, hown, hT⟩ (c_M_common l r9 (m_weight (m_code_s s7 (1 : Int32)) j24) r28 hr27) (va_cwS 2 hT (gS k_707 k_708 k_7 k_709) rfl rfl rfl (by decide +kernel) ⟨Nat.le_of_ble_eq_true rfl, Nat.le_of_ble_eq_true rfl⟩) ⟨fun _ _ _ _ q => q, fun _ _ _ => ⟨rfl, trivial⟩⟩ rfl rfl hl.1 rfl (lv_room (Nat.le_of_ble_eq_true rfl)) d_M_odd_61 ⟨Nat.le_of_ble_eq_true rfl, Nat.le_of_ble_eq_true rfl⟩) ?_
          refine lv_lstore (lv' := [(5, .long r28), (3, .long r9), (0, .ref (a 0)), (1, .int p1), (2, .int p2)]) hx hb d_M_odd_64 hl (by decide) rfl (fun ls hl => ?_)
          refine lv_iload_n hx hb d_M_odd_66 rfl (lv_at hl 4 rfl) ?_
          refine lv_if_ne (tgt := 82) hx hb d_M_odd_67 (by decide) (fun c29 => ?_) (fun c29 => ?_)
          · rw [if_neg c29] at hf
            refine lv_lload_n hx hb d_M_odd_82 rfl (lv_at hl 1 rfl) ?_
            refine lv_lload hx hb d_M_odd_83 (lv_at hl 0 rfl) ?_
            obtain ⟨hz30, hf⟩ := dzl_some hf
            refine lv_ldiv hx hb d_M_odd_85 hz30 ?_
            exact W.lret hx hb hr (fun t ht _ => ⟨⟨_, (), rfl, congrArg Prod.fst (Option.some.inj hf), m_fin ht (congrArg Prod.snd (Option.some.inj hf)) hP⟩, hS.F ht⟩) hS.2.2 d_M_odd_86
          · rw [if_pos c29] at hf
            refine lv_aload_n hx hb d_M_odd_70 rfl (lv_at hl 2 rfl) ?_
            refine va_get (D := (dC, dI)) (ci := 5) (v := .ref (a 13)) (C := "GuideSearchModel") (T := F_M) (N := 25) hx hb hT i_M hown hK hP 0 rfl rfl 20 (by decide) (hT _ k_527) (fun _ h9 => h9) rfl d_M_odd_71 ?_
            refine lv_iload_n hx hb d_M_odd_74 rfl (lv_at hl 3 rfl) ?_
            obtain ⟨j31, ej33, hi32, hf⟩ := ix_some hf
            refine xa_lald hx hb hK hP 13 0 rfl rfl ej33 hi32 d_M_odd_75 ?_
            refine lv_lload hx hb d_M_odd_76 (lv_at hl 0 rfl) ?_
            obtain ⟨hz34, hf⟩ := dzl_some hf
            refine lv_ldiv hx hb d_M_odd_78 hz34 ?_
            refine lv_goto (tgt := 86) hx hb d_M_odd_79 (by decide) ?_
            exact W.lret hx hb hr (fun t ht _ => ⟨⟨_, (), rfl, congrArg Prod.fst (Option.some.inj hf), m_fin ht (congrArg Prod.snd (Option.some.inj hf)) hP⟩, hS.F ht⟩) hS.2.2 d_M_odd_86
        · rw [if_neg c23] at hf
          refine lv_lconst (v := (0 : Int64)) hx hb d_M_odd_52 (by decide) ?_
          exact W.lret hx hb hr (fun t ht _ => ⟨⟨_, (), rfl, congrArg Prod.fst (Option.some.inj hf), m_fin ht (congrArg Prod.snd (Option.some.inj hf)) hP⟩, hS.F ht⟩) hS.2.2 d_M_odd_53
    · rw [if_neg c3] at hf
      refine lv_ldc2 (v := (-1 : Int64)) hx hb hown (hT _ k_506) d_M_odd_13 ?_
      exact W.lret hx hb hr (fun t ht _ => ⟨⟨_, (), rfl, congrArg Prod.fst (Option.some.inj hf), m_fin ht (congrArg Prod.snd (Option.some.inj hf)) hP⟩, hS.F ht⟩) hS.2.2 d_M_odd_16
  exact main _ _ hP va_S.rf
set_option maxHeartbeats 4000000 in
set_option maxRecDepth 100000 in
theorem c_M_exact (l : Launch) (dC : Nat → ClassId) (dI : Nat → Nat → Nat) (cs : Nat → ClassId) (a : Nat → Nat) (hi : ∀ i j : Nat, i < 18 → j < 18 → a i = a j → i = j) (st : MS) (res : Int32 × MS) (hf : m_M_exact st = some res) : Met l (⟨"GuideSearchModel", "exact", "()Z"⟩ : MethodName) (Cond.code (⟨"GuideSearchModel", "exact", "()Z"⟩ : MethodName) prog_7_method_32_code 1 (some .boolean) :: wg) { frames := 0, cells := 0, slots := 0, locals := 0 } (va_Pc ([.ref (a 0)] : List Value) (m_pre dC dI cs a st)) (va_Qi (fun r (_ : Unit) => r = res.1) (fun _ t => va_P (dC, dI) vwCl (m_W cs a res.2) t.heap) (m_A a)) 0 0 (m_A a) := by
  refine ro_start (cc := prog_7_method_32_code) (maxL := 1) (ret := (some .boolean)) (by decide) (Nat.le_of_ble_eq_true rfl) ?_
  intro p e s m below meth c hx hb hr hml hT hown hlocks hB ls hl
  replace hown : s.vm.findClass "GuideSearchModel" = some m.cls := hown
  obtain ⟨hP, hK, hN⟩ := hB
  replace hl : lv_has ls 1 [(0, .ref (a 0))] := hl
  unfold m_M_exact at hf
  have hD : ∀ st : MS, va_D (m_A a) (m_W cs a st) := fun st => m_D hi cs st
  have main : ∀ (H : Heap) (locs : List Loc), va_P (dC, dI) vwCl (m_W cs a st) H → va_S (m_A a) s.heap H locs → W p l e { frames := 0, cells := 0, slots := 0, locals := 0 } s m ([.ref (a 0)] : List Value).toArray below meth c H locs 0 0 (MQ below (va_Qi (fun r (_ : Unit) => r = res.1) (fun _ t => va_P (dC, dI) vwCl (m_W cs a res.2) t.heap) (m_A a)) ([.ref (a 0)] : List Value).toArray s 0 0 (m_A a)) (F0 m 0 ls []) := by
    intro H locs hP hS
    refine lv_aload_n hx hb d_M_exact_0 rfl (lv_at hl 0 rfl) ?_
    refine lv_iconst (v := (0 : Int32)) hx hb d_M_exact_1 (by decide) ?_
    refine va_put (D := (dC, dI)) (ci := 5) (v := .int (0 : Int32)) (ty := .int) (C := "GuideSearchModel") (T := F_M) (N := 25) hx hb hT i_M ft_M ft_M_ok n_M hown hK hP (hD _) hS 0 rfl rfl 0 (by decide) (hT _ k_507) (fun _ h9 => h9) rfl (by decide +kernel) rfl rfl (Nat.le_of_ble_eq_true rfl) d_M_exact_2 (fun H locs hP _ hS => ?_)
    rw [m_code_put cs a st (0 : Int32)] at hP
    refine lv_aload_n hx hb d_M_exact_5 rfl (lv_at hl 0 rfl) ?_
    refine va_get (D := (dC, dI)) (ci := 5) (v := .int (m_exact (m_code_s st (0 : Int32)))) (C := "GuideSearchModel") (T := F_M) (N := 25) hx hb hT i_M hown hK hP 0 rfl rfl 13 (by decide) (hT _ k_520) (fun _ h9 => h9) rfl d_M_exact_6 ?_
    obtain ⟨hz1, hf⟩ := zb_some hf
    exact W.zret (ty := .boolean) hx hb hr (zb_nar hz1) (fun t ht _ => ⟨⟨_, (), rfl, congrArg Prod.fst (Option.some.inj hf), m_fin ht (congrArg Prod.snd (Option.some.inj hf)) hP⟩, hS.F ht⟩) hS.2.2 d_M_exact_9
  exact main _ _ hP va_S.rf
set_option maxHeartbeats 4000000 in
set_option maxRecDepth 100000 in
theorem c_M_cost (l : Launch) (dC : Nat → ClassId) (dI : Nat → Nat → Nat) (cs : Nat → ClassId) (a : Nat → Nat) (hi : ∀ i j : Nat, i < 18 → j < 18 → a i = a j → i = j) (st : MS) (res : Int64 × MS) (hf : m_M_cost st = some res) : Met l (⟨"GuideSearchModel", "cost", "()J"⟩ : MethodName) (Cond.code (⟨"GuideSearchModel", "cost", "()J"⟩ : MethodName) prog_7_method_33_code 1 (some .long) :: wg) { frames := 0, cells := 0, slots := 0, locals := 0 } (va_Pc ([.ref (a 0)] : List Value) (m_pre dC dI cs a st)) (va_Ql (fun r (_ : Unit) => r = res.1) (fun _ t => va_P (dC, dI) vwCl (m_W cs a res.2) t.heap) (m_A a)) 0 0 (m_A a) := by
  refine ro_start (cc := prog_7_method_33_code) (maxL := 1) (ret := (some .long)) (by decide) (Nat.le_of_ble_eq_true rfl) ?_
  intro p e s m below meth c hx hb hr hml hT hown hlocks hB ls hl
  replace hown : s.vm.findClass "GuideSearchModel" = some m.cls := hown
  obtain ⟨hP, hK, hN⟩ := hB
  replace hl : lv_has ls 1 [(0, .ref (a 0))] := hl
  unfold m_M_cost at hf
  have hD : ∀ st : MS, va_D (m_A a) (m_W cs a st) := fun st => m_D hi cs st
  have main : ∀ (H : Heap) (locs : List Loc), va_P (dC, dI) vwCl (m_W cs a st) H → va_S (m_A a) s.heap H locs → W p l e { frames := 0, cells := 0, slots := 0, locals := 0 } s m ([.ref (a 0)] : List Value).toArray below meth c H locs 0 0 (MQ below (va_Ql (fun r (_ : Unit) => r = res.1) (fun _ t => va_P (dC, dI) vwCl (m_W cs a res.2) t.heap) (m_A a)) ([.ref (a 0)] : List Value).toArray s 0 0 (m_A a)) (F0 m 0 ls []) := by
    intro H locs hP hS
    refine lv_aload_n hx hb d_M_cost_0 rfl (lv_at hl 0 rfl) ?_
    refine lv_iconst (v := (0 : Int32)) hx hb d_M_cost_1 (by decide) ?_
    refine va_put (D := (dC, dI)) (ci := 5) (v := .int (0 : Int32)) (ty := .int) (C := "GuideSearchModel") (T := F_M) (N := 25) hx hb hT i_M ft_M ft_M_ok n_M hown hK hP (hD _) hS 0 rfl rfl 0 (by decide) (hT _ k_507) (fun _ h9 => h9) rfl (by decide +kernel) rfl rfl (Nat.le_of_ble_eq_true rfl) d_M_cost_2 (fun H locs hP _ hS => ?_)
    rw [m_code_put cs a st (0 : Int32)] at hP
    refine lv_aload_n hx hb d_M_cost_5 rfl (lv_at hl 0 rfl) ?_
    refine va_get (D := (dC, dI)) (ci := 5) (v := .long (m_cost (m_code_s st (0 : Int32)))) (C := "GuideSearchModel") (T := F_M) (N := 25) hx hb hT i_M hown hK hP 0 rfl rfl 14 (by decide) (hT _ k_521) (fun _ h9 => h9) rfl d_M_cost_6 ?_
    exact W.lret hx hb hr (fun t ht _ => ⟨⟨_, (), rfl, congrArg Prod.fst (Option.some.inj hf), m_fin ht (congrArg Prod.snd (Option.some.inj hf)) hP⟩, hS.F ht⟩) hS.2.2 d_M_cost_9
  exact main _ _ hP va_S.rf
set_option maxHeartbeats 4000000 in
set_option maxRecDepth 100000 in
theorem c_M_learn (l : Launch) (dC : Nat → ClassId) (dI : Nat → Nat → Nat) (cs : Nat → ClassId) (a : Nat → Nat) (hi : ∀ i j : Nat, i < 18 → j < 18 → a i = a j → i = j) (st : MS) (p1 : Int32) (res : Int32 × MS) (hf : m_M_learn st p1 = some res) : Met l (⟨"GuideSearchModel", "learn", "(I)I"⟩ : MethodName) (Cond.code (⟨"GuideSearchModel", "learn", "(I)I"⟩ : MethodName) prog_7_method_34_code 3 (some .int) :: wg) { frames := 1, cells := 0, slots := 0, locals := 21 } (va_Pc ([.ref (a 0), .int p1] : List Value) (m_pre dC dI cs a st)) (va_Qi (fun r (_ : Unit) => r = res.1) (fun _ t => va_P (dC, dI) vwCl (m_W cs a res.2) t.heap) (m_A a)) 0 0 (m_A a) := by
  refine ro_start (cc := prog_7_method_34_code) (maxL := 3) (ret := (some .int)) (by decide) (Nat.le_of_ble_eq_true rfl) ?_
  intro p e s m below meth c hx hb hr hml hT hown hlocks hB ls hl
  replace hown : s.vm.findClass "GuideSearchModel" = some m.cls := hown
  obtain ⟨hP, hK, hN⟩ := hB
  replace hl : lv_has ls 3 [(0, .ref (a 0)), (1, .int p1)] := hl
  unfold m_M_learn at hf
  have hD : ∀ st : MS, va_D (m_A a) (m_W cs a st) := fun st => m_D hi cs st
  have main : ∀ (H : Heap) (locs : List Loc), va_P (dC, dI) vwCl (m_W cs a st) H → va_S (m_A a) s.heap H locs → W p l e { frames := 1, cells := 0, slots := 0, locals := 21 } s m ([.ref (a 0), .int p1] : List Value).toArray below meth c H locs 0 0 (MQ below (va_Qi (fun r (_ : Unit) => r = res.1) (fun _ t => va_P (dC, dI) vwCl (m_W cs a res.2) t.heap) (m_A a)) ([.ref (a 0), .int p1] : List Value).toArray s 0 0 (m_A a)) (F0 m 0 ls []) := by
    intro H locs hP hS
    refine lv_aload_n hx hb d_M_learn_0 rfl (lv_at hl 0 rfl) ?_
    refine lv_iconst (v := (0 : Int32)) hx hb d_M_learn_1 (by decide) ?_
    refine va_put (D := (dC, dI)) (ci := 5) (v := .int (0 : Int32)) (ty := .int) (C := "GuideSearchModel") (T := F_M) (N := 25) hx hb hT i_M ft_M ft_M_ok n_M hown hK hP (hD _) hS 0 rfl rfl 0 (by decide) (hT _ k_507) (fun _ h9 => h9) rfl (by decide +kernel) rfl rfl (Nat.le_of_ble_eq_true rfl) d_M_learn_2 (fun H locs hP _ hS => ?_)
    rw [m_code_put cs a st (0 : Int32)] at hP
    refine lv_iload_n hx hb d_M_learn_5 rfl (lv_at hl 1 rfl) ?_
    have join1 : m_M_learn_J1 st p1  = some res → ∀ (ls : Array Slot), lv_has ls 3 [(0, .ref (a 0)), (1, .int p1)] → W p l e { frames := 1, cells := 0, slots := 0, locals := 21 } s m ([.ref (a 0), .int p1] : List Value).toArray below meth c H locs 0 0 (MQ below (va_Qi (fun r (_ : Unit) => r = res.1) (fun _ t => va_P (dC, dI) vwCl (m_W cs a res.2) t.heap) (m_A a)) ([.ref (a 0), .int p1] : List Value).toArray s 0 0 (m_A a)) (F0 m 19 ls []) := by
      intro  hf ls hl
      unfold m_M_learn_J1 at hf
      refine lv_iconst (v := (1 : Int32)) hx hb d_M_learn_19 (by decide) ?_
      refine lv_istore_n (lv' := [(2, .int (1 : Int32)), (0, .ref (a 0)), (1, .int p1)]) hx hb d_M_learn_20 rfl hl (by decide) rfl (fun ls hl => ?_)
      have loop2 : ∀ (n : Nat) (v1 : Int32) (s2 : MS), xl2 (m_M_learn_B2 p1) n v1 s2 = some res → ∀ (H : Heap) (locs : List Loc), va_P (dC, dI) vwCl (m_W cs a s2) H → va_S (m_A a) s.heap H locs → ∀ (ls : Array Slot), lv_has ls 3 [(2, .int v1), (0, .ref (a 0)), (1, .int p1)] → W p l e { frames := 1, cells := 0, slots := 0, locals := 21 } s m ([.ref (a 0), .int p1] : List Value).toArray below meth c H locs 0 0 (MQ below (va_Qi (fun r (_ : Unit) => r = res.1) (fun _ t => va_P (dC, dI) vwCl (m_W cs a res.2) t.heap) (m_A a)) ([.ref (a 0), .int p1] : List Value).toArray s 0 0 (m_A a)) (F0 m 21 ls []) := by
        intro n
        induction n with
        | zero => intro v1 s2 hf; exact absurd hf (by simp [xl2])
        | succ n ih2 =>
          intro v1 s2 hf H locs hP hS ls hl
          replace hf : (m_M_learn_B2 p1) (xl2 (m_M_learn_B2 p1) n) v1 s2 = some res := hf
          generalize xl2 (m_M_learn_B2 p1) n = self2 at hf ih2
          unfold m_M_learn_B2 at hf
          refine lv_iload_n hx hb d_M_learn_21 rfl (lv_at hl 0 rfl) ?_
          refine lv_bipush (v := (7 : Int32)) hx hb d_M_learn_22 (by decide) ?_
          refine lv_icmp_ge (tgt := 40) hx hb d_M_learn_24 (by decide) (fun c3 => ?_) (fun c3 => ?_)
          · rw [if_pos c3] at hf
            refine lv_iload_n hx hb d_M_learn_40 rfl (lv_at hl 2 rfl) ?_
            have join3 : ∀ (s4 : MS), m_M_learn_J3 p1 s4 = some res → ∀ (H : Heap) (locs : List Loc), va_P (dC, dI) vwCl (m_W cs a s4) H → va_S (m_A a) s.heap H locs → ∀ (ls : Array Slot), lv_has ls 3 [(0, .ref (a 0)), (1, .int p1)] → W p l e { frames := 1, cells := 0, slots := 0, locals := 21 } s m ([.ref (a 0), .int p1] : List Value).toArray below meth c H locs 0 0 (MQ below (va_Qi (fun r (_ : Unit) => r = res.1) (fun _ t => va_P (dC, dI) vwCl (m_W cs a res.2) t.heap) (m_A a)) ([.ref (a 0), .int p1] : List Value).toArray s 0 0 (m_A a)) (F0 m 67 ls []) := by
              intro s4 hf H locs hP hS ls hl
              unfold m_M_learn_J3 at hf
              refine lv_iload_n hx hb d_M_learn_67 rfl (lv_at hl 1 rfl) ?_
              refine lv_if_ne (tgt := 78) hx hb d_M_learn_68 (by decide) (fun c5 => ?_) (fun c5 => ?_)
              · rw [if_neg c5] at hf
                refine lv_aload_n hx hb d_M_learn_78 rfl (lv_at hl 0 rfl) ?_
                refine va_get (D := (dC, dI)) (ci := 5) (v := .ref (a 4)) (C := "GuideSearchModel") (T := F_M) (N := 25) hx hb hT i_M hown hK hP 0 rfl rfl 6 (by decide) (hT _ k_513) (fun _ h9 => h9) rfl d_M_learn_79 ?_
                refine lv_iload_n hx hb d_M_learn_82 rfl (lv_at hl 1 rfl) ?_
                obtain ⟨j6, ej8, hi7, hf⟩ := ix_some hf
                refine xa_iald hx hb hK hP 4 1 rfl rfl ej8 hi7 d_M_learn_83 ?_
                exact W.iret hx hb hr (fun t ht _ => ⟨⟨_, (), rfl, congrArg Prod.fst (Option.some.inj hf), m_fin ht (congrArg Prod.snd (Option.some.inj hf)) hP⟩, hS.F ht⟩) hS.2.2 d_M_learn_84
              · rw [if_pos c5] at hf
                refine lv_aload_n hx hb d_M_learn_71 rfl (lv_at hl 0 rfl) ?_
                refine va_get (D := (dC, dI)) (ci := 5) (v := .int (m_strangers s4)) (C := "GuideSearchModel") (T := F_M) (N := 25) hx hb hT i_M hown hK hP 0 rfl rfl 7 (by decide) (hT _ k_514) (fun _ h9 => h9) rfl d_M_learn_72 ?_
                refine lv_goto (tgt := 84) hx hb d_M_learn_75 (by decide) ?_
                exact W.iret hx hb hr (fun t ht _ => ⟨⟨_, (), rfl, congrArg Prod.fst (Option.some.inj hf), m_fin ht (congrArg Prod.snd (Option.some.inj hf)) hP⟩, hS.F ht⟩) hS.2.2 d_M_learn_84
            refine lv_if_ne (tgt := 57) hx hb d_M_learn_41 (by decide) (fun c9 => ?_) (fun c9 => ?_)
            · rw [if_neg c9] at hf
              refine lv_aload_n hx hb d_M_learn_57 rfl (lv_at hl 1 rfl) ?_
              refine va_get (D := (dC, dI)) (ci := 5) (v := .ref (a 4)) (C := "GuideSearchModel") (T := F_M) (N := 25) hx hb hT i_M hown hK hP 0 rfl rfl 6 (by decide) (hT _ k_513) (fun _ h9 => h9) rfl d_M_learn_58 ?_
              refine lv_iload_n hx hb d_M_learn_61 rfl (lv_at hl 2 rfl) ?_
              refine lv_dup2_11 hx hb d_M_learn_62 rfl rfl ?_
              obtain ⟨j10, ej12, hi11, hf⟩ := ix_some hf
              refine xa_iald hx hb hK hP 4 1 rfl rfl ej12 hi11 d_M_learn_63 ?_
              refine lv_iconst (v := (1 : Int32)) hx hb d_M_learn_64 (by decide) ?_
              refine lv_iadd hx hb d_M_learn_65 ?_
              obtain ⟨j13, ej15, hi14, hf⟩ := ix_some hf
              refine xa_iast hx hb hK hP (hD _) hS 4 1 rfl rfl ej15 hi14 d_M_learn_66 (fun H locs hP hS => ?_)
              rw [m_learned_put cs a s2 j13 ((m_learned s2 j10) + (1 : Int32))] at hP
              exact join3 (m_learned_s s2 j13 ((m_learned s2 j10) + (1 : Int32))) hf _ _ hP hS ls (lv_sub hl [1, 2] rfl)
            · rw [if_pos c9] at hf
              refine lv_aload_n hx hb d_M_learn_44 rfl (lv_at hl 1 rfl) ?_
              refine lv_dup hx hb d_M_learn_45 rfl ?_
              refine va_get (D := (dC, dI)) (ci := 5) (v := .int (m_strangers s2)) (C := "GuideSearchModel") (T := F_M) (N := 25) hx hb hT i_M hown hK hP 0 rfl rfl 7 (by decide) (hT _ k_514) (fun _ h9 => h9) rfl d_M_learn_46 ?_
              refine lv_iconst (v := (1 : Int32)) hx hb d_M_learn_49 (by decide) ?_
              refine lv_iadd hx hb d_M_learn_50 ?_
              refine va_put (D := (dC, dI)) (ci := 5) (v := .int ((m_strangers s2) + (1 : Int32))) (ty := .int) (C := "GuideSearchModel") (T := F_M) (N := 25) hx hb hT i_M ft_M ft_M_ok n_M hown hK hP (hD _) hS 0 rfl rfl 7 (by decide) (hT _ k_514) (fun _ h9 => h9) rfl (by decide +kernel) rfl rfl (Nat.le_of_ble_eq_true rfl) d_M_learn_51 (fun H locs hP _ hS => ?_)
              rw [m_strangers_put cs a s2 ((m_strangers s2) + (1 : Int32))] at hP
              refine lv_goto (tgt := 67) hx hb d_M_learn_54 (by decide) ?_
              exact join3 (m_strangers_s s2 ((m_strangers s2) + (1 : Int32))) hf _ _ hP hS ls (lv_sub hl [1, 2] rfl)
          · rw [if_neg c3] at hf
            refine lv_aload_n hx hb d_M_learn_27 rfl (lv_at hl 1 rfl) ?_
            refine va_get (D := (dC, dI)) (ci := 5) (v := .ref (a 8)) (C := "GuideSearchModel") (T := F_M) (N := 25) hx hb hT i_M hown hK hP 0 rfl rfl 12 (by decide) (hT _ k_519) (fun _ h9 => h9) rfl d_M_learn_28 ?_
            refine lv_iload_n hx hb d_M_learn_31 rfl (lv_at hl 0 rfl) ?_
            refine lv_iconst (v := (-1 : Int32)) hx hb d_M_learn_32 (by decide) ?_
            obtain ⟨j16, ej18, hi17, hf⟩ := ix_some hf
            refine xa_iast hx hb hK hP (hD _) hS 8 1 rfl rfl ej18 hi17 d_M_learn_33 (fun H locs hP hS => ?_)
            rw [m_given_put cs a s2 j16 (-1 : Int32)] at hP
            refine lv_iinc (v := (v1 + 1)) (lv' := [(2, .int (v1 + 1)), (0, .ref (a 0)), (1, .int p1)]) hx hb d_M_learn_34 hl (k := 0) rfl rfl (by decide) rfl (fun ls hl => ?_)
            refine lv_goto (tgt := 21) hx hb d_M_learn_37 (by decide) ?_
            exact ih2 (v1 + 1) (m_given_s s2 j16 (-1 : Int32)) hf _ _ hP hS ls (lv_sub hl [0, 1, 2] rfl)
      exact loop2 _ (1 : Int32) (m_code_s st (0 : Int32)) hf _ _ hP hS ls (lv_sub hl [0, 1, 2] rfl)
    refine lv_if_eq (tgt := 19) hx hb d_M_learn_6 (by decide) (fun c19 => ?_) (fun c19 => ?_)
    · rw [if_pos c19] at hf
      exact join1 hf ls (lv_sub hl [0, 1] rfl)
    · rw [if_neg c19] at hf
      refine lv_aload_n hx hb d_M_learn_9 rfl (lv_at hl 0 rfl) ?_
      refine lv_iload_n hx hb d_M_learn_10 rfl (lv_at hl 1 rfl) ?_
      obtain ⟨r21, hr20, hf⟩ := ob hf
      refine ro_calli (va_runV (C := "GuideSearchModel") (As := [.int p1]) (rest := []) ⟨hx, hb, hml, hown, hT⟩ (c_M_noCause l dC dI cs a (m_code_s st (0 : Int32)) p1 r21 hr20) (cwV 1 hT (gV k_602 k_604 ks_13 k_7 k_605) rfl rfl rfl (by decide +kernel) ⟨Nat.le_of_ble_eq_true rfl, Nat.le_of_ble_eq_true rfl⟩) (ro_preV hP hK hN (va_recv hK hP (ci := 5) (q0 := 0) rfl rfl)) rfl rfl hl.1 rfl (lv_room (Nat.le_of_ble_eq_true rfl)) d_M_learn_11 ⟨Nat.le_of_ble_eq_true rfl, Nat.le_of_ble_eq_true rfl⟩) ?_
      refine lv_if_eq (tgt := 19) hx hb d_M_learn_14 (by decide) (fun c22 => ?_) (fun c22 => ?_)
      · rw [if_pos c22] at hf
        exact join1 hf ls (lv_sub hl [0, 1] rfl)
      · rw [if_neg c22] at hf
        refine lv_iconst (v := (-1 : Int32)) hx hb d_M_learn_17 (by decide) ?_
        exact W.iret hx hb hr (fun t ht _ => ⟨⟨_, (), rfl, congrArg Prod.fst (Option.some.inj hf), m_fin ht (congrArg Prod.snd (Option.some.inj hf)) hP⟩, hS.F ht⟩) hS.2.2 d_M_learn_18
  exact main _ _ hP va_S.rf
set_option maxHeartbeats 4000000 in
set_option maxRecDepth 100000 in
theorem c_M_tree (l : Launch) (dC : Nat → ClassId) (dI : Nat → Nat → Nat) (cs : Nat → ClassId) (a : Nat → Nat) (hi : ∀ i j : Nat, i < 18 → j < 18 → a i = a j → i = j) (st : MS) (p1 : Int32) (p2 : Int32) (res : Int32 × MS) (hf : m_M_tree st p1 p2 = some res) : Met l (⟨"GuideSearchModel", "tree", "(II)I"⟩ : MethodName) (Cond.code (⟨"GuideSearchModel", "tree", "(II)I"⟩ : MethodName) prog_7_method_35_code 3 (some .int) :: wg) { frames := 0, cells := 0, slots := 0, locals := 0 } (va_Pc ([.ref (a 0), .int p1, .int p2] : List Value) (m_pre dC dI cs a st)) (va_Qi (fun r (_ : Unit) => r = res.1) (fun _ t => va_P (dC, dI) vwCl (m_W cs a res.2) t.heap) (m_A a)) 0 0 (m_A a) := by
  refine ro_start (cc := prog_7_method_35_code) (maxL := 3) (ret := (some .int)) (by decide) (Nat.le_of_ble_eq_true rfl) ?_
  intro p e s m below meth c hx hb hr hml hT hown hlocks hB ls hl
  replace hown : s.vm.findClass "GuideSearchModel" = some m.cls := hown
  obtain ⟨hP, hK, hN⟩ := hB
  replace hl : lv_has ls 3 [(0, .ref (a 0)), (1, .int p1), (2, .int p2)] := hl
  unfold m_M_tree at hf
  have hD : ∀ st : MS, va_D (m_A a) (m_W cs a st) := fun st => m_D hi cs st
  have main : ∀ (H : Heap) (locs : List Loc), va_P (dC, dI) vwCl (m_W cs a st) H → va_S (m_A a) s.heap H locs → W p l e { frames := 0, cells := 0, slots := 0, locals := 0 } s m ([.ref (a 0), .int p1, .int p2] : List Value).toArray below meth c H locs 0 0 (MQ below (va_Qi (fun r (_ : Unit) => r = res.1) (fun _ t => va_P (dC, dI) vwCl (m_W cs a res.2) t.heap) (m_A a)) ([.ref (a 0), .int p1, .int p2] : List Value).toArray s 0 0 (m_A a)) (F0 m 0 ls []) := by
    intro H locs hP hS
    refine lv_aload_n hx hb d_M_tree_0 rfl (lv_at hl 0 rfl) ?_
    refine lv_iconst (v := (0 : Int32)) hx hb d_M_tree_1 (by decide) ?_
    refine va_put (D := (dC, dI)) (ci := 5) (v := .int (0 : Int32)) (ty := .int) (C := "GuideSearchModel") (T := F_M) (N := 25) hx hb hT i_M ft_M ft_M_ok n_M hown hK hP (hD _) hS 0 rfl rfl 0 (by decide) (hT _ k_507) (fun _ h9 => h9) rfl (by decide +kernel) rfl rfl (Nat.le_of_ble_eq_true rfl) d_M_tree_2 (fun H locs hP _ hS => ?_)
    rw [m_code_put cs a st (0 : Int32)] at hP
    refine lv_iload_n hx hb d_M_tree_5 rfl (lv_at hl 1 rfl) ?_
    refine lv_iconst (v := (-1 : Int32)) hx hb d_M_tree_6 (by decide) ?_
    have join1 : m_M_tree_J1 st p1 p2  = some res → ∀ (ls : Array Slot), lv_has ls 3 [(0, .ref (a 0)), (1, .int p1), (2, .int p2)] → W p l e { frames := 0, cells := 0, slots := 0, locals := 0 } s m ([.ref (a 0), .int p1, .int p2] : List Value).toArray below meth c H locs 0 0 (MQ below (va_Qi (fun r (_ : Unit) => r = res.1) (fun _ t => va_P (dC, dI) vwCl (m_W cs a res.2) t.heap) (m_A a)) ([.ref (a 0), .int p1, .int p2] : List Value).toArray s 0 0 (m_A a)) (F0 m 19 ls []) := by
      intro  hf ls hl
      unfold m_M_tree_J1 at hf
      refine lv_iload_n hx hb d_M_tree_19 rfl (lv_at hl 1 rfl) ?_
      refine lv_if_lt (tgt := 31) hx hb d_M_tree_20 (by decide) (fun c1 => ?_) (fun c1 => ?_)
      · rw [if_pos c1] at hf
        refine lv_iconst (v := (-1 : Int32)) hx hb d_M_tree_31 (by decide) ?_
        exact W.iret hx hb hr (fun t ht _ => ⟨⟨_, (), rfl, congrArg Prod.fst (Option.some.inj hf), m_fin ht (congrArg Prod.snd (Option.some.inj hf)) hP⟩, hS.F ht⟩) hS.2.2 d_M_tree_32
      · rw [if_neg c1] at hf
        refine lv_iload_n hx hb d_M_tree_23 rfl (lv_at hl 1 rfl) ?_
        refine lv_aload_n hx hb d_M_tree_24 rfl (lv_at hl 0 rfl) ?_
        refine va_get (D := (dC, dI)) (ci := 5) (v := .int (m_nodes (m_code_s st (0 : Int32)))) (C := "GuideSearchModel") (T := F_M) (N := 25) hx hb hT i_M hown hK hP 0 rfl rfl 15 (by decide) (hT _ k_522) (fun _ h9 => h9) rfl d_M_tree_25 ?_
        refine lv_icmp_lt (tgt := 33) hx hb d_M_tree_28 (by decide) (fun c2 => ?_) (fun c2 => ?_)
        · rw [if_pos c2] at hf
          refine lv_iload_n hx hb d_M_tree_33 rfl (lv_at hl 2 rfl) ?_
          refine lv_if_lt (tgt := 42) hx hb d_M_tree_34 (by decide) (fun c3 => ?_) (fun c3 => ?_)
          · rw [if_pos c3] at hf
            refine lv_bipush (v := (-2 : Int32)) hx hb d_M_tree_42 (by decide) ?_
            refine lv_goto (tgt := 57) hx hb d_M_tree_44 (by decide) ?_
            exact W.iret hx hb hr (fun t ht _ => ⟨⟨_, (), rfl, congrArg Prod.fst (Option.some.inj hf), m_fin ht (congrArg Prod.snd (Option.some.inj hf)) hP⟩, hS.F ht⟩) hS.2.2 d_M_tree_57
          · rw [if_neg c3] at hf
            refine lv_iload_n hx hb d_M_tree_37 rfl (lv_at hl 2 rfl) ?_
            refine lv_iconst (v := (2 : Int32)) hx hb d_M_tree_38 (by decide) ?_
            refine lv_icmp_le (tgt := 47) hx hb d_M_tree_39 (by decide) (fun c4 => ?_) (fun c4 => ?_)
            · rw [if_pos c4] at hf
              refine lv_aload_n hx hb d_M_tree_47 rfl (lv_at hl 0 rfl) ?_
              refine va_get (D := (dC, dI)) (ci := 5) (v := .ref (a 9)) (C := "GuideSearchModel") (T := F_M) (N := 25) hx hb hT i_M hown hK hP 0 rfl rfl 16 (by decide) (hT _ k_523) (fun _ h9 => h9) rfl d_M_tree_48 ?_
              refine lv_iconst (v := (3 : Int32)) hx hb d_M_tree_51 (by decide) ?_
              refine lv_iload_n hx hb d_M_tree_52 rfl (lv_at hl 1 rfl) ?_
              refine lv_imul hx hb d_M_tree_53 ?_
              refine lv_iload_n hx hb d_M_tree_54 rfl (lv_at hl 2 rfl) ?_
              refine lv_iadd hx hb d_M_tree_55 ?_
              obtain ⟨j5, ej7, hi6, hf⟩ := ix_some hf
              refine xa_iald hx hb hK hP 9 1 rfl rfl ej7 hi6 d_M_tree_56 ?_
              exact W.iret hx hb hr (fun t ht _ => ⟨⟨_, (), rfl, congrArg Prod.fst (Option.some.inj hf), m_fin ht (congrArg Prod.snd (Option.some.inj hf)) hP⟩, hS.F ht⟩) hS.2.2 d_M_tree_57
            · rw [if_neg c4] at hf
              refine lv_bipush (v := (-2 : Int32)) hx hb d_M_tree_42 (by decide) ?_
              refine lv_goto (tgt := 57) hx hb d_M_tree_44 (by decide) ?_
              exact W.iret hx hb hr (fun t ht _ => ⟨⟨_, (), rfl, congrArg Prod.fst (Option.some.inj hf), m_fin ht (congrArg Prod.snd (Option.some.inj hf)) hP⟩, hS.F ht⟩) hS.2.2 d_M_tree_57
        · rw [if_neg c2] at hf
          refine lv_iconst (v := (-1 : Int32)) hx hb d_M_tree_31 (by decide) ?_
          exact W.iret hx hb hr (fun t ht _ => ⟨⟨_, (), rfl, congrArg Prod.fst (Option.some.inj hf), m_fin ht (congrArg Prod.snd (Option.some.inj hf)) hP⟩, hS.F ht⟩) hS.2.2 d_M_tree_32
    refine lv_icmp_ne (tgt := 19) hx hb d_M_tree_7 (by decide) (fun c8 => ?_) (fun c8 => ?_)
    · rw [if_neg c8] at hf
      exact join1 hf ls (lv_sub hl [0, 1, 2] rfl)
    · rw [if_pos c8] at hf
      refine lv_iload_n hx hb d_M_tree_10 rfl (lv_at hl 2 rfl) ?_
      refine lv_if_ne (tgt := 19) hx hb d_M_tree_11 (by decide) (fun c9 => ?_) (fun c9 => ?_)
      · rw [if_neg c9] at hf
        exact join1 hf ls (lv_sub hl [0, 1, 2] rfl)
      · rw [if_pos c9] at hf
        refine lv_aload_n hx hb d_M_tree_14 rfl (lv_at hl 0 rfl) ?_
        refine va_get (D := (dC, dI)) (ci := 5) (v := .int (m_nodes (m_code_s st (0 : Int32)))) (C := "GuideSearchModel") (T := F_M) (N := 25) hx hb hT i_M hown hK hP 0 rfl rfl 15 (by decide) (hT _ k_522) (fun _ h9 => h9) rfl d_M_tree_15 ?_
        exact W.iret hx hb hr (fun t ht _ => ⟨⟨_, (), rfl, congrArg Prod.fst (Option.some.inj hf), m_fin ht (congrArg Prod.snd (Option.some.inj hf)) hP⟩, hS.F ht⟩) hS.2.2 d_M_tree_18
  exact main _ _ hP va_S.rf
set_option maxHeartbeats 4000000 in
set_option maxRecDepth 100000 in
theorem c_M_never (l : Launch) (dC : Nat → ClassId) (dI : Nat → Nat → Nat) (cs : Nat → ClassId) (a : Nat → Nat) (hi : ∀ i j : Nat, i < 18 → j < 18 → a i = a j → i = j) (st : MS) (p1 : Int32) (res : Int32 × MS) (hf : m_M_never st p1 = some res) : Met l (⟨"GuideSearchModel", "never", "(I)I"⟩ : MethodName) (Cond.code (⟨"GuideSearchModel", "never", "(I)I"⟩ : MethodName) prog_7_method_36_code 6 (some .int) :: wg) { frames := 1, cells := 0, slots := 0, locals := 23 } (va_Pc ([.ref (a 0), .int p1] : List Value) (m_pre dC dI cs a st)) (va_Qi (fun r (_ : Unit) => r = res.1) (fun _ t => va_P (dC, dI) vwCl (m_W cs a res.2) t.heap) (m_A a)) 0 0 (m_A a) := by
  refine ro_start (cc := prog_7_method_36_code) (maxL := 6) (ret := (some .int)) (by decide) (Nat.le_of_ble_eq_true rfl) ?_
  intro p e s m below meth c hx hb hr hml hT hown hlocks hB ls hl
  replace hown : s.vm.findClass "GuideSearchModel" = some m.cls := hown
  obtain ⟨hP, hK, hN⟩ := hB
  replace hl : lv_has ls 6 [(0, .ref (a 0)), (1, .int p1)] := hl
  unfold m_M_never at hf
  have hD : ∀ st : MS, va_D (m_A a) (m_W cs a st) := fun st => m_D hi cs st
  have main : ∀ (H : Heap) (locs : List Loc), va_P (dC, dI) vwCl (m_W cs a st) H → va_S (m_A a) s.heap H locs → W p l e { frames := 1, cells := 0, slots := 0, locals := 23 } s m ([.ref (a 0), .int p1] : List Value).toArray below meth c H locs 0 0 (MQ below (va_Qi (fun r (_ : Unit) => r = res.1) (fun _ t => va_P (dC, dI) vwCl (m_W cs a res.2) t.heap) (m_A a)) ([.ref (a 0), .int p1] : List Value).toArray s 0 0 (m_A a)) (F0 m 0 ls []) := by
    intro H locs hP hS
    refine lv_aload_n hx hb d_M_never_0 rfl (lv_at hl 0 rfl) ?_
    refine lv_iconst (v := (0 : Int32)) hx hb d_M_never_1 (by decide) ?_
    refine va_put (D := (dC, dI)) (ci := 5) (v := .int (0 : Int32)) (ty := .int) (C := "GuideSearchModel") (T := F_M) (N := 25) hx hb hT i_M ft_M ft_M_ok n_M hown hK hP (hD _) hS 0 rfl rfl 0 (by decide) (hT _ k_507) (fun _ h9 => h9) rfl (by decide +kernel) rfl rfl (Nat.le_of_ble_eq_true rfl) d_M_never_2 (fun H locs hP _ hS => ?_)
    rw [m_code_put cs a st (0 : Int32)] at hP
    refine lv_iload_n hx hb d_M_never_5 rfl (lv_at hl 1 rfl) ?_
    refine lv_if_lt (tgt := 14) hx hb d_M_never_6 (by decide) (fun c1 => ?_) (fun c1 => ?_)
    · rw [if_pos c1] at hf
      refine lv_bipush (v := (-2 : Int32)) hx hb d_M_never_14 (by decide) ?_
      exact W.iret hx hb hr (fun t ht _ => ⟨⟨_, (), rfl, congrArg Prod.fst (Option.some.inj hf), m_fin ht (congrArg Prod.snd (Option.some.inj hf)) hP⟩, hS.F ht⟩) hS.2.2 d_M_never_16
    · rw [if_neg c1] at hf
      refine lv_iload_n hx hb d_M_never_9 rfl (lv_at hl 1 rfl) ?_
      refine lv_iconst (v := (2 : Int32)) hx hb d_M_never_10 (by decide) ?_
      refine lv_icmp_le (tgt := 17) hx hb d_M_never_11 (by decide) (fun c2 => ?_) (fun c2 => ?_)
      · rw [if_pos c2] at hf
        refine lv_iconst (v := (0 : Int32)) hx hb d_M_never_17 (by decide) ?_
        refine lv_istore_n (lv' := [(2, .int (0 : Int32)), (0, .ref (a 0)), (1, .int p1)]) hx hb d_M_never_18 rfl hl (by decide) rfl (fun ls hl => ?_)
        refine lv_iconst (v := (1 : Int32)) hx hb d_M_never_19 (by decide) ?_
        refine lv_istore_n (lv' := [(3, .int (1 : Int32)), (2, .int (0 : Int32)), (0, .ref (a 0)), (1, .int p1)]) hx hb d_M_never_20 rfl hl (by decide) rfl (fun ls hl => ?_)
        have loop1 : ∀ (n : Nat) (v3 : Int32) (v4 : Int32), xl2 (m_M_never_B1 st p1) n v3 v4 = some res → ∀ (ls : Array Slot), lv_has ls 6 [(3, .int v3), (2, .int v4), (0, .ref (a 0)), (1, .int p1)] → W p l e { frames := 1, cells := 0, slots := 0, locals := 23 } s m ([.ref (a 0), .int p1] : List Value).toArray below meth c H locs 0 0 (MQ below (va_Qi (fun r (_ : Unit) => r = res.1) (fun _ t => va_P (dC, dI) vwCl (m_W cs a res.2) t.heap) (m_A a)) ([.ref (a 0), .int p1] : List Value).toArray s 0 0 (m_A a)) (F0 m 21 ls []) := by
          intro n
          induction n with
          | zero => intro v3 v4 hf; exact absurd hf (by simp [xl2])
          | succ n ih1 =>
            intro v3 v4 hf ls hl
            replace hf : (m_M_never_B1 st p1) (xl2 (m_M_never_B1 st p1) n) v3 v4 = some res := hf
            generalize xl2 (m_M_never_B1 st p1) n = self1 at hf ih1
            unfold m_M_never_B1 at hf
            refine lv_iload_n hx hb d_M_never_21 rfl (lv_at hl 0 rfl) ?_
            refine lv_aload_n hx hb d_M_never_22 rfl (lv_at hl 2 rfl) ?_
            refine va_get (D := (dC, dI)) (ci := 5) (v := .int (m_tests (m_code_s st (0 : Int32)))) (C := "GuideSearchModel") (T := F_M) (N := 25) hx hb hT i_M hown hK hP 0 rfl rfl 8 (by decide) (hT _ k_515) (fun _ h9 => h9) rfl d_M_never_23 ?_
            refine lv_icmp_gt (tgt := 92) hx hb d_M_never_26 (by decide) (fun c5 => ?_) (fun c5 => ?_)
            · rw [if_pos c5] at hf
              refine lv_iload_n hx hb d_M_never_92 rfl (lv_at hl 1 rfl) ?_
              exact W.iret hx hb hr (fun t ht _ => ⟨⟨_, (), rfl, congrArg Prod.fst (Option.some.inj hf), m_fin ht (congrArg Prod.snd (Option.some.inj hf)) hP⟩, hS.F ht⟩) hS.2.2 d_M_never_93
            · rw [if_neg c5] at hf
              refine lv_iconst (v := (0 : Int32)) hx hb d_M_never_29 (by decide) ?_
              refine lv_istore (lv' := [(4, .int (0 : Int32)), (3, .int v3), (2, .int v4), (0, .ref (a 0)), (1, .int p1)]) hx hb d_M_never_30 hl (by decide) rfl (fun ls hl => ?_)
              refine lv_iconst (v := (1 : Int32)) hx hb d_M_never_32 (by decide) ?_
              refine lv_istore (lv' := [(5, .int (1 : Int32)), (4, .int (0 : Int32)), (3, .int v3), (2, .int v4), (0, .ref (a 0)), (1, .int p1)]) hx hb d_M_never_33 hl (by decide) rfl (fun ls hl => ?_)
              have loop2 : ∀ (n : Nat) (v6 : Int32) (v7 : Int32), xl2 (m_M_never_B2 st p1 v3 v4 self1) n v6 v7 = some res → ∀ (ls : Array Slot), lv_has ls 6 [(5, .int v6), (4, .int v7), (3, .int v3), (2, .int v4), (0, .ref (a 0)), (1, .int p1)] → W p l e { frames := 1, cells := 0, slots := 0, locals := 23 } s m ([.ref (a 0), .int p1] : List Value).toArray below meth c H locs 0 0 (MQ below (va_Qi (fun r (_ : Unit) => r = res.1) (fun _ t => va_P (dC, dI) vwCl (m_W cs a res.2) t.heap) (m_A a)) ([.ref (a 0), .int p1] : List Value).toArray s 0 0 (m_A a)) (F0 m 35 ls []) := by
                intro n
                induction n with
                | zero => intro v6 v7 hf; exact absurd hf (by simp [xl2])
                | succ n ih2 =>
                  intro v6 v7 hf ls hl
                  replace hf : (m_M_never_B2 st p1 v3 v4 self1) (xl2 (m_M_never_B2 st p1 v3 v4 self1) n) v6 v7 = some res := hf
                  generalize xl2 (m_M_never_B2 st p1 v3 v4 self1) n = self2 at hf ih2
                  unfold m_M_never_B2 at hf
                  refine lv_iload hx hb d_M_never_35 (lv_at hl 0 rfl) ?_
                  refine lv_aload_n hx hb d_M_never_37 rfl (lv_at hl 4 rfl) ?_
                  refine va_get (D := (dC, dI)) (ci := 5) (v := .int (m_causes (m_code_s st (0 : Int32)))) (C := "GuideSearchModel") (T := F_M) (N := 25) hx hb hT i_M hown hK hP 0 rfl rfl 1 (by decide) (hT _ k_508) (fun _ h9 => h9) rfl d_M_never_38 ?_
                  refine lv_icmp_gt (tgt := 73) hx hb d_M_never_41 (by decide) (fun c8 => ?_) (fun c8 => ?_)
                  · rw [if_pos c8] at hf
                    refine lv_iload hx hb d_M_never_73 (lv_at hl 1 rfl) ?_
                    refine lv_if_eq (tgt := 82) hx hb d_M_never_75 (by decide) (fun c9 => ?_) (fun c9 => ?_)
                    · rw [if_pos c9] at hf
                      refine lv_iload_n hx hb d_M_never_82 rfl (lv_at hl 3 rfl) ?_
                      refine lv_iconst (v := (1 : Int32)) hx hb d_M_never_83 (by decide) ?_
                      refine lv_iadd hx hb d_M_never_84 ?_
                      refine lv_istore_n (lv' := [(2, .int (v4 + (1 : Int32))), (5, .int v6), (4, .int v7), (3, .int v3), (0, .ref (a 0)), (1, .int p1)]) hx hb d_M_never_85 rfl hl (by decide) rfl (fun ls hl => ?_)
                      refine lv_iinc (v := (v3 + 1)) (lv' := [(3, .int (v3 + 1)), (2, .int (v4 + (1 : Int32))), (5, .int v6), (4, .int v7), (0, .ref (a 0)), (1, .int p1)]) hx hb d_M_never_86 hl (k := 3) rfl rfl (by decide) rfl (fun ls hl => ?_)
                      refine lv_goto (tgt := 21) hx hb d_M_never_89 (by decide) ?_
                      exact ih1 (v3 + 1) (v4 + (1 : Int32)) hf ls (lv_sub hl [0, 1, 4, 5] rfl)
                    · rw [if_neg c9] at hf
                      refine lv_iload_n hx hb d_M_never_78 rfl (lv_at hl 3 rfl) ?_
                      refine lv_goto (tgt := 85) hx hb d_M_never_79 (by decide) ?_
                      refine lv_istore_n (lv' := [(2, .int v4), (5, .int v6), (4, .int v7), (3, .int v3), (0, .ref (a 0)), (1, .int p1)]) hx hb d_M_never_85 rfl hl (by decide) rfl (fun ls hl => ?_)
                      refine lv_iinc (v := (v3 + 1)) (lv' := [(3, .int (v3 + 1)), (2, .int v4), (5, .int v6), (4, .int v7), (0, .ref (a 0)), (1, .int p1)]) hx hb d_M_never_86 hl (k := 3) rfl rfl (by decide) rfl (fun ls hl => ?_)
                      refine lv_goto (tgt := 21) hx hb d_M_never_89 (by decide) ?_
                      exact ih1 (v3 + 1) v4 hf ls (lv_sub hl [0, 1, 4, 5] rfl)
                  · rw [if_neg c8] at hf
                    refine lv_iload hx hb d_M_never_44 (lv_at hl 1 rfl) ?_
                    refine lv_if_ne (tgt := 60) hx hb d_M_never_46 (by decide) (fun c10 => ?_) (fun c10 => ?_)
                    · rw [if_neg c10] at hf
                      refine lv_iconst (v := (1 : Int32)) hx hb d_M_never_60 (by decide) ?_
                      refine lv_goto (tgt := 65) hx hb d_M_never_61 (by decide) ?_
                      refine lv_istore (lv' := [(4, .int (1 : Int32)), (5, .int v6), (3, .int v3), (2, .int v4), (0, .ref (a 0)), (1, .int p1)]) hx hb d_M_never_65 hl (by decide) rfl (fun ls hl => ?_)
                      refine lv_iinc (v := (v6 + 1)) (lv' := [(5, .int (v6 + 1)), (4, .int (1 : Int32)), (3, .int v3), (2, .int v4), (0, .ref (a 0)), (1, .int p1)]) hx hb d_M_never_67 hl (k := 1) rfl rfl (by decide) rfl (fun ls hl => ?_)
                      refine lv_goto (tgt := 35) hx hb d_M_never_70 (by decide) ?_
                      exact ih2 (v6 + 1) (1 : Int32) hf ls (lv_sub hl [0, 1, 2, 3, 4, 5] rfl)
                    · rw [if_pos c10] at hf
                      refine lv_aload_n hx hb d_M_never_49 rfl (lv_at hl 4 rfl) ?_
                      refine lv_iload_n hx hb d_M_never_50 rfl (lv_at hl 2 rfl) ?_
                      refine lv_iload hx hb d_M_never_51 (lv_at hl 0 rfl) ?_
                      refine lv_iload_n hx hb d_M_never_53 rfl (lv_at hl 5 rfl) ?_
                      obtain ⟨r12, hr11, hf⟩ := ob hf
                      refine ro_calli (va_runV (C := "GuideSearchModel") (As := [.int v3, .int v6, .int p1]) (rest := []) ⟨hx, hb, hml, hown, hT⟩ (c_M_oddsOf l dC dI cs a (m_code_s st (0 : Int32)) v3 v6 p1 r12 hr11) (cwV 3 hT (gV k_621 k_623 ks_15 k_7 k_624) rfl rfl rfl (by decide +kernel) ⟨Nat.le_of_ble_eq_true rfl, Nat.le_of_ble_eq_true rfl⟩) (ro_preV hP hK hN (va_recv hK hP (ci := 5) (q0 := 0) rfl rfl)) rfl rfl hl.1 rfl (lv_room (Nat.le_of_ble_eq_true rfl)) d_M_never_54 ⟨Nat.le_of_ble_eq_true rfl, Nat.le_of_ble_eq_true rfl⟩) ?_
                      refine lv_if_le (tgt := 64) hx hb d_M_never_57 (by decide) (fun c13 => ?_) (fun c13 => ?_)
                      · rw [if_pos c13] at hf
                        refine lv_iconst (v := (0 : Int32)) hx hb d_M_never_64 (by decide) ?_
                        refine lv_istore (lv' := [(4, .int (0 : Int32)), (5, .int v6), (3, .int v3), (2, .int v4), (0, .ref (a 0)), (1, .int p1)]) hx hb d_M_never_65 hl (by decide) rfl (fun ls hl => ?_)
                        refine lv_iinc (v := (v6 + 1)) (lv' := [(5, .int (v6 + 1)), (4, .int (0 : Int32)), (3, .int v3), (2, .int v4), (0, .ref (a 0)), (1, .int p1)]) hx hb d_M_never_67 hl (k := 1) rfl rfl (by decide) rfl (fun ls hl => ?_)
                        refine lv_goto (tgt := 35) hx hb d_M_never_70 (by decide) ?_
                        exact ih2 (v6 + 1) (0 : Int32) hf ls (lv_sub hl [0, 1, 2, 3, 4, 5] rfl)
                      · rw [if_neg c13] at hf
                        refine lv_iconst (v := (1 : Int32)) hx hb d_M_never_60 (by decide) ?_
                        refine lv_goto (tgt := 65) hx hb d_M_never_61 (by decide) ?_
                        refine lv_istore (lv' := [(4, .int (1 : Int32)), (5, .int v6), (3, .int v3), (2, .int v4), (0, .ref (a 0)), (1, .int p1)]) hx hb d_M_never_65 hl (by decide) rfl (fun ls hl => ?_)
                        refine lv_iinc (v := (v6 + 1)) (lv' := [(5, .int (v6 + 1)), (4, .int (1 : Int32)), (3, .int v3), (2, .int v4), (0, .ref (a 0)), (1, .int p1)]) hx hb d_M_never_67 hl (k := 1) rfl rfl (by decide) rfl (fun ls hl => ?_)
                        refine lv_goto (tgt := 35) hx hb d_M_never_70 (by decide) ?_
                        exact ih2 (v6 + 1) (1 : Int32) hf ls (lv_sub hl [0, 1, 2, 3, 4, 5] rfl)
              exact loop2 _ (1 : Int32) (0 : Int32) hf ls (lv_sub hl [0, 1, 2, 3, 4, 5] rfl)
        exact loop1 _ (1 : Int32) (0 : Int32) hf ls (lv_sub hl [0, 1, 2, 3] rfl)
      · rw [if_neg c2] at hf
        refine lv_bipush (v := (-2 : Int32)) hx hb d_M_never_14 (by decide) ?_
        exact W.iret hx hb hr (fun t ht _ => ⟨⟨_, (), rfl, congrArg Prod.fst (Option.some.inj hf), m_fin ht (congrArg Prod.snd (Option.some.inj hf)) hP⟩, hS.F ht⟩) hS.2.2 d_M_never_16
  exact main _ _ hP va_S.rf
