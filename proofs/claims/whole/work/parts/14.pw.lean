set_option maxHeartbeats 4000000 in
set_option maxRecDepth 100000 in
theorem c_P_tell (l : Launch) (dC : Nat → ClassId) (dI : Nat → Nat → Nat) (cs : Nat → ClassId) (a : Nat → Nat) (st : XS) (p1 : Int32) (p2 : Int32) (res : Int32) (hf : x_P_tell st p1 p2 = some res) : Met l (⟨"GuideSearch$Plan", "tell", "(II)I"⟩ : MethodName) (Cond.code (⟨"GuideSearch$Plan", "tell", "(II)I"⟩ : MethodName) prog_4_method_4_code 3 (some .int) :: wg) { frames := 0, cells := 0, slots := 0, locals := 0 } (va_Pc ([.ref (a 16), .int p1, .int p2] : List Value) (x_pre dC dI cs a st)) (vp_Si (fun r => r = res)) 0 0 (fun _ => False) := by
  refine ro_start (cc := prog_4_method_4_code) (maxL := 3) (ret := (some .int)) (by decide) (Nat.le_of_ble_eq_true rfl) ?_
  intro p e s m below meth c hx hb hr hml hT hown hlocks hB ls hl
  replace hown : s.vm.findClass "GuideSearch$Plan" = some m.cls := hown
  obtain ⟨hP, hK, hN⟩ := hB
  replace hl : lv_has ls 3 [(0, .ref (a 16)), (1, .int p1), (2, .int p2)] := hl
  unfold x_P_tell at hf
  refine lv_iload_n hx hb d_P_tell_0 rfl (lv_at hl 1 rfl) ?_
  refine lv_if_lt (tgt := 11) hx hb d_P_tell_1 (by decide) (fun c1 => ?_) (fun c1 => ?_)
  · rw [if_pos c1] at hf
    refine lv_iconst (v := (-1 : Int32)) hx hb d_P_tell_11 (by decide) ?_
    exact W.iret hx hb hr (fun t ht _ => ⟨_, rfl, Option.some.inj hf, ht⟩) (fun _ h => absurd h List.not_mem_nil) d_P_tell_12
  · rw [if_neg c1] at hf
    refine lv_iload_n hx hb d_P_tell_4 rfl (lv_at hl 1 rfl) ?_
    refine lv_sipush (v := (300 : Int32)) hx hb d_P_tell_5 (by decide) ?_
    refine lv_icmp_lt (tgt := 13) hx hb d_P_tell_8 (by decide) (fun c2 => ?_) (fun c2 => ?_)
    · rw [if_pos c2] at hf
      refine lv_iload_n hx hb d_P_tell_13 rfl (lv_at hl 2 rfl) ?_
      by_cases c3 : p2 = (0 : Int32)
      · rw [if_pos c3] at hf
        refine lv_tableIn (off := 26) (tgt := 40) hx hb d_P_tell_14 (by rw [c3]; decide) (by rw [c3]; decide) (by rw [c3]; rfl) (by decide) ?_
        refine lv_aload_n hx hb d_P_tell_40 rfl (lv_at hl 0 rfl) ?_
        refine va_get (D := (dC, dI)) (ci := 4) (v := .ref (a 26)) (C := "GuideSearch$Plan") (T := F_P) (N := 9) hx hb hT i_P hown hK hP 16 rfl rfl 4 (by decide) (hT _ k_102) (fun _ h9 => h9) rfl d_P_tell_41 ?_
        refine lv_iload_n hx hb d_P_tell_44 rfl (lv_at hl 1 rfl) ?_
        obtain ⟨j4, ej6, hi5, hf⟩ := ix_some hf
        refine xa_bald hx hb hK hP 26 2 rfl rfl ej6 hi5 d_P_tell_45 ?_
        exact W.iret hx hb hr (fun t ht _ => ⟨_, rfl, Option.some.inj hf, ht⟩) (fun _ h => absurd h List.not_mem_nil) d_P_tell_46
      · rw [if_neg c3] at hf
        by_cases c7 : p2 = (1 : Int32)
        · rw [if_pos c7] at hf
          refine lv_tableIn (off := 33) (tgt := 47) hx hb d_P_tell_14 (by rw [c7]; decide) (by rw [c7]; decide) (by rw [c7]; rfl) (by decide) ?_
          refine lv_aload_n hx hb d_P_tell_47 rfl (lv_at hl 0 rfl) ?_
          refine va_get (D := (dC, dI)) (ci := 4) (v := .ref (a 27)) (C := "GuideSearch$Plan") (T := F_P) (N := 9) hx hb hT i_P hown hK hP 16 rfl rfl 5 (by decide) (hT _ k_103) (fun _ h9 => h9) rfl d_P_tell_48 ?_
          refine lv_iload_n hx hb d_P_tell_51 rfl (lv_at hl 1 rfl) ?_
          obtain ⟨j8, ej10, hi9, hf⟩ := ix_some hf
          refine xa_bald hx hb hK hP 27 2 rfl rfl ej10 hi9 d_P_tell_52 ?_
          exact W.iret hx hb hr (fun t ht _ => ⟨_, rfl, Option.some.inj hf, ht⟩) (fun _ h => absurd h List.not_mem_nil) d_P_tell_53
        · rw [if_neg c7] at hf
          by_cases c11 : p2 = (2 : Int32)
          · rw [if_pos c11] at hf
            refine lv_tableIn (off := 40) (tgt := 54) hx hb d_P_tell_14 (by rw [c11]; decide) (by rw [c11]; decide) (by rw [c11]; rfl) (by decide) ?_
            refine lv_aload_n hx hb d_P_tell_54 rfl (lv_at hl 0 rfl) ?_
            refine va_get (D := (dC, dI)) (ci := 4) (v := .ref (a 28)) (C := "GuideSearch$Plan") (T := F_P) (N := 9) hx hb hT i_P hown hK hP 16 rfl rfl 6 (by decide) (hT _ k_104) (fun _ h9 => h9) rfl d_P_tell_55 ?_
            refine lv_iload_n hx hb d_P_tell_58 rfl (lv_at hl 1 rfl) ?_
            obtain ⟨j12, ej14, hi13, hf⟩ := ix_some hf
            refine xa_bald hx hb hK hP 28 2 rfl rfl ej14 hi13 d_P_tell_59 ?_
            exact W.iret hx hb hr (fun t ht _ => ⟨_, rfl, Option.some.inj hf, ht⟩) (fun _ h => absurd h List.not_mem_nil) d_P_tell_60
          · rw [if_neg c11] at hf
            refine lv_tableOut (tgt := 61) hx hb d_P_tell_14 (by have := lv_neT c3 (a := 0) (by decide); have := lv_neT c7 (a := 1) (by decide); have := lv_neT c11 (a := 2) (by decide); omega) (by decide) ?_
            refine lv_bipush (v := (-2 : Int32)) hx hb d_P_tell_61 (by decide) ?_
            exact W.iret hx hb hr (fun t ht _ => ⟨_, rfl, Option.some.inj hf, ht⟩) (fun _ h => absurd h List.not_mem_nil) d_P_tell_63
    · rw [if_neg c2] at hf
      refine lv_iconst (v := (-1 : Int32)) hx hb d_P_tell_11 (by decide) ?_
      exact W.iret hx hb hr (fun t ht _ => ⟨_, rfl, Option.some.inj hf, ht⟩) (fun _ h => absurd h List.not_mem_nil) d_P_tell_12
set_option maxHeartbeats 4000000 in
set_option maxRecDepth 100000 in
theorem c_P_drop (l : Launch) (dC : Nat → ClassId) (dI : Nat → Nat → Nat) (cs : Nat → ClassId) (a : Nat → Nat) (hi : ∀ i j : Nat, i < 29 → j < 29 → a i = a j → i = j) (st : XS) (res : XS) (hf : x_P_drop st = some res) : Met l (⟨"GuideSearch$Plan", "drop", "()V"⟩ : MethodName) (Cond.code (⟨"GuideSearch$Plan", "drop", "()V"⟩ : MethodName) prog_4_method_2_code 1 none :: wg) { frames := 0, cells := 0, slots := 0, locals := 0 } (va_Pc ([.ref (a 16)] : List Value) (x_pre dC dI cs a st)) (va_Qv (fun _ : Unit => True) (fun _ t => va_P (dC, dI) vwCl (x_W cs a res) t.heap) (x_A a)) 0 0 (x_A a) := by
  refine ro_start (cc := prog_4_method_2_code) (maxL := 1) (ret := none) (by decide) (Nat.le_of_ble_eq_true rfl) ?_
  intro p e s m below meth c hx hb hr hml hT hown hlocks hB ls hl
  replace hown : s.vm.findClass "GuideSearch$Plan" = some m.cls := hown
  obtain ⟨hP, hK, hN⟩ := hB
  replace hl : lv_has ls 1 [(0, .ref (a 16))] := hl
  unfold x_P_drop at hf
  have hD : ∀ st : XS, va_D (x_A a) (x_W cs a st) := fun st => x_D hi cs st
  have main : ∀ (H : Heap) (locs : List Loc), va_P (dC, dI) vwCl (x_W cs a st) H → va_S (x_A a) s.heap H locs → W p l e { frames := 0, cells := 0, slots := 0, locals := 0 } s m ([.ref (a 16)] : List Value).toArray below meth c H locs 0 0 (MQ below (va_Qv (fun _ : Unit => True) (fun _ t => va_P (dC, dI) vwCl (x_W cs a res) t.heap) (x_A a)) ([.ref (a 16)] : List Value).toArray s 0 0 (x_A a)) (F0 m 0 ls []) := by
    intro H locs hP hS
    refine lv_aload_n hx hb d_P_drop_0 rfl (lv_at hl 0 rfl) ?_
    refine lv_iconst (v := (0 : Int32)) hx hb d_P_drop_1 (by decide) ?_
    refine va_put (D := (dC, dI)) (ci := 4) (v := .int (0 : Int32)) (ty := .int) (C := "GuideSearch$Plan") (T := F_P) (N := 9) hx hb hT i_P ft_P ft_P_ok n_P hown hK hP (hD _) hS 16 rfl rfl 7 (by decide) (hT _ k_105) (fun _ h9 => h9) rfl (by decide +kernel) rfl rfl (Nat.le_of_ble_eq_true rfl) d_P_drop_2 (fun H locs hP _ hS => ?_)
    rw [x_nod_put cs a st (0 : Int32)] at hP
    refine lv_aload_n hx hb d_P_drop_5 rfl (lv_at hl 0 rfl) ?_
    refine lv_ldc2 (v := (-1 : Int64)) hx hb hown (hT _ k_97) d_P_drop_6 ?_
    refine va_put (D := (dC, dI)) (ci := 4) (v := .long (-1 : Int64)) (ty := .long) (C := "GuideSearch$Plan") (T := F_P) (N := 9) hx hb hT i_P ft_P ft_P_ok n_P hown hK hP (hD _) hS 16 rfl rfl 8 (by decide) (hT _ k_107) (fun _ h9 => h9) rfl (by decide +kernel) rfl rfl (Nat.le_of_ble_eq_true rfl) d_P_drop_9 (fun H locs hP _ hS => ?_)
    rw [x_tho_put cs a (x_nod_s st (0 : Int32)) (-1 : Int64)] at hP
    exact W.vret hx hb hr (fun t ht _ => ⟨⟨(), rfl, trivial, x_fin ht (Option.some.inj hf) hP⟩, hS.F ht⟩) hS.2.2 d_P_drop_12
  exact main _ _ hP va_S.rf
set_option maxHeartbeats 4000000 in
set_option maxRecDepth 100000 in
theorem c_P_weighFirst (l : Launch) (dC : Nat → ClassId) (dI : Nat → Nat → Nat) (cs : Nat → ClassId) (a : Nat → Nat) (hi : ∀ i j : Nat, i < 29 → j < 29 → a i = a j → i = j) (st : XS) (p1 : Int32) (res : XS) (hf : x_P_weighFirst st p1 = some res) : Met l (⟨"GuideSearch$Plan", "weighFirst", "(I)V"⟩ : MethodName) (Cond.code (⟨"GuideSearch$Plan", "weighFirst", "(I)V"⟩ : MethodName) prog_4_method_5_code 3 none :: wg) { frames := 4, cells := 0, slots := 0, locals := 92 } (va_Pc ([.ref (a 16), .int p1] : List Value) (x_pre dC dI cs a st)) (va_Qv (fun _ : Unit => True) (fun _ t => va_P (dC, dI) vwCl (x_W cs a res) t.heap) (x_A a)) 0 0 (x_A a) := by
  refine ro_start (cc := prog_4_method_5_code) (maxL := 3) (ret := none) (by decide) (Nat.le_of_ble_eq_true rfl) ?_
  intro p e s m below meth c hx hb hr hml hT hown hlocks hB ls hl
  replace hown : s.vm.findClass "GuideSearch$Plan" = some m.cls := hown
  obtain ⟨hP, hK, hN⟩ := hB
  replace hl : lv_has ls 3 [(0, .ref (a 16)), (1, .int p1)] := hl
  unfold x_P_weighFirst at hf
  have hD : ∀ st : XS, va_D (x_A a) (x_W cs a st) := fun st => x_D hi cs st
  have main : ∀ (H : Heap) (locs : List Loc), va_P (dC, dI) vwCl (x_W cs a st) H → va_S (x_A a) s.heap H locs → W p l e { frames := 4, cells := 0, slots := 0, locals := 92 } s m ([.ref (a 16), .int p1] : List Value).toArray below meth c H locs 0 0 (MQ below (va_Qv (fun _ : Unit => True) (fun _ t => va_P (dC, dI) vwCl (x_W cs a res) t.heap) (x_A a)) ([.ref (a 16), .int p1] : List Value).toArray s 0 0 (x_A a)) (F0 m 0 ls []) := by
    intro H locs hP hS
    refine lv_iconst (v := (1 : Int32)) hx hb d_P_weighFirst_0 (by decide) ?_
    refine lv_istore_n (lv' := [(2, .int (1 : Int32)), (0, .ref (a 16)), (1, .int p1)]) hx hb d_P_weighFirst_1 rfl hl (by decide) rfl (fun ls hl => ?_)
    have loop1 : ∀ (n : Nat) (v1 : Int32) (s2 : XS), xl2 (x_P_weighFirst_B1 p1) n v1 s2 = some res → ∀ (H : Heap) (locs : List Loc), va_P (dC, dI) vwCl (x_W cs a s2) H → va_S (x_A a) s.heap H locs → ∀ (ls : Array Slot), lv_has ls 3 [(2, .int v1), (0, .ref (a 16)), (1, .int p1)] → W p l e { frames := 4, cells := 0, slots := 0, locals := 92 } s m ([.ref (a 16), .int p1] : List Value).toArray below meth c H locs 0 0 (MQ below (va_Qv (fun _ : Unit => True) (fun _ t => va_P (dC, dI) vwCl (x_W cs a res) t.heap) (x_A a)) ([.ref (a 16), .int p1] : List Value).toArray s 0 0 (x_A a)) (F0 m 2 ls []) := by
      intro n
      induction n with
      | zero => intro v1 s2 hf; exact absurd hf (by simp [xl2])
      | succ n ih1 =>
        intro v1 s2 hf H locs hP hS ls hl
        replace hf : (x_P_weighFirst_B1 p1) (xl2 (x_P_weighFirst_B1 p1) n) v1 s2 = some res := hf
        generalize xl2 (x_P_weighFirst_B1 p1) n = self1 at hf ih1
        unfold x_P_weighFirst_B1 at hf
        refine lv_iload_n hx hb d_P_weighFirst_2 rfl (lv_at hl 0 rfl) ?_
        refine lv_bipush (v := (12 : Int32)) hx hb d_P_weighFirst_3 (by decide) ?_
        refine lv_icmp_gt (tgt := 31) hx hb d_P_weighFirst_5 (by decide) (fun c3 => ?_) (fun c3 => ?_)
        · rw [if_pos c3] at hf
          exact W.vret hx hb hr (fun t ht _ => ⟨⟨(), rfl, trivial, x_fin ht (Option.some.inj hf) hP⟩, hS.F ht⟩) hS.2.2 d_P_weighFirst_31
        · rw [if_neg c3] at hf
          refine lv_aload_n hx hb d_P_weighFirst_8 rfl (lv_at hl 1 rfl) ?_
          refine va_get (D := (dC, dI)) (ci := 4) (v := .ref (a 19)) (C := "GuideSearch$Plan") (T := F_P) (N := 9) hx hb hT i_P hown hK hP 16 rfl rfl 3 (by decide) (hT _ k_101) (fun _ h9 => h9) rfl d_P_weighFirst_9 ?_
          refine lv_iconst (v := (0 : Int32)) hx hb d_P_weighFirst_12 (by decide) ?_
          obtain ⟨j4, ej6, hi5, hf⟩ := ix_some hf
          refine xa_aald hx hb hK hP 19 4 rfl rfl ej6 hi5 (if_pos (ix_lt ej6 hi5)) d_P_weighFirst_13 ?_
          have hj4 : j4 < 6 := ix_lt ej6 hi5
          refine lv_iload_n hx hb d_P_weighFirst_14 rfl (lv_at hl 0 rfl) ?_
          refine lv_aload_n hx hb d_P_weighFirst_15 rfl (lv_at hl 1 rfl) ?_
          refine va_get (D := (dC, dI)) (ci := 4) (v := .ref (a 15)) (C := "GuideSearch$Plan") (T := F_P) (N := 9) hx hb hT i_P hown hK hP 16 rfl rfl 0 (by decide) (hT _ k_98) (fun _ h9 => h9) rfl d_P_weighFirst_16 ?_
          refine lv_iload_n hx hb d_P_weighFirst_19 rfl (lv_at hl 0 rfl) ?_
          refine lv_iload_n hx hb d_P_weighFirst_20 rfl (lv_at hl 2 rfl) ?_
          obtain ⟨r9, hr8, hf⟩ := ob hf
          refine ro_calll (va_runV (C := "GuideSearch$Cases") (As := [.int v1, .int p1]) (rest := [.int v1, .ref (a (20 + j4))]) ⟨hx, hb, hml, hown, hT⟩ (c_K_weightOf l dC dI cs a s2 v1 p1 r9 hr8) (cwV 2 hT (gV k_257 k_258 k_259 k_5 k_260) rfl rfl rfl (by decide +kernel) ⟨Nat.le_of_ble_eq_true rfl, Nat.le_of_ble_eq_true rfl⟩) (ro_preV hP hK hN (va_recv hK hP (ci := 3) (q0 := 15) rfl rfl)) rfl rfl hl.1 rfl (lv_room (Nat.le_of_ble_eq_true rfl)) d_P_weighFirst_21 ⟨Nat.le_of_ble_eq_true rfl, Nat.le_of_ble_eq_true rfl⟩) ?_
          obtain ⟨j10, ej12, hi11, hf⟩ := ix_some hf
          refine xa_last hx hb hK hP (hD _) hS (20 + j4) 0 (x_wei_row cs a s2 hj4) rfl ej12 hi11 d_P_weighFirst_24 (fun H locs hP hS => ?_)
          rw [x_wei_put cs a s2 hj4 j10 r9] at hP
          refine lv_iinc (v := (v1 + 1)) (lv' := [(2, .int (v1 + 1)), (0, .ref (a 16)), (1, .int p1)]) hx hb d_P_weighFirst_25 hl (k := 0) rfl rfl (by decide) rfl (fun ls hl => ?_)
          refine lv_goto (tgt := 2) hx hb d_P_weighFirst_28 (by decide) ?_
          exact ih1 (v1 + 1) (x_wei_s s2 j4 j10 r9) hf _ _ hP hS ls (lv_sub hl [0, 1, 2] rfl)
    exact loop1 _ (1 : Int32) st hf _ _ hP hS ls (lv_sub hl [0, 1, 2] rfl)
  exact main _ _ hP va_S.rf
set_option maxHeartbeats 4000000 in
set_option maxRecDepth 100000 in
theorem c_P_weighBehind (l : Launch) (dC : Nat → ClassId) (dI : Nat → Nat → Nat) (cs : Nat → ClassId) (a : Nat → Nat) (hi : ∀ i j : Nat, i < 29 → j < 29 → a i = a j → i = j) (st : XS) (p1 : Int32) (p2 : Int32) (p3 : Int32) (res : XS) (hf : x_P_weighBehind st p1 p2 p3 = some res) : Met l (⟨"GuideSearch$Plan", "weighBehind", "(III)V"⟩ : MethodName) (Cond.code (⟨"GuideSearch$Plan", "weighBehind", "(III)V"⟩ : MethodName) prog_4_method_6_code 7 none :: wg) { frames := 3, cells := 0, slots := 0, locals := 66 } (va_Pc ([.ref (a 16), .int p1, .int p2, .int p3] : List Value) (x_pre dC dI cs a st)) (va_Qv (fun _ : Unit => True) (fun _ t => va_P (dC, dI) vwCl (x_W cs a res) t.heap) (x_A a)) 0 0 (x_A a) := by
  refine ro_start (cc := prog_4_method_6_code) (maxL := 7) (ret := none) (by decide) (Nat.le_of_ble_eq_true rfl) ?_
  intro p e s m below meth c hx hb hr hml hT hown hlocks hB ls hl
  replace hown : s.vm.findClass "GuideSearch$Plan" = some m.cls := hown
  obtain ⟨hP, hK, hN⟩ := hB
  replace hl : lv_has ls 7 [(0, .ref (a 16)), (1, .int p1), (2, .int p2), (3, .int p3)] := hl
  unfold x_P_weighBehind at hf
  have hD : ∀ st : XS, va_D (x_A a) (x_W cs a st) := fun st => x_D hi cs st
  have main : ∀ (H : Heap) (locs : List Loc), va_P (dC, dI) vwCl (x_W cs a st) H → va_S (x_A a) s.heap H locs → W p l e { frames := 3, cells := 0, slots := 0, locals := 66 } s m ([.ref (a 16), .int p1, .int p2, .int p3] : List Value).toArray below meth c H locs 0 0 (MQ below (va_Qv (fun _ : Unit => True) (fun _ t => va_P (dC, dI) vwCl (x_W cs a res) t.heap) (x_A a)) ([.ref (a 16), .int p1, .int p2, .int p3] : List Value).toArray s 0 0 (x_A a)) (F0 m 0 ls []) := by
    intro H locs hP hS
    refine lv_iload_n hx hb d_P_weighBehind_0 rfl (lv_at hl 3 rfl) ?_
    refine lv_if_lt (tgt := 9) hx hb d_P_weighBehind_1 (by decide) (fun c1 => ?_) (fun c1 => ?_)
    · rw [if_pos c1] at hf
      exact W.vret hx hb hr (fun t ht _ => ⟨⟨(), rfl, trivial, x_fin ht (Option.some.inj hf) hP⟩, hS.F ht⟩) hS.2.2 d_P_weighBehind_9
    · rw [if_neg c1] at hf
      refine lv_iload_n hx hb d_P_weighBehind_4 rfl (lv_at hl 3 rfl) ?_
      refine lv_iconst (v := (5 : Int32)) hx hb d_P_weighBehind_5 (by decide) ?_
      refine lv_icmp_lt (tgt := 10) hx hb d_P_weighBehind_6 (by decide) (fun c2 => ?_) (fun c2 => ?_)
      · rw [if_pos c2] at hf
        refine lv_iconst (v := (1 : Int32)) hx hb d_P_weighBehind_10 (by decide) ?_
        refine lv_istore (lv' := [(4, .int (1 : Int32)), (0, .ref (a 16)), (1, .int p1), (2, .int p2), (3, .int p3)]) hx hb d_P_weighBehind_11 hl (by decide) rfl (fun ls hl => ?_)
        have loop1 : ∀ (n : Nat) (v3 : Int32) (s4 : XS), xl2 (x_P_weighBehind_B1 p1 p2 p3) n v3 s4 = some res → ∀ (H : Heap) (locs : List Loc), va_P (dC, dI) vwCl (x_W cs a s4) H → va_S (x_A a) s.heap H locs → ∀ (ls : Array Slot), lv_has ls 7 [(4, .int v3), (0, .ref (a 16)), (1, .int p1), (2, .int p2), (3, .int p3)] → W p l e { frames := 3, cells := 0, slots := 0, locals := 66 } s m ([.ref (a 16), .int p1, .int p2, .int p3] : List Value).toArray below meth c H locs 0 0 (MQ below (va_Qv (fun _ : Unit => True) (fun _ t => va_P (dC, dI) vwCl (x_W cs a res) t.heap) (x_A a)) ([.ref (a 16), .int p1, .int p2, .int p3] : List Value).toArray s 0 0 (x_A a)) (F0 m 13 ls []) := by
          intro n
          induction n with
          | zero => intro v3 s4 hf; exact absurd hf (by simp [xl2])
          | succ n ih1 =>
            intro v3 s4 hf H locs hP hS ls hl
            replace hf : (x_P_weighBehind_B1 p1 p2 p3) (xl2 (x_P_weighBehind_B1 p1 p2 p3) n) v3 s4 = some res := hf
            generalize xl2 (x_P_weighBehind_B1 p1 p2 p3) n = self1 at hf ih1
            unfold x_P_weighBehind_B1 at hf
            refine lv_iload hx hb d_P_weighBehind_13 (lv_at hl 0 rfl) ?_
            refine lv_bipush (v := (12 : Int32)) hx hb d_P_weighBehind_15 (by decide) ?_
            refine lv_icmp_gt (tgt := 81) hx hb d_P_weighBehind_17 (by decide) (fun c5 => ?_) (fun c5 => ?_)
            · rw [if_pos c5] at hf
              exact W.vret hx hb hr (fun t ht _ => ⟨⟨(), rfl, trivial, x_fin ht (Option.some.inj hf) hP⟩, hS.F ht⟩) hS.2.2 d_P_weighBehind_81
            · rw [if_neg c5] at hf
              refine lv_aload_n hx hb d_P_weighBehind_20 rfl (lv_at hl 1 rfl) ?_
              refine va_get (D := (dC, dI)) (ci := 4) (v := .ref (a 19)) (C := "GuideSearch$Plan") (T := F_P) (N := 9) hx hb hT i_P hown hK hP 16 rfl rfl 3 (by decide) (hT _ k_101) (fun _ h9 => h9) rfl d_P_weighBehind_21 ?_
              refine lv_iload_n hx hb d_P_weighBehind_24 rfl (lv_at hl 4 rfl) ?_
              obtain ⟨j6, ej8, hi7, hf⟩ := ix_some hf
              refine xa_aald hx hb hK hP 19 4 rfl rfl ej8 hi7 (if_pos (ix_lt ej8 hi7)) d_P_weighBehind_25 ?_
              have hj6 : j6 < 6 := ix_lt ej8 hi7
              refine lv_iload hx hb d_P_weighBehind_26 (lv_at hl 0 rfl) ?_
              obtain ⟨j10, ej12, hi11, hf⟩ := ix_some hf
              refine xa_lald hx hb hK hP (20 + j6) 0 (x_wei_row cs a s4 hj6) rfl ej12 hi11 d_P_weighBehind_28 ?_
              refine lv_lstore (lv' := [(5, .long (x_wei s4 j6 j10)), (4, .int v3), (0, .ref (a 16)), (1, .int p1), (2, .int p2), (3, .int p3)]) hx hb d_P_weighBehind_29 hl (by decide) rfl (fun ls hl => ?_)
              refine lv_aload_n hx hb d_P_weighBehind_31 rfl (lv_at hl 2 rfl) ?_
              refine va_get (D := (dC, dI)) (ci := 4) (v := .ref (a 19)) (C := "GuideSearch$Plan") (T := F_P) (N := 9) hx hb hT i_P hown hK hP 16 rfl rfl 3 (by decide) (hT _ k_101) (fun _ h9 => h9) rfl d_P_weighBehind_32 ?_
              refine lv_iload_n hx hb d_P_weighBehind_35 rfl (lv_at hl 5 rfl) ?_
              refine lv_iconst (v := (1 : Int32)) hx hb d_P_weighBehind_36 (by decide) ?_
              refine lv_iadd hx hb d_P_weighBehind_37 ?_
              obtain ⟨j13, ej15, hi14, hf⟩ := ix_some hf
              refine xa_aald hx hb hK hP 19 4 rfl rfl ej15 hi14 (if_pos (ix_lt ej15 hi14)) d_P_weighBehind_38 ?_
              have hj13 : j13 < 6 := ix_lt ej15 hi14
              refine lv_iload hx hb d_P_weighBehind_39 (lv_at hl 1 rfl) ?_
              refine lv_lload hx hb d_P_weighBehind_41 (lv_at hl 0 rfl) ?_
              refine lv_lconst (v := (0 : Int64)) hx hb d_P_weighBehind_43 (by decide) ?_
              refine W.lcmp hx hb d_P_weighBehind_44 ?_
              refine lv_if_ne (tgt := 52) hx hb d_P_weighBehind_45 (by decide) (fun c17 => ?_) (fun c17 => ?_)
              · rw [if_neg (mt (lg_cmp_eq _ _).mpr c17)] at hf
                refine lv_lload hx hb d_P_weighBehind_52 (lv_at hl 0 rfl) ?_
                refine lv_ldc2 (v := (12 : Int64)) hx hb hown (hT _ k_326) d_P_weighBehind_54 ?_
                refine lv_ldiv hx hb d_P_weighBehind_57 (by decide) ?_
                refine lv_aload_n hx hb d_P_weighBehind_58 rfl (lv_at hl 2 rfl) ?_
                refine va_get (D := (dC, dI)) (ci := 4) (v := .ref (a 15)) (C := "GuideSearch$Plan") (T := F_P) (N := 9) hx hb hT i_P hown hK hP 16 rfl rfl 0 (by decide) (hT _ k_98) (fun _ h9 => h9) rfl d_P_weighBehind_59 ?_
                refine va_getN (D := (dC, dI)) (ci := 3) (v := .ref (a 5)) (C := "GuideSearch$Cases") (T := F_K) (N := 2) hx hb hT i_K hown hK hP 15 rfl rfl 1 (by decide) (va_Nw.use rfl (hN _ k_83)) (fun _ h9 => h9) rfl d_P_weighBehind_62 ?_
                refine lv_iload_n hx hb d_P_weighBehind_65 rfl (lv_at hl 3 rfl) ?_
                refine lv_iload hx hb d_P_weighBehind_66 (lv_at hl 1 rfl) ?_
                refine lv_iload_n hx hb d_P_weighBehind_68 rfl (lv_at hl 4 rfl) ?_
                obtain ⟨r19, hr18, hf⟩ := ob hf
                refine ro_calli (va_runV (C := "GuideSearch$Tests") (As := [.int p1, .int v3, .int p2]) (rest := [.long ((x_wei s4 j6 j10) / (12 : Int64)), .int v3, .ref (a (20 + j13))]) ⟨hx, hb, hml, hown, hT⟩ (c_T_twelfths l dC dI cs a s4 p1 v3 p2 r19 hr18) (cwV 3 hT (gV k_327 k_192 k_193 k_3 k_194) rfl rfl rfl (by decide +kernel) ⟨Nat.le_of_ble_eq_true rfl, Nat.le_of_ble_eq_true rfl⟩) (ro_preV hP hK hN (va_recv hK hP (ci := 2) (q0 := 5) rfl rfl)) rfl rfl hl.1 rfl (lv_room (Nat.le_of_ble_eq_true rfl)) d_P_weighBehind_69 ⟨Nat.le_of_ble_eq_true rfl, Nat.le_of_ble_eq_true rfl⟩) ?_
                refine lv_i2l (v := r19.toInt64) hx hb d_P_weighBehind_72 rfl ?_
                refine lv_lmul hx hb d_P_weighBehind_73 ?_
                obtain ⟨j20, ej22, hi21, hf⟩ := ix_some hf
                refine xa_last hx hb hK hP (hD _) hS (20 + j13) 0 (x_wei_row cs a s4 hj13) rfl ej22 hi21 d_P_weighBehind_74 (fun H locs hP hS => ?_)
                rw [x_wei_put cs a s4 hj13 j20 (((x_wei s4 j6 j10) / (12 : Int64)) * r19.toInt64)] at hP
                refine lv_iinc (v := (v3 + 1)) (lv' := [(4, .int (v3 + 1)), (5, .long (x_wei s4 j6 j10)), (0, .ref (a 16)), (1, .int p1), (2, .int p2), (3, .int p3)]) hx hb d_P_weighBehind_75 hl (k := 1) rfl rfl (by decide) rfl (fun ls hl => ?_)
                refine lv_goto (tgt := 13) hx hb d_P_weighBehind_78 (by decide) ?_
                exact ih1 (v3 + 1) (x_wei_s s4 j13 j20 (((x_wei s4 j6 j10) / (12 : Int64)) * r19.toInt64)) hf _ _ hP hS ls (lv_sub hl [0, 2, 3, 4, 5] rfl)
              · rw [if_pos ((lg_cmp_eq _ _).mp c17)] at hf
                refine lv_lconst (v := (0 : Int64)) hx hb d_P_weighBehind_48 (by decide) ?_
                refine lv_goto (tgt := 74) hx hb d_P_weighBehind_49 (by decide) ?_
                obtain ⟨j23, ej25, hi24, hf⟩ := ix_some hf
                refine xa_last hx hb hK hP (hD _) hS (20 + j13) 0 (x_wei_row cs a s4 hj13) rfl ej25 hi24 d_P_weighBehind_74 (fun H locs hP hS => ?_)
                rw [x_wei_put cs a s4 hj13 j23 (0 : Int64)] at hP
                refine lv_iinc (v := (v3 + 1)) (lv' := [(4, .int (v3 + 1)), (5, .long (x_wei s4 j6 j10)), (0, .ref (a 16)), (1, .int p1), (2, .int p2), (3, .int p3)]) hx hb d_P_weighBehind_75 hl (k := 1) rfl rfl (by decide) rfl (fun ls hl => ?_)
                refine lv_goto (tgt := 13) hx hb d_P_weighBehind_78 (by decide) ?_
                exact ih1 (v3 + 1) (x_wei_s s4 j13 j23 (0 : Int64)) hf _ _ hP hS ls (lv_sub hl [0, 2, 3, 4, 5] rfl)
        exact loop1 _ (1 : Int32) st hf _ _ hP hS ls (lv_sub hl [0, 1, 2, 3, 4] rfl)
      · rw [if_neg c2] at hf
        exact W.vret hx hb hr (fun t ht _ => ⟨⟨(), rfl, trivial, x_fin ht (Option.some.inj hf) hP⟩, hS.F ht⟩) hS.2.2 d_P_weighBehind_9
  exact main _ _ hP va_S.rf
set_option maxHeartbeats 4000000 in
set_option maxRecDepth 100000 in
theorem c_P_weightAt (l : Launch) (dC : Nat → ClassId) (dI : Nat → Nat → Nat) (cs : Nat → ClassId) (a : Nat → Nat) (st : XS) (p1 : Int32) (res : Int64) (hf : x_P_weightAt st p1 = some res) : Met l (⟨"GuideSearch$Plan", "weightAt", "(I)J"⟩ : MethodName) (Cond.code (⟨"GuideSearch$Plan", "weightAt", "(I)J"⟩ : MethodName) prog_4_method_7_code 5 (some .long) :: wg) { frames := 0, cells := 0, slots := 0, locals := 0 } (va_Pc ([.ref (a 16), .int p1] : List Value) (x_pre dC dI cs a st)) (vp_Sl (fun r => r = res)) 0 0 (fun _ => False) := by
  refine ro_start (cc := prog_4_method_7_code) (maxL := 5) (ret := (some .long)) (by decide) (Nat.le_of_ble_eq_true rfl) ?_
  intro p e s m below meth c hx hb hr hml hT hown hlocks hB ls hl
  replace hown : s.vm.findClass "GuideSearch$Plan" = some m.cls := hown
  obtain ⟨hP, hK, hN⟩ := hB
  replace hl : lv_has ls 5 [(0, .ref (a 16)), (1, .int p1)] := hl
  unfold x_P_weightAt at hf
  refine lv_lconst (v := (0 : Int64)) hx hb d_P_weightAt_0 (by decide) ?_
  refine lv_lstore_n (lv' := [(2, .long (0 : Int64)), (0, .ref (a 16)), (1, .int p1)]) hx hb d_P_weightAt_1 rfl hl (by decide) rfl (fun ls hl => ?_)
  refine lv_iconst (v := (1 : Int32)) hx hb d_P_weightAt_2 (by decide) ?_
  refine lv_istore (lv' := [(4, .int (1 : Int32)), (2, .long (0 : Int64)), (0, .ref (a 16)), (1, .int p1)]) hx hb d_P_weightAt_3 hl (by decide) rfl (fun ls hl => ?_)
  have loop1 : ∀ (n : Nat) (v1 : Int32) (v2 : Int64), xl2 (x_P_weightAt_B1 st p1) n v1 v2 = some res → ∀ (ls : Array Slot), lv_has ls 5 [(4, .int v1), (2, .long v2), (0, .ref (a 16)), (1, .int p1)] → W p l e { frames := 0, cells := 0, slots := 0, locals := 0 } s m ([.ref (a 16), .int p1] : List Value).toArray below meth c s.heap [] 0 0 (MQ below (vp_Sl (fun r => r = res)) ([.ref (a 16), .int p1] : List Value).toArray s 0 0 (fun _ => False)) (F0 m 5 ls []) := by
    intro n
    induction n with
    | zero => intro v1 v2 hf; exact absurd hf (by simp [xl2])
    | succ n ih1 =>
      intro v1 v2 hf ls hl
      replace hf : (x_P_weightAt_B1 st p1) (xl2 (x_P_weightAt_B1 st p1) n) v1 v2 = some res := hf
      generalize xl2 (x_P_weightAt_B1 st p1) n = self1 at hf ih1
      unfold x_P_weightAt_B1 at hf
      refine lv_iload hx hb d_P_weightAt_5 (lv_at hl 0 rfl) ?_
      refine lv_bipush (v := (12 : Int32)) hx hb d_P_weightAt_7 (by decide) ?_
      refine lv_icmp_gt (tgt := 39) hx hb d_P_weightAt_9 (by decide) (fun c3 => ?_) (fun c3 => ?_)
      · rw [if_pos c3] at hf
        refine lv_lload_n hx hb d_P_weightAt_39 rfl (lv_at hl 1 rfl) ?_
        exact W.lret hx hb hr (fun t ht _ => ⟨_, rfl, Option.some.inj hf, ht⟩) (fun _ h => absurd h List.not_mem_nil) d_P_weightAt_40
      · rw [if_neg c3] at hf
        refine lv_iload_n hx hb d_P_weightAt_12 rfl (lv_at hl 3 rfl) ?_
        refine lv_if_lt (tgt := 39) hx hb d_P_weightAt_13 (by decide) (fun c4 => ?_) (fun c4 => ?_)
        · rw [if_pos c4] at hf
          refine lv_lload_n hx hb d_P_weightAt_39 rfl (lv_at hl 1 rfl) ?_
          exact W.lret hx hb hr (fun t ht _ => ⟨_, rfl, Option.some.inj hf, ht⟩) (fun _ h => absurd h List.not_mem_nil) d_P_weightAt_40
        · rw [if_neg c4] at hf
          refine lv_iload_n hx hb d_P_weightAt_16 rfl (lv_at hl 3 rfl) ?_
          refine lv_iconst (v := (5 : Int32)) hx hb d_P_weightAt_17 (by decide) ?_
          refine lv_icmp_gt (tgt := 39) hx hb d_P_weightAt_18 (by decide) (fun c5 => ?_) (fun c5 => ?_)
          · rw [if_pos c5] at hf
            refine lv_lload_n hx hb d_P_weightAt_39 rfl (lv_at hl 1 rfl) ?_
            exact W.lret hx hb hr (fun t ht _ => ⟨_, rfl, Option.some.inj hf, ht⟩) (fun _ h => absurd h List.not_mem_nil) d_P_weightAt_40
          · rw [if_neg c5] at hf
            refine lv_lload_n hx hb d_P_weightAt_21 rfl (lv_at hl 1 rfl) ?_
            refine lv_aload_n hx hb d_P_weightAt_22 rfl (lv_at hl 2 rfl) ?_
            refine va_get (D := (dC, dI)) (ci := 4) (v := .ref (a 19)) (C := "GuideSearch$Plan") (T := F_P) (N := 9) hx hb hT i_P hown hK hP 16 rfl rfl 3 (by decide) (hT _ k_101) (fun _ h9 => h9) rfl d_P_weightAt_23 ?_
            refine lv_iload_n hx hb d_P_weightAt_26 rfl (lv_at hl 3 rfl) ?_
            obtain ⟨j6, ej8, hi7, hf⟩ := ix_some hf
            refine xa_aald hx hb hK hP 19 4 rfl rfl ej8 hi7 (if_pos (ix_lt ej8 hi7)) d_P_weightAt_27 ?_
            have hj6 : j6 < 6 := ix_lt ej8 hi7
            refine lv_iload hx hb d_P_weightAt_28 (lv_at hl 0 rfl) ?_
            obtain ⟨j10, ej12, hi11, hf⟩ := ix_some hf
            refine xa_lald hx hb hK hP (20 + j6) 0 (x_wei_row cs a st hj6) rfl ej12 hi11 d_P_weightAt_30 ?_
            refine lv_ladd hx hb d_P_weightAt_31 ?_
            refine lv_lstore_n (lv' := [(2, .long (v2 + (x_wei st j6 j10))), (4, .int v1), (0, .ref (a 16)), (1, .int p1)]) hx hb d_P_weightAt_32 rfl hl (by decide) rfl (fun ls hl => ?_)
            refine lv_iinc (v := (v1 + 1)) (lv' := [(4, .int (v1 + 1)), (2, .long (v2 + (x_wei st j6 j10))), (0, .ref (a 16)), (1, .int p1)]) hx hb d_P_weightAt_33 hl (k := 1) rfl rfl (by decide) rfl (fun ls hl => ?_)
            refine lv_goto (tgt := 5) hx hb d_P_weightAt_36 (by decide) ?_
            exact ih1 (v1 + 1) (v2 + (x_wei st j6 j10)) hf ls (lv_sub hl [0, 1, 2, 3] rfl)
  exact loop1 _ (1 : Int32) (0 : Int64) hf ls (lv_sub hl [0, 1, 2, 3] rfl)
set_option maxHeartbeats 4000000 in
set_option maxRecDepth 100000 in
theorem c_P_leftAt (l : Launch) (dC : Nat → ClassId) (dI : Nat → Nat → Nat) (cs : Nat → ClassId) (a : Nat → Nat) (st : XS) (p1 : Int32) (res : Int32) (hf : x_P_leftAt st p1 = some res) : Met l (⟨"GuideSearch$Plan", "leftAt", "(I)I"⟩ : MethodName) (Cond.code (⟨"GuideSearch$Plan", "leftAt", "(I)I"⟩ : MethodName) prog_4_method_8_code 4 (some .int) :: wg) { frames := 1, cells := 0, slots := 0, locals := 20 } (va_Pc ([.ref (a 16), .int p1] : List Value) (x_pre dC dI cs a st)) (vp_Si (fun r => r = res)) 0 0 (fun _ => False) := by
  refine ro_start (cc := prog_4_method_8_code) (maxL := 4) (ret := (some .int)) (by decide) (Nat.le_of_ble_eq_true rfl) ?_
  intro p e s m below meth c hx hb hr hml hT hown hlocks hB ls hl
  replace hown : s.vm.findClass "GuideSearch$Plan" = some m.cls := hown
  obtain ⟨hP, hK, hN⟩ := hB
  replace hl : lv_has ls 4 [(0, .ref (a 16)), (1, .int p1)] := hl
  unfold x_P_leftAt at hf
  refine lv_iconst (v := (0 : Int32)) hx hb d_P_leftAt_0 (by decide) ?_
  refine lv_istore_n (lv' := [(2, .int (0 : Int32)), (0, .ref (a 16)), (1, .int p1)]) hx hb d_P_leftAt_1 rfl hl (by decide) rfl (fun ls hl => ?_)
  refine lv_iconst (v := (1 : Int32)) hx hb d_P_leftAt_2 (by decide) ?_
  refine lv_istore_n (lv' := [(3, .int (1 : Int32)), (2, .int (0 : Int32)), (0, .ref (a 16)), (1, .int p1)]) hx hb d_P_leftAt_3 rfl hl (by decide) rfl (fun ls hl => ?_)
  have loop1 : ∀ (n : Nat) (v1 : Int32) (v2 : Int32), xl2 (x_P_leftAt_B1 st p1) n v1 v2 = some res → ∀ (ls : Array Slot), lv_has ls 4 [(3, .int v1), (2, .int v2), (0, .ref (a 16)), (1, .int p1)] → W p l e { frames := 1, cells := 0, slots := 0, locals := 20 } s m ([.ref (a 16), .int p1] : List Value).toArray below meth c s.heap [] 0 0 (MQ below (vp_Si (fun r => r = res)) ([.ref (a 16), .int p1] : List Value).toArray s 0 0 (fun _ => False)) (F0 m 4 ls []) := by
    intro n
    induction n with
    | zero => intro v1 v2 hf; exact absurd hf (by simp [xl2])
    | succ n ih1 =>
      intro v1 v2 hf ls hl
      replace hf : (x_P_leftAt_B1 st p1) (xl2 (x_P_leftAt_B1 st p1) n) v1 v2 = some res := hf
      generalize xl2 (x_P_leftAt_B1 st p1) n = self1 at hf ih1
      unfold x_P_leftAt_B1 at hf
      refine lv_iload_n hx hb d_P_leftAt_4 rfl (lv_at hl 0 rfl) ?_
      refine lv_bipush (v := (12 : Int32)) hx hb d_P_leftAt_5 (by decide) ?_
      refine lv_icmp_gt (tgt := 49) hx hb d_P_leftAt_7 (by decide) (fun c3 => ?_) (fun c3 => ?_)
      · rw [if_pos c3] at hf
        refine lv_iload_n hx hb d_P_leftAt_49 rfl (lv_at hl 1 rfl) ?_
        exact W.iret hx hb hr (fun t ht _ => ⟨_, rfl, Option.some.inj hf, ht⟩) (fun _ h => absurd h List.not_mem_nil) d_P_leftAt_50
      · rw [if_neg c3] at hf
        refine lv_iload_n hx hb d_P_leftAt_10 rfl (lv_at hl 3 rfl) ?_
        refine lv_if_lt (tgt := 49) hx hb d_P_leftAt_11 (by decide) (fun c4 => ?_) (fun c4 => ?_)
        · rw [if_pos c4] at hf
          refine lv_iload_n hx hb d_P_leftAt_49 rfl (lv_at hl 1 rfl) ?_
          exact W.iret hx hb hr (fun t ht _ => ⟨_, rfl, Option.some.inj hf, ht⟩) (fun _ h => absurd h List.not_mem_nil) d_P_leftAt_50
        · rw [if_neg c4] at hf
          refine lv_iload_n hx hb d_P_leftAt_14 rfl (lv_at hl 3 rfl) ?_
          refine lv_iconst (v := (5 : Int32)) hx hb d_P_leftAt_15 (by decide) ?_
          refine lv_icmp_gt (tgt := 49) hx hb d_P_leftAt_16 (by decide) (fun c5 => ?_) (fun c5 => ?_)
          · rw [if_pos c5] at hf
            refine lv_iload_n hx hb d_P_leftAt_49 rfl (lv_at hl 1 rfl) ?_
            exact W.iret hx hb hr (fun t ht _ => ⟨_, rfl, Option.some.inj hf, ht⟩) (fun _ h => absurd h List.not_mem_nil) d_P_leftAt_50
          · rw [if_neg c5] at hf
            refine lv_iload_n hx hb d_P_leftAt_19 rfl (lv_at hl 1 rfl) ?_
            refine lv_aload_n hx hb d_P_leftAt_20 rfl (lv_at hl 2 rfl) ?_
            refine va_get (D := (dC, dI)) (ci := 4) (v := .ref (a 19)) (C := "GuideSearch$Plan") (T := F_P) (N := 9) hx hb hT i_P hown hK hP 16 rfl rfl 3 (by decide) (hT _ k_101) (fun _ h9 => h9) rfl d_P_leftAt_21 ?_
            refine lv_iload_n hx hb d_P_leftAt_24 rfl (lv_at hl 3 rfl) ?_
            obtain ⟨j6, ej8, hi7, hf⟩ := ix_some hf
            refine xa_aald hx hb hK hP 19 4 rfl rfl ej8 hi7 (if_pos (ix_lt ej8 hi7)) d_P_leftAt_25 ?_
            have hj6 : j6 < 6 := ix_lt ej8 hi7
            refine lv_iload_n hx hb d_P_leftAt_26 rfl (lv_at hl 0 rfl) ?_
            obtain ⟨j10, ej12, hi11, hf⟩ := ix_some hf
            refine xa_lald hx hb hK hP (20 + j6) 0 (x_wei_row cs a st hj6) rfl ej12 hi11 d_P_leftAt_27 ?_
            refine lv_lconst (v := (0 : Int64)) hx hb d_P_leftAt_28 (by decide) ?_
            refine W.lcmp hx hb d_P_leftAt_29 ?_
            refine lv_if_le (tgt := 40) hx hb d_P_leftAt_30 (by decide) (fun c13 => ?_) (fun c13 => ?_)
            · rw [if_pos ((lg_cmp_le _ _).mp c13)] at hf
              refine lv_iconst (v := (0 : Int32)) hx hb d_P_leftAt_40 (by decide) ?_
              refine lv_ior hx hb d_P_leftAt_41 ?_
              refine lv_istore_n (lv' := [(2, .int (v2 ||| (0 : Int32))), (3, .int v1), (0, .ref (a 16)), (1, .int p1)]) hx hb d_P_leftAt_42 rfl hl (by decide) rfl (fun ls hl => ?_)
              refine lv_iinc (v := (v1 + 1)) (lv' := [(3, .int (v1 + 1)), (2, .int (v2 ||| (0 : Int32))), (0, .ref (a 16)), (1, .int p1)]) hx hb d_P_leftAt_43 hl (k := 1) rfl rfl (by decide) rfl (fun ls hl => ?_)
              refine lv_goto (tgt := 4) hx hb d_P_leftAt_46 (by decide) ?_
              exact ih1 (v1 + 1) (v2 ||| (0 : Int32)) hf ls (lv_sub hl [0, 1, 2, 3] rfl)
            · rw [if_neg (mt (lg_cmp_le _ _).mpr c13)] at hf
              refine lv_iload_n hx hb d_P_leftAt_33 rfl (lv_at hl 0 rfl) ?_
              obtain ⟨r15, hr14, hf⟩ := ob hf
              refine ro_calli (va_runSN (As := [.int v1]) (rest := [.int v2]) ⟨hx, hb, hml, hown, hT⟩ (c_G_bit l v1 r15 hr14) ⟨va_cnB 1 hT (gcode k_221) rfl rfl rfl (hN _ k_281) (hT _ k_1) (by decide +kernel) ⟨Nat.le_of_ble_eq_true rfl, Nat.le_of_ble_eq_true rfl⟩, hT _ k_220, trivial⟩ ⟨fun _ _ _ _ q => q, fun _ _ _ => ⟨rfl, trivial⟩⟩ rfl rfl hl.1 rfl (lv_room (Nat.le_of_ble_eq_true rfl)) d_P_leftAt_34 ⟨Nat.le_of_ble_eq_true rfl, Nat.le_of_ble_eq_true rfl⟩) ?_
              refine lv_goto (tgt := 41) hx hb d_P_leftAt_37 (by decide) ?_
              refine lv_ior hx hb d_P_leftAt_41 ?_
              refine lv_istore_n (lv' := [(2, .int (v2 ||| r15)), (3, .int v1), (0, .ref (a 16)), (1, .int p1)]) hx hb d_P_leftAt_42 rfl hl (by decide) rfl (fun ls hl => ?_)
              refine lv_iinc (v := (v1 + 1)) (lv' := [(3, .int (v1 + 1)), (2, .int (v2 ||| r15)), (0, .ref (a 16)), (1, .int p1)]) hx hb d_P_leftAt_43 hl (k := 1) rfl rfl (by decide) rfl (fun ls hl => ?_)
              refine lv_goto (tgt := 4) hx hb d_P_leftAt_46 (by decide) ?_
              exact ih1 (v1 + 1) (v2 ||| r15) hf ls (lv_sub hl [0, 1, 2, 3] rfl)
  exact loop1 _ (1 : Int32) (0 : Int32) hf ls (lv_sub hl [0, 1, 2, 3] rfl)
