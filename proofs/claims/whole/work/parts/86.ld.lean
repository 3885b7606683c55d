theorem d_L_odd_0 : decode method_3_code 0 = .ok (.aload_n 3, 1) := by decide +kernel
theorem d_L_odd_1 : decode method_3_code 1 = .ok (.iconst 0, 1) := by decide +kernel
theorem d_L_odd_2 : decode method_3_code 2 = .ok (.aload_n 0, 1) := by decide +kernel
theorem d_L_odd_3 : decode method_3_code 3 = .ok (.iload_n 1, 1) := by decide +kernel
theorem d_L_odd_4 : decode method_3_code 4 = .ok (.iload_n 2, 1) := by decide +kernel
theorem d_L_odd_5 : decode method_3_code 5 = .ok (.invokevirtual 7, 3) := by decide +kernel
theorem d_L_odd_8 : decode method_3_code 8 = .ok (.lastore, 1) := by decide +kernel
theorem d_L_odd_9 : decode method_3_code 9 = .ok (.goto 7, 3) := by decide +kernel
theorem d_L_odd_12 : decode method_3_code 12 = .ok (.astore 4, 2) := by decide +kernel
theorem d_L_odd_14 : decode method_3_code 14 = .ok (.iconst 1, 1) := by decide +kernel
theorem d_L_odd_15 : decode method_3_code 15 = .ok (.ireturn, 1) := by decide +kernel
theorem d_L_odd_16 : decode method_3_code 16 = .ok (.iconst 0, 1) := by decide +kernel
theorem d_L_odd_17 : decode method_3_code 17 = .ok (.ireturn, 1) := by decide +kernel
set_option maxHeartbeats 4000000 in
set_option maxRecDepth 100000 in
theorem c_L_odd (l : Launch) (dC : Nat → ClassId) (dI : Nat → Nat → Nat) (cs : Nat → ClassId) (a : Nat → Nat) (st : XS) (p1 : Int32) (p2 : Int32) (o : Nat) (f : Nat → Int64) (res : Int64) (hf : x_G_odd st p1 p2 = some res) : Met l (⟨"GuideSearchLaw", "odd", "(LGuideSearch;II[J)I"⟩ : MethodName) (Cond.codeWith (⟨"GuideSearchLaw", "odd", "(LGuideSearch;II[J)I"⟩ : MethodName) method_3_code 5 (some .int) [(0, 9, 12, 13)] :: wg) { frames := 14, cells := 0, slots := 0, locals := 500 } (va_Pc ([.ref (a 0), .int p1, .int p2, .ref o] : List Value) (fun U => x_pre dC dI cs a st U ∧ va_P (dC, dI) vwCl [(o, .inl (cs 0, 1, .inr (.inl f)))] U.heap)) (va_Qi (fun r (_ : Unit) => r = 0) (fun _ t => va_P (dC, dI) vwCl [(o, .inl (cs 0, 1, .inr (.inl (vp_updL f 0 res))))] t.heap) (fun q => q = o)) 0 0 (fun q => q = o) := by
  refine roH_start (cc := method_3_code) (maxL := 5) (ret := (some .int)) (by decide) (Nat.le_of_ble_eq_true rfl) ?_
  intro p e s m below meth c hx hb hr hml htab hT hown hlocks hB ls hl
  obtain ⟨⟨hP, hK, hN⟩, hO⟩ := hB
  replace hown : s.vm.findClass "GuideSearchLaw" = some m.cls := hown
  replace hl : lv_has ls 5 [(0, .ref (a 0)), (1, .int p1), (2, .int p2), (3, .ref o)] := hl
  refine lv_aload_n hx hb d_L_odd_0 rfl (lv_at hl 3 rfl) ?_
  refine lv_iconst (v := (0 : Int32)) hx hb d_L_odd_1 (by decide) ?_
  refine lv_aload_n hx hb d_L_odd_2 rfl (lv_at hl 0 rfl) ?_
  refine lv_iload_n hx hb d_L_odd_3 rfl (lv_at hl 1 rfl) ?_
  refine lv_iload_n hx hb d_L_odd_4 rfl (lv_at hl 2 rfl) ?_
  refine ro_calll (va_runV (C := "GuideSearch") (As := [.int p1, .int p2]) (rest := [.int (0 : Int32), .ref o]) ⟨hx, hb, hml, hown, hT⟩ (c_G_odd l dC dI cs a st p1 p2 res hf) (cwV 2 hT (gV k_422 k_423 k_424 k_1 k_425) rfl rfl rfl (by decide +kernel) ⟨Nat.le_of_ble_eq_true rfl, Nat.le_of_ble_eq_true rfl⟩) (ro_preV hP hK hN (va_recv hK hP (ci := 0) (q0 := 0) rfl rfl)) rfl rfl hl.1 rfl (lv_room (Nat.le_of_ble_eq_true rfl)) d_L_odd_5 ⟨Nat.le_of_ble_eq_true rfl, Nat.le_of_ble_eq_true rfl⟩) ?_
  refine xa_last (j := 0) hx hb hK hO va_D1 va_S.rf 0 0 rfl rfl (by decide) (show vp_in (0 : Int32) 1 from vp_in_nI (n := 0) (N := 1) (by decide) (by decide)) d_L_odd_8 (fun H locs hO hS => ?_)
  refine lv_goto (tgt := 16) hx hb d_L_odd_9 (by decide) ?_
  refine lv_iconst (v := (0 : Int32)) hx hb d_L_odd_16 (by decide) ?_
  exact W.iret hx hb hr (fun t ht _ => ⟨⟨_, (), rfl, rfl, by show va_P _ _ _ t.heap; rw [ht]; exact hO⟩, hS.F ht⟩) hS.2.2 d_L_odd_17
set_option maxHeartbeats 4000000 in
set_option maxRecDepth 100000 in
theorem c_L_oddT (l : Launch) (hfl : l.flags = pinnedFlags ++ [noTraceFlag]) (dC : Nat → ClassId) (dI : Nat → Nat → Nat) (cs : Nat → ClassId) (a : Nat → Nat) (st : XS) (p1 : Int32) (p2 : Int32) (o : Nat) (wv : Int64) (h1 : x_C_knows st p1 = some 1) (h2 : x_K_weight st (x_opn st) = some wv) (h3 : ¬ (0 : Int64) < wv) : Met l (⟨"GuideSearchLaw", "odd", "(LGuideSearch;II[J)I"⟩ : MethodName) (Cond.codeWith (⟨"GuideSearchLaw", "odd", "(LGuideSearch;II[J)I"⟩ : MethodName) method_3_code 5 (some .int) [(0, 9, 12, 13)] :: wg) { frames := 14, cells := 1, slots := 6, locals := 500 } (va_Pc ([.ref (a 0), .int p1, .int p2, .ref o] : List Value) (fun U => x_pre dC dI cs a st U ∧ TA U)) (va_Qi (fun r (_ : Unit) => r = 1) (fun _ _ => True) (fun _ => False)) 1 6 (fun _ => False) := by
  refine roH_start (cc := method_3_code) (maxL := 5) (ret := (some .int)) (by decide) (Nat.le_of_ble_eq_true rfl) ?_
  intro p e s m below meth c hx hb hr hml htab hT hown hlocks hB ls hl
  obtain ⟨⟨hP, hK, hN⟩, hTA⟩ := hB
  replace hown : s.vm.findClass "GuideSearchLaw" = some m.cls := hown
  replace hl : lv_has ls 5 [(0, .ref (a 0)), (1, .int p1), (2, .int p2), (3, .ref o)] := hl
  refine lv_aload_n hx hb d_L_odd_0 rfl (lv_at hl 3 rfl) ?_
  refine lv_iconst (v := (0 : Int32)) hx hb d_L_odd_1 (by decide) ?_
  refine lv_aload_n hx hb d_L_odd_2 rfl (lv_at hl 0 rfl) ?_
  refine lv_iload_n hx hb d_L_odd_3 rfl (lv_at hl 1 rfl) ?_
  refine lv_iload_n hx hb d_L_odd_4 rfl (lv_at hl 2 rfl) ?_
  refine w_callT (C := "GuideSearch") (own := "GuideSearchLaw") (As := [.int p1, .int p2]) (rest := [.int (0 : Int32), .ref o]) (bytes := prog_1_method_8_code) (maxL := 9) (ret := some .long) (k := 1) (n := 6) hx hb (c_G_oddT l hfl dC dI cs a st p1 p2 wv h1 h2 h3) ?_ (fun w hw a' U hW => word_at hW (gcode k_425 w hw).2 (hT w (gcode k_425 w hw).1)) hown (hT _ k_422) (hT _ k_423) (hT _ k_424) (hT _ k_425) (hT _ k_1) (by decide) (by decide) (by decide) (by decide) (by decide) (va_recv hK hP (ci := 0) (q0 := 0) rfl rfl) (fun sig h => ?_) rfl (hl.1.trans hml.symm) (Nat.le_of_ble_eq_true rfl) d_L_odd_5 (fun U hU hW => ⟨rfl, ⟨by rw [hU]; exact hP, va_K.moved hW.alike hK, hN.warm hW⟩, hTA.moved hW (fun q _ => by rw [hU])⟩) htab (by decide) (hT _ k_421) (by decide) (fun H1 ex hz hk => ?_)
  · exact fun a' U g mk q => ⟨q.1, ⟨q.2.1.1, va_K.moved (u := U) (U := U.calling g mk a') (Vm.Alike.refl U.vm) q.2.1.2.1, NW.same (s := U) (U := U.calling g mk a') rfl q.2.1.2.2⟩, TA.moved (s := U) (U := U.calling g mk a') (State.WarmedH.refl U) (fun _ _ => rfl) q.2.2⟩
  · have h9 : (parseMethodDescriptor "(II)J").map (fun d => d.parameters.length) = some 2 := by decide +kernel
    rw [show parseMethodDescriptor "(II)J" = some sig from h] at h9
    exact (Option.some.inj h9).symm
  · refine lv_astore (lv' := [(4, .ref ex), (0, .ref (a 0)), (1, .int p1), (2, .int p2), (3, .ref o)]) hx hb d_L_odd_12 hl (by decide) rfl (fun ls hl => ?_)
    refine lv_iconst (v := (1 : Int32)) hx hb d_L_odd_14 (by decide) ?_
    exact W.iret hx hb hr (fun t ht _ => ⟨⟨_, (), rfl, rfl, trivial⟩, by rw [ht]; exact hz, fun q hq _ => by rw [ht]; exact hk q hq⟩) (fun _ h => absurd h List.not_mem_nil) d_L_odd_15
