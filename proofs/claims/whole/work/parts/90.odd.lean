theorem k_0 : (Jvm.Cond.initialized "GuideSearchLaw") ∈ wg := wgm (i := 29) (by decide +kernel) rfl
theorem k_418 : (Jvm.Cond.methodLink "GuideSearchLaw" (49 : Nat) ({ cls := "GuideSearchLaw", name := "odd", desc := "(LGuideSearch;II[J)I" } : Jvm.MethodName)) ∈ wg := wgm (i := 447) (by decide +kernel) rfl
theorem k_419 : (Jvm.Cond.static ({ cls := "GuideSearchLaw", name := "odd", desc := "(LGuideSearch;II[J)I" } : Jvm.MethodName)) ∈ wg := wgm (i := 448) (by decide +kernel) rfl
set_option maxRecDepth 20000 in
theorem k_420 : (Jvm.Cond.codeWith ({ cls := "GuideSearchLaw", name := "odd", desc := "(LGuideSearch;II[J)I" } : Jvm.MethodName) method_3_code (5 : Nat) (Option.some Jvm.ClassFile.FieldType.int) [((0 : Nat), (9 : Nat), (12 : Nat), (13 : Nat))]) ∈ wg := wgm (i := 449) rfl rfl
theorem k_584 : (Jvm.Cond.methodLink "GuideSearchLaw" (55 : Nat) ({ cls := "GuideSearchModel", name := "thrown", desc := "()I" } : Jvm.MethodName)) ∈ wg := wgm (i := 613) (by decide +kernel) rfl
theorem k_585 : (Jvm.Cond.instanceMethod ({ cls := "GuideSearchModel", name := "thrown", desc := "()I" } : Jvm.MethodName)) ∈ wg := wgm (i := 614) (by decide +kernel) rfl
theorem k_586 : (Jvm.Cond.selects "GuideSearchModel" ({ cls := "GuideSearchModel", name := "thrown", desc := "()I" } : Jvm.MethodName) ({ cls := "GuideSearchModel", name := "thrown", desc := "()I" } : Jvm.MethodName)) ∈ wg := wgm (i := 615) (by decide +kernel) rfl
set_option maxRecDepth 20000 in
theorem k_587 : (Jvm.Cond.code ({ cls := "GuideSearchModel", name := "thrown", desc := "()I" } : Jvm.MethodName) prog_7_method_2_code (1 : Nat) (Option.some Jvm.ClassFile.FieldType.int)) ∈ wg := wgm (i := 616) rfl rfl
theorem k_703 : (Jvm.Cond.methodLink "GuideSearchLaw" (54 : Nat) ({ cls := "GuideSearchModel", name := "odd", desc := "(II)J" } : Jvm.MethodName)) ∈ wg := wgm (i := 732) (by decide +kernel) rfl
theorem k_704 : (Jvm.Cond.instanceMethod ({ cls := "GuideSearchModel", name := "odd", desc := "(II)J" } : Jvm.MethodName)) ∈ wg := wgm (i := 733) (by decide +kernel) rfl
theorem k_705 : (Jvm.Cond.selects "GuideSearchModel" ({ cls := "GuideSearchModel", name := "odd", desc := "(II)J" } : Jvm.MethodName) ({ cls := "GuideSearchModel", name := "odd", desc := "(II)J" } : Jvm.MethodName)) ∈ wg := wgm (i := 734) (by decide +kernel) rfl
set_option maxRecDepth 20000 in
theorem k_706 : (Jvm.Cond.code ({ cls := "GuideSearchModel", name := "odd", desc := "(II)J" } : Jvm.MethodName) prog_7_method_31_code (7 : Nat) (Option.some Jvm.ClassFile.FieldType.long)) ∈ wg := wgm (i := 735) rfl rfl
set_option maxHeartbeats 4000000 in
set_option maxRecDepth 100000 in
theorem lw_odd {p : Program} {l : Launch} {e : Env} {s : State} {m : MethodId} {below : List Frame} {meth : Method} {c : Code} {b L : Nat} {sc : Nat → Int32} {dC : Nat → ClassId} {dI : Nat → Nat → Nat} {cs : Nat → ClassId} {a bb : Nat → Nat} {o : Nat} {Q : State → Prop} (C : LX p l s m c b L sc dC dI cs a bb o) {k j cells slots : Nat} {xs : XS} {ms : MS} {f : Nat → Int64} {H : Heap} {ls : Array Slot} (hk : k < 512) (hj : j + 8 ≤ L) (hc : cells + 1 ≤ 601024 ∧ slots + 6 ≤ 7293034) (hI : LI dC dI cs s a bb o f xs ms H) (hR : REL k xs ms) (hl : lv_has ls 8 [(4, .int (nI j)), (3, .ref o), (2, .ref (bb 0)), (1, .ref (a 0)), (0, .ref b)]) (K : ∀ (xs' : XS) (ms' : MS) (f' : Nat → Int64) (H' : Heap) (ls' : Array Slot), LI dC dI cs s a bb o f' xs' ms' H' → REL (k + 1) xs' ms' → lv_has ls' 8 [(4, .int (nI j)), (3, .ref o), (2, .ref (bb 0)), (1, .ref (a 0)), (0, .ref b)] → W p l e room_1 s m #[Value.ref b] below meth c H' [] (cells + 1) (slots + 6) Q (F0 m 756 ls' [])) : W p l e room_1 s m #[Value.ref b] below meth c H [] cells slots Q (F0 m 538 ls []) := by
  obtain ⟨hx, hb, hml, hown, hT, hK, hN, hX, hbl, hL, hTA, hfl, hia, hib, hxa, hma, hoo⟩ := id C
  obtain ⟨r, ms', e2, hR', h3⟩ := odd2 hR (sc (j + 1)) (sc (j + 2))
  have hc0 : cells + 0 ≤ room_1.cells ∧ slots + 0 ≤ room_1.slots := ⟨by show cells + 0 ≤ 601024; omega, by show slots + 0 ≤ 7293034; omega⟩
  have hc1 : cells + 1 ≤ room_1.cells ∧ slots + 6 ≤ room_1.slots := ⟨by show cells + 1 ≤ 601024; omega, by show slots + 6 ≤ 7293034; omega⟩
  have hws : ∀ w ∈ (Cond.codeWith (⟨"GuideSearchLaw", "odd", "(LGuideSearch;II[J)I"⟩ : MethodName) method_3_code 5 (some .int) [(0, 9, 12, 13)] :: wg), ∀ (a' : Array Value) (U : State), s.WarmedH U.vm → w.before a' U = true := fun w hw a' U hW => word_at hW (gcode k_420 w hw).2 (hT w (gcode k_420 w hw).1)
  refine lv_aload_n hx hb d_L_law_538 rfl (lv_at hl 3 rfl) ?_
  refine lv_aload_n hx hb d_L_law_539 rfl (lv_at hl 4 rfl) ?_
  refine lv_iload hx hb d_L_law_540 (lv_at hl 0 rfl) ?_
  refine lv_iconst (v := (1 : Int32)) hx hb d_L_law_542 (by decide) ?_
  refine lv_iadd hx hb d_L_law_543 ?_
  refine lw_sld (n := j + 1) hx hb hX hbl hL hI.2.1 hI.1 (nI_add j 1) (by omega) d_L_law_544 ?_
  refine lv_aload_n hx hb d_L_law_545 rfl (lv_at hl 4 rfl) ?_
  refine lv_iload hx hb d_L_law_546 (lv_at hl 0 rfl) ?_
  refine lv_iconst (v := (2 : Int32)) hx hb d_L_law_548 (by decide) ?_
  refine lv_iadd hx hb d_L_law_549 ?_
  refine lw_sld (n := j + 2) hx hb hX hbl hL hI.2.1 hI.1 (nI_add j 2) (by omega) d_L_law_550 ?_
  refine lv_aload_n hx hb d_L_law_551 rfl (lv_at hl 1 rfl) ?_
  have normal : x_G_odd xs (sc (j + 1)) (sc (j + 2)) = some r → m_code ms' = 0 → W p l e room_1 s m #[Value.ref b] below meth c H [] cells slots Q (F0 m 552 ls [.ref o, .int (sc (j + 2)), .int (sc (j + 1)), .ref (a 0)]) := by
    intro ho hm0
    refine lw_calli (va_runSH (As := [.ref (a 0), .int (sc (j + 1)), .int (sc (j + 2)), .ref o]) (rest := []) (n := 4) ⟨hx, hb, hml, hown, hT⟩ (c_L_odd l dC dI cs a xs (sc (j + 1)) (sc (j + 2)) o f r ho) hws List.mem_cons_self (hT _ k_418) (hT _ k_419) (hT _ k_0) (by decide) (by decide +kernel) rfl rfl (Nat.le_of_ble_eq_true rfl) (Nat.le_of_ble_eq_true rfl) ⟨fun a' U g mk q => ⟨q.1, ⟨q.2.1.1, va_K.moved (u := U) (U := U.calling g mk a') (Vm.Alike.refl U.vm) q.2.1.2.1, NW.same (s := U) (U := U.calling g mk a') rfl q.2.1.2.2⟩, q.2.2⟩, fun U hU hW => ⟨rfl, ⟨by rw [hU]; exact hI.2.2.1, va_K.moved hW.alike hK, hN.warm hW⟩, by rw [hU]; exact hI.2.2.2.2⟩⟩ rfl rfl hl.1 rfl (lv_room (Nat.le_of_ble_eq_true rfl)) d_L_law_552 hc0) (fun q h => by rw [h]; exact hoo) (fun t hz hq hP1 => ?_)
    have hI := LI_o hxa hma hoo hI hz hq hP1
    generalize t.heap = H at hI ⊢
    clear hz hq hP1 t
    refine lv_istore (lv' := [(5, .int (0 : Int32)), (4, .int (nI j)), (3, .ref o), (2, .ref (bb 0)), (1, .ref (a 0)), (0, .ref b)]) hx hb d_L_law_555 hl (by decide) rfl (fun ls hl => ?_)
    refine lv_aload_n hx hb d_L_law_557 rfl (lv_at hl 3 rfl) ?_
    refine lv_aload_n hx hb d_L_law_558 rfl (lv_at hl 5 rfl) ?_
    refine lv_iload hx hb d_L_law_559 (lv_at hl 1 rfl) ?_
    refine lv_iconst (v := (1 : Int32)) hx hb d_L_law_561 (by decide) ?_
    refine lv_iadd hx hb d_L_law_562 ?_
    refine lw_sld (n := j + 1) hx hb hX hbl hL hI.2.1 hI.1 (nI_add j 1) (by omega) d_L_law_563 ?_
    refine lv_aload_n hx hb d_L_law_564 rfl (lv_at hl 5 rfl) ?_
    refine lv_iload hx hb d_L_law_565 (lv_at hl 1 rfl) ?_
    refine lv_iconst (v := (2 : Int32)) hx hb d_L_law_567 (by decide) ?_
    refine lv_iadd hx hb d_L_law_568 ?_
    refine lw_sld (n := j + 2) hx hb hX hbl hL hI.2.1 hI.1 (nI_add j 2) (by omega) d_L_law_569 ?_
    refine lw_calll (va_runV (C := "GuideSearchModel") (As := [.int (sc (j + 1)), .int (sc (j + 2))]) (rest := []) ⟨hx, hb, hml, hown, hT⟩ (c_M_odd l dC dI cs bb hib ms (sc (j + 1)) (sc (j + 2)) (r, ms') e2) (cwV 2 hT (gV k_703 k_704 k_705 k_7 k_706) rfl rfl rfl (by decide +kernel) ⟨Nat.le_of_ble_eq_true rfl, Nat.le_of_ble_eq_true rfl⟩) (ro_preV hI.2.2.2.1 hK hN (va_recv hK hI.2.2.2.1 (ci := 5) (q0 := 0) rfl rfl)) rfl rfl hl.1 rfl (lv_room (Nat.le_of_ble_eq_true rfl)) d_L_law_570 hc0) (fun q h => (hma q h).1) (fun t hz hq hP1 => ?_)
    have hI := LI_m hxa hma hI hz hq hP1
    generalize t.heap = H at hI ⊢
    clear hz hq hP1 t
    refine lv_lstore (lv' := [(6, .long r), (5, .int (0 : Int32)), (4, .int (nI j)), (3, .ref o), (2, .ref (bb 0)), (1, .ref (a 0)), (0, .ref b)]) hx hb d_L_law_573 hl (by decide) rfl (fun ls hl => ?_)
    refine lv_aload_n hx hb d_L_law_575 rfl (lv_at hl 4 rfl) ?_
    refine ro_calli (va_runV (C := "GuideSearchModel") (As := []) (rest := []) ⟨hx, hb, hml, hown, hT⟩ (c_M_thrown l dC dI cs bb ms' (m_code ms') rfl) (cwV 0 hT (gV k_584 k_585 k_586 k_7 k_587) rfl rfl rfl (by decide +kernel) ⟨Nat.le_of_ble_eq_true rfl, Nat.le_of_ble_eq_true rfl⟩) (ro_preV hI.2.2.2.1 hK hN (va_recv hK hI.2.2.2.1 (ci := 5) (q0 := 0) rfl rfl)) rfl rfl hl.1 rfl (lv_room (Nat.le_of_ble_eq_true rfl)) d_L_law_576 hc0) ?_
    refine lv_iload hx hb d_L_law_579 (lv_at hl 1 rfl) ?_
    refine lv_icmp_eq (tgt := 586) hx hb d_L_law_581 (by decide) (fun _ => ?_) (fun c9 => absurd hm0 c9)
    refine lv_iload hx hb d_L_law_586 (lv_at hl 1 rfl) ?_
    refine lv_if_ne (tgt := 602) hx hb d_L_law_588 (by decide) (fun c9 => absurd rfl c9) (fun _ => ?_)
    refine lv_aload_n hx hb d_L_law_591 rfl (lv_at hl 3 rfl) ?_
    refine lv_iconst (v := (0 : Int32)) hx hb d_L_law_592 (by decide) ?_
    refine xa_lald (j := 0) hx hb hK hI.2.2.2.2 0 0 rfl rfl (by decide) (show vp_in (0 : Int32) 1 from vp_in_nI (n := 0) (N := 1) (by decide) (by decide)) d_L_law_593 ?_
    refine lv_lload hx hb d_L_law_594 (lv_at hl 0 rfl) ?_
    refine W.lcmp hx hb d_L_law_596 ?_
    refine lv_if_eq (tgt := 602) hx hb d_L_law_597 (by decide) (fun _ => ?_) (fun c9 => absurd ((lg_cmp_eq _ _).mpr pk_uLs) c9)
    refine lv_goto (tgt := 756) hx hb d_L_law_602 (by decide) ?_
    exact W.widen (k := cells + 1) (n := slots + 6) (by omega) (by omega) (K _ _ _ _ _ hI (REL_up hR') (lv_sub hl [2, 3, 4, 5, 6] rfl))
  rcases h3 with ⟨h1, h2, h3⟩ | ⟨h1, ⟨w, h2, h3⟩, hm0⟩ | ⟨h1, ⟨w, v, d, h2, h3, h4, h5, h6, h7, h8⟩, h9⟩
  · exact normal (by unfold x_G_odd; rw [h1, sb, if_pos rfl, h2]) h3
  · have hc2 : (cells + 1) + 0 ≤ room_1.cells ∧ (slots + 6) + 0 ≤ room_1.slots := hc1
    refine lw_calli (va_runSH (As := [.ref (a 0), .int (sc (j + 1)), .int (sc (j + 2)), .ref o]) (rest := []) (n := 4) ⟨hx, hb, hml, hown, hT⟩ (c_L_oddT l hfl dC dI cs a xs (sc (j + 1)) (sc (j + 2)) o w h1 h2 (Int64.not_lt.mpr h3)) hws List.mem_cons_self (hT _ k_418) (hT _ k_419) (hT _ k_0) (by decide) (by decide +kernel) rfl rfl (Nat.le_of_ble_eq_true rfl) (Nat.le_of_ble_eq_true rfl) ⟨fun a' U g mk q => ⟨q.1, ⟨q.2.1.1, va_K.moved (u := U) (U := U.calling g mk a') (Vm.Alike.refl U.vm) q.2.1.2.1, NW.same (s := U) (U := U.calling g mk a') rfl q.2.1.2.2⟩, TA.moved (s := U) (U := U.calling g mk a') (State.WarmedH.refl U) (fun _ _ => rfl) q.2.2⟩, fun U hU hW => ⟨rfl, ⟨by rw [hU]; exact hI.2.2.1, va_K.moved hW.alike hK, hN.warm hW⟩, hTA.moved hW (fun q hq9 => by rw [hU]; exact hI.2.1 q hq9)⟩⟩ rfl rfl hl.1 rfl (lv_room (Nat.le_of_ble_eq_true rfl)) d_L_law_552 hc1) (fun q h => absurd h id) (fun t hz hq _ => ?_)
    have hI := LI_n hI hz (fun q h => hq q h id)
    generalize t.heap = H at hI ⊢
    clear hz hq t
    refine lv_istore (lv' := [(5, .int (1 : Int32)), (4, .int (nI j)), (3, .ref o), (2, .ref (bb 0)), (1, .ref (a 0)), (0, .ref b)]) hx hb d_L_law_555 hl (by decide) rfl (fun ls hl => ?_)
    refine lv_aload_n hx hb d_L_law_557 rfl (lv_at hl 3 rfl) ?_
    refine lv_aload_n hx hb d_L_law_558 rfl (lv_at hl 5 rfl) ?_
    refine lv_iload hx hb d_L_law_559 (lv_at hl 1 rfl) ?_
    refine lv_iconst (v := (1 : Int32)) hx hb d_L_law_561 (by decide) ?_
    refine lv_iadd hx hb d_L_law_562 ?_
    refine lw_sld (n := j + 1) hx hb hX hbl hL hI.2.1 hI.1 (nI_add j 1) (by omega) d_L_law_563 ?_
    refine lv_aload_n hx hb d_L_law_564 rfl (lv_at hl 5 rfl) ?_
    refine lv_iload hx hb d_L_law_565 (lv_at hl 1 rfl) ?_
    refine lv_iconst (v := (2 : Int32)) hx hb d_L_law_567 (by decide) ?_
    refine lv_iadd hx hb d_L_law_568 ?_
    refine lw_sld (n := j + 2) hx hb hX hbl hL hI.2.1 hI.1 (nI_add j 2) (by omega) d_L_law_569 ?_
    refine lw_calll (va_runV (C := "GuideSearchModel") (As := [.int (sc (j + 1)), .int (sc (j + 2))]) (rest := []) ⟨hx, hb, hml, hown, hT⟩ (c_M_odd l dC dI cs bb hib ms (sc (j + 1)) (sc (j + 2)) (r, ms') e2) (cwV 2 hT (gV k_703 k_704 k_705 k_7 k_706) rfl rfl rfl (by decide +kernel) ⟨Nat.le_of_ble_eq_true rfl, Nat.le_of_ble_eq_true rfl⟩) (ro_preV hI.2.2.2.1 hK hN (va_recv hK hI.2.2.2.1 (ci := 5) (q0 := 0) rfl rfl)) rfl rfl hl.1 rfl (lv_room (Nat.le_of_ble_eq_true rfl)) d_L_law_570 hc2) (fun q h => (hma q h).1) (fun t hz hq hP1 => ?_)
    have hI := LI_m hxa hma hI hz hq hP1
    generalize t.heap = H at hI ⊢
    clear hz hq hP1 t
    refine lv_lstore (lv' := [(6, .long r), (5, .int (1 : Int32)), (4, .int (nI j)), (3, .ref o), (2, .ref (bb 0)), (1, .ref (a 0)), (0, .ref b)]) hx hb d_L_law_573 hl (by decide) rfl (fun ls hl => ?_)
    refine lv_aload_n hx hb d_L_law_575 rfl (lv_at hl 4 rfl) ?_
    refine ro_calli (va_runV (C := "GuideSearchModel") (As := []) (rest := []) ⟨hx, hb, hml, hown, hT⟩ (c_M_thrown l dC dI cs bb ms' (m_code ms') rfl) (cwV 0 hT (gV k_584 k_585 k_586 k_7 k_587) rfl rfl rfl (by decide +kernel) ⟨Nat.le_of_ble_eq_true rfl, Nat.le_of_ble_eq_true rfl⟩) (ro_preV hI.2.2.2.1 hK hN (va_recv hK hI.2.2.2.1 (ci := 5) (q0 := 0) rfl rfl)) rfl rfl hl.1 rfl (lv_room (Nat.le_of_ble_eq_true rfl)) d_L_law_576 hc2) ?_
    refine lv_iload hx hb d_L_law_579 (lv_at hl 1 rfl) ?_
    refine lv_icmp_eq (tgt := 586) hx hb d_L_law_581 (by decide) (fun _ => ?_) (fun c9 => absurd hm0 c9)
    refine lv_iload hx hb d_L_law_586 (lv_at hl 1 rfl) ?_
    refine lv_if_ne (tgt := 602) hx hb d_L_law_588 (by decide) (fun _ => ?_) (fun c9 => absurd c9 (by decide))
    refine lv_goto (tgt := 756) hx hb d_L_law_602 (by decide) ?_
    exact K _ _ _ _ _ hI (REL_up hR') (lv_sub hl [2, 3, 4, 5, 6] rfl)
  · refine normal ?_ h9
    unfold x_G_odd
    rw [h1, sb, if_neg (by decide), h2, sb, if_pos (Int64.not_le.mp h3), h4, sb, h5, sb, if_pos (Int64.not_le.mp h6), h8]
    by_cases z : (sc (j + 2)) = 0
    · rw [if_pos z, if_pos z, dzl_n h7]
    · rw [if_neg z, if_neg z, dzl_n h7]
