set_option maxHeartbeats 4000000 in
set_option maxRecDepth 100000 in
theorem lw_answer {p : Program} {l : Launch} {e : Env} {s : State} {m : MethodId} {below : List Frame} {meth : Method} {c : Code} {b L : Nat} {sc : Nat → Int32} {dC : Nat → ClassId} {dI : Nat → Nat → Nat} {cs : Nat → ClassId} {a bb : Nat → Nat} {o : Nat} {Q : State → Prop} (C : LX p l s m c b L sc dC dI cs a bb o) {k j cells slots : Nat} {xs : XS} {ms : MS} {f : Nat → Int64} {H : Heap} {ls : Array Slot} (hk : k < 512) (hj : j + 8 ≤ L) (hc : cells + 1 ≤ 601024 ∧ slots + 6 ≤ 7293034) (hI : LI dC dI cs s a bb o f xs ms H) (hR : REL k xs ms) (hl : lv_has ls 8 [(4, .int (nI j)), (3, .ref o), (2, .ref (bb 0)), (1, .ref (a 0)), (0, .ref b)]) (K : ∀ (xs' : XS) (ms' : MS) (f' : Nat → Int64) (H' : Heap) (ls' : Array Slot), LI dC dI cs s a bb o f' xs' ms' H' → REL (k + 1) xs' ms' → lv_has ls' 8 [(4, .int (nI j)), (3, .ref o), (2, .ref (bb 0)), (1, .ref (a 0)), (0, .ref b)] → W p l e room_1 s m #[Value.ref b] below meth c H' [] (cells + 1) (slots + 6) Q (F0 m 756 ls' [])) : W p l e room_1 s m #[Value.ref b] below meth c H [] cells slots Q (F0 m 501 ls []) := by
  obtain ⟨hx, hb, hml, hown, hT, hK, hN, hX, hbl, hL, hTA, hfl, hia, hib, hxa, hma, hoo⟩ := id C
  obtain ⟨r, xs', ms', e1, e2, hR'⟩ := answer2 hR (sc (j + 1)) (sc (j + 2))
  have hc0 : cells + 0 ≤ room_1.cells ∧ slots + 0 ≤ room_1.slots := ⟨by show cells + 0 ≤ 601024; omega, by show slots + 0 ≤ 7293034; omega⟩
  refine lv_aload_n hx hb d_L_law_501 rfl (lv_at hl 3 rfl) ?_
  refine lv_aload_n hx hb d_L_law_502 rfl (lv_at hl 4 rfl) ?_
  refine lv_iload hx hb d_L_law_503 (lv_at hl 0 rfl) ?_
  refine lv_iconst (v := (1 : Int32)) hx hb d_L_law_505 (by decide) ?_
  refine lv_iadd hx hb d_L_law_506 ?_
  refine lw_sld (n := j + 1) hx hb hX hbl hL hI.2.1 hI.1 (nI_add j 1) (by omega) d_L_law_507 ?_
  refine lv_aload_n hx hb d_L_law_508 rfl (lv_at hl 4 rfl) ?_
  refine lv_iload hx hb d_L_law_509 (lv_at hl 0 rfl) ?_
  refine lv_iconst (v := (2 : Int32)) hx hb d_L_law_511 (by decide) ?_
  refine lv_iadd hx hb d_L_law_512 ?_
  refine lw_sld (n := j + 2) hx hb hX hbl hL hI.2.1 hI.1 (nI_add j 2) (by omega) d_L_law_513 ?_
  refine lw_calli (va_runV (C := "GuideSearch") (As := [.int (sc (j + 1)), .int (sc (j + 2))]) (rest := []) ⟨hx, hb, hml, hown, hT⟩ (c_G_answer l dC dI cs a hia xs (sc (j + 1)) (sc (j + 2)) (r, xs') e1) (cwV 2 hT (gV k_361 k_362 k_363 k_1 k_364) rfl rfl rfl (by decide +kernel) ⟨Nat.le_of_ble_eq_true rfl, Nat.le_of_ble_eq_true rfl⟩) (ro_preV hI.2.2.1 hK hN (va_recv hK hI.2.2.1 (ci := 0) (q0 := 0) rfl rfl)) rfl rfl hl.1 rfl (lv_room (Nat.le_of_ble_eq_true rfl)) d_L_law_514 hc0) (fun q h => (hxa q h).1) (fun t hz hq hP1 => ?_)
  have hI := LI_x hxa hI hz hq hP1
  generalize t.heap = H at hI ⊢
  clear hz hq hP1 t
  refine lv_aload_n hx hb d_L_law_517 rfl (lv_at hl 2 rfl) ?_
  refine lv_aload_n hx hb d_L_law_518 rfl (lv_at hl 4 rfl) ?_
  refine lv_iload hx hb d_L_law_519 (lv_at hl 0 rfl) ?_
  refine lv_iconst (v := (1 : Int32)) hx hb d_L_law_521 (by decide) ?_
  refine lv_iadd hx hb d_L_law_522 ?_
  refine lw_sld (n := j + 1) hx hb hX hbl hL hI.2.1 hI.1 (nI_add j 1) (by omega) d_L_law_523 ?_
  refine lv_aload_n hx hb d_L_law_524 rfl (lv_at hl 4 rfl) ?_
  refine lv_iload hx hb d_L_law_525 (lv_at hl 0 rfl) ?_
  refine lv_iconst (v := (2 : Int32)) hx hb d_L_law_527 (by decide) ?_
  refine lv_iadd hx hb d_L_law_528 ?_
  refine lw_sld (n := j + 2) hx hb hX hbl hL hI.2.1 hI.1 (nI_add j 2) (by omega) d_L_law_529 ?_
  refine lw_calli (va_runV (C := "GuideSearchModel") (As := [.int (sc (j + 1)), .int (sc (j + 2))]) (rest := [.int r]) ⟨hx, hb, hml, hown, hT⟩ (c_M_answer l dC dI cs bb hib ms (sc (j + 1)) (sc (j + 2)) (r, ms') e2) (cwV 2 hT (gV k_699 k_700 k_701 k_7 k_702) rfl rfl rfl (by decide +kernel) ⟨Nat.le_of_ble_eq_true rfl, Nat.le_of_ble_eq_true rfl⟩) (ro_preV hI.2.2.2.1 hK hN (va_recv hK hI.2.2.2.1 (ci := 5) (q0 := 0) rfl rfl)) rfl rfl hl.1 rfl (lv_room (Nat.le_of_ble_eq_true rfl)) d_L_law_530 hc0) (fun q h => (hma q h).1) (fun t hz hq hP1 => ?_)
  have hI := LI_m hxa hma hI hz hq hP1
  generalize t.heap = H at hI ⊢
  clear hz hq hP1 t
  refine lv_icmp_eq (tgt := 756) hx hb d_L_law_533 (by decide) (fun _ => ?_) (fun c9 => absurd rfl c9)
  exact W.widen (k := cells + 1) (n := slots + 6) (by omega) (by omega) (K _ _ _ _ _ hI (REL_up hR') hl)
