set_option maxHeartbeats 4000000 in
set_option maxRecDepth 100000 in
theorem lw_cost {p : Program} {l : Launch} {e : Env} {s : State} {m : MethodId} {below : List Frame} {meth : Method} {c : Code} {b L : Nat} {sc : Nat → Int32} {dC : Nat → ClassId} {dI : Nat → Nat → Nat} {cs : Nat → ClassId} {a bb : Nat → Nat} {o : Nat} {Q : State → Prop} (C : LX p l s m c b L sc dC dI cs a bb o) {k j cells slots : Nat} {xs : XS} {ms : MS} {f : Nat → Int64} {H : Heap} {ls : Array Slot} (hk : k < 512) (hj : j + 8 ≤ L) (hc : cells + 1 ≤ 601024 ∧ slots + 6 ≤ 7293034) (hI : LI dC dI cs s a bb o f xs ms H) (hR : REL k xs ms) (hl : lv_has ls 8 [(4, .int (nI j)), (3, .ref o), (2, .ref (bb 0)), (1, .ref (a 0)), (0, .ref b)]) (K : ∀ (xs' : XS) (ms' : MS) (f' : Nat → Int64) (H' : Heap) (ls' : Array Slot), LI dC dI cs s a bb o f' xs' ms' H' → REL (k + 1) xs' ms' → lv_has ls' 8 [(4, .int (nI j)), (3, .ref o), (2, .ref (bb 0)), (1, .ref (a 0)), (0, .ref b)] → W p l e room_1 s m #[Value.ref b] below meth c H' [] (cells + 1) (slots + 6) Q (F0 m 756 ls' [])) : W p l e room_1 s m #[Value.ref b] below meth c H [] cells slots Q (F0 m 618 ls []) := by
  obtain ⟨hx, hb, hml, hown, hT, hK, hN, hX, hbl, hL, hTA, hfl, hia, hib, hxa, hma, hoo⟩ := id C
  obtain ⟨r, e1, e2⟩ := cost2 hR
  have hR' := REL_code hR 0
  have hc0 : cells + 0 ≤ room_1.cells ∧ slots + 0 ≤ room_1.slots := ⟨by show cells + 0 ≤ 601024; omega, by show slots + 0 ≤ 7293034; omega⟩
  refine lv_aload_n hx hb d_L_law_618 rfl (lv_at hl 3 rfl) ?_
  refine ro_calll (va_runV (C := "GuideSearch") (As := []) (rest := []) ⟨hx, hb, hml, hown, hT⟩ (c_G_cost l dC dI cs a xs r e1) (cwV 0 hT (gV k_373 k_374 k_375 k_1 k_376) rfl rfl rfl (by decide +kernel) ⟨Nat.le_of_ble_eq_true rfl, Nat.le_of_ble_eq_true rfl⟩) (ro_preV hI.2.2.1 hK hN (va_recv hK hI.2.2.1 (ci := 0) (q0 := 0) rfl rfl)) rfl rfl hl.1 rfl (lv_room (Nat.le_of_ble_eq_true rfl)) d_L_law_619 hc0) ?_
  refine lv_aload_n hx hb d_L_law_622 rfl (lv_at hl 2 rfl) ?_
  refine lw_calll (va_runV (C := "GuideSearchModel") (As := []) (rest := [.long r]) ⟨hx, hb, hml, hown, hT⟩ (c_M_cost l dC dI cs bb hib ms (r, (m_code_s ms 0)) e2) (cwV 0 hT (gV k_714 k_715 k_716 k_7 k_717) rfl rfl rfl (by decide +kernel) ⟨Nat.le_of_ble_eq_true rfl, Nat.le_of_ble_eq_true rfl⟩) (ro_preV hI.2.2.2.1 hK hN (va_recv hK hI.2.2.2.1 (ci := 5) (q0 := 0) rfl rfl)) rfl rfl hl.1 rfl (lv_room (Nat.le_of_ble_eq_true rfl)) d_L_law_623 hc0) (fun q h => (hma q h).1) (fun t hz hq hP1 => ?_)
  have hI := LI_m hxa hma hI hz hq hP1
  generalize t.heap = H at hI ⊢
  clear hz hq hP1 t
  refine W.lcmp hx hb d_L_law_626 ?_
  refine lv_if_eq (tgt := 756) hx hb d_L_law_627 (by decide) (fun _ => ?_) (fun c9 => absurd ((lg_cmp_eq _ _).mpr rfl) c9)
  exact W.widen (k := cells + 1) (n := slots + 6) (by omega) (by omega) (K _ _ _ _ _ hI (REL_up hR') hl)
