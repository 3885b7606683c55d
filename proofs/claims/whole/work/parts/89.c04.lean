set_option maxHeartbeats 4000000 in
set_option maxRecDepth 100000 in
theorem lw_next {p : Program} {l : Launch} {e : Env} {s : State} {m : MethodId} {below : List Frame} {meth : Method} {c : Code} {b L : Nat} {sc : Nat → Int32} {dC : Nat → ClassId} {dI : Nat → Nat → Nat} {cs : Nat → ClassId} {a bb : Nat → Nat} {o : Nat} {Q : State → Prop} (C : LX p l s m c b L sc dC dI cs a bb o) {k j cells slots : Nat} {xs : XS} {ms : MS} {f : Nat → Int64} {H : Heap} {ls : Array Slot} (hk : k < 512) (hj : j + 8 ≤ L) (hc : cells + 1 ≤ 601024 ∧ slots + 6 ≤ 7293034) (hI : LI dC dI cs s a bb o f xs ms H) (hR : REL k xs ms) (hl : lv_has ls 8 [(4, .int (nI j)), (3, .ref o), (2, .ref (bb 0)), (1, .ref (a 0)), (0, .ref b)]) (K : ∀ (xs' : XS) (ms' : MS) (f' : Nat → Int64) (H' : Heap) (ls' : Array Slot), LI dC dI cs s a bb o f' xs' ms' H' → REL (k + 1) xs' ms' → lv_has ls' 8 [(4, .int (nI j)), (3, .ref o), (2, .ref (bb 0)), (1, .ref (a 0)), (0, .ref b)] → W p l e room_1 s m #[Value.ref b] below meth c H' [] (cells + 1) (slots + 6) Q (F0 m 756 ls' [])) : W p l e room_1 s m #[Value.ref b] below meth c H [] cells slots Q (F0 m 444 ls []) := by
  obtain ⟨hx, hb, hml, hown, hT, hK, hN, hX, hbl, hL, hTA, hfl, hia, hib, hxa, hma, hoo⟩ := id C
  obtain ⟨r, xs', ms', e1, e2, hR'⟩ := next2 hR (((sc (j + 1)).toInt64 <<< ((32 : Int32).toInt64 &&& 63)) ||| ((sc (j + 2)).toInt64 &&& (4294967295 : Int64)))
  have hc0 : cells + 0 ≤ room_1.cells ∧ slots + 0 ≤ room_1.slots := ⟨by show cells + 0 ≤ 601024; omega, by show slots + 0 ≤ 7293034; omega⟩
  refine lv_aload_n hx hb d_L_law_444 rfl (lv_at hl 3 rfl) ?_
  refine lv_aload_n hx hb d_L_law_445 rfl (lv_at hl 4 rfl) ?_
  refine lv_iload hx hb d_L_law_446 (lv_at hl 0 rfl) ?_
  refine lv_iconst (v := (1 : Int32)) hx hb d_L_law_448 (by decide) ?_
  refine lv_iadd hx hb d_L_law_449 ?_
  refine lw_sld (n := j + 1) hx hb hX hbl hL hI.2.1 hI.1 (nI_add j 1) (by omega) d_L_law_450 ?_
  refine lv_i2l (v := (sc (j + 1)).toInt64) hx hb d_L_law_451 rfl ?_
  refine lv_bipush (v := (32 : Int32)) hx hb d_L_law_452 (by decide) ?_
  refine lv_lshl (v := ((sc (j + 1)).toInt64 <<< ((32 : Int32).toInt64 &&& 63))) hx hb d_L_law_454 rfl ?_
  refine lv_aload_n hx hb d_L_law_455 rfl (lv_at hl 4 rfl) ?_
  refine lv_iload hx hb d_L_law_456 (lv_at hl 0 rfl) ?_
  refine lv_iconst (v := (2 : Int32)) hx hb d_L_law_458 (by decide) ?_
  refine lv_iadd hx hb d_L_law_459 ?_
  refine lw_sld (n := j + 2) hx hb hX hbl hL hI.2.1 hI.1 (nI_add j 2) (by omega) d_L_law_460 ?_
  refine lv_i2l (v := (sc (j + 2)).toInt64) hx hb d_L_law_461 rfl ?_
  refine lv_ldc2 (v := (4294967295 : Int64)) hx hb hown (hT _ k_730) d_L_law_462 ?_
  refine lv_land hx hb d_L_law_465 ?_
  refine lv_lor hx hb d_L_law_466 ?_
  refine lw_calli (va_runV (C := "GuideSearch") (As := [.long (((sc (j + 1)).toInt64 <<< ((32 : Int32).toInt64 &&& 63)) ||| ((sc (j + 2)).toInt64 &&& (4294967295 : Int64)))]) (rest := []) ⟨hx, hb, hml, hown, hT⟩ (c_G_next l dC dI cs a hia xs (((sc (j + 1)).toInt64 <<< ((32 : Int32).toInt64 &&& 63)) ||| ((sc (j + 2)).toInt64 &&& (4294967295 : Int64))) (r, xs') e1) (cwV 1 hT (gV k_233 k_234 k_235 k_1 k_236) rfl rfl rfl (by decide +kernel) ⟨Nat.le_of_ble_eq_true rfl, Nat.le_of_ble_eq_true rfl⟩) (ro_preV hI.2.2.1 hK hN (va_recv hK hI.2.2.1 (ci := 0) (q0 := 0) rfl rfl)) rfl rfl hl.1 rfl (lv_room (Nat.le_of_ble_eq_true rfl)) d_L_law_467 hc0) (fun q h => (hxa q h).1) (fun t hz hq hP1 => ?_)
  have hI := LI_x hxa hI hz hq hP1
  generalize t.heap = H at hI ⊢
  clear hz hq hP1 t
  refine lv_aload_n hx hb d_L_law_470 rfl (lv_at hl 2 rfl) ?_
  refine lv_aload_n hx hb d_L_law_471 rfl (lv_at hl 4 rfl) ?_
  refine lv_iload hx hb d_L_law_472 (lv_at hl 0 rfl) ?_
  refine lv_iconst (v := (1 : Int32)) hx hb d_L_law_474 (by decide) ?_
  refine lv_iadd hx hb d_L_law_475 ?_
  refine lw_sld (n := j + 1) hx hb hX hbl hL hI.2.1 hI.1 (nI_add j 1) (by omega) d_L_law_476 ?_
  refine lv_i2l (v := (sc (j + 1)).toInt64) hx hb d_L_law_477 rfl ?_
  refine lv_bipush (v := (32 : Int32)) hx hb d_L_law_478 (by decide) ?_
  refine lv_lshl (v := ((sc (j + 1)).toInt64 <<< ((32 : Int32).toInt64 &&& 63))) hx hb d_L_law_480 rfl ?_
  refine lv_aload_n hx hb d_L_law_481 rfl (lv_at hl 4 rfl) ?_
  refine lv_iload hx hb d_L_law_482 (lv_at hl 0 rfl) ?_
  refine lv_iconst (v := (2 : Int32)) hx hb d_L_law_484 (by decide) ?_
  refine lv_iadd hx hb d_L_law_485 ?_
  refine lw_sld (n := j + 2) hx hb hX hbl hL hI.2.1 hI.1 (nI_add j 2) (by omega) d_L_law_486 ?_
  refine lv_i2l (v := (sc (j + 2)).toInt64) hx hb d_L_law_487 rfl ?_
  refine lv_ldc2 (v := (4294967295 : Int64)) hx hb hown (hT _ k_730) d_L_law_488 ?_
  refine lv_land hx hb d_L_law_491 ?_
  refine lv_lor hx hb d_L_law_492 ?_
  refine lw_calli (va_runV (C := "GuideSearchModel") (As := [.long (((sc (j + 1)).toInt64 <<< ((32 : Int32).toInt64 &&& 63)) ||| ((sc (j + 2)).toInt64 &&& (4294967295 : Int64)))]) (rest := [.int r]) ⟨hx, hb, hml, hown, hT⟩ (c_M_next l dC dI cs bb hib ms (((sc (j + 1)).toInt64 <<< ((32 : Int32).toInt64 &&& 63)) ||| ((sc (j + 2)).toInt64 &&& (4294967295 : Int64))) (r, ms') e2) (cwV 1 hT (gV k_629 k_630 k_631 k_7 k_632) rfl rfl rfl (by decide +kernel) ⟨Nat.le_of_ble_eq_true rfl, Nat.le_of_ble_eq_true rfl⟩) (ro_preV hI.2.2.2.1 hK hN (va_recv hK hI.2.2.2.1 (ci := 5) (q0 := 0) rfl rfl)) rfl rfl hl.1 rfl (lv_room (Nat.le_of_ble_eq_true rfl)) d_L_law_493 hc0) (fun q h => (hma q h).1) (fun t hz hq hP1 => ?_)
  have hI := LI_m hxa hma hI hz hq hP1
  generalize t.heap = H at hI ⊢
  clear hz hq hP1 t
  refine lv_icmp_eq (tgt := 756) hx hb d_L_law_496 (by decide) (fun _ => ?_) (fun c9 => absurd rfl c9)
  exact W.widen (k := cells + 1) (n := slots + 6) (by omega) (by omega) (K _ _ _ _ _ hI (REL_up hR') hl)
