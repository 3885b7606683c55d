set_option maxHeartbeats 4000000 in
set_option maxRecDepth 100000 in
theorem lw_odds {p : Program} {l : Launch} {e : Env} {s : State} {m : MethodId} {below : List Frame} {meth : Method} {c : Code} {b L : Nat} {sc : Nat → Int32} {dC : Nat → ClassId} {dI : Nat → Nat → Nat} {cs : Nat → ClassId} {a bb : Nat → Nat} {o : Nat} {Q : State → Prop} (C : LX p l s m c b L sc dC dI cs a bb o) {k j cells slots : Nat} {xs : XS} {ms : MS} {f : Nat → Int64} {H : Heap} {ls : Array Slot} (hk : k < 512) (hj : j + 8 ≤ L) (hc : cells + 1 ≤ 601024 ∧ slots + 6 ≤ 7293034) (hI : LI dC dI cs s a bb o f xs ms H) (hR : REL k xs ms) (hl : lv_has ls 8 [(4, .int (nI j)), (3, .ref o), (2, .ref (bb 0)), (1, .ref (a 0)), (0, .ref b)]) (K : ∀ (xs' : XS) (ms' : MS) (f' : Nat → Int64) (H' : Heap) (ls' : Array Slot), LI dC dI cs s a bb o f' xs' ms' H' → REL (k + 1) xs' ms' → lv_has ls' 8 [(4, .int (nI j)), (3, .ref o), (2, .ref (bb 0)), (1, .ref (a 0)), (0, .ref b)] → W p l e room_1 s m #[Value.ref b] below meth c H' [] (cells + 1) (slots + 6) Q (F0 m 756 ls' [])) : W p l e room_1 s m #[Value.ref b] below meth c H [] cells slots Q (F0 m 266 ls []) := by
  obtain ⟨hx, hb, hml, hown, hT, hK, hN, hX, hbl, hL, hTA, hfl, hia, hib, hxa, hma, hoo⟩ := id C
  obtain ⟨r, xs', ms', e1, e2, hR'⟩ := odds2 hR (sc (j + 1)) (sc (j + 2)) (sc (j + 3)) (((sc (j + 4)).toInt64 <<< ((32 : Int32).toInt64 &&& 63)) ||| ((sc (j + 5)).toInt64 &&& (4294967295 : Int64))) (((sc (j + 6)).toInt64 <<< ((32 : Int32).toInt64 &&& 63)) ||| ((sc (j + 7)).toInt64 &&& (4294967295 : Int64)))
  have hc0 : cells + 0 ≤ room_1.cells ∧ slots + 0 ≤ room_1.slots := ⟨by show cells + 0 ≤ 601024; omega, by show slots + 0 ≤ 7293034; omega⟩
  refine lv_aload_n hx hb d_L_law_266 rfl (lv_at hl 3 rfl) ?_
  refine lv_aload_n hx hb d_L_law_267 rfl (lv_at hl 4 rfl) ?_
  refine lv_iload hx hb d_L_law_268 (lv_at hl 0 rfl) ?_
  refine lv_iconst (v := (1 : Int32)) hx hb d_L_law_270 (by decide) ?_
  refine lv_iadd hx hb d_L_law_271 ?_
  refine lw_sld (n := j + 1) hx hb hX hbl hL hI.2.1 hI.1 (nI_add j 1) (by omega) d_L_law_272 ?_
  refine lv_aload_n hx hb d_L_law_273 rfl (lv_at hl 4 rfl) ?_
  refine lv_iload hx hb d_L_law_274 (lv_at hl 0 rfl) ?_
  refine lv_iconst (v := (2 : Int32)) hx hb d_L_law_276 (by decide) ?_
  refine lv_iadd hx hb d_L_law_277 ?_
  refine lw_sld (n := j + 2) hx hb hX hbl hL hI.2.1 hI.1 (nI_add j 2) (by omega) d_L_law_278 ?_
  refine lv_aload_n hx hb d_L_law_279 rfl (lv_at hl 4 rfl) ?_
  refine lv_iload hx hb d_L_law_280 (lv_at hl 0 rfl) ?_
  refine lv_iconst (v := (3 : Int32)) hx hb d_L_law_282 (by decide) ?_
  refine lv_iadd hx hb d_L_law_283 ?_
  refine lw_sld (n := j + 3) hx hb hX hbl hL hI.2.1 hI.1 (nI_add j 3) (by omega) d_L_law_284 ?_
  refine lv_aload_n hx hb d_L_law_285 rfl (lv_at hl 4 rfl) ?_
  refine lv_iload hx hb d_L_law_286 (lv_at hl 0 rfl) ?_
  refine lv_iconst (v := (4 : Int32)) hx hb d_L_law_288 (by decide) ?_
  refine lv_iadd hx hb d_L_law_289 ?_
  refine lw_sld (n := j + 4) hx hb hX hbl hL hI.2.1 hI.1 (nI_add j 4) (by omega) d_L_law_290 ?_
  refine lv_i2l (v := (sc (j + 4)).toInt64) hx hb d_L_law_291 rfl ?_
  refine lv_bipush (v := (32 : Int32)) hx hb d_L_law_292 (by decide) ?_
  refine lv_lshl (v := ((sc (j + 4)).toInt64 <<< ((32 : Int32).toInt64 &&& 63))) hx hb d_L_law_294 rfl ?_
  refine lv_aload_n hx hb d_L_law_295 rfl (lv_at hl 4 rfl) ?_
  refine lv_iload hx hb d_L_law_296 (lv_at hl 0 rfl) ?_
  refine lv_iconst (v := (5 : Int32)) hx hb d_L_law_298 (by decide) ?_
  refine lv_iadd hx hb d_L_law_299 ?_
  refine lw_sld (n := j + 5) hx hb hX hbl hL hI.2.1 hI.1 (nI_add j 5) (by omega) d_L_law_300 ?_
  refine lv_i2l (v := (sc (j + 5)).toInt64) hx hb d_L_law_301 rfl ?_
  refine lv_ldc2 (v := (4294967295 : Int64)) hx hb hown (hT _ k_730) d_L_law_302 ?_
  refine lv_land hx hb d_L_law_305 ?_
  refine lv_lor hx hb d_L_law_306 ?_
  refine lv_aload_n hx hb d_L_law_307 rfl (lv_at hl 4 rfl) ?_
  refine lv_iload hx hb d_L_law_308 (lv_at hl 0 rfl) ?_
  refine lv_bipush (v := (6 : Int32)) hx hb d_L_law_310 (by decide) ?_
  refine lv_iadd hx hb d_L_law_312 ?_
  refine lw_sld (n := j + 6) hx hb hX hbl hL hI.2.1 hI.1 (nI_add j 6) (by omega) d_L_law_313 ?_
  refine lv_i2l (v := (sc (j + 6)).toInt64) hx hb d_L_law_314 rfl ?_
  refine lv_bipush (v := (32 : Int32)) hx hb d_L_law_315 (by decide) ?_
  refine lv_lshl (v := ((sc (j + 6)).toInt64 <<< ((32 : Int32).toInt64 &&& 63))) hx hb d_L_law_317 rfl ?_
  refine lv_aload_n hx hb d_L_law_318 rfl (lv_at hl 4 rfl) ?_
  refine lv_iload hx hb d_L_law_319 (lv_at hl 0 rfl) ?_
  refine lv_bipush (v := (7 : Int32)) hx hb d_L_law_321 (by decide) ?_
  refine lv_iadd hx hb d_L_law_323 ?_
  refine lw_sld (n := j + 7) hx hb hX hbl hL hI.2.1 hI.1 (nI_add j 7) (by omega) d_L_law_324 ?_
  refine lv_i2l (v := (sc (j + 7)).toInt64) hx hb d_L_law_325 rfl ?_
  refine lv_ldc2 (v := (4294967295 : Int64)) hx hb hown (hT _ k_730) d_L_law_326 ?_
  refine lv_land hx hb d_L_law_329 ?_
  refine lv_lor hx hb d_L_law_330 ?_
  refine lw_calli (va_runV (C := "GuideSearch") (As := [.int (sc (j + 1)), .int (sc (j + 2)), .int (sc (j + 3)), .long (((sc (j + 4)).toInt64 <<< ((32 : Int32).toInt64 &&& 63)) ||| ((sc (j + 5)).toInt64 &&& (4294967295 : Int64))), .long (((sc (j + 6)).toInt64 <<< ((32 : Int32).toInt64 &&& 63)) ||| ((sc (j + 7)).toInt64 &&& (4294967295 : Int64)))]) (rest := []) ⟨hx, hb, hml, hown, hT⟩ (c_G_odds l dC dI cs a hia xs (sc (j + 1)) (sc (j + 2)) (sc (j + 3)) (((sc (j + 4)).toInt64 <<< ((32 : Int32).toInt64 &&& 63)) ||| ((sc (j + 5)).toInt64 &&& (4294967295 : Int64))) (((sc (j + 6)).toInt64 <<< ((32 : Int32).toInt64 &&& 63)) ||| ((sc (j + 7)).toInt64 &&& (4294967295 : Int64))) (r, xs') e1) (cwV 5 hT (gV k_168 k_169 k_170 k_1 k_171) rfl rfl rfl (by decide +kernel) ⟨Nat.le_of_ble_eq_true rfl, Nat.le_of_ble_eq_true rfl⟩) (ro_preV hI.2.2.1 hK hN (va_recv hK hI.2.2.1 (ci := 0) (q0 := 0) rfl rfl)) rfl rfl hl.1 rfl (lv_room (Nat.le_of_ble_eq_true rfl)) d_L_law_331 hc0) (fun q h => (hxa q h).1) (fun t hz hq hP1 => ?_)
  have hI := LI_x hxa hI hz hq hP1
  generalize t.heap = H at hI ⊢
  clear hz hq hP1 t
  refine lv_aload_n hx hb d_L_law_334 rfl (lv_at hl 2 rfl) ?_
  refine lv_aload_n hx hb d_L_law_335 rfl (lv_at hl 4 rfl) ?_
  refine lv_iload hx hb d_L_law_336 (lv_at hl 0 rfl) ?_
  refine lv_iconst (v := (1 : Int32)) hx hb d_L_law_338 (by decide) ?_
  refine lv_iadd hx hb d_L_law_339 ?_
  refine lw_sld (n := j + 1) hx hb hX hbl hL hI.2.1 hI.1 (nI_add j 1) (by omega) d_L_law_340 ?_
  refine lv_aload_n hx hb d_L_law_341 rfl (lv_at hl 4 rfl) ?_
  refine lv_iload hx hb d_L_law_342 (lv_at hl 0 rfl) ?_
  refine lv_iconst (v := (2 : Int32)) hx hb d_L_law_344 (by decide) ?_
  refine lv_iadd hx hb d_L_law_345 ?_
  refine lw_sld (n := j + 2) hx hb hX hbl hL hI.2.1 hI.1 (nI_add j 2) (by omega) d_L_law_346 ?_
  refine lv_aload_n hx hb d_L_law_347 rfl (lv_at hl 4 rfl) ?_
  refine lv_iload hx hb d_L_law_348 (lv_at hl 0 rfl) ?_
  refine lv_iconst (v := (3 : Int32)) hx hb d_L_law_350 (by decide) ?_
  refine lv_iadd hx hb d_L_law_351 ?_
  refine lw_sld (n := j + 3) hx hb hX hbl hL hI.2.1 hI.1 (nI_add j 3) (by omega) d_L_law_352 ?_
  refine lv_aload_n hx hb d_L_law_353 rfl (lv_at hl 4 rfl) ?_
  refine lv_iload hx hb d_L_law_354 (lv_at hl 0 rfl) ?_
  refine lv_iconst (v := (4 : Int32)) hx hb d_L_law_356 (by decide) ?_
  refine lv_iadd hx hb d_L_law_357 ?_
  refine lw_sld (n := j + 4) hx hb hX hbl hL hI.2.1 hI.1 (nI_add j 4) (by omega) d_L_law_358 ?_
  refine lv_i2l (v := (sc (j + 4)).toInt64) hx hb d_L_law_359 rfl ?_
  refine lv_bipush (v := (32 : Int32)) hx hb d_L_law_360 (by decide) ?_
  refine lv_lshl (v := ((sc (j + 4)).toInt64 <<< ((32 : Int32).toInt64 &&& 63))) hx hb d_L_law_362 rfl ?_
  refine lv_aload_n hx hb d_L_law_363 rfl (lv_at hl 4 rfl) ?_
  refine lv_iload hx hb d_L_law_364 (lv_at hl 0 rfl) ?_
  refine lv_iconst (v := (5 : Int32)) hx hb d_L_law_366 (by decide) ?_
  refine lv_iadd hx hb d_L_law_367 ?_
  refine lw_sld (n := j + 5) hx hb hX hbl hL hI.2.1 hI.1 (nI_add j 5) (by omega) d_L_law_368 ?_
  refine lv_i2l (v := (sc (j + 5)).toInt64) hx hb d_L_law_369 rfl ?_
  refine lv_ldc2 (v := (4294967295 : Int64)) hx hb hown (hT _ k_730) d_L_law_370 ?_
  refine lv_land hx hb d_L_law_373 ?_
  refine lv_lor hx hb d_L_law_374 ?_
  refine lv_aload_n hx hb d_L_law_375 rfl (lv_at hl 4 rfl) ?_
  refine lv_iload hx hb d_L_law_376 (lv_at hl 0 rfl) ?_
  refine lv_bipush (v := (6 : Int32)) hx hb d_L_law_378 (by decide) ?_
  refine lv_iadd hx hb d_L_law_380 ?_
  refine lw_sld (n := j + 6) hx hb hX hbl hL hI.2.1 hI.1 (nI_add j 6) (by omega) d_L_law_381 ?_
  refine lv_i2l (v := (sc (j + 6)).toInt64) hx hb d_L_law_382 rfl ?_
  refine lv_bipush (v := (32 : Int32)) hx hb d_L_law_383 (by decide) ?_
  refine lv_lshl (v := ((sc (j + 6)).toInt64 <<< ((32 : Int32).toInt64 &&& 63))) hx hb d_L_law_385 rfl ?_
  refine lv_aload_n hx hb d_L_law_386 rfl (lv_at hl 4 rfl) ?_
  refine lv_iload hx hb d_L_law_387 (lv_at hl 0 rfl) ?_
  refine lv_bipush (v := (7 : Int32)) hx hb d_L_law_389 (by decide) ?_
  refine lv_iadd hx hb d_L_law_391 ?_
  refine lw_sld (n := j + 7) hx hb hX hbl hL hI.2.1 hI.1 (nI_add j 7) (by omega) d_L_law_392 ?_
  refine lv_i2l (v := (sc (j + 7)).toInt64) hx hb d_L_law_393 rfl ?_
  refine lv_ldc2 (v := (4294967295 : Int64)) hx hb hown (hT _ k_730) d_L_law_394 ?_
  refine lv_land hx hb d_L_law_397 ?_
  refine lv_lor hx hb d_L_law_398 ?_
  refine lw_calli (va_runV (C := "GuideSearchModel") (As := [.int (sc (j + 1)), .int (sc (j + 2)), .int (sc (j + 3)), .long (((sc (j + 4)).toInt64 <<< ((32 : Int32).toInt64 &&& 63)) ||| ((sc (j + 5)).toInt64 &&& (4294967295 : Int64))), .long (((sc (j + 6)).toInt64 <<< ((32 : Int32).toInt64 &&& 63)) ||| ((sc (j + 7)).toInt64 &&& (4294967295 : Int64)))]) (rest := [.int r]) ⟨hx, hb, hml, hown, hT⟩ (c_M_odds l dC dI cs bb hib ms (sc (j + 1)) (sc (j + 2)) (sc (j + 3)) (((sc (j + 4)).toInt64 <<< ((32 : Int32).toInt64 &&& 63)) ||| ((sc (j + 5)).toInt64 &&& (4294967295 : Int64))) (((sc (j + 6)).toInt64 <<< ((32 : Int32).toInt64 &&& 63)) ||| ((sc (j + 7)).toInt64 &&& (4294967295 : Int64))) (r, ms') e2) (cwV 5 hT (gV k_612 k_613 k_614 k_7 k_615) rfl rfl rfl (by decide +kernel) ⟨Nat.le_of_ble_eq_true rfl, Nat.le_of_ble_eq_true rfl⟩) (ro_preV hI.2.2.2.1 hK hN (va_recv hK hI.2.2.2.1 (ci := 5) (q0 := 0) rfl rfl)) rfl rfl hl.1 rfl (lv_room (Nat.le_of_ble_eq_true rfl)) d_L_law_399 hc0) (fun q h => (hma q h).1) (fun t hz hq hP1 => ?_)
  have hI := LI_m hxa hma hI hz hq hP1
  generalize t.heap = H at hI ⊢
  clear hz hq hP1 t
  refine lv_icmp_eq (tgt := 756) hx hb d_L_law_402 (by decide) (fun _ => ?_) (fun c9 => absurd rfl c9)
  exact W.widen (k := cells + 1) (n := slots + 6) (by omega) (by omega) (K _ _ _ _ _ hI (REL_up hR') hl)
