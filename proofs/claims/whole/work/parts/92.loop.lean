set_option maxHeartbeats 4000000 in
set_option maxRecDepth 100000 in
theorem law_loop {p : Program} {l : Launch} {e : Env} {s : State} {m : MethodId} {below : List Frame} {meth : Method} {c : Code} {b L : Nat} {sc : Nat → Int32} {dC : Nat → ClassId} {dI : Nat → Nat → Nat} {cs : Nat → ClassId} {a bb : Nat → Nat} {o : Nat} (C : LX p l s m c b L sc dC dI cs a bb o) (hr : meth.sig.returnType = ret) (hlocks : meth.locks = false) : ∀ (n k : Nat) (xs : XS) (ms : MS) (f : Nat → Int64) (H : Heap) (ls : Array Slot), n + k = 512 → LI dC dI cs s a bb o f xs ms H → REL k xs ms → lv_has ls 8 [(4, .int (nI (8 * k))), (3, .ref o), (2, .ref (bb 0)), (1, .ref (a 0)), (0, .ref b)] → W p l e room_1 s m #[Value.ref b] below meth c H [] (60 + k) (20000 + 6 * k) (lw_Z below #[Value.ref b] s) (F0 m 23 ls []) := by
  obtain ⟨hx, hb, hml, hown, hT, hK, hN, hX, hbl, hL, hTA, hfl, hia, hib, hxa, hma, hoo⟩ := id C
  have head : ∀ (k : Nat) (H : Heap) (ls : Array Slot), k ≤ 512 → s.heap.size ≤ H.size → (∀ q, q < s.heap.size → H[q]? = s.heap[q]?) → lv_has ls 8 [(4, .int (nI (8 * k))), (3, .ref o), (2, .ref (bb 0)), (1, .ref (a 0)), (0, .ref b)] → (8 * k + 8 ≤ L → W p l e room_1 s m #[Value.ref b] below meth c H [] (60 + k) (20000 + 6 * k) (lw_Z below #[Value.ref b] s) (F0 m 33 ls [])) → W p l e room_1 s m #[Value.ref b] below meth c H [] (60 + k) (20000 + 6 * k) (lw_Z below #[Value.ref b] s) (F0 m 23 ls []) := by
    intro k H ls hk hz hq hl go
    refine lv_iload hx hb d_L_law_23 (lv_at hl 0 rfl) ?_
    refine lv_aload_n hx hb d_L_law_25 rfl (lv_at hl 4 rfl) ?_
    refine va_slen (A := fun q => s.heap.size ≤ q) hx hb hX hbl (Nat.not_le.mpr hbl) ⟨hz, fun q h _ => hq q h, fun _ h => absurd h List.not_mem_nil⟩ d_L_law_26 ?_
    refine lv_bipush (v := (8 : Int32)) hx hb d_L_law_27 (by decide) ?_
    refine lv_isub hx hb d_L_law_29 ?_
    have hsub : (Int32.ofNat L - (8 : Int32)).toInt = (L : Int) - 8 := pk_sub_toInt (a := L) (b := 8) (by omega) (by decide)
    refine lv_icmp_gt (tgt := 762) hx hb d_L_law_30 (by decide) (fun c9 => ?_) (fun c9 => ?_)
    · refine W.widen (k := 601024) (n := 7293034) (by omega) (by omega) ?_
      refine lv_iconst (v := (1 : Int32)) hx hb d_L_law_762 (by decide) ?_
      exact lw_ret hx hb hr hlocks d_L_law_763
    · refine go ?_
      rw [Int32.lt_iff_toInt_lt, hsub, nI_toInt (by omega)] at c9
      omega
  intro n
  induction n with
  | zero =>
    intro k xs ms f H ls hn hI hR hl
    refine head k H ls (by omega) hI.1 hI.2.1 hl (fun h => ?_)
    omega
  | succ n ih =>
    intro k xs ms f H ls hn hI hR hl
    refine head k H ls (by omega) hI.1 hI.2.1 hl (fun hj => ?_)
    have hc : (60 + k) + 1 ≤ 601024 ∧ (20000 + 6 * k) + 6 ≤ 7293034 := ⟨by omega, by omega⟩
    have K : ∀ (xs' : XS) (ms' : MS) (f' : Nat → Int64) (H' : Heap) (ls' : Array Slot), LI dC dI cs s a bb o f' xs' ms' H' → REL (k + 1) xs' ms' → lv_has ls' 8 [(4, .int (nI (8 * k))), (3, .ref o), (2, .ref (bb 0)), (1, .ref (a 0)), (0, .ref b)] → W p l e room_1 s m #[Value.ref b] below meth c H' [] ((60 + k) + 1) ((20000 + 6 * k) + 6) (lw_Z below #[Value.ref b] s) (F0 m 756 ls' []) := by
      intro xs' ms' f' H' ls' hI hR hl
      refine lv_iinc (v := (nI (8 * k) + 8)) (lv' := [(4, .int ((nI (8 * k) + 8))), (3, .ref o), (2, .ref (bb 0)), (1, .ref (a 0)), (0, .ref b)]) hx hb d_L_law_756 hl (k := 0) rfl rfl (by decide) rfl (fun ls hl => ?_)
      refine lv_goto (tgt := 23) hx hb d_L_law_759 (by decide) ?_
      have e8 : nI (8 * k) + 8 = nI (8 * (k + 1)) := nI_add (8 * k) 8
      rw [e8] at hl
      exact W.widen (k := 60 + (k + 1)) (n := 20000 + 6 * (k + 1)) (by omega) (by omega) (ih (k + 1) xs' ms' f' H' ls (by omega) hI hR hl)
    refine lv_aload_n hx hb d_L_law_33 rfl (lv_at hl 4 rfl) ?_
    refine lv_iload hx hb d_L_law_34 (lv_at hl 0 rfl) ?_
    refine lw_sld (n := 8 * k) hx hb hX hbl hL hI.2.1 hI.1 rfl (by omega) d_L_law_36 ?_
    refine lv_bipush (v := (15 : Int32)) hx hb d_L_law_37 (by decide) ?_
    refine lv_iand hx hb d_L_law_39 ?_
    generalize (sc (8 * k) &&& (15 : Int32)) = x
    by_cases c0 : x = (0 : Int32)
    · refine lv_tableIn (off := 68) (tgt := 108) hx hb d_L_law_40 (by rw [c0]; decide) (by rw [c0]; decide) (by rw [c0]; rfl) (by decide) ?_
      exact lw_fault C (by omega) hj hc hI hR hl K
    by_cases c1 : x = (1 : Int32)
    · refine lv_tableIn (off := 169) (tgt := 209) hx hb d_L_law_40 (by rw [c1]; decide) (by rw [c1]; decide) (by rw [c1]; rfl) (by decide) ?_
      exact lw_test C (by omega) hj hc hI hR hl K
    by_cases c2 : x = (2 : Int32)
    · refine lv_tableIn (off := 226) (tgt := 266) hx hb d_L_law_40 (by rw [c2]; decide) (by rw [c2]; decide) (by rw [c2]; rfl) (by decide) ?_
      exact lw_odds C (by omega) hj hc hI hR hl K
    by_cases c3 : x = (3 : Int32)
    · refine lv_tableIn (off := 367) (tgt := 407) hx hb d_L_law_40 (by rw [c3]; decide) (by rw [c3]; decide) (by rw [c3]; rfl) (by decide) ?_
      exact lw_needs C (by omega) hj hc hI hR hl K
    by_cases c4 : x = (4 : Int32)
    · refine lv_tableIn (off := 404) (tgt := 444) hx hb d_L_law_40 (by rw [c4]; decide) (by rw [c4]; decide) (by rw [c4]; rfl) (by decide) ?_
      exact lw_next C (by omega) hj hc hI hR hl K
    by_cases c5 : x = (5 : Int32)
    · refine lv_tableIn (off := 461) (tgt := 501) hx hb d_L_law_40 (by rw [c5]; decide) (by rw [c5]; decide) (by rw [c5]; rfl) (by decide) ?_
      exact lw_answer C (by omega) hj hc hI hR hl K
    by_cases c6 : x = (6 : Int32)
    · refine lv_tableIn (off := 498) (tgt := 538) hx hb d_L_law_40 (by rw [c6]; decide) (by rw [c6]; decide) (by rw [c6]; rfl) (by decide) ?_
      exact lw_odd C (by omega) hj hc hI hR hl K
    by_cases c7 : x = (7 : Int32)
    · refine lv_tableIn (off := 565) (tgt := 605) hx hb d_L_law_40 (by rw [c7]; decide) (by rw [c7]; decide) (by rw [c7]; rfl) (by decide) ?_
      exact lw_exact C (by omega) hj hc hI hR hl K
    by_cases c8 : x = (8 : Int32)
    · refine lv_tableIn (off := 578) (tgt := 618) hx hb d_L_law_40 (by rw [c8]; decide) (by rw [c8]; decide) (by rw [c8]; rfl) (by decide) ?_
      exact lw_cost C (by omega) hj hc hI hR hl K
    by_cases c9 : x = (9 : Int32)
    · refine lv_tableIn (off := 592) (tgt := 632) hx hb d_L_law_40 (by rw [c9]; decide) (by rw [c9]; decide) (by rw [c9]; rfl) (by decide) ?_
      exact lw_pair C (by omega) hj hc hI hR hl K
    by_cases c10 : x = (10 : Int32)
    · refine lv_tableIn (off := 629) (tgt := 669) hx hb d_L_law_40 (by rw [c10]; decide) (by rw [c10]; decide) (by rw [c10]; rfl) (by decide) ?_
      exact lw_learn C (by omega) hj hc hI hR hl K
    by_cases c11 : x = (11 : Int32)
    · refine lv_tableIn (off := 654) (tgt := 694) hx hb d_L_law_40 (by rw [c11]; decide) (by rw [c11]; decide) (by rw [c11]; rfl) (by decide) ?_
      exact lw_tree C (by omega) hj hc hI hR hl K
    by_cases c12 : x = (12 : Int32)
    · refine lv_tableIn (off := 691) (tgt := 731) hx hb d_L_law_40 (by rw [c12]; decide) (by rw [c12]; decide) (by rw [c12]; rfl) (by decide) ?_
      exact lw_never C (by omega) hj hc hI hR hl K
    refine lv_tableOut (tgt := 756) hx hb d_L_law_40 (by have := lv_neT c0 (a := 0) (by decide); have := lv_neT c1 (a := 1) (by decide); have := lv_neT c2 (a := 2) (by decide); have := lv_neT c3 (a := 3) (by decide); have := lv_neT c4 (a := 4) (by decide); have := lv_neT c5 (a := 5) (by decide); have := lv_neT c6 (a := 6) (by decide); have := lv_neT c7 (a := 7) (by decide); have := lv_neT c8 (a := 8) (by decide); have := lv_neT c9 (a := 9) (by decide); have := lv_neT c10 (a := 10) (by decide); have := lv_neT c11 (a := 11) (by decide); have := lv_neT c12 (a := 12) (by decide); omega) (by decide) ?_
    exact W.widen (k := (60 + k) + 1) (n := (20000 + 6 * k) + 6) (by omega) (by omega) (K xs ms f H ls hI (REL_up hR) hl)
