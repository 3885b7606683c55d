theorem k_14 : (Jvm.Cond.classLink "GuideSearchLaw" (8 : Nat) "GuideSearch") ∈ wg := wgm (i := 43) (by decide +kernel) rfl
theorem k_15 : (Jvm.Cond.instantiable "GuideSearch" (6 : Nat)) ∈ wg := wgm (i := 44) (by decide +kernel) rfl
theorem k_16 : (Jvm.Cond.methodLink "GuideSearchLaw" (15 : Nat) ({ cls := "GuideSearch", name := "<init>", desc := "()V" } : Jvm.MethodName)) ∈ wg := wgm (i := 45) (by decide +kernel) rfl
theorem k_17 : (Jvm.Cond.instanceMethod ({ cls := "GuideSearch", name := "<init>", desc := "()V" } : Jvm.MethodName)) ∈ wg := wgm (i := 46) (by decide +kernel) rfl
set_option maxRecDepth 20000 in
theorem k_18 : (Jvm.Cond.code ({ cls := "GuideSearch", name := "<init>", desc := "()V" } : Jvm.MethodName) prog_1_method_1_code (1 : Nat) (Option.none : Option Jvm.ClassFile.FieldType)) ∈ wg := wgm (i := 47) rfl rfl
theorem k_500 : (Jvm.Cond.classLink "GuideSearchLaw" (16 : Nat) "GuideSearchModel") ∈ wg := wgm (i := 529) (by decide +kernel) rfl
theorem k_501 : (Jvm.Cond.instantiable "GuideSearchModel" (25 : Nat)) ∈ wg := wgm (i := 530) (by decide +kernel) rfl
theorem k_502 : (Jvm.Cond.methodLink "GuideSearchLaw" (18 : Nat) ({ cls := "GuideSearchModel", name := "<init>", desc := "()V" } : Jvm.MethodName)) ∈ wg := wgm (i := 531) (by decide +kernel) rfl
theorem k_503 : (Jvm.Cond.instanceMethod ({ cls := "GuideSearchModel", name := "<init>", desc := "()V" } : Jvm.MethodName)) ∈ wg := wgm (i := 532) (by decide +kernel) rfl
set_option maxRecDepth 20000 in
theorem k_504 : (Jvm.Cond.code ({ cls := "GuideSearchModel", name := "<init>", desc := "()V" } : Jvm.MethodName) prog_7_method_1_code (2 : Nat) (Option.none : Option Jvm.ClassFile.FieldType)) ∈ wg := wgm (i := 533) rfl rfl
set_option maxHeartbeats 4000000 in
set_option maxRecDepth 100000 in
theorem whole_start {p : Program} {e : Env} {s : State} {m : MethodId} {below : List Frame} {meth : Method} {c : Code} (l : Launch) (hfl : l.flags = pinnedFlags ++ [noTraceFlag]) {b L : Nat} {xs : Nat → Int32} (hL : L ≤ 4096) (C0 : lw_At p s m meth c b L xs) : W p l e room_1 s m #[Value.ref b] below meth c s.heap [] 0 0 (lw_Z below #[Value.ref b] s) (entryFrame m ([Value.ref b] : List Value).toArray 8) := by
  obtain ⟨hx, hb, hr, hml, hown, hts, hX, hbl, hlocks, hgv⟩ := id C0
  replace hown : s.vm.findClass "GuideSearchLaw" = some m.cls := hown
  have hT : ∀ w ∈ wg, w.before #[Value.ref b] s = true := fun w hw => hts w (List.mem_filter.mp hw).1
  have hN : NW s := NW.of hts
  have hTA : TA s := TA_start hts hgv
  obtain ⟨c0, i0, k0⟩ := u_known (C := "GuideSearch") (T := F_G) (N := 6) (n := 6) hT i_G (hT _ k_15)
  obtain ⟨c1, i1, k1⟩ := u_known (C := "GuideSearch$Causes") (T := F_C) (N := 5) (n := 5) hT i_C (hT _ k_23)
  obtain ⟨c2, i2, k2⟩ := u_known (C := "GuideSearch$Tests") (T := F_T) (N := 4) (n := 4) hT i_T (hT _ k_50)
  obtain ⟨c3, i3, k3⟩ := u_known (C := "GuideSearch$Cases") (T := F_K) (N := 2) (n := 2) hT i_K (hT _ k_76)
  obtain ⟨c4, i4, k4⟩ := u_known (C := "GuideSearch$Plan") (T := F_P) (N := 9) (n := 9) hT i_P (hT _ k_90)
  obtain ⟨c5, i5, k5⟩ := u_known (C := "GuideSearchModel") (T := F_M) (N := 25) (n := 25) hT i_M (hT _ k_501)
  obtain ⟨dC, dI, hKc⟩ : ∃ (dC : Nat → ClassId) (dI : Nat → Nat → Nat), ∀ (k : Nat) (q : vw_C), vwCl[k]? = some q → u_Kn s q.1 q.2.1 q.2.2 (dC k) (dI k) := by
    refine ⟨fun k => if k = 0 then c0 else if k = 1 then c1 else if k = 2 then c2 else if k = 3 then c3 else if k = 4 then c4 else c5, fun k => if k = 0 then i0 else if k = 1 then i1 else if k = 2 then i2 else if k = 3 then i3 else if k = 4 then i4 else i5, ?_⟩
    intro k q hq
    match k, hq with
    | 0, hq => cases hq; exact k0
    | 1, hq => cases hq; exact k1
    | 2, hq => cases hq; exact k2
    | 3, hq => cases hq; exact k3
    | 4, hq => cases hq; exact k4
    | 5, hq => cases hq; exact k5
    | k + 6, hq => exact absurd (List.getElem?_eq_some_iff.mp hq).1 (by simp)
  obtain ⟨q0, r0, n0⟩ := arrK (ty := .long) (hT _ k_47)
  obtain ⟨q1, r1, n1⟩ := arrK (ty := .int) (hT _ k_48)
  obtain ⟨q2, r2, n2⟩ := arrK (ty := .byte) (hT _ k_128)
  obtain ⟨q3, r3, n3⟩ := arrO (ty := .int) (hts _ (List.mem_filter.mp k_56).1)
  obtain ⟨q4, r4, n4⟩ := arrO (ty := .long) (hts _ (List.mem_filter.mp k_96).1)
  obtain ⟨q5, r5, n5⟩ := arrK (ty := .boolean) (hT _ k_583)
  obtain ⟨cs, hcs⟩ : ∃ cs : Nat → ClassId, cs = (fun k => if k = 0 then q0 else if k = 1 then q1 else if k = 2 then q2 else if k = 3 then q3 else if k = 4 then q4 else q5) := ⟨_, rfl⟩
  have hK : va_K (dC, dI) vwCl (g_ty cs) s := by
    refine ⟨hKc, fun k q hq => ?_⟩
    rw [hcs] at hq
    match k, hq with
    | 0, hq => cases hq; exact ⟨r0, n0⟩
    | 1, hq => cases hq; exact ⟨r1, n1⟩
    | 2, hq => cases hq; exact ⟨r2, n2⟩
    | 3, hq => cases hq; exact ⟨r3, n3⟩
    | 4, hq => cases hq; exact ⟨r4, n4⟩
    | 5, hq => cases hq; exact ⟨r5, n5⟩
    | k + 6, hq => exact absurd (List.getElem?_eq_some_iff.mp hq).1 (by simp)
  have hcs0 : s.vm.findClass ("[" ++ FieldType.long.toString) = some (cs 0) := by rw [hcs]; exact n0
  obtain ⟨ms0, hf0, hR0⟩ := REL_0
  have hl := lv_entry ([.ref b]) (n := 8) (Nat.le_of_ble_eq_true rfl)
  rw [lg_entry_eq]
  generalize (lg_sl ([.ref b]) ++ List.replicate (8 - (lg_sl ([.ref b])).length) Slot.unset).toArray = ls at hl ⊢
  have hl : lv_has ls 8 [(0, .ref b)] := hl
  refine lw_new (ci := 0) (fs := [.null, .null, .null, .null, .int 0, .int 0]) (C := "GuideSearch") (T := F_G) (N := 6) hx hb hT i_G ft_G ft_G_ok hown (hT _ k_14) (hT _ k_15) (hT _ k_1) hK rfl (fun j hj => by rcases (show j = 0 ∨ j = 1 ∨ j = 2 ∨ j = 3 ∨ j = 4 ∨ j = 5 by omega) with rfl | rfl | rfl | rfl | rfl | rfl <;> rfl) (Nat.le_of_ble_eq_true rfl) (Nat.le_of_ble_eq_true rfl) d_L_law_0 (fun H1 z1 o1 hP1 => ?_)
  refine lv_dup hx hb d_L_law_3 rfl ?_
  refine lw_callv (va_runI (As := []) (rest := [.ref s.heap.size]) ⟨hx, hb, hml, hown, hT⟩ (c_G_init l dC dI cs s.heap.size H1.size) (cwI 0 hT (gcode k_18) rfl rfl rfl (hT _ k_1) (hT _ k_16) (hT _ k_17) rfl (by decide +kernel) ⟨Nat.le_of_ble_eq_true rfl, Nat.le_of_ble_eq_true rfl⟩) ⟨fun a' U g mk q => ⟨q.1, q.2.1, q.2.2.1, va_K.moved (u := U) (U := U.calling g mk a') (Vm.Alike.refl U.vm) q.2.2.2.1, NW.same (s := U) (U := U.calling g mk a') rfl q.2.2.2.2⟩, fun U hU hW => ⟨rfl, by rw [hU], by rw [hU]; exact hP1, va_K.moved hW.alike hK, hN.warm hW⟩⟩ rfl rfl hl.1 rfl (lv_room (Nat.le_of_ble_eq_true rfl)) d_L_law_4 ⟨Nat.le_of_ble_eq_true rfl, Nat.le_of_ble_eq_true rfl⟩) (fun q h => ?_) (fun a t hz hq hw hB => ?_)
  · rcases h with h | h <;> omega
  obtain ⟨ha0, hia, hra⟩ := hw
  have hx2 : ∀ k, k < 29 → s.heap.size ≤ a k ∧ a k < t.heap.size := fun k hk => by
    obtain ⟨e9, he9⟩ := x_get cs a x_st0 k hk
    have h1 := va_in hB he9
    have h2 : a k = s.heap.size ∨ H1.size ≤ a k := hra k hk
    refine ⟨?_, h1⟩
    rcases h2 with h2 | h2 <;> omega
  have hold : ∀ q, q < s.heap.size → t.heap[q]? = s.heap[q]? := fun q hh => by
    rw [hq q (by omega) (fun h => by rcases h with h | h <;> omega)]
    exact o1 q hh
  have hz2 : s.heap.size ≤ t.heap.size := by omega
  generalize t.heap = H2 at hB hx2 hold hz2 ⊢
  clear hz hq t
  rw [← ha0]
  refine lv_astore_n (lv' := [(1, .ref (a 0)), (0, .ref b)]) hx hb d_L_law_7 rfl hl (by decide) rfl (fun ls hl => ?_)
  refine lw_new (ci := 5) (fs := [.int 0, .int 0, .int 0, .null, .null, .null, .null, .int 0, .int 0, .null, .null, .null, .null, .int 0, .long 0, .int 0, .null, .null, .null, .null, .null, .null, .null, .null, .null]) (C := "GuideSearchModel") (T := F_M) (N := 25) hx hb hT i_M ft_M ft_M_ok hown (hT _ k_500) (hT _ k_501) (hT _ k_7) hK rfl (fun j hj => by rcases (show j = 0 ∨ j = 1 ∨ j = 2 ∨ j = 3 ∨ j = 4 ∨ j = 5 ∨ j = 6 ∨ j = 7 ∨ j = 8 ∨ j = 9 ∨ j = 10 ∨ j = 11 ∨ j = 12 ∨ j = 13 ∨ j = 14 ∨ j = 15 ∨ j = 16 ∨ j = 17 ∨ j = 18 ∨ j = 19 ∨ j = 20 ∨ j = 21 ∨ j = 22 ∨ j = 23 ∨ j = 24 by omega) with rfl | rfl | rfl | rfl | rfl | rfl | rfl | rfl | rfl | rfl | rfl | rfl | rfl | rfl | rfl | rfl | rfl | rfl | rfl | rfl | rfl | rfl | rfl | rfl | rfl <;> rfl) (Nat.le_of_ble_eq_true rfl) (Nat.le_of_ble_eq_true rfl) d_L_law_8 (fun H3 z3 o3 hP3 => ?_)
  refine lv_dup hx hb d_L_law_11 rfl ?_
  refine lw_callv (va_runI (As := []) (rest := [.ref H2.size]) ⟨hx, hb, hml, hown, hT⟩ (c_M_init l dC dI cs H2.size H3.size ms0 hf0) (cwI 0 hT (gcode k_504) rfl rfl rfl (hT _ k_7) (hT _ k_502) (hT _ k_503) rfl (by decide +kernel) ⟨Nat.le_of_ble_eq_true rfl, Nat.le_of_ble_eq_true rfl⟩) ⟨fun a' U g mk q => ⟨q.1, q.2.1, q.2.2.1, va_K.moved (u := U) (U := U.calling g mk a') (Vm.Alike.refl U.vm) q.2.2.2.1, NW.same (s := U) (U := U.calling g mk a') rfl q.2.2.2.2⟩, fun U hU hW => ⟨rfl, by rw [hU], by rw [hU]; exact hP3, va_K.moved hW.alike hK, hN.warm hW⟩⟩ rfl rfl hl.1 rfl (lv_room (Nat.le_of_ble_eq_true rfl)) d_L_law_12 ⟨Nat.le_of_ble_eq_true rfl, Nat.le_of_ble_eq_true rfl⟩) (fun q h => ?_) (fun bb t hz hq hw hM => ?_)
  · rcases h with h | h <;> omega
  obtain ⟨hb0, hib, hrb⟩ := hw
  have hm2 : ∀ k, k < 18 → H2.size ≤ bb k ∧ bb k < t.heap.size := fun k hk => by
    obtain ⟨e9, he9⟩ := m_get cs bb ms0 k hk
    have h1 := va_in hM he9
    have h2 : bb k = H2.size ∨ H3.size ≤ bb k := hrb k hk
    refine ⟨?_, h1⟩
    rcases h2 with h2 | h2 <;> omega
  have hB : va_P (dC, dI) vwCl (x_W cs a x_st0) t.heap := by
    refine hB.kept (fun k q hk => ?_)
    obtain ⟨k1, e1⟩ := x_W_at cs a x_st0 k q hk
    have h1 := (hx2 k k1).2
    rw [e1, hq (a k) (by omega) (fun h => by rcases h with h | h <;> omega)]
    exact o3 (a k) h1
  have hold : ∀ q, q < s.heap.size → t.heap[q]? = s.heap[q]? := fun q hh => by
    rw [hq q (by omega) (fun h => by rcases h with h | h <;> omega), o3 q (by omega)]
    exact hold q hh
  have hz4 : H2.size ≤ t.heap.size := by omega
  generalize t.heap = H4 at hB hM hm2 hold hz4 ⊢
  clear hz hq t
  rw [← hb0]
  refine lv_astore_n (lv' := [(2, .ref (bb 0)), (1, .ref (a 0)), (0, .ref b)]) hx hb d_L_law_15 rfl hl (by decide) rfl (fun ls hl => ?_)
  refine lv_iconst (v := (1 : Int32)) hx hb d_L_law_16 (by decide) ?_
  refine va_newaK (atype := .long) hx hb (hT _ k_47) rfl d_L_law_17 rfl (by decide) (N := 1) (by decide) (by decide) (Nat.le_of_ble_eq_true rfl) (Nat.le_of_ble_eq_true rfl) rfl fun H5 cA e5 z5 o5 _ hNm => ?_
  have hcA : cA = cs 0 := Option.some.inj (hNm.symm.trans hcs0)
  subst hcA
  refine lv_astore_n (lv' := [(3, .ref H4.size), (2, .ref (bb 0)), (1, .ref (a 0)), (0, .ref b)]) hx hb d_L_law_19 rfl hl (by decide) rfl (fun ls hl => ?_)
  refine lv_iconst (v := (0 : Int32)) hx hb d_L_law_20 (by decide) ?_
  refine lv_istore (lv' := [(4, .int (nI (8 * 0))), (3, .ref H4.size), (2, .ref (bb 0)), (1, .ref (a 0)), (0, .ref b)]) hx hb d_L_law_21 hl (by decide) rfl (fun ls hl => ?_)
  have C : LX p l s m c b L xs dC dI cs a bb H4.size := by
    refine ⟨hx, hb, hml, hown, hT, hK, hN, hX, hbl, hL, hTA, hfl, hia, hib, fun q hq => ?_, fun q hq => ?_, by omega⟩
    · obtain ⟨k, hk, e9⟩ := hq
      have h1 := hx2 k hk
      refine ⟨by omega, fun hm => ?_, by omega⟩
      obtain ⟨k9, hk9, e8⟩ := hm
      have h2 := hm2 k9 hk9
      omega
    · obtain ⟨k, hk, e9⟩ := hq
      have h1 := hm2 k hk
      exact ⟨by omega, by omega⟩
  have hI : LI dC dI cs s a bb H4.size (fun _ => 0) x_st0 ms0 H5 := by
    refine ⟨by omega, fun q hh => ?_, hB.kept (fun k q hk => ?_), hM.kept (fun k q hk => ?_), fun k q hk => ?_⟩
    · rw [o5 q (by omega)]; exact hold q hh
    · exact o5 q.1 (va_in hB hk)
    · exact o5 q.1 (va_in hM hk)
    · have hk1 : k < 1 := (List.getElem?_eq_some_iff.mp hk).1
      rw [show k = 0 by omega] at hk
      cases hk
      exact e5
  exact W.widen (k := 60 + 0) (n := 20000 + 6 * 0) (Nat.le_of_ble_eq_true rfl) (Nat.le_of_ble_eq_true rfl) (law_loop C hr hlocks 512 0 x_st0 ms0 (fun _ => 0) H5 ls rfl hI hR0 hl)
