set_option maxHeartbeats 4000000 in
set_option maxRecDepth 100000 in
theorem c_C_init (l : Launch) (dC : Nat → ClassId) (dI : Nat → Nat → Nat) (cs : Nat → ClassId) (h0 sz : Nat) : Met l (⟨"GuideSearch$Causes", "<init>", "()V"⟩ : MethodName) (Cond.code (⟨"GuideSearch$Causes", "<init>", "()V"⟩ : MethodName) prog_3_method_1_code 1 none :: wg) { frames := 1, cells := 3, slots := 39, locals := 12 } (va_Pc [.ref h0] (fun U => U.heap.size = sz ∧ va_P (dC, dI) vwCl [(h0, .inr (1, [.null, .null, .null, .int 0, .int 0]))] U.heap ∧ va_K (dC, dI) vwCl (g_ty cs) U ∧ NW U)) (va_Qv (fun _ : Nat × Nat × Nat => True) (fun (u : Nat × Nat × Nat) t => match u with | (q1, q2, q3) => va_P (dC, dI) vwCl [(h0, .inr (1, [.ref q1, .ref q2, .ref q3, .int (0 : Int32), .int (0 : Int32)])), (q1, .inl (cs 0, 13, .inr (.inl (fun _ => 0)))), (q2, .inl (cs 1, 13, .inl (fun _ => 0))), (q3, .inl (cs 1, 13, .inl (fun _ => 0)))] t.heap ∧ va_D (fun q : Nat => q = h0 ∨ sz ≤ q) [(h0, .inr (1, [.ref q1, .ref q2, .ref q3, .int (0 : Int32), .int (0 : Int32)])), (q1, .inl (cs 0, 13, .inr (.inl (fun _ => 0)))), (q2, .inl (cs 1, 13, .inl (fun _ => 0))), (q3, .inl (cs 1, 13, .inl (fun _ => 0)))]) (fun q : Nat => q = h0 ∨ sz ≤ q)) 3 39 (fun q : Nat => q = h0 ∨ sz ≤ q) := by
  refine ri_start (cc := prog_3_method_1_code) (maxL := 1) (ret := none) (by decide) (Nat.le_of_ble_eq_true rfl) ?_
  intro p e s m below meth c hx hb hr hml hT hown hlocks hin hB ls hl
  obtain ⟨hsz, hP, hK, hN⟩ := hB
  replace hown : s.vm.findClass "GuideSearch$Causes" = some m.cls := hown
  replace hin : meth.name = "<init>" := hin
  replace hl : lv_has ls 1 [(0, .ref h0)] := hl
  have hA : ∀ q : Nat, s.heap.size ≤ q → (fun q : Nat => q = h0 ∨ sz ≤ q) q := fun q h => Or.inr (by rw [← hsz]; exact h)
  have hS : va_S (fun q : Nat => q = h0 ∨ sz ≤ q) s.heap s.heap [] := va_S.rf
  have hD : va_D (fun q : Nat => q = h0 ∨ sz ≤ q) [(h0, .inr (1, [.null, .null, .null, .int 0, .int 0]))] := ⟨fun i j p q h1 h2 _ => by
      have a1 : i < 1 := (List.getElem?_eq_some_iff.mp h1).1
      have a2 : j < 1 := (List.getElem?_eq_some_iff.mp h2).1
      omega, fun k q h => by
      have a1 : k < 1 := (List.getElem?_eq_some_iff.mp h).1
      rw [show k = 0 by omega] at h
      cases h
      exact Or.inl rfl⟩
  refine lv_aload_n hx hb d_C_init_0 rfl (lv_at hl 0 rfl) ?_
  refine W.objInit hx hb hown (hT _ k_27) (hT _ k_20) (hT _ k_obj) rfl (by rw [hml]; exact hl.1) rfl d_C_init_1 (Nat.le_of_ble_eq_true rfl) (Nat.le_of_ble_eq_true rfl) ?_
  refine W.eq (g2 := F0 m 4 ls []) rfl ?_
  refine lv_aload_n hx hb d_C_init_4 rfl (lv_at hl 0 rfl) ?_
  refine lv_bipush (v := (13 : Int32)) hx hb d_C_init_5 (by decide) ?_
  refine xn_newa (atype := .long) (ty := .long) hx hb (hT _ k_47) rfl hK 0 rfl (fun _ h => h) hP hD hS hA (n := (13 : Int32)) (N' := 13) (a0 := (13, .inr (.inl (fun _ => 0)))) (fun c => vp_cell_l c 13 _) (by decide +kernel) (by decide +kernel) (by decide +kernel) (Nat.le_of_ble_eq_true rfl) (Nat.le_of_ble_eq_true rfl) d_C_init_7 (fun q1 H hP hD hS => ?_)
  have hP : va_P (dC, dI) vwCl [(h0, .inr (1, [.null, .null, .null, .int 0, .int 0])), (q1, .inl (cs 0, 13, .inr (.inl (fun _ => 0))))] H := hP
  have hD : va_D (fun q : Nat => q = h0 ∨ sz ≤ q) [(h0, .inr (1, [.null, .null, .null, .int 0, .int 0])), (q1, .inl (cs 0, 13, .inr (.inl (fun _ => 0))))] := hD
  refine va_putF (D := (dC, dI)) (ci := 1) (v := .ref q1) (ty := .array .long) (C := "GuideSearch$Causes") (T := F_C) (N := 5) hx hb hT i_C ft_C ft_C_ok n_C hown hK hP hD hS 0 rfl rfl 0 (by decide) (hT _ k_28) (fun _ h9 => h9) rfl hin rfl (by decide +kernel) rfl rfl (Nat.le_of_ble_eq_true rfl) d_C_init_9 (fun H locs hP hD hS => ?_)
  have hP : va_P (dC, dI) vwCl [(h0, .inr (1, [.ref q1, .null, .null, .int 0, .int 0])), (q1, .inl (cs 0, 13, .inr (.inl (fun _ => 0))))] H := hP
  have hD : va_D (fun q : Nat => q = h0 ∨ sz ≤ q) [(h0, .inr (1, [.ref q1, .null, .null, .int 0, .int 0])), (q1, .inl (cs 0, 13, .inr (.inl (fun _ => 0))))] := hD
  refine lv_aload_n hx hb d_C_init_12 rfl (lv_at hl 0 rfl) ?_
  refine lv_bipush (v := (13 : Int32)) hx hb d_C_init_13 (by decide) ?_
  refine xn_newa (atype := .int) (ty := .int) hx hb (hT _ k_48) rfl hK 1 rfl (fun _ h => h) hP hD hS hA (n := (13 : Int32)) (N' := 13) (a0 := (13, .inl (fun _ => 0))) (fun c => vp_cell_i c 13 _) (by decide +kernel) (by decide +kernel) (by decide +kernel) (Nat.le_of_ble_eq_true rfl) (Nat.le_of_ble_eq_true rfl) d_C_init_15 (fun q2 H hP hD hS => ?_)
  have hP : va_P (dC, dI) vwCl [(h0, .inr (1, [.ref q1, .null, .null, .int 0, .int 0])), (q1, .inl (cs 0, 13, .inr (.inl (fun _ => 0)))), (q2, .inl (cs 1, 13, .inl (fun _ => 0)))] H := hP
  have hD : va_D (fun q : Nat => q = h0 ∨ sz ≤ q) [(h0, .inr (1, [.ref q1, .null, .null, .int 0, .int 0])), (q1, .inl (cs 0, 13, .inr (.inl (fun _ => 0)))), (q2, .inl (cs 1, 13, .inl (fun _ => 0)))] := hD
  refine va_putF (D := (dC, dI)) (ci := 1) (v := .ref q2) (ty := .array .int) (C := "GuideSearch$Causes") (T := F_C) (N := 5) hx hb hT i_C ft_C ft_C_ok n_C hown hK hP hD hS 0 rfl rfl 1 (by decide) (hT _ k_29) (fun _ h9 => h9) rfl hin rfl (by decide +kernel) rfl rfl (Nat.le_of_ble_eq_true rfl) d_C_init_17 (fun H locs hP hD hS => ?_)
  have hP : va_P (dC, dI) vwCl [(h0, .inr (1, [.ref q1, .ref q2, .null, .int 0, .int 0])), (q1, .inl (cs 0, 13, .inr (.inl (fun _ => 0)))), (q2, .inl (cs 1, 13, .inl (fun _ => 0)))] H := hP
  have hD : va_D (fun q : Nat => q = h0 ∨ sz ≤ q) [(h0, .inr (1, [.ref q1, .ref q2, .null, .int 0, .int 0])), (q1, .inl (cs 0, 13, .inr (.inl (fun _ => 0)))), (q2, .inl (cs 1, 13, .inl (fun _ => 0)))] := hD
  refine lv_aload_n hx hb d_C_init_20 rfl (lv_at hl 0 rfl) ?_
  refine lv_bipush (v := (13 : Int32)) hx hb d_C_init_21 (by decide) ?_
  refine xn_newa (atype := .int) (ty := .int) hx hb (hT _ k_48) rfl hK 1 rfl (fun _ h => h) hP hD hS hA (n := (13 : Int32)) (N' := 13) (a0 := (13, .inl (fun _ => 0))) (fun c => vp_cell_i c 13 _) (by decide +kernel) (by decide +kernel) (by decide +kernel) (Nat.le_of_ble_eq_true rfl) (Nat.le_of_ble_eq_true rfl) d_C_init_23 (fun q3 H hP hD hS => ?_)
  have hP : va_P (dC, dI) vwCl [(h0, .inr (1, [.ref q1, .ref q2, .null, .int 0, .int 0])), (q1, .inl (cs 0, 13, .inr (.inl (fun _ => 0)))), (q2, .inl (cs 1, 13, .inl (fun _ => 0))), (q3, .inl (cs 1, 13, .inl (fun _ => 0)))] H := hP
  have hD : va_D (fun q : Nat => q = h0 ∨ sz ≤ q) [(h0, .inr (1, [.ref q1, .ref q2, .null, .int 0, .int 0])), (q1, .inl (cs 0, 13, .inr (.inl (fun _ => 0)))), (q2, .inl (cs 1, 13, .inl (fun _ => 0))), (q3, .inl (cs 1, 13, .inl (fun _ => 0)))] := hD
  refine va_putF (D := (dC, dI)) (ci := 1) (v := .ref q3) (ty := .array .int) (C := "GuideSearch$Causes") (T := F_C) (N := 5) hx hb hT i_C ft_C ft_C_ok n_C hown hK hP hD hS 0 rfl rfl 2 (by decide) (hT _ k_30) (fun _ h9 => h9) rfl hin rfl (by decide +kernel) rfl rfl (Nat.le_of_ble_eq_true rfl) d_C_init_25 (fun H locs hP hD hS => ?_)
  have hP : va_P (dC, dI) vwCl [(h0, .inr (1, [.ref q1, .ref q2, .ref q3, .int 0, .int 0])), (q1, .inl (cs 0, 13, .inr (.inl (fun _ => 0)))), (q2, .inl (cs 1, 13, .inl (fun _ => 0))), (q3, .inl (cs 1, 13, .inl (fun _ => 0)))] H := hP
  have hD : va_D (fun q : Nat => q = h0 ∨ sz ≤ q) [(h0, .inr (1, [.ref q1, .ref q2, .ref q3, .int 0, .int 0])), (q1, .inl (cs 0, 13, .inr (.inl (fun _ => 0)))), (q2, .inl (cs 1, 13, .inl (fun _ => 0))), (q3, .inl (cs 1, 13, .inl (fun _ => 0)))] := hD
  refine lv_aload_n hx hb d_C_init_28 rfl (lv_at hl 0 rfl) ?_
  refine lv_iconst (v := (0 : Int32)) hx hb d_C_init_29 (by decide) ?_
  refine va_put (D := (dC, dI)) (ci := 1) (v := .int (0 : Int32)) (ty := .int) (C := "GuideSearch$Causes") (T := F_C) (N := 5) hx hb hT i_C ft_C ft_C_ok n_C hown hK hP hD hS 0 rfl rfl 3 (by decide) (hT _ k_31) (fun _ h9 => h9) rfl (by decide +kernel) rfl rfl (Nat.le_of_ble_eq_true rfl) d_C_init_30 (fun H locs hP hD hS => ?_)
  have hP : va_P (dC, dI) vwCl [(h0, .inr (1, [.ref q1, .ref q2, .ref q3, .int (0 : Int32), .int 0])), (q1, .inl (cs 0, 13, .inr (.inl (fun _ => 0)))), (q2, .inl (cs 1, 13, .inl (fun _ => 0))), (q3, .inl (cs 1, 13, .inl (fun _ => 0)))] H := hP
  have hD : va_D (fun q : Nat => q = h0 ∨ sz ≤ q) [(h0, .inr (1, [.ref q1, .ref q2, .ref q3, .int (0 : Int32), .int 0])), (q1, .inl (cs 0, 13, .inr (.inl (fun _ => 0)))), (q2, .inl (cs 1, 13, .inl (fun _ => 0))), (q3, .inl (cs 1, 13, .inl (fun _ => 0)))] := hD
  refine lv_aload_n hx hb d_C_init_33 rfl (lv_at hl 0 rfl) ?_
  refine lv_iconst (v := (0 : Int32)) hx hb d_C_init_34 (by decide) ?_
  refine va_put (D := (dC, dI)) (ci := 1) (v := .int (0 : Int32)) (ty := .int) (C := "GuideSearch$Causes") (T := F_C) (N := 5) hx hb hT i_C ft_C ft_C_ok n_C hown hK hP hD hS 0 rfl rfl 4 (by decide) (hT _ k_34) (fun _ h9 => h9) rfl (by decide +kernel) rfl rfl (Nat.le_of_ble_eq_true rfl) d_C_init_35 (fun H locs hP hD hS => ?_)
  have hP : va_P (dC, dI) vwCl [(h0, .inr (1, [.ref q1, .ref q2, .ref q3, .int (0 : Int32), .int (0 : Int32)])), (q1, .inl (cs 0, 13, .inr (.inl (fun _ => 0)))), (q2, .inl (cs 1, 13, .inl (fun _ => 0))), (q3, .inl (cs 1, 13, .inl (fun _ => 0)))] H := hP
  have hD : va_D (fun q : Nat => q = h0 ∨ sz ≤ q) [(h0, .inr (1, [.ref q1, .ref q2, .ref q3, .int (0 : Int32), .int (0 : Int32)])), (q1, .inl (cs 0, 13, .inr (.inl (fun _ => 0)))), (q2, .inl (cs 1, 13, .inl (fun _ => 0))), (q3, .inl (cs 1, 13, .inl (fun _ => 0)))] := hD
  refine W.widen (k := 3) (n := 39) (Nat.le_of_ble_eq_true rfl) (Nat.le_of_ble_eq_true rfl) ?_
  exact W.vret hx hb hr (fun t ht hW => ⟨⟨(q1, q2, q3), rfl, trivial, by rw [ht]; exact hP, hD⟩, hS.F ht⟩) hS.2.2 d_C_init_38
