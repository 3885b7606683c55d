set_option maxHeartbeats 4000000 in
set_option maxRecDepth 100000 in
theorem c_K_init (l : Launch) (dC : Nat → ClassId) (dI : Nat → Nat → Nat) (cs : Nat → ClassId) (h0 sz : Nat) (ac ate : Nat) : Met l (⟨"GuideSearch$Cases", "<init>", "(LGuideSearch$Causes;LGuideSearch$Tests;)V"⟩ : MethodName) (Cond.code (⟨"GuideSearch$Cases", "<init>", "(LGuideSearch$Causes;LGuideSearch$Tests;)V"⟩ : MethodName) prog_2_method_1_code 3 none :: wg) { frames := 1, cells := 0, slots := 0, locals := 12 } (va_Pc [.ref h0, .ref ac, .ref ate] (fun U => U.heap.size = sz ∧ va_P (dC, dI) vwCl [(h0, .inr (3, [.null, .null]))] U.heap ∧ va_K (dC, dI) vwCl (g_ty cs) U ∧ NW U)) (va_Qv (fun _ : Unit => True) (fun (u : Unit) t => match u with | _ => va_P (dC, dI) vwCl [(h0, .inr (3, [.ref ac, .ref ate]))] t.heap ∧ va_D (fun q : Nat => q = h0 ∨ sz ≤ q) [(h0, .inr (3, [.ref ac, .ref ate]))]) (fun q : Nat => q = h0 ∨ sz ≤ q)) 0 0 (fun q : Nat => q = h0 ∨ sz ≤ q) := by
  refine ri_start (cc := prog_2_method_1_code) (maxL := 3) (ret := none) (by decide) (Nat.le_of_ble_eq_true rfl) ?_
  intro p e s m below meth c hx hb hr hml hT hown hlocks hin hB ls hl
  obtain ⟨hsz, hP, hK, hN⟩ := hB
  replace hown : s.vm.findClass "GuideSearch$Cases" = some m.cls := hown
  replace hin : meth.name = "<init>" := hin
  replace hl : lv_has ls 3 [(0, .ref h0), (1, .ref ac), (2, .ref ate)] := hl
  have hA : ∀ q : Nat, s.heap.size ≤ q → (fun q : Nat => q = h0 ∨ sz ≤ q) q := fun q h => Or.inr (by rw [← hsz]; exact h)
  have hS : va_S (fun q : Nat => q = h0 ∨ sz ≤ q) s.heap s.heap [] := va_S.rf
  have hD : va_D (fun q : Nat => q = h0 ∨ sz ≤ q) [(h0, .inr (3, [.null, .null]))] := ⟨fun i j p q h1 h2 _ => by
      have a1 : i < 1 := (List.getElem?_eq_some_iff.mp h1).1
      have a2 : j < 1 := (List.getElem?_eq_some_iff.mp h2).1
      omega, fun k q h => by
      have a1 : k < 1 := (List.getElem?_eq_some_iff.mp h).1
      rw [show k = 0 by omega] at h
      cases h
      exact Or.inl rfl⟩
  refine lv_aload_n hx hb d_K_init_0 rfl (lv_at hl 0 rfl) ?_
  refine W.objInit hx hb hown (hT _ k_80) (hT _ k_20) (hT _ k_obj) rfl (by rw [hml]; exact hl.1) rfl d_K_init_1 (Nat.le_of_ble_eq_true rfl) (Nat.le_of_ble_eq_true rfl) ?_
  refine W.eq (g2 := F0 m 4 ls []) rfl ?_
  refine lv_aload_n hx hb d_K_init_4 rfl (lv_at hl 0 rfl) ?_
  refine lv_aload_n hx hb d_K_init_5 rfl (lv_at hl 1 rfl) ?_
  refine va_putF (D := (dC, dI)) (ci := 3) (v := .ref ac) (ty := .object "GuideSearch$Causes") (C := "GuideSearch$Cases") (T := F_K) (N := 2) hx hb hT i_K ft_K ft_K_ok n_K hown hK hP hD hS 0 rfl rfl 0 (by decide) (hT _ k_81) (fun _ h9 => h9) rfl hin rfl (by decide +kernel) rfl rfl (Nat.le_of_ble_eq_true rfl) d_K_init_6 (fun H locs hP hD hS => ?_)
  have hP : va_P (dC, dI) vwCl [(h0, .inr (3, [.ref ac, .null]))] H := hP
  have hD : va_D (fun q : Nat => q = h0 ∨ sz ≤ q) [(h0, .inr (3, [.ref ac, .null]))] := hD
  refine lv_aload_n hx hb d_K_init_9 rfl (lv_at hl 0 rfl) ?_
  refine lv_aload_n hx hb d_K_init_10 rfl (lv_at hl 2 rfl) ?_
  refine va_putF (D := (dC, dI)) (ci := 3) (v := .ref ate) (ty := .object "GuideSearch$Tests") (C := "GuideSearch$Cases") (T := F_K) (N := 2) hx hb hT i_K ft_K ft_K_ok n_K hown hK hP hD hS 0 rfl rfl 1 (by decide) (hT _ k_82) (fun _ h9 => h9) rfl hin rfl (by decide +kernel) rfl rfl (Nat.le_of_ble_eq_true rfl) d_K_init_11 (fun H locs hP hD hS => ?_)
  have hP : va_P (dC, dI) vwCl [(h0, .inr (3, [.ref ac, .ref ate]))] H := hP
  have hD : va_D (fun q : Nat => q = h0 ∨ sz ≤ q) [(h0, .inr (3, [.ref ac, .ref ate]))] := hD
  refine W.widen (k := 0) (n := 0) (Nat.le_of_ble_eq_true rfl) (Nat.le_of_ble_eq_true rfl) ?_
  exact W.vret hx hb hr (fun t ht hW => ⟨⟨(), rfl, trivial, by rw [ht]; exact hP, hD⟩, hS.F ht⟩) hS.2.2 d_K_init_14
