set_option maxHeartbeats 4000000 in
set_option maxRecDepth 100000 in
theorem c_JA_fill_J_val (l : Launch) (dC : Nat → ClassId) (dI : Nat → Nat → Nat) (cs : Nat → ClassId) (a : Nat → Nat) (hi : ∀ i j : Nat, i < 29 → j < 29 → a i = a j → i = j) (st : XS) (p1 : Int64) (res : XS) (hf : x_JA_fill_J_val st p1 = some res) : Met l (⟨"java/util/Arrays", "fill", "([JJ)V"⟩ : MethodName) (Cond.code (⟨"java/util/Arrays", "fill", "([JJ)V"⟩ : MethodName) prog_15_method_101_code 5 none :: wg) { frames := 0, cells := 0, slots := 0, locals := 0 } (va_Pc ([.ref (a 17), .long p1] : List Value) (x_pre dC dI cs a st)) (va_Qv (fun _ : Unit => True) (fun _ t => va_P (dC, dI) vwCl (x_W cs a res) t.heap) (x_A a)) 0 0 (x_A a) := by
  refine ro_start (cc := prog_15_method_101_code) (maxL := 5) (ret := none) (by decide) (Nat.le_of_ble_eq_true rfl) ?_
  intro p e s m below meth c hx hb hr hml hT hown hlocks hB ls hl
  replace hown : s.vm.findClass "java/util/Arrays" = some m.cls := hown
  obtain ⟨hP, hK, hN⟩ := hB
  replace hl : lv_has ls 5 [(0, .ref (a 17)), (1, .long p1)] := hl
  unfold x_JA_fill_J_val at hf
  have hD : ∀ st : XS, va_D (x_A a) (x_W cs a st) := fun st => x_D hi cs st
  have main : ∀ (H : Heap) (locs : List Loc), va_P (dC, dI) vwCl (x_W cs a st) H → va_S (x_A a) s.heap H locs → W p l e { frames := 0, cells := 0, slots := 0, locals := 0 } s m ([.ref (a 17), .long p1] : List Value).toArray below meth c H locs 0 0 (MQ below (va_Qv (fun _ : Unit => True) (fun _ t => va_P (dC, dI) vwCl (x_W cs a res) t.heap) (x_A a)) ([.ref (a 17), .long p1] : List Value).toArray s 0 0 (x_A a)) (F0 m 0 ls []) := by
    intro H locs hP hS
    refine lv_iconst (v := (0 : Int32)) hx hb d_JA_fill_J_0 (by decide) ?_
    refine lv_istore_n (lv' := [(3, .int (0 : Int32)), (0, .ref (a 17)), (1, .long p1)]) hx hb d_JA_fill_J_1 rfl hl (by decide) rfl (fun ls hl => ?_)
    refine lv_aload_n hx hb d_JA_fill_J_2 rfl (lv_at hl 1 rfl) ?_
    refine va_alen (v := (1024 : Int32)) hx hb hK hP 17 0 rfl rfl rfl d_JA_fill_J_3 ?_
    refine lv_istore (lv' := [(4, .int (1024 : Int32)), (3, .int (0 : Int32)), (0, .ref (a 17)), (1, .long p1)]) hx hb d_JA_fill_J_4 hl (by decide) rfl (fun ls hl => ?_)
    have loop1 : ∀ (n : Nat) (v1 : Int32) (s2 : XS), xl2 (x_JA_fill_J_val_B1 p1) n v1 s2 = some res → ∀ (H : Heap) (locs : List Loc), va_P (dC, dI) vwCl (x_W cs a s2) H → va_S (x_A a) s.heap H locs → ∀ (ls : Array Slot), lv_has ls 5 [(4, .int (1024 : Int32)), (3, .int v1), (0, .ref (a 17)), (1, .long p1)] → W p l e { frames := 0, cells := 0, slots := 0, locals := 0 } s m ([.ref (a 17), .long p1] : List Value).toArray below meth c H locs 0 0 (MQ below (va_Qv (fun _ : Unit => True) (fun _ t => va_P (dC, dI) vwCl (x_W cs a res) t.heap) (x_A a)) ([.ref (a 17), .long p1] : List Value).toArray s 0 0 (x_A a)) (F0 m 6 ls []) := by
      intro n
      induction n with
      | zero => intro v1 s2 hf; exact absurd hf (by simp [xl2])
      | succ n ih1 =>
        intro v1 s2 hf H locs hP hS ls hl
        replace hf : (x_JA_fill_J_val_B1 p1) (xl2 (x_JA_fill_J_val_B1 p1) n) v1 s2 = some res := hf
        generalize xl2 (x_JA_fill_J_val_B1 p1) n = self1 at hf ih1
        unfold x_JA_fill_J_val_B1 at hf
        refine lv_iload_n hx hb d_JA_fill_J_6 rfl (lv_at hl 1 rfl) ?_
        refine lv_iload hx hb d_JA_fill_J_7 (lv_at hl 0 rfl) ?_
        refine lv_icmp_ge (tgt := 22) hx hb d_JA_fill_J_9 (by decide) (fun c3 => ?_) (fun c3 => ?_)
        · rw [if_pos c3] at hf
          exact W.vret hx hb hr (fun t ht _ => ⟨⟨(), rfl, trivial, x_fin ht (Option.some.inj hf) hP⟩, hS.F ht⟩) hS.2.2 d_JA_fill_J_22
        · rw [if_neg c3] at hf
          refine lv_aload_n hx hb d_JA_fill_J_12 rfl (lv_at hl 2 rfl) ?_
          refine lv_iload_n hx hb d_JA_fill_J_13 rfl (lv_at hl 1 rfl) ?_
          refine lv_lload_n hx hb d_JA_fill_J_14 rfl (lv_at hl 3 rfl) ?_
          obtain ⟨j4, ej6, hi5, hf⟩ := ix_some hf
          refine xa_last hx hb hK hP (hD _) hS 17 0 rfl rfl ej6 hi5 d_JA_fill_J_15 (fun H locs hP hS => ?_)
          rw [x_val_put cs a s2 j4 p1] at hP
          refine lv_iinc (v := (v1 + 1)) (lv' := [(3, .int (v1 + 1)), (4, .int (1024 : Int32)), (0, .ref (a 17)), (1, .long p1)]) hx hb d_JA_fill_J_16 hl (k := 1) rfl rfl (by decide) rfl (fun ls hl => ?_)
          refine lv_goto (tgt := 6) hx hb d_JA_fill_J_19 (by decide) ?_
          exact ih1 (v1 + 1) (x_val_s s2 j4 p1) hf _ _ hP hS ls (lv_sub hl [1, 0, 2, 3] rfl)
    exact loop1 _ (0 : Int32) st hf _ _ hP hS ls (lv_sub hl [0, 1, 2, 3] rfl)
  exact main _ _ hP va_S.rf
set_option maxHeartbeats 4000000 in
set_option maxRecDepth 100000 in
theorem c_P_valuesBehind (l : Launch) (dC : Nat → ClassId) (dI : Nat → Nat → Nat) (cs : Nat → ClassId) (a : Nat → Nat) (hi : ∀ i j : Nat, i < 29 → j < 29 → a i = a j → i = j) (d : Nat) (rf : XS → Int32 → Int32 → Option (XS)) (st : XS) (p1 : Int32) (p2 : Int32) (p3 : Int32) (res : Int64 × XS) (hrec : ∀ (st : XS) (p1 p2 : Int32) (res : XS), rf st p1 p2 = some res → Met l (⟨"GuideSearch$Plan", "choose", "(II)V"⟩ : MethodName) (Cond.code (⟨"GuideSearch$Plan", "choose", "(II)V"⟩ : MethodName) prog_4_method_9_code 15 none :: wg) ({ frames := 2 * d + 4, cells := 0, slots := 0, locals := 61 * d + 92 }) (va_Pc [.ref (a 16), .int p1, .int p2] (x_pre dC dI cs a st)) (va_Qv (fun _ : Unit => True) (fun _ t => va_P (dC, dI) vwCl (x_W cs a res) t.heap) (x_A a)) 0 0 (x_A a)) (hf : x_P_valuesBehind rf st p1 p2 p3 = some res) : Met l (⟨"GuideSearch$Plan", "valuesBehind", "(III)J"⟩ : MethodName) (Cond.code (⟨"GuideSearch$Plan", "valuesBehind", "(III)J"⟩ : MethodName) prog_4_method_10_code 8 (some .long) :: wg) { frames := 2 * d + 5, cells := 0, slots := 0, locals := 61 * d + 126 } (va_Pc ([.ref (a 16), .int p1, .int p2, .int p3] : List Value) (x_pre dC dI cs a st)) (va_Ql (fun r (_ : Unit) => r = res.1) (fun _ t => va_P (dC, dI) vwCl (x_W cs a res.2) t.heap) (x_A a)) 0 0 (x_A a) := by
  refine ro_start (cc := prog_4_method_10_code) (maxL := 8) (ret := (some .long)) (by decide) (Nat.le_of_ble_eq_true rfl) ?_
  intro p e s m below meth c hx hb hr hml hT hown hlocks hB ls hl
  replace hown : s.vm.findClass "GuideSearch$Plan" = some m.cls := hown
  obtain ⟨hP, hK, hN⟩ := hB
  replace hl : lv_has ls 8 [(0, .ref (a 16)), (1, .int p1), (2, .int p2), (3, .int p3)] := hl
  unfold x_P_valuesBehind at hf
  have hD : ∀ st : XS, va_D (x_A a) (x_W cs a st) := fun st => x_D hi cs st
  have main : ∀ (H : Heap) (locs : List Loc), va_P (dC, dI) vwCl (x_W cs a st) H → va_S (x_A a) s.heap H locs → W p l e { frames := 2 * d + 5, cells := 0, slots := 0, locals := 61 * d + 126 } s m ([.ref (a 16), .int p1, .int p2, .int p3] : List Value).toArray below meth c H locs 0 0 (MQ below (va_Ql (fun r (_ : Unit) => r = res.1) (fun _ t => va_P (dC, dI) vwCl (x_W cs a res.2) t.heap) (x_A a)) ([.ref (a 16), .int p1, .int p2, .int p3] : List Value).toArray s 0 0 (x_A a)) (F0 m 0 ls []) := by
    intro H locs hP hS
    refine lv_lconst (v := (0 : Int64)) hx hb d_P_valuesBehind_0 (by decide) ?_
    refine lv_lstore (lv' := [(4, .long (0 : Int64)), (0, .ref (a 16)), (1, .int p1), (2, .int p2), (3, .int p3)]) hx hb d_P_valuesBehind_1 hl (by decide) rfl (fun ls hl => ?_)
    refine lv_iconst (v := (0 : Int32)) hx hb d_P_valuesBehind_3 (by decide) ?_
    refine lv_istore (lv' := [(6, .int (0 : Int32)), (4, .long (0 : Int64)), (0, .ref (a 16)), (1, .int p1), (2, .int p2), (3, .int p3)]) hx hb d_P_valuesBehind_4 hl (by decide) rfl (fun ls hl => ?_)
    have loop1 : ∀ (n : Nat) (v1 : Int32) (v2 : Int64) (s3 : XS), xl3 (x_P_valuesBehind_B1 p1 p2 p3 rf) n v1 v2 s3 = some res → ∀ (H : Heap) (locs : List Loc), va_P (dC, dI) vwCl (x_W cs a s3) H → va_S (x_A a) s.heap H locs → ∀ (ls : Array Slot), lv_has ls 8 [(6, .int v1), (4, .long v2), (0, .ref (a 16)), (1, .int p1), (2, .int p2), (3, .int p3)] → W p l e { frames := 2 * d + 5, cells := 0, slots := 0, locals := 61 * d + 126 } s m ([.ref (a 16), .int p1, .int p2, .int p3] : List Value).toArray below meth c H locs 0 0 (MQ below (va_Ql (fun r (_ : Unit) => r = res.1) (fun _ t => va_P (dC, dI) vwCl (x_W cs a res.2) t.heap) (x_A a)) ([.ref (a 16), .int p1, .int p2, .int p3] : List Value).toArray s 0 0 (x_A a)) (F0 m 6 ls []) := by
      intro n
      induction n with
      | zero => intro v1 v2 s3 hf; exact absurd hf (by simp [xl3])
      | succ n ih1 =>
        intro v1 v2 s3 hf H locs hP hS ls hl
        replace hf : (x_P_valuesBehind_B1 p1 p2 p3 rf) (xl3 (x_P_valuesBehind_B1 p1 p2 p3 rf) n) v1 v2 s3 = some res := hf
        generalize xl3 (x_P_valuesBehind_B1 p1 p2 p3 rf) n = self1 at hf ih1
        unfold x_P_valuesBehind_B1 at hf
        refine lv_iload hx hb d_P_valuesBehind_6 (lv_at hl 0 rfl) ?_
        refine lv_iconst (v := (3 : Int32)) hx hb d_P_valuesBehind_8 (by decide) ?_
        refine lv_icmp_ge (tgt := 86) hx hb d_P_valuesBehind_9 (by decide) (fun c4 => ?_) (fun c4 => ?_)
        · rw [if_pos c4] at hf
          refine lv_lload hx hb d_P_valuesBehind_86 (lv_at hl 1 rfl) ?_
          exact W.lret hx hb hr (fun t ht _ => ⟨⟨_, (), rfl, congrArg Prod.fst (Option.some.inj hf), x_fin ht (congrArg Prod.snd (Option.some.inj hf)) hP⟩, hS.F ht⟩) hS.2.2 d_P_valuesBehind_88
        · rw [if_neg c4] at hf
          refine lv_iload_n hx hb d_P_valuesBehind_12 rfl (lv_at hl 4 rfl) ?_
          refine lv_iload_n hx hb d_P_valuesBehind_13 rfl (lv_at hl 3 rfl) ?_
          refine lv_iload hx hb d_P_valuesBehind_14 (lv_at hl 0 rfl) ?_
          obtain ⟨r6, hr5, hf⟩ := ob hf
          refine ro_calli (va_runSN (As := [.int p2, .int p1, .int v1]) (rest := []) ⟨hx, hb, hml, hown, hT⟩ (c_G_withAnswer l p2 p1 v1 r6 hr5) ⟨va_cnB 3 hT (gcode k_321) rfl rfl rfl (hN _ k_319) (hT _ k_1) (by decide +kernel) ⟨by first | omega | (dsimp only; omega), by first | omega | (dsimp only; omega)⟩, hT _ k_320, trivial⟩ ⟨fun _ _ _ _ q => q, fun _ _ _ => ⟨rfl, trivial⟩⟩ rfl rfl hl.1 rfl (lv_room (Nat.le_of_ble_eq_true rfl)) d_P_valuesBehind_16 ⟨Nat.le_of_ble_eq_true rfl, Nat.le_of_ble_eq_true rfl⟩) ?_
          refine lv_istore (lv' := [(7, .int r6), (6, .int v1), (4, .long v2), (0, .ref (a 16)), (1, .int p1), (2, .int p2), (3, .int p3)]) hx hb d_P_valuesBehind_19 hl (by decide) rfl (fun ls hl => ?_)
          refine lv_iload hx hb d_P_valuesBehind_21 (lv_at hl 0 rfl) ?_
          refine lv_if_lt (tgt := 80) hx hb d_P_valuesBehind_23 (by decide) (fun c7 => ?_) (fun c7 => ?_)
          · rw [if_pos c7] at hf
            refine lv_iinc (v := (v1 + 1)) (lv' := [(6, .int (v1 + 1)), (7, .int r6), (4, .long v2), (0, .ref (a 16)), (1, .int p1), (2, .int p2), (3, .int p3)]) hx hb d_P_valuesBehind_80 hl (k := 1) rfl rfl (by decide) rfl (fun ls hl => ?_)
            refine lv_goto (tgt := 6) hx hb d_P_valuesBehind_83 (by decide) ?_
            exact ih1 (v1 + 1) v2 s3 hf _ _ hP hS ls (lv_sub hl [0, 2, 3, 4, 5, 6] rfl)
          · rw [if_neg c7] at hf
            refine lv_iload hx hb d_P_valuesBehind_26 (lv_at hl 0 rfl) ?_
            refine lv_sipush (v := (1024 : Int32)) hx hb d_P_valuesBehind_28 (by decide) ?_
            refine lv_icmp_lt (tgt := 37) hx hb d_P_valuesBehind_31 (by decide) (fun c8 => ?_) (fun c8 => ?_)
            · rw [if_pos c8] at hf
              refine lv_aload_n hx hb d_P_valuesBehind_37 rfl (lv_at hl 3 rfl) ?_
              refine va_get (D := (dC, dI)) (ci := 4) (v := .ref (a 17)) (C := "GuideSearch$Plan") (T := F_P) (N := 9) hx hb hT i_P hown hK hP 16 rfl rfl 1 (by decide) (hT _ k_99) (fun _ h9 => h9) rfl d_P_valuesBehind_38 ?_
              refine lv_iload hx hb d_P_valuesBehind_41 (lv_at hl 0 rfl) ?_
              obtain ⟨j9, ej11, hi10, hf⟩ := ix_some hf
              refine xa_lald hx hb hK hP 17 0 rfl rfl ej11 hi10 d_P_valuesBehind_43 ?_
              refine lv_ldc2 (v := (-1 : Int64)) hx hb hown (hT _ k_97) d_P_valuesBehind_44 ?_
              refine W.lcmp hx hb d_P_valuesBehind_47 ?_
              refine lv_if_ne (tgt := 68) hx hb d_P_valuesBehind_48 (by decide) (fun c12 => ?_) (fun c12 => ?_)
              · rw [if_neg (mt (lg_cmp_eq _ _).mpr c12)] at hf
                refine lv_lload hx hb d_P_valuesBehind_68 (lv_at hl 2 rfl) ?_
                refine lv_aload_n hx hb d_P_valuesBehind_70 rfl (lv_at hl 3 rfl) ?_
                refine va_get (D := (dC, dI)) (ci := 4) (v := .ref (a 17)) (C := "GuideSearch$Plan") (T := F_P) (N := 9) hx hb hT i_P hown hK hP 16 rfl rfl 1 (by decide) (hT _ k_99) (fun _ h9 => h9) rfl d_P_valuesBehind_71 ?_
                refine lv_iload hx hb d_P_valuesBehind_74 (lv_at hl 0 rfl) ?_
                obtain ⟨j13, ej15, hi14, hf⟩ := ix_some hf
                refine xa_lald hx hb hK hP 17 0 rfl rfl ej15 hi14 d_P_valuesBehind_76 ?_
                refine lv_ladd hx hb d_P_valuesBehind_77 ?_
                refine lv_lstore (lv' := [(4, .long (v2 + (x_val s3 j13))), (7, .int r6), (6, .int v1), (0, .ref (a 16)), (1, .int p1), (2, .int p2), (3, .int p3)]) hx hb d_P_valuesBehind_78 hl (by decide) rfl (fun ls hl => ?_)
                refine lv_iinc (v := (v1 + 1)) (lv' := [(6, .int (v1 + 1)), (4, .long (v2 + (x_val s3 j13))), (7, .int r6), (0, .ref (a 16)), (1, .int p1), (2, .int p2), (3, .int p3)]) hx hb d_P_valuesBehind_80 hl (k := 2) rfl rfl (by decide) rfl (fun ls hl => ?_)
                refine lv_goto (tgt := 6) hx hb d_P_valuesBehind_83 (by decide) ?_
                exact ih1 (v1 + 1) (v2 + (x_val s3 j13)) s3 hf _ _ hP hS ls (lv_sub hl [0, 1, 3, 4, 5, 6] rfl)
              · rw [if_pos ((lg_cmp_eq _ _).mp c12)] at hf
                refine lv_aload_n hx hb d_P_valuesBehind_51 rfl (lv_at hl 3 rfl) ?_
                refine lv_iload_n hx hb d_P_valuesBehind_52 rfl (lv_at hl 4 rfl) ?_
                refine lv_iload hx hb d_P_valuesBehind_53 (lv_at hl 1 rfl) ?_
                refine lv_iload_n hx hb d_P_valuesBehind_55 rfl (lv_at hl 6 rfl) ?_
                obtain ⟨s17, hr16, hf⟩ := ob hf
                refine rw_callv (va_runV (C := "GuideSearch$Plan") (As := [.int p1, .int v1, .int p3]) (rest := []) ⟨hx, hb, hml, hown, hT⟩ (c_P_weighBehind l dC dI cs a hi s3 p1 v1 p3 s17 hr16) (cwV 3 hT (gV k_322 k_324 ks_6 k_6 k_325) rfl rfl rfl (by decide +kernel) ⟨by first | omega | (dsimp only; omega), by first | omega | (dsimp only; omega)⟩) (ro_preV hP hK hN (va_recv hK hP (ci := 4) (q0 := 16) rfl rfl)) rfl rfl hl.1 rfl (lv_room (Nat.le_of_ble_eq_true rfl)) d_P_valuesBehind_56 ⟨Nat.le_of_ble_eq_true rfl, Nat.le_of_ble_eq_true rfl⟩) hS (fun H locs hP hS => ?_)
                refine lv_aload_n hx hb d_P_valuesBehind_59 rfl (lv_at hl 3 rfl) ?_
                refine lv_iload hx hb d_P_valuesBehind_60 (lv_at hl 0 rfl) ?_
                refine lv_iload_n hx hb d_P_valuesBehind_62 rfl (lv_at hl 6 rfl) ?_
                refine lv_iconst (v := (1 : Int32)) hx hb d_P_valuesBehind_63 (by decide) ?_
                refine lv_iadd hx hb d_P_valuesBehind_64 ?_
                obtain ⟨s19, hr18, hf⟩ := ob hf
                refine rw_callv (va_runV (C := "GuideSearch$Plan") (As := [.int r6, .int (p3 + (1 : Int32))]) (rest := []) ⟨hx, hb, hml, hown, hT⟩ (hrec s17 r6 (p3 + (1 : Int32)) s19 hr18) (cwV 2 hT (gV k_273 k_275 ks_2 k_6 k_276) rfl rfl rfl (by decide +kernel) ⟨by first | omega | (dsimp only; omega), by first | omega | (dsimp only; omega)⟩) (ro_preV hP hK hN (va_recv hK hP (ci := 4) (q0 := 16) rfl rfl)) rfl rfl hl.1 rfl (lv_room (Nat.le_of_ble_eq_true rfl)) d_P_valuesBehind_65 ⟨Nat.le_of_ble_eq_true rfl, Nat.le_of_ble_eq_true rfl⟩) hS (fun H locs hP hS => ?_)
                refine lv_lload hx hb d_P_valuesBehind_68 (lv_at hl 2 rfl) ?_
                refine lv_aload_n hx hb d_P_valuesBehind_70 rfl (lv_at hl 3 rfl) ?_
                refine va_get (D := (dC, dI)) (ci := 4) (v := .ref (a 17)) (C := "GuideSearch$Plan") (T := F_P) (N := 9) hx hb hT i_P hown hK hP 16 rfl rfl 1 (by decide) (hT _ k_99) (fun _ h9 => h9) rfl d_P_valuesBehind_71 ?_
                refine lv_iload hx hb d_P_valuesBehind_74 (lv_at hl 0 rfl) ?_
                obtain ⟨j20, ej22, hi21, hf⟩ := ix_some hf
                refine xa_lald hx hb hK hP 17 0 rfl rfl ej22 hi21 d_P_valuesBehind_76 ?_
                refine lv_ladd hx hb d_P_valuesBehind_77 ?_
                refine lv_lstore (lv' := [(4, .long (v2 + (x_val s19 j20))), (7, .int r6), (6, .int v1), (0, .ref (a 16)), (1, .int p1), (2, .int p2), (3, .int p3)]) hx hb d_P_valuesBehind_78 hl (by decide) rfl (fun ls hl => ?_)
                refine lv_iinc (v := (v1 + 1)) (lv' := [(6, .int (v1 + 1)), (4, .long (v2 + (x_val s19 j20))), (7, .int r6), (0, .ref (a 16)), (1, .int p1), (2, .int p2), (3, .int p3)]) hx hb d_P_valuesBehind_80 hl (k := 2) rfl rfl (by decide) rfl (fun ls hl => ?_)
                refine lv_goto (tgt := 6) hx hb d_P_valuesBehind_83 (by decide) ?_
                exact ih1 (v1 + 1) (v2 + (x_val s19 j20)) s19 hf _ _ hP hS ls (lv_sub hl [0, 1, 3, 4, 5, 6] rfl)
            · rw [if_neg c8] at hf
              refine lv_goto (tgt := 80) hx hb d_P_valuesBehind_34 (by decide) ?_
              refine lv_iinc (v := (v1 + 1)) (lv' := [(6, .int (v1 + 1)), (7, .int r6), (4, .long v2), (0, .ref (a 16)), (1, .int p1), (2, .int p2), (3, .int p3)]) hx hb d_P_valuesBehind_80 hl (k := 1) rfl rfl (by decide) rfl (fun ls hl => ?_)
              refine lv_goto (tgt := 6) hx hb d_P_valuesBehind_83 (by decide) ?_
              exact ih1 (v1 + 1) v2 s3 hf _ _ hP hS ls (lv_sub hl [0, 2, 3, 4, 5, 6] rfl)
    exact loop1 _ (0 : Int32) (0 : Int64) st hf _ _ hP hS ls (lv_sub hl [0, 1, 2, 3, 4, 5] rfl)
  exact main _ _ hP va_S.rf
set_option maxHeartbeats 4000000 in
set_option maxRecDepth 100000 in
theorem c_P_choose_b (l : Launch) (dC : Nat → ClassId) (dI : Nat → Nat → Nat) (cs : Nat → ClassId) (a : Nat → Nat) (hi : ∀ i j : Nat, i < 29 → j < 29 → a i = a j → i = j) (d : Nat) (rf : XS → Int32 → Int32 → Option (XS)) (st : XS) (p1 : Int32) (p2 : Int32) (res : XS) (hrec : ∀ (st : XS) (p1 p2 : Int32) (res : XS), rf st p1 p2 = some res → Met l (⟨"GuideSearch$Plan", "choose", "(II)V"⟩ : MethodName) (Cond.code (⟨"GuideSearch$Plan", "choose", "(II)V"⟩ : MethodName) prog_4_method_9_code 15 none :: wg) ({ frames := 2 * d + 4, cells := 0, slots := 0, locals := 61 * d + 92 }) (va_Pc [.ref (a 16), .int p1, .int p2] (x_pre dC dI cs a st)) (va_Qv (fun _ : Unit => True) (fun _ t => va_P (dC, dI) vwCl (x_W cs a res) t.heap) (x_A a)) 0 0 (x_A a)) (hf : x_P_choose_b rf st p1 p2 = some res) : Met l (⟨"GuideSearch$Plan", "choose", "(II)V"⟩ : MethodName) (Cond.code (⟨"GuideSearch$Plan", "choose", "(II)V"⟩ : MethodName) prog_4_method_9_code 15 none :: wg) { frames := 2 * (d + 1) + 4, cells := 0, slots := 0, locals := 61 * (d + 1) + 92 } (va_Pc ([.ref (a 16), .int p1, .int p2] : List Value) (x_pre dC dI cs a st)) (va_Qv (fun _ : Unit => True) (fun _ t => va_P (dC, dI) vwCl (x_W cs a res) t.heap) (x_A a)) 0 0 (x_A a) := by
  refine ro_start (cc := prog_4_method_9_code) (maxL := 15) (ret := none) (by decide) (Nat.le_of_ble_eq_true rfl) ?_
  intro p e s m below meth c hx hb hr hml hT hown hlocks hB ls hl
  replace hown : s.vm.findClass "GuideSearch$Plan" = some m.cls := hown
  obtain ⟨hP, hK, hN⟩ := hB
  replace hl : lv_has ls 15 [(0, .ref (a 16)), (1, .int p1), (2, .int p2)] := hl
  unfold x_P_choose_b at hf
  have hD : ∀ st : XS, va_D (x_A a) (x_W cs a st) := fun st => x_D hi cs st
  have main : ∀ (H : Heap) (locs : List Loc), va_P (dC, dI) vwCl (x_W cs a st) H → va_S (x_A a) s.heap H locs → W p l e { frames := 2 * (d + 1) + 4, cells := 0, slots := 0, locals := 61 * (d + 1) + 92 } s m ([.ref (a 16), .int p1, .int p2] : List Value).toArray below meth c H locs 0 0 (MQ below (va_Qv (fun _ : Unit => True) (fun _ t => va_P (dC, dI) vwCl (x_W cs a res) t.heap) (x_A a)) ([.ref (a 16), .int p1, .int p2] : List Value).toArray s 0 0 (x_A a)) (F0 m 0 ls []) := by
    intro H locs hP hS
    refine lv_iload_n hx hb d_P_choose_0 rfl (lv_at hl 2 rfl) ?_
    refine lv_iconst (v := (5 : Int32)) hx hb d_P_choose_1 (by decide) ?_
    refine lv_icmp_gt (tgt := 16) hx hb d_P_choose_2 (by decide) (fun c1 => ?_) (fun c1 => ?_)
    · rw [if_pos c1] at hf
      exact W.vret hx hb hr (fun t ht _ => ⟨⟨(), rfl, trivial, x_fin ht (Option.some.inj hf) hP⟩, hS.F ht⟩) hS.2.2 d_P_choose_16
    · rw [if_neg c1] at hf
      refine lv_iload_n hx hb d_P_choose_5 rfl (lv_at hl 1 rfl) ?_
      refine lv_if_lt (tgt := 16) hx hb d_P_choose_6 (by decide) (fun c2 => ?_) (fun c2 => ?_)
      · rw [if_pos c2] at hf
        exact W.vret hx hb hr (fun t ht _ => ⟨⟨(), rfl, trivial, x_fin ht (Option.some.inj hf) hP⟩, hS.F ht⟩) hS.2.2 d_P_choose_16
      · rw [if_neg c2] at hf
        refine lv_iload_n hx hb d_P_choose_9 rfl (lv_at hl 1 rfl) ?_
        refine lv_sipush (v := (1024 : Int32)) hx hb d_P_choose_10 (by decide) ?_
        refine lv_icmp_lt (tgt := 17) hx hb d_P_choose_13 (by decide) (fun c3 => ?_) (fun c3 => ?_)
        · rw [if_pos c3] at hf
          refine lv_aload_n hx hb d_P_choose_17 rfl (lv_at hl 0 rfl) ?_
          refine lv_iload_n hx hb d_P_choose_18 rfl (lv_at hl 2 rfl) ?_
          obtain ⟨r5, hr4, hf⟩ := ob hf
          refine ro_calli (va_runV (C := "GuideSearch$Plan") (As := [.int p2]) (rest := []) ⟨hx, hb, hml, hown, hT⟩ (c_P_leftAt l dC dI cs a st p2 r5 hr4) (cwV 1 hT (gV k_277 k_279 ks_3 k_6 k_280) rfl rfl rfl (by decide +kernel) ⟨by first | omega | (dsimp only; omega), by first | omega | (dsimp only; omega)⟩) (ro_preV hP hK hN (va_recv hK hP (ci := 4) (q0 := 16) rfl rfl)) rfl rfl hl.1 rfl (lv_room (Nat.le_of_ble_eq_true rfl)) d_P_choose_19 ⟨Nat.le_of_ble_eq_true rfl, Nat.le_of_ble_eq_true rfl⟩) ?_
          refine lv_istore_n (lv' := [(3, .int r5), (0, .ref (a 16)), (1, .int p1), (2, .int p2)]) hx hb d_P_choose_22 rfl hl (by decide) rfl (fun ls hl => ?_)
          refine lv_aload_n hx hb d_P_choose_23 rfl (lv_at hl 1 rfl) ?_
          refine va_get (D := (dC, dI)) (ci := 4) (v := .ref (a 15)) (C := "GuideSearch$Plan") (T := F_P) (N := 9) hx hb hT i_P hown hK hP 16 rfl rfl 0 (by decide) (hT _ k_98) (fun _ h9 => h9) rfl d_P_choose_24 ?_
          refine lv_iload_n hx hb d_P_choose_27 rfl (lv_at hl 2 rfl) ?_
          refine lv_iload_n hx hb d_P_choose_28 rfl (lv_at hl 0 rfl) ?_
          obtain ⟨r7, hr6, hf⟩ := ob hf
          refine ro_calli (va_runV (C := "GuideSearch$Cases") (As := [.int p1, .int r5]) (rest := []) ⟨hx, hb, hml, hown, hT⟩ (c_K_usable l dC dI cs a st p1 r5 r7 hr6) (cwV 2 hT (gV k_282 k_283 k_284 k_5 k_285) rfl rfl rfl (by decide +kernel) ⟨by first | omega | (dsimp only; omega), by first | omega | (dsimp only; omega)⟩) (ro_preV hP hK hN (va_recv hK hP (ci := 3) (q0 := 15) rfl rfl)) rfl rfl hl.1 rfl (lv_room (Nat.le_of_ble_eq_true rfl)) d_P_choose_29 ⟨Nat.le_of_ble_eq_true rfl, Nat.le_of_ble_eq_true rfl⟩) ?_
          refine lv_istore (lv' := [(4, .int r7), (3, .int r5), (0, .ref (a 16)), (1, .int p1), (2, .int p2)]) hx hb d_P_choose_32 hl (by decide) rfl (fun ls hl => ?_)
          refine lv_aload_n hx hb d_P_choose_34 rfl (lv_at hl 2 rfl) ?_
          refine va_get (D := (dC, dI)) (ci := 4) (v := .ref (a 15)) (C := "GuideSearch$Plan") (T := F_P) (N := 9) hx hb hT i_P hown hK hP 16 rfl rfl 0 (by decide) (hT _ k_98) (fun _ h9 => h9) rfl d_P_choose_35 ?_
          refine lv_iload hx hb d_P_choose_38 (lv_at hl 0 rfl) ?_
          obtain ⟨r9, hr8, hf⟩ := ob hf
          refine ro_calli (va_runV (C := "GuideSearch$Cases") (As := [.int r7]) (rest := []) ⟨hx, hb, hml, hown, hT⟩ (c_K_firstFree l dC dI cs a st r7 r9 hr8) (cwV 1 hT (gV k_296 k_297 k_298 k_5 k_299) rfl rfl rfl (by decide +kernel) ⟨by first | omega | (dsimp only; omega), by first | omega | (dsimp only; omega)⟩) (ro_preV hP hK hN (va_recv hK hP (ci := 3) (q0 := 15) rfl rfl)) rfl rfl hl.1 rfl (lv_room (Nat.le_of_ble_eq_true rfl)) d_P_choose_40 ⟨Nat.le_of_ble_eq_true rfl, Nat.le_of_ble_eq_true rfl⟩) ?_
          refine lv_istore (lv' := [(5, .int r9), (4, .int r7), (3, .int r5), (0, .ref (a 16)), (1, .int p1), (2, .int p2)]) hx hb d_P_choose_43 hl (by decide) rfl (fun ls hl => ?_)
          refine lv_iload hx hb d_P_choose_45 (lv_at hl 0 rfl) ?_
          have join1 : ∀ (v10 : Int32), x_P_choose_J1 st p1 p2 rf r5 v10 = some res → ∀ (ls : Array Slot), lv_has ls 15 [(3, .int r5), (0, .ref (a 16)), (1, .int p1), (2, .int p2)] → W p l e { frames := 2 * (d + 1) + 4, cells := 0, slots := 0, locals := 61 * (d + 1) + 92 } s m ([.ref (a 16), .int p1, .int p2] : List Value).toArray below meth c H locs 0 0 (MQ below (va_Qv (fun _ : Unit => True) (fun _ t => va_P (dC, dI) vwCl (x_W cs a res) t.heap) (x_A a)) ([.ref (a 16), .int p1, .int p2] : List Value).toArray s 0 0 (x_A a)) (F0 m 60 ls [.int v10]) := by
            intro v10 hf ls hl
            unfold x_P_choose_J1 at hf
            refine lv_istore (lv' := [(6, .int v10), (3, .int r5), (0, .ref (a 16)), (1, .int p1), (2, .int p2)]) hx hb d_P_choose_60 hl (by decide) rfl (fun ls hl => ?_)
            refine lv_aload_n hx hb d_P_choose_62 rfl (lv_at hl 2 rfl) ?_
            refine lv_iload_n hx hb d_P_choose_63 rfl (lv_at hl 4 rfl) ?_
            obtain ⟨r12, hr11, hf⟩ := ob hf
            refine ro_calll (va_runV (C := "GuideSearch$Plan") (As := [.int p2]) (rest := []) ⟨hx, hb, hml, hown, hT⟩ (c_P_weightAt l dC dI cs a st p2 r12 hr11) (cwV 1 hT (gV k_305 k_307 ks_4 k_6 k_308) rfl rfl rfl (by decide +kernel) ⟨by first | omega | (dsimp only; omega), by first | omega | (dsimp only; omega)⟩) (ro_preV hP hK hN (va_recv hK hP (ci := 4) (q0 := 16) rfl rfl)) rfl rfl hl.1 rfl (lv_room (Nat.le_of_ble_eq_true rfl)) d_P_choose_64 ⟨Nat.le_of_ble_eq_true rfl, Nat.le_of_ble_eq_true rfl⟩) ?_
            refine lv_lstore (lv' := [(7, .long r12), (6, .int v10), (3, .int r5), (0, .ref (a 16)), (1, .int p1), (2, .int p2)]) hx hb d_P_choose_67 hl (by decide) rfl (fun ls hl => ?_)
            refine lv_iconst (v := (0 : Int32)) hx hb d_P_choose_69 (by decide) ?_
            refine lv_istore (lv' := [(9, .int (0 : Int32)), (7, .long r12), (6, .int v10), (3, .int r5), (0, .ref (a 16)), (1, .int p1), (2, .int p2)]) hx hb d_P_choose_70 hl (by decide) rfl (fun ls hl => ?_)
            refine lv_sipush (v := (300 : Int32)) hx hb d_P_choose_72 (by decide) ?_
            refine lv_iload_n hx hb d_P_choose_75 rfl (lv_at hl 3 rfl) ?_
            obtain ⟨r14, hr13, hf⟩ := ob hf
            refine ro_calli (va_runS (As := [.int r5]) (rest := [.int (300 : Int32)]) ⟨hx, hb, hml, hown, hT⟩ (c_JI_bitCount l r5 r14 hr13) (va_cwS 1 hT (gS k_309 k_228 k_8 k_229) rfl rfl rfl (by decide +kernel) ⟨by first | omega | (dsimp only; omega), by first | omega | (dsimp only; omega)⟩) ⟨fun _ _ _ _ q => q, fun _ _ _ => ⟨rfl, trivial⟩⟩ rfl rfl hl.1 rfl (lv_room (Nat.le_of_ble_eq_true rfl)) d_P_choose_76 ⟨Nat.le_of_ble_eq_true rfl, Nat.le_of_ble_eq_true rfl⟩) ?_
            refine lv_iconst (v := (1 : Int32)) hx hb d_P_choose_79 (by decide) ?_
            refine lv_isub hx hb d_P_choose_80 ?_
            refine lv_iconst (v := (0 : Int32)) hx hb d_P_choose_81 (by decide) ?_
            refine va_mmax hx hb (hml.trans hl.1.symm) hown (hT _ k_310) (hT _ k_311) (hT _ k_9) (hT _ k_312) (Nat.le_of_ble_eq_true rfl) (Nat.le_of_ble_eq_true rfl) (Nat.le_of_ble_eq_true rfl) (Nat.le_of_ble_eq_true rfl) d_P_choose_82 ?_
            refine lv_imul hx hb d_P_choose_85 ?_
            refine lv_i2l (v := ((300 : Int32) * (if (r14 - (1 : Int32)) < (0 : Int32) then (0 : Int32) else (r14 - (1 : Int32)))).toInt64) hx hb d_P_choose_86 rfl ?_
            refine lv_lload hx hb d_P_choose_87 (lv_at hl 1 rfl) ?_
            refine lv_lmul hx hb d_P_choose_89 ?_
            refine lv_lstore (lv' := [(10, .long (((300 : Int32) * (if (r14 - (1 : Int32)) < (0 : Int32) then (0 : Int32) else (r14 - (1 : Int32)))).toInt64 * r12)), (9, .int (0 : Int32)), (7, .long r12), (6, .int v10), (3, .int r5), (0, .ref (a 16)), (1, .int p1), (2, .int p2)]) hx hb d_P_choose_90 hl (by decide) rfl (fun ls hl => ?_)
            refine lv_iconst (v := (1 : Int32)) hx hb d_P_choose_92 (by decide) ?_
            refine lv_istore (lv' := [(12, .int (1 : Int32)), (10, .long (((300 : Int32) * (if (r14 - (1 : Int32)) < (0 : Int32) then (0 : Int32) else (r14 - (1 : Int32)))).toInt64 * r12)), (9, .int (0 : Int32)), (7, .long r12), (6, .int v10), (3, .int r5), (0, .ref (a 16)), (1, .int p1), (2, .int p2)]) hx hb d_P_choose_93 hl (by decide) rfl (fun ls hl => ?_)
            have loop2 : ∀ (n : Nat) (v15 : Int32) (v16 : Int64) (v17 : Int32) (s18 : XS), xl4 (x_P_choose_B2 p1 p2 rf v10 r12) n v15 v16 v17 s18 = some res → ∀ (H : Heap) (locs : List Loc), va_P (dC, dI) vwCl (x_W cs a s18) H → va_S (x_A a) s.heap H locs → ∀ (ls : Array Slot), lv_has ls 15 [(12, .int v15), (10, .long v16), (9, .int v17), (7, .long r12), (6, .int v10), (0, .ref (a 16)), (1, .int p1), (2, .int p2)] → W p l e { frames := 2 * (d + 1) + 4, cells := 0, slots := 0, locals := 61 * (d + 1) + 92 } s m ([.ref (a 16), .int p1, .int p2] : List Value).toArray below meth c H locs 0 0 (MQ below (va_Qv (fun _ : Unit => True) (fun _ t => va_P (dC, dI) vwCl (x_W cs a res) t.heap) (x_A a)) ([.ref (a 16), .int p1, .int p2] : List Value).toArray s 0 0 (x_A a)) (F0 m 95 ls []) := by
              intro n
              induction n with
              | zero => intro v15 v16 v17 s18 hf; exact absurd hf (by simp [xl4])
              | succ n ih2 =>
                intro v15 v16 v17 s18 hf H locs hP hS ls hl
                replace hf : (x_P_choose_B2 p1 p2 rf v10 r12) (xl4 (x_P_choose_B2 p1 p2 rf v10 r12) n) v15 v16 v17 s18 = some res := hf
                generalize xl4 (x_P_choose_B2 p1 p2 rf v10 r12) n = self2 at hf ih2
                unfold x_P_choose_B2 at hf
                refine lv_iload hx hb d_P_choose_95 (lv_at hl 0 rfl) ?_
                refine lv_iconst (v := (5 : Int32)) hx hb d_P_choose_97 (by decide) ?_
                refine lv_icmp_gt (tgt := 168) hx hb d_P_choose_98 (by decide) (fun c19 => ?_) (fun c19 => ?_)
                · rw [if_pos c19] at hf
                  refine lv_aload_n hx hb d_P_choose_168 rfl (lv_at hl 5 rfl) ?_
                  refine va_get (D := (dC, dI)) (ci := 4) (v := .ref (a 17)) (C := "GuideSearch$Plan") (T := F_P) (N := 9) hx hb hT i_P hown hK hP 16 rfl rfl 1 (by decide) (hT _ k_99) (fun _ h9 => h9) rfl d_P_choose_169 ?_
                  refine lv_iload_n hx hb d_P_choose_172 rfl (lv_at hl 6 rfl) ?_
                  refine lv_lload hx hb d_P_choose_173 (lv_at hl 1 rfl) ?_
                  obtain ⟨j20, ej22, hi21, hf⟩ := ix_some hf
                  refine xa_last hx hb hK hP (hD _) hS 17 0 rfl rfl ej22 hi21 d_P_choose_175 (fun H locs hP hS => ?_)
                  rw [x_val_put cs a s18 j20 v16] at hP
                  refine lv_aload_n hx hb d_P_choose_176 rfl (lv_at hl 5 rfl) ?_
                  refine va_get (D := (dC, dI)) (ci := 4) (v := .ref (a 18)) (C := "GuideSearch$Plan") (T := F_P) (N := 9) hx hb hT i_P hown hK hP 16 rfl rfl 2 (by decide) (hT _ k_100) (fun _ h9 => h9) rfl d_P_choose_177 ?_
                  refine lv_iload_n hx hb d_P_choose_180 rfl (lv_at hl 6 rfl) ?_
                  refine lv_iload hx hb d_P_choose_181 (lv_at hl 2 rfl) ?_
                  refine lv_i2b (v := v17.toInt8.toInt32) hx hb d_P_choose_183 rfl ?_
                  obtain ⟨j23, ej25, hi24, hf⟩ := ix_some hf
                  refine xa_bast hx hb hK hP (hD _) hS 18 2 rfl rfl ej25 hi24 d_P_choose_184 (fun H locs hP hS => ?_)
                  rw [x_pic_put cs a (x_val_s s18 j20 v16) j23 (vp_nar .byte v17.toInt8.toInt32)] at hP
                  exact W.vret hx hb hr (fun t ht _ => ⟨⟨(), rfl, trivial, x_fin ht (Option.some.inj hf) hP⟩, hS.F ht⟩) hS.2.2 d_P_choose_185
                · rw [if_neg c19] at hf
                  refine lv_iload hx hb d_P_choose_101 (lv_at hl 4 rfl) ?_
                  refine lv_iload hx hb d_P_choose_103 (lv_at hl 0 rfl) ?_
                  obtain ⟨r27, hr26, hf⟩ := ob hf
                  refine ro_calli (va_runSN (As := [.int v10, .int v15]) (rest := []) ⟨hx, hb, hml, hown, hT⟩ (c_G_holds l v10 v15 r27 hr26) ⟨va_cnB 2 hT (gcode k_218) rfl rfl rfl (hN _ k_313) (hT _ k_1) (by decide +kernel) ⟨by first | omega | (dsimp only; omega), by first | omega | (dsimp only; omega)⟩, hT _ k_217, trivial⟩ ⟨fun _ _ _ _ q => q, fun _ _ _ => ⟨rfl, trivial⟩⟩ rfl rfl hl.1 rfl (lv_room (Nat.le_of_ble_eq_true rfl)) d_P_choose_105 ⟨Nat.le_of_ble_eq_true rfl, Nat.le_of_ble_eq_true rfl⟩) ?_
                  refine lv_if_ne (tgt := 114) hx hb d_P_choose_108 (by decide) (fun c28 => ?_) (fun c28 => ?_)
                  · rw [if_neg c28] at hf
                    refine lv_aload_n hx hb d_P_choose_114 rfl (lv_at hl 5 rfl) ?_
                    refine va_get (D := (dC, dI)) (ci := 4) (v := .ref (a 15)) (C := "GuideSearch$Plan") (T := F_P) (N := 9) hx hb hT i_P hown hK hP 16 rfl rfl 0 (by decide) (hT _ k_98) (fun _ h9 => h9) rfl d_P_choose_115 ?_
                    refine va_getN (D := (dC, dI)) (ci := 3) (v := .ref (a 5)) (C := "GuideSearch$Cases") (T := F_K) (N := 2) hx hb hT i_K hown hK hP 15 rfl rfl 1 (by decide) (va_Nw.use rfl (hN _ k_83)) (fun _ h9 => h9) rfl d_P_choose_118 ?_
                    refine lv_iload hx hb d_P_choose_121 (lv_at hl 0 rfl) ?_
                    obtain ⟨r30, hr29, hf⟩ := ob hf
                    refine ro_calli (va_runV (C := "GuideSearch$Tests") (As := [.int v15]) (rest := []) ⟨hx, hb, hml, hown, hT⟩ (c_T_price l dC dI cs a s18 v15 r30 hr29) (cwV 1 hT (gV k_314 k_302 k_303 k_3 k_304) rfl rfl rfl (by decide +kernel) ⟨by first | omega | (dsimp only; omega), by first | omega | (dsimp only; omega)⟩) (ro_preV hP hK hN (va_recv hK hP (ci := 2) (q0 := 5) rfl rfl)) rfl rfl hl.1 rfl (lv_room (Nat.le_of_ble_eq_true rfl)) d_P_choose_123 ⟨Nat.le_of_ble_eq_true rfl, Nat.le_of_ble_eq_true rfl⟩) ?_
                    refine lv_i2l (v := r30.toInt64) hx hb d_P_choose_126 rfl ?_
                    refine lv_lload hx hb d_P_choose_127 (lv_at hl 3 rfl) ?_
                    refine lv_lmul hx hb d_P_choose_129 ?_
                    refine lv_aload_n hx hb d_P_choose_130 rfl (lv_at hl 5 rfl) ?_
                    refine lv_iload hx hb d_P_choose_131 (lv_at hl 0 rfl) ?_
                    refine lv_iload_n hx hb d_P_choose_133 rfl (lv_at hl 6 rfl) ?_
                    refine lv_iload_n hx hb d_P_choose_134 rfl (lv_at hl 7 rfl) ?_
                    obtain ⟨r33, s32, hr31, hf⟩ := bd2_some hf
                    refine rw_calll (va_runV (C := "GuideSearch$Plan") (As := [.int v15, .int p1, .int p2]) (rest := [.long (r30.toInt64 * r12)]) ⟨hx, hb, hml, hown, hT⟩ (c_P_valuesBehind l dC dI cs a hi d rf s18 v15 p1 p2 (r33, s32) hrec hr31) (cwV 3 hT (gV k_315 k_317 ks_5 k_6 k_318) rfl rfl rfl (by decide +kernel) ⟨by first | omega | (dsimp only; omega), by first | omega | (dsimp only; omega)⟩) (ro_preV hP hK hN (va_recv hK hP (ci := 4) (q0 := 16) rfl rfl)) rfl rfl hl.1 rfl (lv_room (Nat.le_of_ble_eq_true rfl)) d_P_choose_135 ⟨Nat.le_of_ble_eq_true rfl, Nat.le_of_ble_eq_true rfl⟩) hS (fun H locs hP hS => ?_)
                    refine lv_ladd hx hb d_P_choose_138 ?_
                    refine lv_lstore (lv' := [(13, .long ((r30.toInt64 * r12) + r33)), (12, .int v15), (10, .long v16), (9, .int v17), (7, .long r12), (6, .int v10), (0, .ref (a 16)), (1, .int p1), (2, .int p2)]) hx hb d_P_choose_139 hl (by decide) rfl (fun ls hl => ?_)
                    refine lv_iload hx hb d_P_choose_141 (lv_at hl 3 rfl) ?_
                    refine lv_if_eq (tgt := 154) hx hb d_P_choose_143 (by decide) (fun c34 => ?_) (fun c34 => ?_)
                    · rw [if_pos c34] at hf
                      refine lv_iload hx hb d_P_choose_154 (lv_at hl 1 rfl) ?_
                      refine lv_istore (lv' := [(9, .int v15), (13, .long ((r30.toInt64 * r12) + r33)), (12, .int v15), (10, .long v16), (7, .long r12), (6, .int v10), (0, .ref (a 16)), (1, .int p1), (2, .int p2)]) hx hb d_P_choose_156 hl (by decide) rfl (fun ls hl => ?_)
                      refine lv_lload hx hb d_P_choose_158 (lv_at hl 1 rfl) ?_
                      refine lv_lstore (lv' := [(10, .long ((r30.toInt64 * r12) + r33)), (9, .int v15), (13, .long ((r30.toInt64 * r12) + r33)), (12, .int v15), (7, .long r12), (6, .int v10), (0, .ref (a 16)), (1, .int p1), (2, .int p2)]) hx hb d_P_choose_160 hl (by decide) rfl (fun ls hl => ?_)
                      refine lv_iinc (v := (v15 + 1)) (lv' := [(12, .int (v15 + 1)), (10, .long ((r30.toInt64 * r12) + r33)), (9, .int v15), (13, .long ((r30.toInt64 * r12) + r33)), (7, .long r12), (6, .int v10), (0, .ref (a 16)), (1, .int p1), (2, .int p2)]) hx hb d_P_choose_162 hl (k := 3) rfl rfl (by decide) rfl (fun ls hl => ?_)
                      refine lv_goto (tgt := 95) hx hb d_P_choose_165 (by decide) ?_
                      exact ih2 (v15 + 1) ((r30.toInt64 * r12) + r33) v15 s32 hf _ _ hP hS ls (lv_sub hl [0, 1, 2, 4, 5, 6, 7, 8] rfl)
                    · rw [if_neg c34] at hf
                      refine lv_lload hx hb d_P_choose_146 (lv_at hl 0 rfl) ?_
                      refine lv_lload hx hb d_P_choose_148 (lv_at hl 2 rfl) ?_
                      refine W.lcmp hx hb d_P_choose_150 ?_
                      refine lv_if_ge (tgt := 162) hx hb d_P_choose_151 (by decide) (fun c35 => ?_) (fun c35 => ?_)
                      · rw [if_pos ((lg_cmp_ge _ _).mp c35)] at hf
                        refine lv_iinc (v := (v15 + 1)) (lv' := [(12, .int (v15 + 1)), (13, .long ((r30.toInt64 * r12) + r33)), (10, .long v16), (9, .int v17), (7, .long r12), (6, .int v10), (0, .ref (a 16)), (1, .int p1), (2, .int p2)]) hx hb d_P_choose_162 hl (k := 1) rfl rfl (by decide) rfl (fun ls hl => ?_)
                        refine lv_goto (tgt := 95) hx hb d_P_choose_165 (by decide) ?_
                        exact ih2 (v15 + 1) v16 v17 s32 hf _ _ hP hS ls (lv_sub hl [0, 2, 3, 4, 5, 6, 7, 8] rfl)
                      · rw [if_neg (mt (lg_cmp_ge _ _).mpr c35)] at hf
                        refine lv_iload hx hb d_P_choose_154 (lv_at hl 1 rfl) ?_
                        refine lv_istore (lv' := [(9, .int v15), (13, .long ((r30.toInt64 * r12) + r33)), (12, .int v15), (10, .long v16), (7, .long r12), (6, .int v10), (0, .ref (a 16)), (1, .int p1), (2, .int p2)]) hx hb d_P_choose_156 hl (by decide) rfl (fun ls hl => ?_)
                        refine lv_lload hx hb d_P_choose_158 (lv_at hl 1 rfl) ?_
                        refine lv_lstore (lv' := [(10, .long ((r30.toInt64 * r12) + r33)), (9, .int v15), (13, .long ((r30.toInt64 * r12) + r33)), (12, .int v15), (7, .long r12), (6, .int v10), (0, .ref (a 16)), (1, .int p1), (2, .int p2)]) hx hb d_P_choose_160 hl (by decide) rfl (fun ls hl => ?_)
                        refine lv_iinc (v := (v15 + 1)) (lv' := [(12, .int (v15 + 1)), (10, .long ((r30.toInt64 * r12) + r33)), (9, .int v15), (13, .long ((r30.toInt64 * r12) + r33)), (7, .long r12), (6, .int v10), (0, .ref (a 16)), (1, .int p1), (2, .int p2)]) hx hb d_P_choose_162 hl (k := 3) rfl rfl (by decide) rfl (fun ls hl => ?_)
                        refine lv_goto (tgt := 95) hx hb d_P_choose_165 (by decide) ?_
                        exact ih2 (v15 + 1) ((r30.toInt64 * r12) + r33) v15 s32 hf _ _ hP hS ls (lv_sub hl [0, 1, 2, 4, 5, 6, 7, 8] rfl)
                  · rw [if_pos c28] at hf
                    refine lv_goto (tgt := 162) hx hb d_P_choose_111 (by decide) ?_
                    refine lv_iinc (v := (v15 + 1)) (lv' := [(12, .int (v15 + 1)), (10, .long v16), (9, .int v17), (7, .long r12), (6, .int v10), (0, .ref (a 16)), (1, .int p1), (2, .int p2)]) hx hb d_P_choose_162 hl (k := 0) rfl rfl (by decide) rfl (fun ls hl => ?_)
                    refine lv_goto (tgt := 95) hx hb d_P_choose_165 (by decide) ?_
                    exact ih2 (v15 + 1) v16 v17 s18 hf _ _ hP hS ls (lv_sub hl [0, 1, 2, 3, 4, 5, 6, 7] rfl)
            exact loop2 _ (1 : Int32) (((300 : Int32) * (if (r14 - (1 : Int32)) < (0 : Int32) then (0 : Int32) else (r14 - (1 : Int32)))).toInt64 * r12) (0 : Int32) st hf _ _ hP hS ls (lv_sub hl [0, 1, 2, 3, 4, 6, 7, 8] rfl)
          refine lv_if_eq (tgt := 58) hx hb d_P_choose_47 (by decide) (fun c36 => ?_) (fun c36 => ?_)
          · rw [if_pos c36] at hf
            refine lv_iload hx hb d_P_choose_58 (lv_at hl 1 rfl) ?_
            exact join1 r7 hf ls (lv_sub hl [2, 3, 4, 5] rfl)
          · rw [if_neg c36] at hf
            refine lv_iload hx hb d_P_choose_50 (lv_at hl 0 rfl) ?_
            obtain ⟨r38, hr37, hf⟩ := ob hf
            refine ro_calli (va_runSN (As := [.int r9]) (rest := []) ⟨hx, hb, hml, hown, hT⟩ (c_G_bit l r9 r38 hr37) ⟨va_cnB 1 hT (gcode k_221) rfl rfl rfl (hN _ k_281) (hT _ k_1) (by decide +kernel) ⟨by first | omega | (dsimp only; omega), by first | omega | (dsimp only; omega)⟩, hT _ k_220, trivial⟩ ⟨fun _ _ _ _ q => q, fun _ _ _ => ⟨rfl, trivial⟩⟩ rfl rfl hl.1 rfl (lv_room (Nat.le_of_ble_eq_true rfl)) d_P_choose_52 ⟨Nat.le_of_ble_eq_true rfl, Nat.le_of_ble_eq_true rfl⟩) ?_
            refine lv_goto (tgt := 60) hx hb d_P_choose_55 (by decide) ?_
            exact join1 r38 hf ls (lv_sub hl [2, 3, 4, 5] rfl)
        · rw [if_neg c3] at hf
          exact W.vret hx hb hr (fun t ht _ => ⟨⟨(), rfl, trivial, x_fin ht (Option.some.inj hf) hP⟩, hS.F ht⟩) hS.2.2 d_P_choose_16
  exact main _ _ hP va_S.rf
theorem c_P_choose (l : Launch) (dC : Nat → ClassId) (dI : Nat → Nat → Nat) (cs : Nat → ClassId) (a : Nat → Nat) (hi : ∀ i j : Nat, i < 29 → j < 29 → a i = a j → i = j) : ∀ (d : Nat) (st : XS) (p1 p2 : Int32) (res : XS), x_P_choose d st p1 p2 = some res → Met l (⟨"GuideSearch$Plan", "choose", "(II)V"⟩ : MethodName) (Cond.code (⟨"GuideSearch$Plan", "choose", "(II)V"⟩ : MethodName) prog_4_method_9_code 15 none :: wg) ({ frames := 2 * d + 4, cells := 0, slots := 0, locals := 61 * d + 92 }) (va_Pc [.ref (a 16), .int p1, .int p2] (x_pre dC dI cs a st)) (va_Qv (fun _ : Unit => True) (fun _ t => va_P (dC, dI) vwCl (x_W cs a res) t.heap) (x_A a)) 0 0 (x_A a) := by
  intro d
  induction d with
  | zero => intro st p1 p2 res hf; exact absurd hf (by simp [x_P_choose])
  | succ d ih => intro st p1 p2 res hf; exact c_P_choose_b l dC dI cs a hi d (x_P_choose d) st p1 p2 res ih hf
set_option maxHeartbeats 4000000 in
set_option maxRecDepth 100000 in
theorem c_P_keep_b (l : Launch) (dC : Nat → ClassId) (dI : Nat → Nat → Nat) (cs : Nat → ClassId) (a : Nat → Nat) (hi : ∀ i j : Nat, i < 29 → j < 29 → a i = a j → i = j) (d : Nat) (rf : XS → Int32 → Int32 → Int32 → Option (XS)) (st : XS) (p1 : Int32) (p2 : Int32) (p3 : Int32) (res : XS) (hrec : ∀ (st : XS) (p1 p2 p3 : Int32) (res : XS), rf st p1 p2 p3 = some res → Met l (⟨"GuideSearch$Plan", "keep", "(III)V"⟩ : MethodName) (Cond.code (⟨"GuideSearch$Plan", "keep", "(III)V"⟩ : MethodName) prog_4_method_11_code 7 none :: wg) ({ frames := d + 4, cells := 0, slots := 0, locals := 26 * d + 92 }) (va_Pc [.ref (a 16), .int p1, .int p2, .int p3] (x_pre dC dI cs a st)) (va_Qv (fun _ : Unit => True) (fun _ t => va_P (dC, dI) vwCl (x_W cs a res) t.heap) (x_A a)) 0 0 (x_A a)) (hf : x_P_keep_b rf st p1 p2 p3 = some res) : Met l (⟨"GuideSearch$Plan", "keep", "(III)V"⟩ : MethodName) (Cond.code (⟨"GuideSearch$Plan", "keep", "(III)V"⟩ : MethodName) prog_4_method_11_code 7 none :: wg) { frames := (d + 1) + 4, cells := 0, slots := 0, locals := 26 * (d + 1) + 92 } (va_Pc ([.ref (a 16), .int p1, .int p2, .int p3] : List Value) (x_pre dC dI cs a st)) (va_Qv (fun _ : Unit => True) (fun _ t => va_P (dC, dI) vwCl (x_W cs a res) t.heap) (x_A a)) 0 0 (x_A a) := by
  refine ro_start (cc := prog_4_method_11_code) (maxL := 7) (ret := none) (by decide) (Nat.le_of_ble_eq_true rfl) ?_
  intro p e s m below meth c hx hb hr hml hT hown hlocks hB ls hl
  replace hown : s.vm.findClass "GuideSearch$Plan" = some m.cls := hown
  obtain ⟨hP, hK, hN⟩ := hB
  replace hl : lv_has ls 7 [(0, .ref (a 16)), (1, .int p1), (2, .int p2), (3, .int p3)] := hl
  unfold x_P_keep_b at hf
  have hD : ∀ st : XS, va_D (x_A a) (x_W cs a st) := fun st => x_D hi cs st
  have main : ∀ (H : Heap) (locs : List Loc), va_P (dC, dI) vwCl (x_W cs a st) H → va_S (x_A a) s.heap H locs → W p l e { frames := (d + 1) + 4, cells := 0, slots := 0, locals := 26 * (d + 1) + 92 } s m ([.ref (a 16), .int p1, .int p2, .int p3] : List Value).toArray below meth c H locs 0 0 (MQ below (va_Qv (fun _ : Unit => True) (fun _ t => va_P (dC, dI) vwCl (x_W cs a res) t.heap) (x_A a)) ([.ref (a 16), .int p1, .int p2, .int p3] : List Value).toArray s 0 0 (x_A a)) (F0 m 0 ls []) := by
    intro H locs hP hS
    refine lv_aload_n hx hb d_P_keep_0 rfl (lv_at hl 0 rfl) ?_
    refine lv_iload_n hx hb d_P_keep_1 rfl (lv_at hl 3 rfl) ?_
    obtain ⟨r2, hr1, hf⟩ := ob hf
    refine ro_calli (va_runV (C := "GuideSearch$Plan") (As := [.int p3]) (rest := []) ⟨hx, hb, hml, hown, hT⟩ (c_P_leftAt l dC dI cs a st p3 r2 hr1) (cwV 1 hT (gV k_277 k_279 ks_3 k_6 k_280) rfl rfl rfl (by decide +kernel) ⟨by first | omega | (dsimp only; omega), by first | omega | (dsimp only; omega)⟩) (ro_preV hP hK hN (va_recv hK hP (ci := 4) (q0 := 16) rfl rfl)) rfl rfl hl.1 rfl (lv_room (Nat.le_of_ble_eq_true rfl)) d_P_keep_2 ⟨Nat.le_of_ble_eq_true rfl, Nat.le_of_ble_eq_true rfl⟩) ?_
    obtain ⟨r4, hr3, hf⟩ := ob hf
    refine ro_calli (va_runS (As := [.int r2]) (rest := []) ⟨hx, hb, hml, hown, hT⟩ (c_JI_bitCount l r2 r4 hr3) (va_cwS 1 hT (gS k_309 k_228 k_8 k_229) rfl rfl rfl (by decide +kernel) ⟨by first | omega | (dsimp only; omega), by first | omega | (dsimp only; omega)⟩) ⟨fun _ _ _ _ q => q, fun _ _ _ => ⟨rfl, trivial⟩⟩ rfl rfl hl.1 rfl (lv_room (Nat.le_of_ble_eq_true rfl)) d_P_keep_5 ⟨Nat.le_of_ble_eq_true rfl, Nat.le_of_ble_eq_true rfl⟩) ?_
    refine lv_istore (lv' := [(4, .int r4), (0, .ref (a 16)), (1, .int p1), (2, .int p2), (3, .int p3)]) hx hb d_P_keep_8 hl (by decide) rfl (fun ls hl => ?_)
    refine lv_iload hx hb d_P_keep_10 (lv_at hl 0 rfl) ?_
    refine lv_if_eq (tgt := 36) hx hb d_P_keep_12 (by decide) (fun c5 => ?_) (fun c5 => ?_)
    · rw [if_pos c5] at hf
      exact W.vret hx hb hr (fun t ht _ => ⟨⟨(), rfl, trivial, x_fin ht (Option.some.inj hf) hP⟩, hS.F ht⟩) hS.2.2 d_P_keep_36
    · rw [if_neg c5] at hf
      refine lv_aload_n hx hb d_P_keep_15 rfl (lv_at hl 1 rfl) ?_
      refine va_get (D := (dC, dI)) (ci := 4) (v := .int (x_nod st)) (C := "GuideSearch$Plan") (T := F_P) (N := 9) hx hb hT i_P hown hK hP 16 rfl rfl 7 (by decide) (hT _ k_105) (fun _ h9 => h9) rfl d_P_keep_16 ?_
      refine lv_sipush (v := (300 : Int32)) hx hb d_P_keep_19 (by decide) ?_
      refine lv_icmp_ge (tgt := 36) hx hb d_P_keep_22 (by decide) (fun c6 => ?_) (fun c6 => ?_)
      · rw [if_pos c6] at hf
        exact W.vret hx hb hr (fun t ht _ => ⟨⟨(), rfl, trivial, x_fin ht (Option.some.inj hf) hP⟩, hS.F ht⟩) hS.2.2 d_P_keep_36
      · rw [if_neg c6] at hf
        refine lv_iload_n hx hb d_P_keep_25 rfl (lv_at hl 2 rfl) ?_
        refine lv_if_lt (tgt := 36) hx hb d_P_keep_26 (by decide) (fun c7 => ?_) (fun c7 => ?_)
        · rw [if_pos c7] at hf
          exact W.vret hx hb hr (fun t ht _ => ⟨⟨(), rfl, trivial, x_fin ht (Option.some.inj hf) hP⟩, hS.F ht⟩) hS.2.2 d_P_keep_36
        · rw [if_neg c7] at hf
          refine lv_iload_n hx hb d_P_keep_29 rfl (lv_at hl 2 rfl) ?_
          refine lv_sipush (v := (1024 : Int32)) hx hb d_P_keep_30 (by decide) ?_
          refine lv_icmp_lt (tgt := 37) hx hb d_P_keep_33 (by decide) (fun c8 => ?_) (fun c8 => ?_)
          · rw [if_pos c8] at hf
            refine lv_aload_n hx hb d_P_keep_37 rfl (lv_at hl 1 rfl) ?_
            refine va_get (D := (dC, dI)) (ci := 4) (v := .ref (a 18)) (C := "GuideSearch$Plan") (T := F_P) (N := 9) hx hb hT i_P hown hK hP 16 rfl rfl 2 (by decide) (hT _ k_100) (fun _ h9 => h9) rfl d_P_keep_38 ?_
            refine lv_iload_n hx hb d_P_keep_41 rfl (lv_at hl 2 rfl) ?_
            obtain ⟨j9, ej11, hi10, hf⟩ := ix_some hf
            refine xa_bald hx hb hK hP 18 2 rfl rfl ej11 hi10 d_P_keep_42 ?_
            refine lv_istore (lv' := [(5, .int (x_pic st j9)), (4, .int r4), (0, .ref (a 16)), (1, .int p1), (2, .int p2), (3, .int p3)]) hx hb d_P_keep_43 hl (by decide) rfl (fun ls hl => ?_)
            refine lv_aload_n hx hb d_P_keep_45 rfl (lv_at hl 2 rfl) ?_
            refine va_get (D := (dC, dI)) (ci := 4) (v := .ref (a 26)) (C := "GuideSearch$Plan") (T := F_P) (N := 9) hx hb hT i_P hown hK hP 16 rfl rfl 4 (by decide) (hT _ k_102) (fun _ h9 => h9) rfl d_P_keep_46 ?_
            refine lv_aload_n hx hb d_P_keep_49 rfl (lv_at hl 2 rfl) ?_
            refine va_get (D := (dC, dI)) (ci := 4) (v := .int (x_nod st)) (C := "GuideSearch$Plan") (T := F_P) (N := 9) hx hb hT i_P hown hK hP 16 rfl rfl 7 (by decide) (hT _ k_105) (fun _ h9 => h9) rfl d_P_keep_50 ?_
            refine lv_iload hx hb d_P_keep_53 (lv_at hl 0 rfl) ?_
            refine lv_i2b (v := (x_pic st j9).toInt8.toInt32) hx hb d_P_keep_55 rfl ?_
            obtain ⟨j12, ej14, hi13, hf⟩ := ix_some hf
            refine xa_bast hx hb hK hP (hD _) hS 26 2 rfl rfl ej14 hi13 d_P_keep_56 (fun H locs hP hS => ?_)
            rw [x_nT_put cs a st j12 (vp_nar .byte (x_pic st j9).toInt8.toInt32)] at hP
            refine lv_aload_n hx hb d_P_keep_57 rfl (lv_at hl 2 rfl) ?_
            refine va_get (D := (dC, dI)) (ci := 4) (v := .ref (a 27)) (C := "GuideSearch$Plan") (T := F_P) (N := 9) hx hb hT i_P hown hK hP 16 rfl rfl 5 (by decide) (hT _ k_103) (fun _ h9 => h9) rfl d_P_keep_58 ?_
            refine lv_aload_n hx hb d_P_keep_61 rfl (lv_at hl 2 rfl) ?_
            refine va_get (D := (dC, dI)) (ci := 4) (v := .int (x_nod (x_nT_s st j12 (vp_nar .byte (x_pic st j9).toInt8.toInt32)))) (C := "GuideSearch$Plan") (T := F_P) (N := 9) hx hb hT i_P hown hK hP 16 rfl rfl 7 (by decide) (hT _ k_105) (fun _ h9 => h9) rfl d_P_keep_62 ?_
            refine lv_iload hx hb d_P_keep_65 (lv_at hl 1 rfl) ?_
            refine lv_i2b (v := r4.toInt8.toInt32) hx hb d_P_keep_67 rfl ?_
            obtain ⟨j15, ej17, hi16, hf⟩ := ix_some hf
            refine xa_bast hx hb hK hP (hD _) hS 27 2 rfl rfl ej17 hi16 d_P_keep_68 (fun H locs hP hS => ?_)
            rw [x_nL_put cs a (x_nT_s st j12 (vp_nar .byte (x_pic st j9).toInt8.toInt32)) j15 (vp_nar .byte r4.toInt8.toInt32)] at hP
            refine lv_aload_n hx hb d_P_keep_69 rfl (lv_at hl 2 rfl) ?_
            refine va_get (D := (dC, dI)) (ci := 4) (v := .ref (a 28)) (C := "GuideSearch$Plan") (T := F_P) (N := 9) hx hb hT i_P hown hK hP 16 rfl rfl 6 (by decide) (hT _ k_104) (fun _ h9 => h9) rfl d_P_keep_70 ?_
            refine lv_aload_n hx hb d_P_keep_73 rfl (lv_at hl 2 rfl) ?_
            refine va_get (D := (dC, dI)) (ci := 4) (v := .int (x_nod (x_nL_s (x_nT_s st j12 (vp_nar .byte (x_pic st j9).toInt8.toInt32)) j15 (vp_nar .byte r4.toInt8.toInt32)))) (C := "GuideSearch$Plan") (T := F_P) (N := 9) hx hb hT i_P hown hK hP 16 rfl rfl 7 (by decide) (hT _ k_105) (fun _ h9 => h9) rfl d_P_keep_74 ?_
            refine lv_iload_n hx hb d_P_keep_77 rfl (lv_at hl 4 rfl) ?_
            refine lv_i2b (v := p2.toInt8.toInt32) hx hb d_P_keep_78 rfl ?_
            obtain ⟨j18, ej20, hi19, hf⟩ := ix_some hf
            refine xa_bast hx hb hK hP (hD _) hS 28 2 rfl rfl ej20 hi19 d_P_keep_79 (fun H locs hP hS => ?_)
            rw [x_nA_put cs a (x_nL_s (x_nT_s st j12 (vp_nar .byte (x_pic st j9).toInt8.toInt32)) j15 (vp_nar .byte r4.toInt8.toInt32)) j18 (vp_nar .byte p2.toInt8.toInt32)] at hP
            refine lv_aload_n hx hb d_P_keep_80 rfl (lv_at hl 2 rfl) ?_
            refine lv_dup hx hb d_P_keep_81 rfl ?_
            refine va_get (D := (dC, dI)) (ci := 4) (v := .int (x_nod (x_nA_s (x_nL_s (x_nT_s st j12 (vp_nar .byte (x_pic st j9).toInt8.toInt32)) j15 (vp_nar .byte r4.toInt8.toInt32)) j18 (vp_nar .byte p2.toInt8.toInt32)))) (C := "GuideSearch$Plan") (T := F_P) (N := 9) hx hb hT i_P hown hK hP 16 rfl rfl 7 (by decide) (hT _ k_105) (fun _ h9 => h9) rfl d_P_keep_82 ?_
            refine lv_iconst (v := (1 : Int32)) hx hb d_P_keep_85 (by decide) ?_
            refine lv_iadd hx hb d_P_keep_86 ?_
            refine va_put (D := (dC, dI)) (ci := 4) (v := .int ((x_nod (x_nA_s (x_nL_s (x_nT_s st j12 (vp_nar .byte (x_pic st j9).toInt8.toInt32)) j15 (vp_nar .byte r4.toInt8.toInt32)) j18 (vp_nar .byte p2.toInt8.toInt32))) + (1 : Int32))) (ty := .int) (C := "GuideSearch$Plan") (T := F_P) (N := 9) hx hb hT i_P ft_P ft_P_ok n_P hown hK hP (hD _) hS 16 rfl rfl 7 (by decide) (hT _ k_105) (fun _ h9 => h9) rfl (by decide +kernel) rfl rfl (Nat.le_of_ble_eq_true rfl) d_P_keep_87 (fun H locs hP _ hS => ?_)
            rw [x_nod_put cs a (x_nA_s (x_nL_s (x_nT_s st j12 (vp_nar .byte (x_pic st j9).toInt8.toInt32)) j15 (vp_nar .byte r4.toInt8.toInt32)) j18 (vp_nar .byte p2.toInt8.toInt32)) ((x_nod (x_nA_s (x_nL_s (x_nT_s st j12 (vp_nar .byte (x_pic st j9).toInt8.toInt32)) j15 (vp_nar .byte r4.toInt8.toInt32)) j18 (vp_nar .byte p2.toInt8.toInt32))) + (1 : Int32))] at hP
            refine lv_iconst (v := (0 : Int32)) hx hb d_P_keep_90 (by decide) ?_
            refine lv_istore (lv' := [(6, .int (0 : Int32)), (5, .int (x_pic st j9)), (4, .int r4), (0, .ref (a 16)), (1, .int p1), (2, .int p2), (3, .int p3)]) hx hb d_P_keep_91 hl (by decide) rfl (fun ls hl => ?_)
            have loop1 : ∀ (n : Nat) (v21 : Int32) (s22 : XS), xl2 (x_P_keep_B1 st p1 p3 rf j9) n v21 s22 = some res → ∀ (H : Heap) (locs : List Loc), va_P (dC, dI) vwCl (x_W cs a s22) H → va_S (x_A a) s.heap H locs → ∀ (ls : Array Slot), lv_has ls 7 [(6, .int v21), (5, .int (x_pic st j9)), (0, .ref (a 16)), (1, .int p1), (3, .int p3)] → W p l e { frames := (d + 1) + 4, cells := 0, slots := 0, locals := 26 * (d + 1) + 92 } s m ([.ref (a 16), .int p1, .int p2, .int p3] : List Value).toArray below meth c H locs 0 0 (MQ below (va_Qv (fun _ : Unit => True) (fun _ t => va_P (dC, dI) vwCl (x_W cs a res) t.heap) (x_A a)) ([.ref (a 16), .int p1, .int p2, .int p3] : List Value).toArray s 0 0 (x_A a)) (F0 m 93 ls []) := by
              intro n
              induction n with
              | zero => intro v21 s22 hf; exact absurd hf (by simp [xl2])
              | succ n ih1 =>
                intro v21 s22 hf H locs hP hS ls hl
                replace hf : (x_P_keep_B1 st p1 p3 rf j9) (xl2 (x_P_keep_B1 st p1 p3 rf j9) n) v21 s22 = some res := hf
                generalize xl2 (x_P_keep_B1 st p1 p3 rf j9) n = self1 at hf ih1
                unfold x_P_keep_B1 at hf
                refine lv_iload hx hb d_P_keep_93 (lv_at hl 0 rfl) ?_
                refine lv_iconst (v := (3 : Int32)) hx hb d_P_keep_95 (by decide) ?_
                refine lv_icmp_ge (tgt := 141) hx hb d_P_keep_96 (by decide) (fun c23 => ?_) (fun c23 => ?_)
                · rw [if_pos c23] at hf
                  exact W.vret hx hb hr (fun t ht _ => ⟨⟨(), rfl, trivial, x_fin ht (Option.some.inj hf) hP⟩, hS.F ht⟩) hS.2.2 d_P_keep_141
                · rw [if_neg c23] at hf
                  refine lv_iload hx hb d_P_keep_99 (lv_at hl 1 rfl) ?_
                  refine lv_if_eq (tgt := 141) hx hb d_P_keep_101 (by decide) (fun c24 => ?_) (fun c24 => ?_)
                  · rw [if_pos c24] at hf
                    exact W.vret hx hb hr (fun t ht _ => ⟨⟨(), rfl, trivial, x_fin ht (Option.some.inj hf) hP⟩, hS.F ht⟩) hS.2.2 d_P_keep_141
                  · rw [if_neg c24] at hf
                    refine lv_iload_n hx hb d_P_keep_104 rfl (lv_at hl 4 rfl) ?_
                    refine lv_iconst (v := (5 : Int32)) hx hb d_P_keep_105 (by decide) ?_
                    refine lv_icmp_ge (tgt := 141) hx hb d_P_keep_106 (by decide) (fun c25 => ?_) (fun c25 => ?_)
                    · rw [if_pos c25] at hf
                      exact W.vret hx hb hr (fun t ht _ => ⟨⟨(), rfl, trivial, x_fin ht (Option.some.inj hf) hP⟩, hS.F ht⟩) hS.2.2 d_P_keep_141
                    · rw [if_neg c25] at hf
                      refine lv_aload_n hx hb d_P_keep_109 rfl (lv_at hl 2 rfl) ?_
                      refine lv_iload hx hb d_P_keep_110 (lv_at hl 1 rfl) ?_
                      refine lv_iload hx hb d_P_keep_112 (lv_at hl 0 rfl) ?_
                      refine lv_iload_n hx hb d_P_keep_114 rfl (lv_at hl 4 rfl) ?_
                      obtain ⟨s27, hr26, hf⟩ := ob hf
                      refine rw_callv (va_runV (C := "GuideSearch$Plan") (As := [.int (x_pic st j9), .int v21, .int p3]) (rest := []) ⟨hx, hb, hml, hown, hT⟩ (c_P_weighBehind l dC dI cs a hi s22 (x_pic st j9) v21 p3 s27 hr26) (cwV 3 hT (gV k_322 k_324 ks_6 k_6 k_325) rfl rfl rfl (by decide +kernel) ⟨by first | omega | (dsimp only; omega), by first | omega | (dsimp only; omega)⟩) (ro_preV hP hK hN (va_recv hK hP (ci := 4) (q0 := 16) rfl rfl)) rfl rfl hl.1 rfl (lv_room (Nat.le_of_ble_eq_true rfl)) d_P_keep_115 ⟨Nat.le_of_ble_eq_true rfl, Nat.le_of_ble_eq_true rfl⟩) hS (fun H locs hP hS => ?_)
                      refine lv_aload_n hx hb d_P_keep_118 rfl (lv_at hl 2 rfl) ?_
                      refine lv_iload_n hx hb d_P_keep_119 rfl (lv_at hl 3 rfl) ?_
                      refine lv_iload hx hb d_P_keep_120 (lv_at hl 1 rfl) ?_
                      refine lv_iload hx hb d_P_keep_122 (lv_at hl 0 rfl) ?_
                      obtain ⟨r29, hr28, hf⟩ := ob hf
                      refine ro_calli (va_runSN (As := [.int p1, .int (x_pic st j9), .int v21]) (rest := [.ref (a 16)]) ⟨hx, hb, hml, hown, hT⟩ (c_G_withAnswer l p1 (x_pic st j9) v21 r29 hr28) ⟨va_cnB 3 hT (gcode k_321) rfl rfl rfl (hN _ k_319) (hT _ k_1) (by decide +kernel) ⟨by first | omega | (dsimp only; omega), by first | omega | (dsimp only; omega)⟩, hT _ k_320, trivial⟩ ⟨fun _ _ _ _ q => q, fun _ _ _ => ⟨rfl, trivial⟩⟩ rfl rfl hl.1 rfl (lv_room (Nat.le_of_ble_eq_true rfl)) d_P_keep_124 ⟨Nat.le_of_ble_eq_true rfl, Nat.le_of_ble_eq_true rfl⟩) ?_
                      refine lv_iload hx hb d_P_keep_127 (lv_at hl 0 rfl) ?_
                      refine lv_iload_n hx hb d_P_keep_129 rfl (lv_at hl 4 rfl) ?_
                      refine lv_iconst (v := (1 : Int32)) hx hb d_P_keep_130 (by decide) ?_
                      refine lv_iadd hx hb d_P_keep_131 ?_
                      obtain ⟨s31, hr30, hf⟩ := ob hf
                      refine rw_callv (va_runV (C := "GuideSearch$Plan") (As := [.int r29, .int v21, .int (p3 + (1 : Int32))]) (rest := []) ⟨hx, hb, hml, hown, hT⟩ (hrec s27 r29 v21 (p3 + (1 : Int32)) s31 hr30) (cwV 3 hT (gV k_329 k_331 ks_7 k_6 k_332) rfl rfl rfl (by decide +kernel) ⟨by first | omega | (dsimp only; omega), by first | omega | (dsimp only; omega)⟩) (ro_preV hP hK hN (va_recv hK hP (ci := 4) (q0 := 16) rfl rfl)) rfl rfl hl.1 rfl (lv_room (Nat.le_of_ble_eq_true rfl)) d_P_keep_132 ⟨Nat.le_of_ble_eq_true rfl, Nat.le_of_ble_eq_true rfl⟩) hS (fun H locs hP hS => ?_)
                      refine lv_iinc (v := (v21 + 1)) (lv' := [(6, .int (v21 + 1)), (5, .int (x_pic st j9)), (0, .ref (a 16)), (1, .int p1), (3, .int p3)]) hx hb d_P_keep_135 hl (k := 0) rfl rfl (by decide) rfl (fun ls hl => ?_)
                      refine lv_goto (tgt := 93) hx hb d_P_keep_138 (by decide) ?_
                      exact ih1 (v21 + 1) s31 hf _ _ hP hS ls (lv_sub hl [0, 1, 2, 3, 4] rfl)
            exact loop1 _ (0 : Int32) (x_nod_s (x_nA_s (x_nL_s (x_nT_s st j12 (vp_nar .byte (x_pic st j9).toInt8.toInt32)) j15 (vp_nar .byte r4.toInt8.toInt32)) j18 (vp_nar .byte p2.toInt8.toInt32)) ((x_nod (x_nA_s (x_nL_s (x_nT_s st j12 (vp_nar .byte (x_pic st j9).toInt8.toInt32)) j15 (vp_nar .byte r4.toInt8.toInt32)) j18 (vp_nar .byte p2.toInt8.toInt32))) + (1 : Int32))) hf _ _ hP hS ls (lv_sub hl [0, 1, 3, 4, 6] rfl)
          · rw [if_neg c8] at hf
            exact W.vret hx hb hr (fun t ht _ => ⟨⟨(), rfl, trivial, x_fin ht (Option.some.inj hf) hP⟩, hS.F ht⟩) hS.2.2 d_P_keep_36
  exact main _ _ hP va_S.rf
theorem c_P_keep (l : Launch) (dC : Nat → ClassId) (dI : Nat → Nat → Nat) (cs : Nat → ClassId) (a : Nat → Nat) (hi : ∀ i j : Nat, i < 29 → j < 29 → a i = a j → i = j) : ∀ (d : Nat) (st : XS) (p1 p2 p3 : Int32) (res : XS), x_P_keep d st p1 p2 p3 = some res → Met l (⟨"GuideSearch$Plan", "keep", "(III)V"⟩ : MethodName) (Cond.code (⟨"GuideSearch$Plan", "keep", "(III)V"⟩ : MethodName) prog_4_method_11_code 7 none :: wg) ({ frames := d + 4, cells := 0, slots := 0, locals := 26 * d + 92 }) (va_Pc [.ref (a 16), .int p1, .int p2, .int p3] (x_pre dC dI cs a st)) (va_Qv (fun _ : Unit => True) (fun _ t => va_P (dC, dI) vwCl (x_W cs a res) t.heap) (x_A a)) 0 0 (x_A a) := by
  intro d
  induction d with
  | zero => intro st p1 p2 p3 res hf; exact absurd hf (by simp [x_P_keep])
  | succ d ih => intro st p1 p2 p3 res hf; exact c_P_keep_b l dC dI cs a hi d (x_P_keep d) st p1 p2 p3 res ih hf
set_option maxHeartbeats 4000000 in
set_option maxRecDepth 100000 in
theorem c_P_make (l : Launch) (dC : Nat → ClassId) (dI : Nat → Nat → Nat) (cs : Nat → ClassId) (a : Nat → Nat) (hi : ∀ i j : Nat, i < 29 → j < 29 → a i = a j → i = j) (st : XS) (p1 : Int32) (res : Int32 × XS) (hf : x_P_make st p1 = some res) : Met l (⟨"GuideSearch$Plan", "make", "(I)I"⟩ : MethodName) (Cond.code (⟨"GuideSearch$Plan", "make", "(I)I"⟩ : MethodName) prog_4_method_3_code 4 (some .int) :: wg) { frames := 21, cells := 0, slots := 0, locals := 614 } (va_Pc ([.ref (a 16), .int p1] : List Value) (x_pre dC dI cs a st)) (va_Qi (fun r (_ : Unit) => r = res.1) (fun _ t => va_P (dC, dI) vwCl (x_W cs a res.2) t.heap) (x_A a)) 0 0 (x_A a) := by
  refine ro_start (cc := prog_4_method_3_code) (maxL := 4) (ret := (some .int)) (by decide) (Nat.le_of_ble_eq_true rfl) ?_
  intro p e s m below meth c hx hb hr hml hT hown hlocks hB ls hl
  replace hown : s.vm.findClass "GuideSearch$Plan" = some m.cls := hown
  obtain ⟨hP, hK, hN⟩ := hB
  replace hl : lv_has ls 4 [(0, .ref (a 16)), (1, .int p1)] := hl
  unfold x_P_make at hf
  have hD : ∀ st : XS, va_D (x_A a) (x_W cs a st) := fun st => x_D hi cs st
  have main : ∀ (H : Heap) (locs : List Loc), va_P (dC, dI) vwCl (x_W cs a st) H → va_S (x_A a) s.heap H locs → W p l e { frames := 21, cells := 0, slots := 0, locals := 614 } s m ([.ref (a 16), .int p1] : List Value).toArray below meth c H locs 0 0 (MQ below (va_Qi (fun r (_ : Unit) => r = res.1) (fun _ t => va_P (dC, dI) vwCl (x_W cs a res.2) t.heap) (x_A a)) ([.ref (a 16), .int p1] : List Value).toArray s 0 0 (x_A a)) (F0 m 0 ls []) := by
    intro H locs hP hS
    refine lv_aload_n hx hb d_P_make_0 rfl (lv_at hl 0 rfl) ?_
    obtain ⟨s2, hr1, hf⟩ := ob hf
    refine rw_callv (va_runV (C := "GuideSearch$Plan") (As := []) (rest := []) ⟨hx, hb, hml, hown, hT⟩ (c_P_drop l dC dI cs a hi st s2 hr1) (cwV 0 hT (gV k_246 k_247 k_248 k_6 k_249) rfl rfl rfl (by decide +kernel) ⟨Nat.le_of_ble_eq_true rfl, Nat.le_of_ble_eq_true rfl⟩) (ro_preV hP hK hN (va_recv hK hP (ci := 4) (q0 := 16) rfl rfl)) rfl rfl hl.1 rfl (lv_room (Nat.le_of_ble_eq_true rfl)) d_P_make_1 ⟨Nat.le_of_ble_eq_true rfl, Nat.le_of_ble_eq_true rfl⟩) hS (fun H locs hP hS => ?_)
    refine lv_iload_n hx hb d_P_make_4 rfl (lv_at hl 1 rfl) ?_
    refine lv_if_lt (tgt := 15) hx hb d_P_make_5 (by decide) (fun c3 => ?_) (fun c3 => ?_)
    · rw [if_pos c3] at hf
      refine lv_iconst (v := (0 : Int32)) hx hb d_P_make_15 (by decide) ?_
      exact W.iret hx hb hr (fun t ht _ => ⟨⟨_, (), rfl, congrArg Prod.fst (Option.some.inj hf), x_fin ht (congrArg Prod.snd (Option.some.inj hf)) hP⟩, hS.F ht⟩) hS.2.2 d_P_make_16
    · rw [if_neg c3] at hf
      refine lv_iload_n hx hb d_P_make_8 rfl (lv_at hl 1 rfl) ?_
      refine lv_sipush (v := (1024 : Int32)) hx hb d_P_make_9 (by decide) ?_
      refine lv_icmp_lt (tgt := 17) hx hb d_P_make_12 (by decide) (fun c4 => ?_) (fun c4 => ?_)
      · rw [if_pos c4] at hf
        refine lv_aload_n hx hb d_P_make_17 rfl (lv_at hl 0 rfl) ?_
        refine va_get (D := (dC, dI)) (ci := 4) (v := .ref (a 17)) (C := "GuideSearch$Plan") (T := F_P) (N := 9) hx hb hT i_P hown hK hP 16 rfl rfl 1 (by decide) (hT _ k_99) (fun _ h9 => h9) rfl d_P_make_18 ?_
        refine lv_ldc2 (v := (-1 : Int64)) hx hb hown (hT _ k_97) d_P_make_21 ?_
        obtain ⟨s6, hr5, hf⟩ := ob hf
        refine rw_callv (va_runS (As := [.ref (a 17), .long (-1 : Int64)]) (rest := []) ⟨hx, hb, hml, hown, hT⟩ (c_JA_fill_J_val l dC dI cs a hi s2 (-1 : Int64) s6 hr5) (va_cwS 2 hT (gS k_250 k_251 k_4 k_252) rfl rfl rfl (by decide +kernel) ⟨Nat.le_of_ble_eq_true rfl, Nat.le_of_ble_eq_true rfl⟩) (ro_preS hP hK hN) rfl rfl hl.1 rfl (lv_room (Nat.le_of_ble_eq_true rfl)) d_P_make_24 ⟨Nat.le_of_ble_eq_true rfl, Nat.le_of_ble_eq_true rfl⟩) hS (fun H locs hP hS => ?_)
        refine lv_aload_n hx hb d_P_make_27 rfl (lv_at hl 0 rfl) ?_
        refine lv_iload_n hx hb d_P_make_28 rfl (lv_at hl 1 rfl) ?_
        obtain ⟨s8, hr7, hf⟩ := ob hf
        refine rw_callv (va_runV (C := "GuideSearch$Plan") (As := [.int p1]) (rest := []) ⟨hx, hb, hml, hown, hT⟩ (c_P_weighFirst l dC dI cs a hi s6 p1 s8 hr7) (cwV 1 hT (gV k_253 k_255 ks_1 k_6 k_256) rfl rfl rfl (by decide +kernel) ⟨Nat.le_of_ble_eq_true rfl, Nat.le_of_ble_eq_true rfl⟩) (ro_preV hP hK hN (va_recv hK hP (ci := 4) (q0 := 16) rfl rfl)) rfl rfl hl.1 rfl (lv_room (Nat.le_of_ble_eq_true rfl)) d_P_make_29 ⟨Nat.le_of_ble_eq_true rfl, Nat.le_of_ble_eq_true rfl⟩) hS (fun H locs hP hS => ?_)
        refine lv_aload_n hx hb d_P_make_32 rfl (lv_at hl 0 rfl) ?_
        refine lv_iload_n hx hb d_P_make_33 rfl (lv_at hl 1 rfl) ?_
        refine lv_iconst (v := (0 : Int32)) hx hb d_P_make_34 (by decide) ?_
        obtain ⟨s10, hr9, hf⟩ := ob hf
        refine rw_callv (va_runV (C := "GuideSearch$Plan") (As := [.int p1, .int (0 : Int32)]) (rest := []) ⟨hx, hb, hml, hown, hT⟩ (c_P_choose l dC dI cs a hi 8 s8 p1 (0 : Int32) s10 hr9) (cwV 2 hT (gV k_273 k_275 ks_2 k_6 k_276) rfl rfl rfl (by decide +kernel) ⟨Nat.le_of_ble_eq_true rfl, Nat.le_of_ble_eq_true rfl⟩) (ro_preV hP hK hN (va_recv hK hP (ci := 4) (q0 := 16) rfl rfl)) rfl rfl hl.1 rfl (lv_room (Nat.le_of_ble_eq_true rfl)) d_P_make_35 ⟨Nat.le_of_ble_eq_true rfl, Nat.le_of_ble_eq_true rfl⟩) hS (fun H locs hP hS => ?_)
        refine lv_aload_n hx hb d_P_make_38 rfl (lv_at hl 0 rfl) ?_
        refine lv_iconst (v := (0 : Int32)) hx hb d_P_make_39 (by decide) ?_
        obtain ⟨r12, hr11, hf⟩ := ob hf
        refine ro_calll (va_runV (C := "GuideSearch$Plan") (As := [.int (0 : Int32)]) (rest := []) ⟨hx, hb, hml, hown, hT⟩ (c_P_weightAt l dC dI cs a s10 (0 : Int32) r12 hr11) (cwV 1 hT (gV k_305 k_307 ks_4 k_6 k_308) rfl rfl rfl (by decide +kernel) ⟨Nat.le_of_ble_eq_true rfl, Nat.le_of_ble_eq_true rfl⟩) (ro_preV hP hK hN (va_recv hK hP (ci := 4) (q0 := 16) rfl rfl)) rfl rfl hl.1 rfl (lv_room (Nat.le_of_ble_eq_true rfl)) d_P_make_40 ⟨Nat.le_of_ble_eq_true rfl, Nat.le_of_ble_eq_true rfl⟩) ?_
        refine lv_lstore_n (lv' := [(2, .long r12), (0, .ref (a 16)), (1, .int p1)]) hx hb d_P_make_43 rfl hl (by decide) rfl (fun ls hl => ?_)
        refine lv_lload_n hx hb d_P_make_44 rfl (lv_at hl 0 rfl) ?_
        refine lv_lconst (v := (0 : Int64)) hx hb d_P_make_45 (by decide) ?_
        refine W.lcmp hx hb d_P_make_46 ?_
        refine lv_if_le (tgt := 81) hx hb d_P_make_47 (by decide) (fun c13 => ?_) (fun c13 => ?_)
        · rw [if_pos ((lg_cmp_le _ _).mp c13)] at hf
          refine lv_aload_n hx hb d_P_make_81 rfl (lv_at hl 1 rfl) ?_
          refine lv_iload_n hx hb d_P_make_82 rfl (lv_at hl 2 rfl) ?_
          refine lv_iconst (v := (-1 : Int32)) hx hb d_P_make_83 (by decide) ?_
          refine lv_iconst (v := (0 : Int32)) hx hb d_P_make_84 (by decide) ?_
          obtain ⟨s15, hr14, hf⟩ := ob hf
          refine rw_callv (va_runV (C := "GuideSearch$Plan") (As := [.int p1, .int (-1 : Int32), .int (0 : Int32)]) (rest := []) ⟨hx, hb, hml, hown, hT⟩ (c_P_keep l dC dI cs a hi 8 s10 p1 (-1 : Int32) (0 : Int32) s15 hr14) (cwV 3 hT (gV k_329 k_331 ks_7 k_6 k_332) rfl rfl rfl (by decide +kernel) ⟨Nat.le_of_ble_eq_true rfl, Nat.le_of_ble_eq_true rfl⟩) (ro_preV hP hK hN (va_recv hK hP (ci := 4) (q0 := 16) rfl rfl)) rfl rfl hl.1 rfl (lv_room (Nat.le_of_ble_eq_true rfl)) d_P_make_85 ⟨Nat.le_of_ble_eq_true rfl, Nat.le_of_ble_eq_true rfl⟩) hS (fun H locs hP hS => ?_)
          refine lv_aload_n hx hb d_P_make_88 rfl (lv_at hl 1 rfl) ?_
          refine va_get (D := (dC, dI)) (ci := 4) (v := .ref (a 18)) (C := "GuideSearch$Plan") (T := F_P) (N := 9) hx hb hT i_P hown hK hP 16 rfl rfl 2 (by decide) (hT _ k_100) (fun _ h9 => h9) rfl d_P_make_89 ?_
          refine lv_iload_n hx hb d_P_make_92 rfl (lv_at hl 2 rfl) ?_
          obtain ⟨j16, ej18, hi17, hf⟩ := ix_some hf
          refine xa_bald hx hb hK hP 18 2 rfl rfl ej18 hi17 d_P_make_93 ?_
          exact W.iret hx hb hr (fun t ht _ => ⟨⟨_, (), rfl, congrArg Prod.fst (Option.some.inj hf), x_fin ht (congrArg Prod.snd (Option.some.inj hf)) hP⟩, hS.F ht⟩) hS.2.2 d_P_make_94
        · rw [if_neg (mt (lg_cmp_le _ _).mpr c13)] at hf
          refine lv_aload_n hx hb d_P_make_50 rfl (lv_at hl 1 rfl) ?_
          refine lv_aload_n hx hb d_P_make_51 rfl (lv_at hl 1 rfl) ?_
          refine va_get (D := (dC, dI)) (ci := 4) (v := .ref (a 17)) (C := "GuideSearch$Plan") (T := F_P) (N := 9) hx hb hT i_P hown hK hP 16 rfl rfl 1 (by decide) (hT _ k_99) (fun _ h9 => h9) rfl d_P_make_52 ?_
          refine lv_iload_n hx hb d_P_make_55 rfl (lv_at hl 2 rfl) ?_
          obtain ⟨j19, ej21, hi20, hf⟩ := ix_some hf
          refine xa_lald hx hb hK hP 17 0 rfl rfl ej21 hi20 d_P_make_56 ?_
          refine lv_lload_n hx hb d_P_make_57 rfl (lv_at hl 0 rfl) ?_
          obtain ⟨hz22, hf⟩ := dzl_some hf
          refine lv_ldiv hx hb d_P_make_58 hz22 ?_
          refine lv_ldc2 (v := (1000 : Int64)) hx hb hown (hT _ k_328) d_P_make_59 ?_
          refine lv_lmul hx hb d_P_make_62 ?_
          refine lv_aload_n hx hb d_P_make_63 rfl (lv_at hl 1 rfl) ?_
          refine va_get (D := (dC, dI)) (ci := 4) (v := .ref (a 17)) (C := "GuideSearch$Plan") (T := F_P) (N := 9) hx hb hT i_P hown hK hP 16 rfl rfl 1 (by decide) (hT _ k_99) (fun _ h9 => h9) rfl d_P_make_64 ?_
          refine lv_iload_n hx hb d_P_make_67 rfl (lv_at hl 2 rfl) ?_
          obtain ⟨j23, ej25, hi24, hf⟩ := ix_some hf
          refine xa_lald hx hb hK hP 17 0 rfl rfl ej25 hi24 d_P_make_68 ?_
          refine lv_lload_n hx hb d_P_make_69 rfl (lv_at hl 0 rfl) ?_
          obtain ⟨hz26, hf⟩ := dzl_some hf
          refine lv_lrem hx hb d_P_make_70 hz26 ?_
          refine lv_ldc2 (v := (1000 : Int64)) hx hb hown (hT _ k_328) d_P_make_71 ?_
          refine lv_lmul hx hb d_P_make_74 ?_
          refine lv_lload_n hx hb d_P_make_75 rfl (lv_at hl 0 rfl) ?_
          obtain ⟨hz27, hf⟩ := dzl_some hf
          refine lv_ldiv hx hb d_P_make_76 hz27 ?_
          refine lv_ladd hx hb d_P_make_77 ?_
          refine va_put (D := (dC, dI)) (ci := 4) (v := .long ((((x_val s10 j19) / r12) * (1000 : Int64)) + ((((x_val s10 j23) - (x_val s10 j23) / r12 * r12) * (1000 : Int64)) / r12))) (ty := .long) (C := "GuideSearch$Plan") (T := F_P) (N := 9) hx hb hT i_P ft_P ft_P_ok n_P hown hK hP (hD _) hS 16 rfl rfl 8 (by decide) (hT _ k_107) (fun _ h9 => h9) rfl (by decide +kernel) rfl rfl (Nat.le_of_ble_eq_true rfl) d_P_make_78 (fun H locs hP _ hS => ?_)
          rw [x_tho_put cs a s10 ((((x_val s10 j19) / r12) * (1000 : Int64)) + ((((x_val s10 j23) - (x_val s10 j23) / r12 * r12) * (1000 : Int64)) / r12))] at hP
          refine lv_aload_n hx hb d_P_make_81 rfl (lv_at hl 1 rfl) ?_
          refine lv_iload_n hx hb d_P_make_82 rfl (lv_at hl 2 rfl) ?_
          refine lv_iconst (v := (-1 : Int32)) hx hb d_P_make_83 (by decide) ?_
          refine lv_iconst (v := (0 : Int32)) hx hb d_P_make_84 (by decide) ?_
          obtain ⟨s29, hr28, hf⟩ := ob hf
          refine rw_callv (va_runV (C := "GuideSearch$Plan") (As := [.int p1, .int (-1 : Int32), .int (0 : Int32)]) (rest := []) ⟨hx, hb, hml, hown, hT⟩ (c_P_keep l dC dI cs a hi 8 (x_tho_s s10 ((((x_val s10 j19) / r12) * (1000 : Int64)) + ((((x_val s10 j23) - (x_val s10 j23) / r12 * r12) * (1000 : Int64)) / r12))) p1 (-1 : Int32) (0 : Int32) s29 hr28) (cwV 3 hT (gV k_329 k_331 ks_7 k_6 k_332) rfl rfl rfl (by decide +kernel) ⟨Nat.le_of_ble_eq_true rfl, Nat.le_of_ble_eq_true rfl⟩) (ro_preV hP hK hN (va_recv hK hP (ci := 4) (q0 := 16) rfl rfl)) rfl rfl hl.1 rfl (lv_room (Nat.le_of_ble_eq_true rfl)) d_P_make_85 ⟨Nat.le_of_ble_eq_true rfl, Nat.le_of_ble_eq_true rfl⟩) hS (fun H locs hP hS => ?_)
          refine lv_aload_n hx hb d_P_make_88 rfl (lv_at hl 1 rfl) ?_
          refine va_get (D := (dC, dI)) (ci := 4) (v := .ref (a 18)) (C := "GuideSearch$Plan") (T := F_P) (N := 9) hx hb hT i_P hown hK hP 16 rfl rfl 2 (by decide) (hT _ k_100) (fun _ h9 => h9) rfl d_P_make_89 ?_
          refine lv_iload_n hx hb d_P_make_92 rfl (lv_at hl 2 rfl) ?_
          obtain ⟨j30, ej32, hi31, hf⟩ := ix_some hf
          refine xa_bald hx hb hK hP 18 2 rfl rfl ej32 hi31 d_P_make_93 ?_
          exact W.iret hx hb hr (fun t ht _ => ⟨⟨_, (), rfl, congrArg Prod.fst (Option.some.inj hf), x_fin ht (congrArg Prod.snd (Option.some.inj hf)) hP⟩, hS.F ht⟩) hS.2.2 d_P_make_94
      · rw [if_neg c4] at hf
        refine lv_iconst (v := (0 : Int32)) hx hb d_P_make_15 (by decide) ?_
        exact W.iret hx hb hr (fun t ht _ => ⟨⟨_, (), rfl, congrArg Prod.fst (Option.some.inj hf), x_fin ht (congrArg Prod.snd (Option.some.inj hf)) hP⟩, hS.F ht⟩) hS.2.2 d_P_make_16
  exact main _ _ hP va_S.rf
set_option maxHeartbeats 4000000 in
set_option maxRecDepth 100000 in
theorem c_G_next (l : Launch) (dC : Nat → ClassId) (dI : Nat → Nat → Nat) (cs : Nat → ClassId) (a : Nat → Nat) (hi : ∀ i j : Nat, i < 29 → j < 29 → a i = a j → i = j) (st : XS) (p1 : Int64) (res : Int32 × XS) (hf : x_G_next st p1 = some res) : Met l (⟨"GuideSearch", "next", "(J)I"⟩ : MethodName) (Cond.code (⟨"GuideSearch", "next", "(J)I"⟩ : MethodName) prog_1_method_6_code 3 (some .int) :: wg) { frames := 22, cells := 0, slots := 0, locals := 637 } (va_Pc ([.ref (a 0), .long p1] : List Value) (x_pre dC dI cs a st)) (va_Qi (fun r (_ : Unit) => r = res.1) (fun _ t => va_P (dC, dI) vwCl (x_W cs a res.2) t.heap) (x_A a)) 0 0 (x_A a) := by
  refine ro_start (cc := prog_1_method_6_code) (maxL := 3) (ret := (some .int)) (by decide) (Nat.le_of_ble_eq_true rfl) ?_
  intro p e s m below meth c hx hb hr hml hT hown hlocks hB ls hl
  replace hown : s.vm.findClass "GuideSearch" = some m.cls := hown
  obtain ⟨hP, hK, hN⟩ := hB
  replace hl : lv_has ls 3 [(0, .ref (a 0)), (1, .long p1)] := hl
  unfold x_G_next at hf
  have hD : ∀ st : XS, va_D (x_A a) (x_W cs a st) := fun st => x_D hi cs st
  have main : ∀ (H : Heap) (locs : List Loc), va_P (dC, dI) vwCl (x_W cs a st) H → va_S (x_A a) s.heap H locs → W p l e { frames := 22, cells := 0, slots := 0, locals := 637 } s m ([.ref (a 0), .long p1] : List Value).toArray below meth c H locs 0 0 (MQ below (va_Qi (fun r (_ : Unit) => r = res.1) (fun _ t => va_P (dC, dI) vwCl (x_W cs a res.2) t.heap) (x_A a)) ([.ref (a 0), .long p1] : List Value).toArray s 0 0 (x_A a)) (F0 m 0 ls []) := by
    intro H locs hP hS
    refine lv_lload_n hx hb d_G_next_0 rfl (lv_at hl 1 rfl) ?_
    refine lv_lconst (v := (0 : Int64)) hx hb d_G_next_1 (by decide) ?_
    refine W.lcmp hx hb d_G_next_2 ?_
    refine lv_if_ge (tgt := 9) hx hb d_G_next_3 (by decide) (fun c1 => ?_) (fun c1 => ?_)
    · rw [if_pos ((lg_cmp_ge _ _).mp c1)] at hf
      refine lv_aload_n hx hb d_G_next_9 rfl (lv_at hl 0 rfl) ?_
      refine lv_lconst (v := (1 : Int64)) hx hb d_G_next_10 (by decide) ?_
      refine lv_iconst (v := (2 : Int32)) hx hb d_G_next_11 (by decide) ?_
      refine lv_aload_n hx hb d_G_next_12 rfl (lv_at hl 0 rfl) ?_
      refine va_get (D := (dC, dI)) (ci := 0) (v := .ref (a 5)) (C := "GuideSearch") (T := F_G) (N := 6) hx hb hT i_G hown hK hP 0 rfl rfl 1 (by decide) (hT _ k_130) (fun _ h9 => h9) rfl d_G_next_13 ?_
      refine lv_aload_n hx hb d_G_next_16 rfl (lv_at hl 0 rfl) ?_
      refine va_get (D := (dC, dI)) (ci := 0) (v := .int (x_opn st)) (C := "GuideSearch") (T := F_G) (N := 6) hx hb hT i_G hown hK hP 0 rfl rfl 4 (by decide) (hT _ k_133) (fun _ h9 => h9) rfl d_G_next_17 ?_
      obtain ⟨r3, hr2, hf⟩ := ob hf
      refine ro_calli (va_runV (C := "GuideSearch$Tests") (As := [.int (x_opn st)]) (rest := [.int (2 : Int32), .long (1 : Int64), .ref (a 0)]) ⟨hx, hb, hml, hown, hT⟩ (c_T_unanswered l dC dI cs a st (x_opn st) r3 hr2) (cwV 1 hT (gV k_237 k_238 k_239 k_3 k_240) rfl rfl rfl (by decide +kernel) ⟨Nat.le_of_ble_eq_true rfl, Nat.le_of_ble_eq_true rfl⟩) (ro_preV hP hK hN (va_recv hK hP (ci := 2) (q0 := 5) rfl rfl)) rfl rfl hl.1 rfl (lv_room (Nat.le_of_ble_eq_true rfl)) d_G_next_20 ⟨Nat.le_of_ble_eq_true rfl, Nat.le_of_ble_eq_true rfl⟩) ?_
      refine lv_imul hx hb d_G_next_23 ?_
      refine lv_lshl (v := ((1 : Int64) <<< (((2 : Int32) * r3).toInt64 &&& 63))) hx hb d_G_next_24 rfl ?_
      refine lv_lload_n hx hb d_G_next_25 rfl (lv_at hl 1 rfl) ?_
      refine W.lcmp hx hb d_G_next_26 ?_
      refine lv_if_gt (tgt := 34) hx hb d_G_next_27 (by decide) (fun c4 => ?_) (fun c4 => ?_)
      · rw [if_pos ((lg_cmp_gt _ _).mp c4)] at hf
        refine lv_iconst (v := (0 : Int32)) hx hb d_G_next_34 (by decide) ?_
        refine va_put (D := (dC, dI)) (ci := 0) (v := .int (0 : Int32)) (ty := .boolean) (C := "GuideSearch") (T := F_G) (N := 6) hx hb hT i_G ft_G ft_G_ok n_G hown hK hP (hD _) hS 0 rfl rfl 5 (by decide) (hT _ k_134) (fun _ h9 => h9) rfl (by decide +kernel) rfl rfl (Nat.le_of_ble_eq_true rfl) d_G_next_35 (fun H locs hP _ hS => ?_)
        rw [x_pla_put cs a st (0 : Int32)] at hP
        refine lv_aload_n hx hb d_G_next_38 rfl (lv_at hl 0 rfl) ?_
        refine va_get (D := (dC, dI)) (ci := 0) (v := .int (x_pla (x_pla_s st (0 : Int32)))) (C := "GuideSearch") (T := F_G) (N := 6) hx hb hT i_G hown hK hP 0 rfl rfl 5 (by decide) (hT _ k_134) (fun _ h9 => h9) rfl d_G_next_39 ?_
        refine lv_if_eq (tgt := 57) hx hb d_G_next_42 (by decide) (fun c5 => ?_) (fun c5 => ?_)
        · rw [if_pos c5] at hf
          refine lv_aload_n hx hb d_G_next_57 rfl (lv_at hl 0 rfl) ?_
          refine va_get (D := (dC, dI)) (ci := 0) (v := .ref (a 16)) (C := "GuideSearch") (T := F_G) (N := 6) hx hb hT i_G hown hK hP 0 rfl rfl 3 (by decide) (hT _ k_132) (fun _ h9 => h9) rfl d_G_next_58 ?_
          obtain ⟨s7, hr6, hf⟩ := ob hf
          refine rw_callv (va_runV (C := "GuideSearch$Plan") (As := []) (rest := []) ⟨hx, hb, hml, hown, hT⟩ (c_P_drop l dC dI cs a hi (x_pla_s st (0 : Int32)) s7 hr6) (cwV 0 hT (gV k_333 k_247 k_248 k_6 k_249) rfl rfl rfl (by decide +kernel) ⟨Nat.le_of_ble_eq_true rfl, Nat.le_of_ble_eq_true rfl⟩) (ro_preV hP hK hN (va_recv hK hP (ci := 4) (q0 := 16) rfl rfl)) rfl rfl hl.1 rfl (lv_room (Nat.le_of_ble_eq_true rfl)) d_G_next_61 ⟨Nat.le_of_ble_eq_true rfl, Nat.le_of_ble_eq_true rfl⟩) hS (fun H locs hP hS => ?_)
          refine lv_aload_n hx hb d_G_next_64 rfl (lv_at hl 0 rfl) ?_
          refine va_get (D := (dC, dI)) (ci := 0) (v := .ref (a 15)) (C := "GuideSearch") (T := F_G) (N := 6) hx hb hT i_G hown hK hP 0 rfl rfl 2 (by decide) (hT _ k_131) (fun _ h9 => h9) rfl d_G_next_65 ?_
          refine lv_aload_n hx hb d_G_next_68 rfl (lv_at hl 0 rfl) ?_
          refine va_get (D := (dC, dI)) (ci := 0) (v := .int (x_opn s7)) (C := "GuideSearch") (T := F_G) (N := 6) hx hb hT i_G hown hK hP 0 rfl rfl 4 (by decide) (hT _ k_133) (fun _ h9 => h9) rfl d_G_next_69 ?_
          obtain ⟨r9, hr8, hf⟩ := ob hf
          refine ro_calli (va_runV (C := "GuideSearch$Cases") (As := [.int (x_opn s7)]) (rest := []) ⟨hx, hb, hml, hown, hT⟩ (c_K_oneStep l dC dI cs a s7 (x_opn s7) r9 hr8) (cwV 1 hT (gV k_334 k_335 k_336 k_5 k_337) rfl rfl rfl (by decide +kernel) ⟨Nat.le_of_ble_eq_true rfl, Nat.le_of_ble_eq_true rfl⟩) (ro_preV hP hK hN (va_recv hK hP (ci := 3) (q0 := 15) rfl rfl)) rfl rfl hl.1 rfl (lv_room (Nat.le_of_ble_eq_true rfl)) d_G_next_72 ⟨Nat.le_of_ble_eq_true rfl, Nat.le_of_ble_eq_true rfl⟩) ?_
          exact W.iret hx hb hr (fun t ht _ => ⟨⟨_, (), rfl, congrArg Prod.fst (Option.some.inj hf), x_fin ht (congrArg Prod.snd (Option.some.inj hf)) hP⟩, hS.F ht⟩) hS.2.2 d_G_next_75
        · rw [if_neg c5] at hf
          refine lv_aload_n hx hb d_G_next_45 rfl (lv_at hl 0 rfl) ?_
          refine va_get (D := (dC, dI)) (ci := 0) (v := .ref (a 16)) (C := "GuideSearch") (T := F_G) (N := 6) hx hb hT i_G hown hK hP 0 rfl rfl 3 (by decide) (hT _ k_132) (fun _ h9 => h9) rfl d_G_next_46 ?_
          refine lv_aload_n hx hb d_G_next_49 rfl (lv_at hl 0 rfl) ?_
          refine va_get (D := (dC, dI)) (ci := 0) (v := .int (x_opn (x_pla_s st (0 : Int32)))) (C := "GuideSearch") (T := F_G) (N := 6) hx hb hT i_G hown hK hP 0 rfl rfl 4 (by decide) (hT _ k_133) (fun _ h9 => h9) rfl d_G_next_50 ?_
          obtain ⟨r12, s11, hr10, hf⟩ := bd2_some hf
          refine rw_calli (va_runV (C := "GuideSearch$Plan") (As := [.int (x_opn (x_pla_s st (0 : Int32)))]) (rest := []) ⟨hx, hb, hml, hown, hT⟩ (c_P_make l dC dI cs a hi (x_pla_s st (0 : Int32)) (x_opn (x_pla_s st (0 : Int32))) (r12, s11) hr10) (cwV 1 hT (gV k_242 k_243 k_244 k_6 k_245) rfl rfl rfl (by decide +kernel) ⟨Nat.le_of_ble_eq_true rfl, Nat.le_of_ble_eq_true rfl⟩) (ro_preV hP hK hN (va_recv hK hP (ci := 4) (q0 := 16) rfl rfl)) rfl rfl hl.1 rfl (lv_room (Nat.le_of_ble_eq_true rfl)) d_G_next_53 ⟨Nat.le_of_ble_eq_true rfl, Nat.le_of_ble_eq_true rfl⟩) hS (fun H locs hP hS => ?_)
          exact W.iret hx hb hr (fun t ht _ => ⟨⟨_, (), rfl, congrArg Prod.fst (Option.some.inj hf), x_fin ht (congrArg Prod.snd (Option.some.inj hf)) hP⟩, hS.F ht⟩) hS.2.2 d_G_next_56
      · rw [if_neg (mt (lg_cmp_gt _ _).mpr c4)] at hf
        refine lv_iconst (v := (1 : Int32)) hx hb d_G_next_30 (by decide) ?_
        refine lv_goto (tgt := 35) hx hb d_G_next_31 (by decide) ?_
        refine va_put (D := (dC, dI)) (ci := 0) (v := .int (1 : Int32)) (ty := .boolean) (C := "GuideSearch") (T := F_G) (N := 6) hx hb hT i_G ft_G ft_G_ok n_G hown hK hP (hD _) hS 0 rfl rfl 5 (by decide) (hT _ k_134) (fun _ h9 => h9) rfl (by decide +kernel) rfl rfl (Nat.le_of_ble_eq_true rfl) d_G_next_35 (fun H locs hP _ hS => ?_)
        rw [x_pla_put cs a st (1 : Int32)] at hP
        refine lv_aload_n hx hb d_G_next_38 rfl (lv_at hl 0 rfl) ?_
        refine va_get (D := (dC, dI)) (ci := 0) (v := .int (x_pla (x_pla_s st (1 : Int32)))) (C := "GuideSearch") (T := F_G) (N := 6) hx hb hT i_G hown hK hP 0 rfl rfl 5 (by decide) (hT _ k_134) (fun _ h9 => h9) rfl d_G_next_39 ?_
        refine lv_if_eq (tgt := 57) hx hb d_G_next_42 (by decide) (fun c13 => ?_) (fun c13 => ?_)
        · rw [if_pos c13] at hf
          refine lv_aload_n hx hb d_G_next_57 rfl (lv_at hl 0 rfl) ?_
          refine va_get (D := (dC, dI)) (ci := 0) (v := .ref (a 16)) (C := "GuideSearch") (T := F_G) (N := 6) hx hb hT i_G hown hK hP 0 rfl rfl 3 (by decide) (hT _ k_132) (fun _ h9 => h9) rfl d_G_next_58 ?_
          obtain ⟨s15, hr14, hf⟩ := ob hf
          refine rw_callv (va_runV (C := "GuideSearch$Plan") (As := []) (rest := []) ⟨hx, hb, hml, hown, hT⟩ (c_P_drop l dC dI cs a hi (x_pla_s st (1 : Int32)) s15 hr14) (cwV 0 hT (gV k_333 k_247 k_248 k_6 k_249) rfl rfl rfl (by decide +kernel) ⟨Nat.le_of_ble_eq_true rfl, Nat.le_of_ble_eq_true rfl⟩) (ro_preV hP hK hN (va_recv hK hP (ci := 4) (q0 := 16) rfl rfl)) rfl rfl hl.1 rfl (lv_room (Nat.le_of_ble_eq_true rfl)) d_G_next_61 ⟨Nat.le_of_ble_eq_true rfl, Nat.le_of_ble_eq_true rfl⟩) hS (fun H locs hP hS => ?_)
          refine lv_aload_n hx hb d_G_next_64 rfl (lv_at hl 0 rfl) ?_
          refine va_get (D := (dC, dI)) (ci := 0) (v := .ref (a 15)) (C := "GuideSearch") (T := F_G) (N := 6) hx hb hT i_G hown hK hP 0 rfl rfl 2 (by decide) (hT _ k_131) (fun _ h9 => h9) rfl d_G_next_65 ?_
          refine lv_aload_n hx hb d_G_next_68 rfl (lv_at hl 0 rfl) ?_
          refine va_get (D := (dC, dI)) (ci := 0) (v := .int (x_opn s15)) (C := "GuideSearch") (T := F_G) (N := 6) hx hb hT i_G hown hK hP 0 rfl rfl 4 (by decide) (hT _ k_133) (fun _ h9 => h9) rfl d_G_next_69 ?_
          obtain ⟨r17, hr16, hf⟩ := ob hf
          refine ro_calli (va_runV (C := "GuideSearch$Cases") (As := [.int (x_opn s15)]) (rest := []) ⟨hx, hb, hml, hown, hT⟩ (c_K_oneStep l dC dI cs a s15 (x_opn s15) r17 hr16) (cwV 1 hT (gV k_334 k_335 k_336 k_5 k_337) rfl rfl rfl (by decide +kernel) ⟨Nat.le_of_ble_eq_true rfl, Nat.le_of_ble_eq_true rfl⟩) (ro_preV hP hK hN (va_recv hK hP (ci := 3) (q0 := 15) rfl rfl)) rfl rfl hl.1 rfl (lv_room (Nat.le_of_ble_eq_true rfl)) d_G_next_72 ⟨Nat.le_of_ble_eq_true rfl, Nat.le_of_ble_eq_true rfl⟩) ?_
          exact W.iret hx hb hr (fun t ht _ => ⟨⟨_, (), rfl, congrArg Prod.fst (Option.some.inj hf), x_fin ht (congrArg Prod.snd (Option.some.inj hf)) hP⟩, hS.F ht⟩) hS.2.2 d_G_next_75
        · rw [if_neg c13] at hf
          refine lv_aload_n hx hb d_G_next_45 rfl (lv_at hl 0 rfl) ?_
          refine va_get (D := (dC, dI)) (ci := 0) (v := .ref (a 16)) (C := "GuideSearch") (T := F_G) (N := 6) hx hb hT i_G hown hK hP 0 rfl rfl 3 (by decide) (hT _ k_132) (fun _ h9 => h9) rfl d_G_next_46 ?_
          refine lv_aload_n hx hb d_G_next_49 rfl (lv_at hl 0 rfl) ?_
          refine va_get (D := (dC, dI)) (ci := 0) (v := .int (x_opn (x_pla_s st (1 : Int32)))) (C := "GuideSearch") (T := F_G) (N := 6) hx hb hT i_G hown hK hP 0 rfl rfl 4 (by decide) (hT _ k_133) (fun _ h9 => h9) rfl d_G_next_50 ?_
          obtain ⟨r20, s19, hr18, hf⟩ := bd2_some hf
          refine rw_calli (va_runV (C := "GuideSearch$Plan") (As := [.int (x_opn (x_pla_s st (1 : Int32)))]) (rest := []) ⟨hx, hb, hml, hown, hT⟩ (c_P_make l dC dI cs a hi (x_pla_s st (1 : Int32)) (x_opn (x_pla_s st (1 : Int32))) (r20, s19) hr18) (cwV 1 hT (gV k_242 k_243 k_244 k_6 k_245) rfl rfl rfl (by decide +kernel) ⟨Nat.le_of_ble_eq_true rfl, Nat.le_of_ble_eq_true rfl⟩) (ro_preV hP hK hN (va_recv hK hP (ci := 4) (q0 := 16) rfl rfl)) rfl rfl hl.1 rfl (lv_room (Nat.le_of_ble_eq_true rfl)) d_G_next_53 ⟨Nat.le_of_ble_eq_true rfl, Nat.le_of_ble_eq_true rfl⟩) hS (fun H locs hP hS => ?_)
          exact W.iret hx hb hr (fun t ht _ => ⟨⟨_, (), rfl, congrArg Prod.fst (Option.some.inj hf), x_fin ht (congrArg Prod.snd (Option.some.inj hf)) hP⟩, hS.F ht⟩) hS.2.2 d_G_next_56
    · rw [if_neg (mt (lg_cmp_ge _ _).mpr c1)] at hf
      refine lv_bipush (v := (-2 : Int32)) hx hb d_G_next_6 (by decide) ?_
      exact W.iret hx hb hr (fun t ht _ => ⟨⟨_, (), rfl, congrArg Prod.fst (Option.some.inj hf), x_fin ht (congrArg Prod.snd (Option.some.inj hf)) hP⟩, hS.F ht⟩) hS.2.2 d_G_next_8
  exact main _ _ hP va_S.rf
