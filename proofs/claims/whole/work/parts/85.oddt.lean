-- LAW 1: odd throws; the law's odd
theorem roT_start {l : Launch} {y : MethodName} {rm : Room} {av : List Value} {B : State → Prop} {Qc : Array Value → State → Outcome → State → Prop} {cc : ByteArray} {maxL : Nat} {ret : Option FieldType}
    (hy : plainName y.cls = true) (hlen : (lg_sl av).length ≤ maxL)
    (body : ∀ (p : Program) (e : Env) (s : State) (m : MethodId) (below : List Frame) (meth : Method) (c : Code), p.tables.exec = Jvm.exec → c.code = cc → c.maxLocals = maxL → c.exceptionTable.isEmpty = true → (∀ w ∈ wg, w.before av.toArray s = true) → s.vm.findClass y.cls = some m.cls → meth.locks = false → B s → ∀ ls : Array Slot, lv_has ls maxL (lv_args 0 av) → W p l e rm s m av.toArray below meth c s.heap [] 0 0 (MQT below Qc av.toArray s) (F0 m 0 ls [])) : MetFree l y (headSpec (Cond.code y cc maxL ret :: wg) rm) (va_Pc av B) (fun _ _ _ _ _ => True) Qc := by
  refine MetT_ofW (cc := cc) (maxL := maxL) (ret := ret) hy rfl ?_
  intro p e s m args below meth c s₁ Bd hml htab hv
  obtain ⟨rfl, hB⟩ := hv
  have hts := atoms_spec (ws := Cond.code y cc maxL ret :: wg) Bd.pre
  have hown : s.vm.findClass y.cls = some m.cls := findClass_of_methodNamed Bd.named
  have hl := lv_entry av (n := maxL) hlen
  rw [lg_entry_eq]
  exact body p e s m below meth c Bd.exec Bd.bytes hml htab (fun w hw => hts w (List.mem_cons_of_mem _ hw)) hown Bd.notSynchronized hB _ hl
theorem roH_start {l : Launch} {y : MethodName} {rm : Room} {av : List Value} {B : State → Prop} {Qc : Array Value → State → Outcome → State → Prop} {mc ms : Nat} {free : Addr → Prop} {cc : ByteArray} {maxL : Nat} {ret : Option FieldType} {hs : List (Nat × Nat × Nat × Nat)}
    (hy : plainName y.cls = true) (hlen : (lg_sl av).length ≤ maxL)
    (body : ∀ (p : Program) (e : Env) (s : State) (m : MethodId) (below : List Frame) (meth : Method) (c : Code), p.tables.exec = Jvm.exec → c.code = cc → meth.sig.returnType = ret → c.maxLocals = maxL → c.exceptionTable.toList = tableOf hs → (∀ w ∈ wg, w.before av.toArray s = true) → s.vm.findClass y.cls = some m.cls → meth.locks = false → B s → ∀ ls : Array Slot, lv_has ls maxL (lv_args 0 av) → W p l e rm s m av.toArray below meth c s.heap [] 0 0 (MQ below Qc av.toArray s mc ms free) (F0 m 0 ls [])) : Met l y (Cond.codeWith y cc maxL ret hs :: wg) rm (va_Pc av B) Qc mc ms free := by
  refine MetH_ofW (Qc := fun a st o t => Qc a st o t ∧ ∃ L, FrameEnd st o t L mc ms ∧ ∀ q ∈ L, free q.base) (cc := cc) (maxL := maxL) (ret := ret) (hs := hs) hy rfl ?_
  intro p e s m args below meth c s₁ Bd hml htab hv
  obtain ⟨rfl, hB⟩ := hv
  have hts := atoms_spec (ws := Cond.codeWith y cc maxL ret hs :: wg) Bd.pre
  have hown : s.vm.findClass y.cls = some m.cls := findClass_of_methodNamed Bd.named
  have hl := lv_entry av (n := maxL) hlen
  rw [lg_entry_eq]
  exact body p e s m below meth c Bd.exec Bd.bytes Bd.returns hml htab (fun w hw => hts w (List.mem_cons_of_mem _ hw)) hown Bd.notSynchronized hB _ hl
theorem va_D1 {o : Nat} {v : va_E} : va_D (fun q => q = o) [(o, v)] := by
  refine ⟨fun i j p q hp hq _ => ?_, fun k q hq => ?_⟩
  · have hi := (List.getElem?_eq_some_iff.mp hp).1
    have hj := (List.getElem?_eq_some_iff.mp hq).1
    simp at hi hj
    omega
  · have hk := (List.getElem?_eq_some_iff.mp hq).1
    simp at hk
    subst hk
    cases hq
    rfl

set_option maxHeartbeats 4000000 in
set_option maxRecDepth 100000 in
theorem c_G_oddT (l : Launch) (hfl : l.flags = pinnedFlags ++ [noTraceFlag]) (dC : Nat → ClassId) (dI : Nat → Nat → Nat) (cs : Nat → ClassId) (a : Nat → Nat) (st : XS) (p1 : Int32) (p2 : Int32) (wv : Int64) (h1 : x_C_knows st p1 = some 1) (h2 : x_K_weight st (x_opn st) = some wv) (h3 : ¬ (0 : Int64) < wv) : MetFree l (⟨"GuideSearch", "odd", "(II)J"⟩ : MethodName) (headSpec (Cond.code (⟨"GuideSearch", "odd", "(II)J"⟩ : MethodName) prog_1_method_8_code 9 (some .long) :: wg) { frames := 12, cells := 1, slots := 6, locals := 400 }) (va_Pc ([.ref (a 0), .int p1, .int p2] : List Value) (fun U => x_pre dC dI cs a st U ∧ TA U)) (fun _ _ _ _ _ => True) (Thr "java/lang/ArithmeticException" 1 6) := by
  refine roT_start (cc := prog_1_method_8_code) (maxL := 9) (ret := (some .long)) (by decide) (Nat.le_of_ble_eq_true rfl) ?_
  intro p e s m below meth c hx hb hml htab hT hown hlocks hB ls hl
  replace hown : s.vm.findClass "GuideSearch" = some m.cls := hown
  obtain ⟨⟨hP, hK, hN⟩, hTA⟩ := hB
  replace hl : lv_has ls 9 [(0, .ref (a 0)), (1, .int p1), (2, .int p2)] := hl
  refine lv_aload_n hx hb d_G_odd_0 rfl (lv_at hl 0 rfl) ?_
  refine va_get (D := (dC, dI)) (ci := 0) (v := .ref (a 1)) (C := "GuideSearch") (T := F_G) (N := 6) hx hb hT i_G hown hK hP 0 rfl rfl 0 (by decide) (hT _ k_129) (fun _ h9 => h9) rfl d_G_odd_1 ?_
  refine lv_iload_n hx hb d_G_odd_4 rfl (lv_at hl 1 rfl) ?_
  refine ro_calli (va_runV (C := "GuideSearch$Causes") (As := [.int p1]) (rest := []) ⟨hx, hb, hml, hown, hT⟩ (c_C_knows l dC dI cs a st p1 1 h1) (cwV 1 hT (gV k_176 k_177 k_178 k_2 k_179) rfl rfl rfl (by decide +kernel) ⟨Nat.le_of_ble_eq_true rfl, Nat.le_of_ble_eq_true rfl⟩) (ro_preV hP hK hN (va_recv hK hP (ci := 1) (q0 := 1) rfl rfl)) rfl rfl hl.1 rfl (lv_room (Nat.le_of_ble_eq_true rfl)) d_G_odd_5 ⟨Nat.le_of_ble_eq_true rfl, Nat.le_of_ble_eq_true rfl⟩) ?_
  refine lv_if_ne (tgt := 15) hx hb d_G_odd_8 (by decide) (fun c3 => ?_) (fun c3 => ?_)
  · skip
    refine lv_aload_n hx hb d_G_odd_15 rfl (lv_at hl 0 rfl) ?_
    refine va_get (D := (dC, dI)) (ci := 0) (v := .ref (a 15)) (C := "GuideSearch") (T := F_G) (N := 6) hx hb hT i_G hown hK hP 0 rfl rfl 2 (by decide) (hT _ k_131) (fun _ h9 => h9) rfl d_G_odd_16 ?_
    refine lv_aload_n hx hb d_G_odd_19 rfl (lv_at hl 0 rfl) ?_
    refine va_get (D := (dC, dI)) (ci := 0) (v := .int (x_opn st)) (C := "GuideSearch") (T := F_G) (N := 6) hx hb hT i_G hown hK hP 0 rfl rfl 4 (by decide) (hT _ k_133) (fun _ h9 => h9) rfl d_G_odd_20 ?_
    refine ro_calll (va_runV (C := "GuideSearch$Cases") (As := [.int (x_opn st)]) (rest := []) ⟨hx, hb, hml, hown, hT⟩ (c_K_weight l dC dI cs a st (x_opn st) wv h2) (cwV 1 hT (gV k_427 k_428 k_429 k_5 k_430) rfl rfl rfl (by decide +kernel) ⟨Nat.le_of_ble_eq_true rfl, Nat.le_of_ble_eq_true rfl⟩) (ro_preV hP hK hN (va_recv hK hP (ci := 3) (q0 := 15) rfl rfl)) rfl rfl hl.1 rfl (lv_room (Nat.le_of_ble_eq_true rfl)) d_G_odd_23 ⟨Nat.le_of_ble_eq_true rfl, Nat.le_of_ble_eq_true rfl⟩) ?_
    refine lv_lstore_n (lv' := [(3, .long wv), (0, .ref (a 0)), (1, .int p1), (2, .int p2)]) hx hb d_G_odd_26 rfl hl (by decide) rfl (fun ls hl => ?_)
    refine lv_lload_n hx hb d_G_odd_27 rfl (lv_at hl 0 rfl) ?_
    refine lv_lconst (v := (0 : Int64)) hx hb d_G_odd_28 (by decide) ?_
    refine W.lcmp hx hb d_G_odd_29 ?_
    refine lv_if_gt (tgt := 43) hx hb d_G_odd_30 (by decide) (fun c6 => ?_) (fun c6 => ?_)
    · exact absurd ((lg_cmp_gt _ _).mp c6) h3
    · obtain ⟨q, hZ⟩ := hTA.2.2.2
      exact w_throwNew hx hb hfl hlocks htab hown (by decide) (by decide) (hTA.atoms _) (hT _ k_431) (hT _ k_432) (hT _ k_13) hZ d_G_odd_33 d_G_odd_36 d_G_odd_37 d_G_odd_39 d_G_odd_42 (hl.1.trans hml.symm) (by decide) (by decide) (by decide) (by decide) rfl
  · exact absurd c3 (by decide)
