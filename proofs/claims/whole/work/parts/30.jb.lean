-- rows for constructors: new arrays of known array classes, arrays of arrays, the method's own name
theorem ri_start {l : Launch} {y : MethodName} {rm : Room} {av : List Value} {B : State → Prop} {Qc : Array Value → State → Outcome → State → Prop} {mc ms : Nat} {free : Addr → Prop} {cc : ByteArray} {maxL : Nat} {ret : Option FieldType}
    (hy : plainName y.cls = true) (hlen : (lg_sl av).length ≤ maxL)
    (body : ∀ (p : Program) (e : Env) (s : State) (m : MethodId) (below : List Frame) (meth : Method) (c : Code), p.tables.exec = Jvm.exec → c.code = cc → meth.sig.returnType = ret → c.maxLocals = maxL → (∀ w ∈ wg, w.before av.toArray s = true) → s.vm.findClass y.cls = some m.cls → meth.locks = false → meth.name = y.name → B s → ∀ ls : Array Slot, lv_has ls maxL (lv_args 0 av) → W p l e rm s m av.toArray below meth c s.heap [] 0 0 (MQ below Qc av.toArray s mc ms free) (F0 m 0 ls [])) : Met l y (Cond.code y cc maxL ret :: wg) rm (va_Pc av B) Qc mc ms free := by
  refine Met.ofW (cc := cc) (maxL := maxL) (ret := ret) hy rfl ?_
  intro p e s m args below meth c s₁ Bd hml hv
  obtain ⟨rfl, hB⟩ := hv
  have hts := atoms_spec (ws := Cond.code y cc maxL ret :: wg) Bd.pre
  have hown : s.vm.findClass y.cls = some m.cls := findClass_of_methodNamed Bd.named
  have hl := lv_entry av (n := maxL) hlen
  rw [lg_entry_eq]
  exact body p e s m below meth c Bd.exec Bd.bytes Bd.returns hml (fun w hw => hts w (List.mem_cons_of_mem _ hw)) hown Bd.notSynchronized (name_of_methodNamed Bd.named Bd.method).1 hB _ hl
section InitRows
variable {p : Program} {l : Launch} {e : Env} {R : Room} {s : State} {m : MethodId} {args : Array Value} {below : List Frame} {meth : Method} {c : Code} {H : Heap} {locs : List Loc} {cells slots : Nat} {Q : State → Prop}
variable {cc : ByteArray} {pc : Nat} {ls : Array Slot} {rest : List Value} {D : va_G} {cl : List vw_C} {A : Nat → Prop} {tys : List (ClassId × FieldType)} {ws : va_W} {H0 : Heap}
theorem xn_newa (hexec : p.tables.exec = Jvm.exec) (hb : c.code = cc) {atype : ArrayType} (harr : (Cond.arrayClass (newarray.typeOf atype)).before args s = true) {ty : FieldType} (hty : newarray.typeOf atype = ty) (hK : va_K D cl tys s) (t0 : Nat) {c0 : ClassId} (ht : tys[t0]? = some (c0, ty)) (hobj : ∀ c : ClassId, va_RA s c ty → s.vm.findClass ("[" ++ ty.toString) = some c) (hP : va_P D cl ws H) (hD : va_D A ws) (hS : va_S A H0 H locs) (hA : ∀ q, H0.size ≤ q → A q)
    {n : Int32} {N' : Nat} {a0 : vp_A} (ha : ∀ cA : ClassId, vp_cell cA a0 = arrV cA N' (fun _ => defaultValue ty)) (hn : ¬ n < 0) (hN : n.toNatClampNeg = N') (hbytes : N' * componentBytes ty ≤ 536870912) (hcells : cells + 1 ≤ R.cells) (hslots : slots + N' ≤ R.slots) (hdg : decode cc pc = .ok (.newarray atype, 2))
    (kk : ∀ (q : Nat) (H1 : Heap), va_P D cl (ws ++ [(q, .inl (c0, a0))]) H1 → va_D A (ws ++ [(q, .inl (c0, a0))]) → va_S A H0 H1 locs →
      W p l e R s m args below meth c H1 locs (cells + 1) (slots + N') Q (F0 m (pc + 2) ls (.ref q :: rest))) : W p l e R s m args below meth c H locs cells slots Q (F0 m pc ls (.int n :: rest)) :=
  va_newa hexec hb harr hty hK hP hD hS hA ha hn hN hbytes hcells hslots hdg (fun q cA H1 hK1 hP1 hD1 hS1 => by
    have e1 := hobj _ (hK1.2 tys.length (cA, ty) (by simp)).2
    have e2 := hobj _ (hK.2 t0 _ ht).2
    rw [e1] at e2
    cases e2
    exact kk q H1 hP1 hD1 hS1)
/-- new T[6][13]: the outer array, then its rows, one behind the other -/
theorem xn_mna (hexec : p.tables.exec = Jvm.exec) (hb : c.code = cc) {own : String} {index : Nat} {ty : FieldType} (hown : s.vm.findClass own = some m.cls) (hclink : (Cond.classLink own index ("[" ++ (FieldType.array ty).toString)).before args s = true) (hover : (Cond.arrayOver (.array ty)).before args s = true) (harr : (Cond.arrayClass ty).before args s = true)
    (hK : va_K D cl tys s) (tO tI : Nat) {cO cI : ClassId} (htO : tys[tO]? = some (cO, .array ty)) (htI : tys[tI]? = some (cI, ty)) (hobj : ∀ c : ClassId, va_RA s c ty → s.vm.findClass ("[" ++ ty.toString) = some c) (hP : va_P D cl ws H) (hD : va_D A ws) (hS : va_S A H0 H locs) (hA : ∀ q, H0.size ≤ q → A q) {z : vp_A}
    (hb2 : 13 * componentBytes ty ≤ 536870912) (hdf : fits ty (defaultValue ty) = true) (hdd : (defaultValue ty).isDefault = true) (hcells : cells + 7 ≤ R.cells) (hslots : slots + 84 ≤ R.slots) (hz : ∀ c : ClassId, Jvm.Free.Multi.innerC c 13 (defaultValue ty) = vp_cell c z) (hdg : decode cc pc = .ok (.multianewarray index 2, 4))
    (kk : ∀ (q : Nat) (H1 : Heap), va_P D cl (ws ++ [(q, .inl (cO, 6, .inr (.inr (.inr (.inr (fun i => if i < 6 then some (q + 1 + i) else none)))))), (q + 1, .inl (cI, z)), (q + 2, .inl (cI, z)), (q + 3, .inl (cI, z)), (q + 4, .inl (cI, z)), (q + 5, .inl (cI, z)), (q + 6, .inl (cI, z))]) H1 →
      va_D A (ws ++ [(q, .inl (cO, 6, .inr (.inr (.inr (.inr (fun i => if i < 6 then some (q + 1 + i) else none)))))), (q + 1, .inl (cI, z)), (q + 2, .inl (cI, z)), (q + 3, .inl (cI, z)), (q + 4, .inl (cI, z)), (q + 5, .inl (cI, z)), (q + 6, .inl (cI, z))]) → va_S A H0 H1 locs →
      W p l e R s m args below meth c H1 locs (cells + 7) (slots + 84) Q (F0 m (pc + 4) ls (.ref q :: rest))) : W p l e R s m args below meth c H locs cells slots Q (F0 m pc ls (.int 13 :: .int 6 :: rest)) := by
  intro T hT Xs
  obtain ⟨vm₁, cA, comp, -, fA, fC, hO, -, X', step⟩ := Xs.multianewarray2F hexec hown hclink hover harr (g := F0 m pc ls (.int 13 :: .int 6 :: rest)) rfl (by rw [hb]; exact hdg) rfl (n := 6) (k := 13) (by decide) (by decide) (by decide) hb2 (by decide) hdf hdd hcells hslots
  have eO : s.vm.findClass ("[" ++ (FieldType.array ty).toString) = some cO := (hK.2 tO _ htO).2
  have eI : s.vm.findClass ("[" ++ ty.toString) = some cI := hobj _ (hK.2 tI _ htI).2
  have eA : cO = cA := (Option.some.inj (fA.symm.trans eO)).symm
  subst eA
  have eC : cI = comp := (Option.some.inj (fC.symm.trans eI)).symm
  subst eC
  have hN6 : (6 : Int32).toNatClampNeg = 6 := by decide
  have hN13 : (13 : Int32).toNatClampNeg = 13 := by decide
  rw [hN6, hN13] at X' step
  generalize hF : Jvm.Free.Multi.fill (T.setVm vm₁) cO cI 6 13 (defaultValue ty) 6 = F at X' step
  have hTh : (T.setVm vm₁).heap = H := hT
  obtain ⟨f1, f2, -, -⟩ := Jvm.Free.Multi.fill_facts (T.setVm vm₁) cO cI 6 13 (defaultValue ty) 6
  rw [hF, hTh] at f1 f2
  have hold : ∀ x : Nat, x < H.size → F.heap[x]? = H[x]? := fun x hx => by
    have := Jvm.Free.Multi.fill_old (T.setVm vm₁) cO cI 6 13 (defaultValue ty) (a := x) (by rw [hTh]; exact hx) 6
    rw [hF, hTh] at this
    exact this
  have hrow : ∀ j : Nat, j < 6 → F.heap[H.size + 1 + j]? = some (vp_cell cI z) := fun j hj => by
    have := Jvm.Free.Multi.fill_inner (T.setVm vm₁) cO cI 6 13 (defaultValue ty) 6 j hj
    rw [hF, hTh, hz] at this
    exact this
  have hout : F.heap[H.size]? = some (vp_cell cO (6, .inr (.inr (.inr (.inr (fun i => if i < 6 then some (H.size + 1 + i) else none)))))) := by
    rw [f2, vp_cell_q]
    congr 1
  have hnew : va_P D cl [(H.size, .inl (cO, 6, .inr (.inr (.inr (.inr (fun i => if i < 6 then some (H.size + 1 + i) else none)))))), (H.size + 1, .inl (cI, z)), (H.size + 2, .inl (cI, z)), (H.size + 3, .inl (cI, z)), (H.size + 4, .inl (cI, z)), (H.size + 5, .inl (cI, z)), (H.size + 6, .inl (cI, z))] F.heap := by
    intro k q hq
    have hk : k < 7 := (List.getElem?_eq_some_iff.mp hq).1
    match k, hk with
    | 0, _ => cases hq; exact hout
    | 1, _ => cases hq; exact hrow 0 (by decide)
    | 2, _ => cases hq; exact hrow 1 (by decide)
    | 3, _ => cases hq; exact hrow 2 (by decide)
    | 4, _ => cases hq; exact hrow 3 (by decide)
    | 5, _ => cases hq; exact hrow 4 (by decide)
    | 6, _ => cases hq; exact hrow 5 (by decide)
  have hPk : va_P D cl ws F.heap := hP.kept (fun k9 x hx => hold x.1 ((hP k9 x hx).lt))
  have hnat : ∀ (k : Nat) (q : Nat × va_E), ([(H.size, .inl (cO, 6, .inr (.inr (.inr (.inr (fun i => if i < 6 then some (H.size + 1 + i) else none)))))), (H.size + 1, .inl (cI, z)), (H.size + 2, .inl (cI, z)), (H.size + 3, .inl (cI, z)), (H.size + 4, .inl (cI, z)), (H.size + 5, .inl (cI, z)), (H.size + 6, .inl (cI, z))] : va_W)[k]? = some q → q.1 = H.size + k := by
    intro k q hq
    have hk : k < 7 := (List.getElem?_eq_some_iff.mp hq).1
    match k, hk with
    | 0, _ => cases hq; rfl
    | 1, _ => cases hq; rfl
    | 2, _ => cases hq; rfl
    | 3, _ => cases hq; rfl
    | 4, _ => cases hq; rfl
    | 5, _ => cases hq; rfl
    | 6, _ => cases hq; rfl
  have hDn : va_D A ([(H.size, .inl (cO, 6, .inr (.inr (.inr (.inr (fun i => if i < 6 then some (H.size + 1 + i) else none)))))), (H.size + 1, .inl (cI, z)), (H.size + 2, .inl (cI, z)), (H.size + 3, .inl (cI, z)), (H.size + 4, .inl (cI, z)), (H.size + 5, .inl (cI, z)), (H.size + 6, .inl (cI, z))] : va_W) :=
    ⟨fun i j p9 q9 h1 h2 e9 => by
      have := hnat i p9 h1
      have := hnat j q9 h2
      omega, fun k q9 h => by
      rw [hnat k q9 h]
      exact hA _ (Nat.le_trans hS.1 (Nat.le_add_right _ _))⟩
  obtain ⟨t2, a1, b1⟩ := kk H.size F.heap (hPk.app hnew) (hD.app hDn (fun i j p9 q9 h1 h2 e9 => by
      have h3 := (hP i p9 h1).lt
      have h4 := hnat j q9 h2
      omega)) ⟨by rw [f1]; have := hS.1; omega, fun x h1 h2 => (hold x (Nat.lt_of_lt_of_le h1 hS.1)).trans (hS.2.1 x h1 h2), hS.2.2⟩ F rfl X'
  exact ⟨t2, step t2 (by rw [hT]; exact a1), b1⟩
end InitRows
theorem one_A {h0 sz q : Nat} {e : va_E} (h : q = h0 ∨ sz ≤ q) : va_A [(h0, e)] sz q := h.elim (fun e1 => Or.inl ⟨0, e, by rw [e1]; rfl⟩) Or.inr
set_option maxRecDepth 20000 in
theorem k_obj : Cond.code objectInit ⟨#[0xb1]⟩ 1 none ∈ wg := wgm (i := 50) rfl rfl
/-- Arrays.fill of an int array of 13 places -/
theorem c_JA_fill_I (l : Launch) (dC : Nat → ClassId) (dI : Nat → Nat → Nat) (cs : Nat → ClassId) (q sz : Nat) (f : Nat → Int32) (v : Int32) : Met l (⟨"java/util/Arrays", "fill", "([II)V"⟩ : MethodName) (Cond.code (⟨"java/util/Arrays", "fill", "([II)V"⟩ : MethodName) prog_15_method_103_code 4 none :: wg) { frames := 0, cells := 0, slots := 0, locals := 0 } (va_Pc [.ref q, .int v] (fun U => U.heap.size = sz ∧ va_P (dC, dI) vwCl [(q, .inl (cs 1, 13, .inl f))] U.heap ∧ va_K (dC, dI) vwCl (g_ty cs) U ∧ NW U)) (va_Qv (fun _ : Unit => True) (fun _ t => va_P (dC, dI) vwCl [(q, .inl (cs 1, 13, .inl (fun j => if j < 13 then v else f j)))] t.heap ∧ va_D (fun x : Nat => x = q ∨ sz ≤ x) [(q, .inl (cs 1, 13, .inl (fun j => if j < 13 then v else f j)))]) (fun x : Nat => x = q ∨ sz ≤ x)) 0 0 (fun x : Nat => x = q ∨ sz ≤ x) := by
  refine ro_start (cc := prog_15_method_103_code) (maxL := 4) (ret := none) (by decide) (Nat.le_of_ble_eq_true rfl) ?_
  intro p e s m below meth c hx hb hr hml hT hown hlocks hB ls hl
  obtain ⟨hsz, hP, hK, hN⟩ := hB
  replace hl : lv_has ls 4 [(0, .ref q), (1, .int v)] := hl
  have hD : ∀ g : Nat → Int32, va_D (fun x : Nat => x = q ∨ sz ≤ x) [(q, .inl (cs 1, 13, .inl g))] := fun g => ⟨fun i j p q h1 h2 _ => by
      have a1 : i < 1 := (List.getElem?_eq_some_iff.mp h1).1
      have a2 : j < 1 := (List.getElem?_eq_some_iff.mp h2).1
      omega, fun k q h => by
      have a1 : k < 1 := (List.getElem?_eq_some_iff.mp h).1
      rw [show k = 0 by omega] at h
      cases h
      exact Or.inl rfl⟩
  refine lv_iconst (v := (0 : Int32)) hx hb d_JA_fill_I_0 (by decide) ?_
  refine lv_istore_n (lv' := [(2, .int (0 : Int32)), (0, .ref q), (1, .int v)]) hx hb d_JA_fill_I_1 rfl hl (by decide) rfl (fun ls hl => ?_)
  refine lv_aload_n hx hb d_JA_fill_I_2 rfl (lv_at hl 1 rfl) ?_
  refine va_alen (v := (13 : Int32)) hx hb hK hP 0 1 rfl rfl rfl d_JA_fill_I_3 ?_
  refine lv_istore_n (lv' := [(3, .int (13 : Int32)), (2, .int (0 : Int32)), (0, .ref q), (1, .int v)]) hx hb d_JA_fill_I_4 rfl hl (by decide) rfl (fun ls hl => ?_)
  have loop : ∀ (n i : Nat), i ≤ 13 → 13 < i + n → ∀ (H : Heap) (locs : List Loc), va_P (dC, dI) vwCl [(q, .inl (cs 1, 13, .inl (fun j => if j < i then v else f j)))] H → va_S (fun x : Nat => x = q ∨ sz ≤ x) s.heap H locs → ∀ (ls : Array Slot), lv_has ls 4 [(3, .int (13 : Int32)), (2, .int (nI i)), (0, .ref q), (1, .int v)] → W p l e { frames := 0, cells := 0, slots := 0, locals := 0 } s m ([.ref q, .int v] : List Value).toArray below meth c H locs 0 0 (MQ below (va_Qv (fun _ : Unit => True) (fun _ t => va_P (dC, dI) vwCl [(q, .inl (cs 1, 13, .inl (fun j => if j < 13 then v else f j)))] t.heap ∧ va_D (fun x : Nat => x = q ∨ sz ≤ x) [(q, .inl (cs 1, 13, .inl (fun j => if j < 13 then v else f j)))]) (fun x : Nat => x = q ∨ sz ≤ x)) ([.ref q, .int v] : List Value).toArray s 0 0 (fun x : Nat => x = q ∨ sz ≤ x)) (F0 m 5 ls []) := by
    intro n
    induction n with
    | zero => intro i h1 h2; omega
    | succ n ih =>
      intro i h1 h2 H locs hP hS ls hl
      refine lv_iload_n hx hb d_JA_fill_I_5 rfl (lv_at hl 1 rfl) ?_
      refine lv_iload_n hx hb d_JA_fill_I_6 rfl (lv_at hl 0 rfl) ?_
      refine lv_icmp_ge (tgt := 20) hx hb d_JA_fill_I_7 (by decide) (fun c1 => ?_) (fun c1 => ?_)
      · have hi : i = 13 := by
          rcases Nat.lt_or_ge i 13 with h | h
          · exact absurd c1 (nI_ge h (by decide))
          · omega
        subst hi
        exact W.vret hx hb hr (fun t ht _ => ⟨⟨(), rfl, trivial, by rw [ht]; exact hP, hD _⟩, hS.F ht⟩) hS.2.2 d_JA_fill_I_20
      · have hi : i < 13 := by
          rcases Nat.lt_or_ge i 13 with h | h
          · exact h
          · exact absurd (nI_le h (by omega)) c1
        refine lv_aload_n hx hb d_JA_fill_I_10 rfl (lv_at hl 2 rfl) ?_
        refine lv_iload_n hx hb d_JA_fill_I_11 rfl (lv_at hl 1 rfl) ?_
        refine lv_iload_n hx hb d_JA_fill_I_12 rfl (lv_at hl 3 rfl) ?_
        refine xa_iast hx hb hK hP (hD _) hS 0 1 rfl rfl (nI_clamp (by omega)) (vp_in_nI hi (by decide)) d_JA_fill_I_13 (fun H locs hP hS => ?_)
        have he : upd (fun j => if j < i then v else f j) i v = fun j => if j < i + 1 then v else f j := by
          funext j
          unfold upd
          by_cases hj : j = i
          · rw [if_pos hj, if_pos (by omega)]
          · rw [if_neg hj]
            dsimp only
            by_cases hk : j < i
            · rw [if_pos hk, if_pos (by omega)]
            · rw [if_neg hk, if_neg (by omega)]
        rw [he] at hP
        refine lv_iinc (v := nI (i + 1)) (lv' := [(2, .int (nI (i + 1))), (3, .int (13 : Int32)), (0, .ref q), (1, .int v)]) hx hb d_JA_fill_I_14 hl (k := 1) rfl (nI_succ i).symm (by decide) rfl (fun ls hl => ?_)
        refine lv_goto (tgt := 5) hx hb d_JA_fill_I_17 (by decide) ?_
        exact ih (i + 1) (by omega) (by omega) H locs hP hS ls (lv_sub hl [1, 0, 2, 3] rfl)
  exact loop 14 0 (by decide) (by decide) s.heap [] (by
    have e0 : (fun j => if j < 0 then v else f j) = f := by funext j; exact if_neg (Nat.not_lt_zero _)
    rw [e0]; exact hP) va_S.rf ls hl

