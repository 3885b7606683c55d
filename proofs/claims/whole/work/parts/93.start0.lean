-- LAW 3: what the law's entry gives
theorem arrK {ty : FieldType} {args : Array Value} {s : State} (h : (Cond.arrayClass ty).before args s = true) : ∃ c : ClassId, ArrOfT s c ty ∧ s.vm.findClass ("[" ++ ty.toString) = some c := by
  obtain ⟨c, k, comp, h1, h2, h3⟩ := Cond.arrayClass_spec h
  exact ⟨c, fun n z => ⟨fun k h => (by cases h), k, h2, comp, h3⟩, h1⟩
theorem arrO {ty : FieldType} {args : Array Value} {s : State} (h : (Cond.arrayOver (.array ty)).before args s = true) : ∃ c : ClassId, ArrOfT s c (.array ty) ∧ s.vm.findClass ("[" ++ (FieldType.array ty).toString) = some c := by
  obtain ⟨comp, c, k, h0, h2, h3, h1⟩ := Cond.arrayOver_specA h
  exact ⟨c, fun n z => ⟨fun k h => (by cases h), k, h2, comp, h3⟩, h1⟩
theorem SV.of {n d : String} {a : Array Value} {s : State} (h : (Cond.isRef (.static "java/lang/Throwable" n d)).before a s = true) : SV n d s := by
  simp only [Cond.before, Cond.holds, Cond.value] at h
  cases he : (Term.static "java/lang/Throwable" n d).eval a s none [] s with
  | none => rw [he] at h; simp at h
  | some v =>
    refine ⟨v, he, ?_⟩
    rw [he] at h
    cases v <;> first | rfl | simp at h
set_option maxRecDepth 20000 in
theorem aTb_in : aTb.all (fun w => decide (w ∈ lw_tbl)) = true := by decide +kernel
section Start
variable {p : Program} {l : Launch} {e : Env} {R : Room} {s : State} {m : MethodId} {args : Array Value} {below : List Frame} {meth : Method} {c : Code} {H : Heap} {cells slots : Nat} {Q : State → Prop} {cc : ByteArray} {pc : Nat} {ls : Array Slot} {rest : List Value} {D : va_G} {cl : List vw_C} {tys : List (ClassId × FieldType)}
/-- a new object, behind all that is there -/
theorem lw_new (hexec : p.tables.exec = Jvm.exec) (hb : c.code = cc) {own C : String} {T : u_T} {N ci index : Nat} {Ts : List Cond} (hts : ∀ w ∈ Ts, w.before args s = true) (hin : ∀ w ∈ u_ws C T N, w ∈ Ts) (ty : Nat → FieldType) (hty : ∀ k, k < N → parseFieldDescriptor (T k).2.2.1 = some (ty k)) (hown : s.vm.findClass own = some m.cls) (hcl : (Cond.classLink own index C).before args s = true) (hinst : (Cond.instantiable C N).before args s = true) (hini : (Cond.initialized C).before args s = true)
    (hK : va_K D cl tys s) (hc : cl[ci]? = some (C, T, N)) {fs : List Value} (hfs : ∀ j, j < N → defaultValue (ty j) = vp_V fs j) (hcells : cells + 1 ≤ R.cells) (hslots : slots + N ≤ R.slots) (hdg : decode cc pc = .ok (.new index, 3))
    (kk : ∀ (H1 : Heap), H1.size = H.size + 1 → (∀ q, q < H.size → H1[q]? = H[q]?) → va_P D cl [(H.size, .inr (ci, fs))] H1 → W p l e R s m args below meth c H1 [] (cells + 1) (slots + N) Q (F0 m (pc + 3) ls (.ref H.size :: rest))) : W p l e R s m args below meth c H [] cells slots Q (F0 m pc ls rest) := by
  have hKn := hK.1 ci _ hc
  refine W.newcK hexec hb hown hcl hinst hini rfl hdg hcells hslots hKn.2.1 rfl fun H1 kC hkC e1 z1 o1 => ?_
  refine kk H1 z1 o1 (fun k x hx => ?_)
  have hz : k < 1 := (List.getElem?_eq_some_iff.mp hx).1
  rw [show k = 0 by omega] at hx
  cases hx
  exact ⟨_, hc, (u_born ty hts hin hKn hkC e1 hty).to hfs⟩
end Start
/-- all that a thrown one stands on holds at the law's entry -/
theorem TA_start {b : Nat} {s : State} (hts : ∀ w ∈ lw_tbl, w.before #[Value.ref b] s = true) (hgv : (Jvm.Cond.and given_1 narrow_1).before #[Value.ref b] s = true) : TA s := by
  have hs := flat_of_before _ hgv
  refine ⟨aTb_moved (State.WarmedH.refl s) (fun _ _ => rfl) (a := #[Value.ref b]) (fun w hw => hts w (of_decide_eq_true (List.all_eq_true.mp aTb_in w hw))), SV.of (hs _ (by decide +kernel)), SV.of (hs _ (by decide +kernel)), ?_⟩
  have hex : (Cond.exactly (Term.string "GuideSearch" 143) "java/lang/String").before #[Value.ref b] s = true := hs _ (by decide +kernel)
  obtain ⟨q, cc, cA, kA, q1, -⟩ := Cond.exactly_spec (args := #[Value.ref b]) (first := s) (o := none) (s := s) (idx := []) (t := Term.string "GuideSearch" 143) (cls := "java/lang/String") hex
  have hst : (Cond.stringRef "GuideSearch" 143 "the weight of the case is 0").before #[Value.ref b] s = true := hts _ (by decide +kernel)
  exact ⟨q, vk_R.of hst q1⟩
