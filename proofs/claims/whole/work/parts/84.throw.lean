-- THROW 1: the catch type is resolved as the exception is caught
def FindsV (e : Env) (s : State) (f : JFrame) (a : Addr) (h : Handler) (vm' : Vm) : Prop :=
  ∀ (Q : Handler → Pre) (E : CtlPost) (d : Bool) (acts : List Action), wp (findHandler f a) Q E e d acts s ↔ Q h d acts (s.setVm vm')
theorem fhCold {E : CtlPost} {e : Env} {d : Bool} {acts : List Action} {s : State} {f : JFrame} {a : Addr} {Q : Handler → Pre} {x : ExceptionTableEntry} {t : List ExceptionTableEntry} {c : ClassId} {cell : Cell} {vm' : Vm} (hx : covers x f.pc = true) (h0 : x.catchType ≠ 0)
    (hg : (Jvm.resolveClass f.method.cls x.catchType).Gives e.toSetting s.vm (.ok c) vm') (hsz : vm'.classes.size ≤ s.vm.classes.size) (hcell : s.heap[a]? = some cell) (hobj : ∀ k, cell.vm ≠ .statics k)
    (hk : ∃ k, vm'.classes[cell.cls]? = some k) (hc : ∃ k, vm'.classes[c]? = some k) (hfit : vm'.assignable cell.cls c = true) :
    wp (findHandler.go f a (x :: t)) Q E e d acts s ↔ Q (.found x.handlerPc) d acts (s.setVm vm') := by
  simp only [covers] at hx
  obtain ⟨ha, ht⟩ := hg.op (op := VmOp.resolveClass f.method.cls x.catchType) rfl
  simp [findHandler.go, hx, h0, ha, ht, hsz, hcell, hobj, hk, hc, hfit, VmOp.dirties, VmOp.acts]
theorem stCatchV {e : Env} {s : State} {a : Addr} {f : JFrame} {r : List Frame} {pc : Nat} {vm' : Vm} (hfind : FindsV e s f a (.found pc) vm') :
    (stepThrowing e s a (.java f :: r)).Is ((s.setVm vm').setFrames (.java { f with pc := pc, stack := [.ref a] } :: r)) [] := by
  simp only [stepThrowing, searchFrame, vmDo]
  generalize hr : Sem.go _ e false [] s = res
  obtain ⟨as, rfl, ha⟩ := Sem.eq_ok_of hr (a := Handler.found pc) (s' := s.setVm vm') (acts' := []) (by simp [hfind _ _ _ _])
  exact ⟨rfl, ha⟩
theorem caughtV {tb : Tables} {e : Env} {s target : State} {g : JFrame} {c : Code} {below : List Frame} {a : Addr} {vm' : Vm} (h : At s g.method c below) {pc : Nat} (hfind : FindsV e ((s.setTop g).pushFrame (.throwing a)) g a (.found pc) vm')
    (hrest : Steps tb e below ((s.setVm vm').setTop { g with pc := pc, stack := [.ref a] }) target) :
    Steps tb e below ((s.setTop g).pushFrame (.throwing a)) target := by
  obtain ⟨hgo, hw⟩ := h.throwing a
  refine Steps.head hgo hw ?_
  rw [stepThread_throwing (frames_entered h.top _), (stCatchV (s := (s.setTop g).pushFrame (.throwing a)) hfind).1]
  obtain ⟨g₀, hg⟩ := Option.isSome_iff_exists.mp h.top
  obtain ⟨r, hr⟩ := State.topJava?_eq_some.mp hg
  have hr' : (s.setVm vm').frames = .java g₀ :: r := hr
  rw [State.setTop_of_frames _ hr'] at hrest
  have e1 : ((((s.setTop g).pushFrame (.throwing a)).setVm vm').setFrames (.java { g with pc := pc, stack := [.ref a] } :: s.frames.tail)) = (s.setVm vm').setFrames (.java { g with pc := pc, stack := [.ref a] } :: r) := by
    rw [State.pushFrame, State.setTop_of_frames _ hr, hr]
    show (((s.setFrames _).setFrames _).setVm vm').setFrames _ = _
    rw [State.setFrames_setFrames]
    show ((s.setFrames _).setFrames _).setVm vm' = (s.setFrames _).setVm vm'
    rw [State.setFrames_setFrames]
    rfl
  rw [e1]
  exact hrest
section Catch
variable {p : Program} {l : Launch} {e : Env} {R : Room} {s : State} {m : MethodId} {args : Array Value} {below : List Frame} {meth : Method} {c : Code} {T : State} {locs : List Loc} {cells slots : Nat}
/-- a handler of one class, found by the first entry of the table; the class's entry may be open still -/
theorem catchCold (X : Stand p l e R s m args below meth c T locs cells slots) {own C : String} (hown : s.vm.findClass own = some m.cls) {x : ExceptionTableEntry} {rest : List ExceptionTableEntry} (htab : c.exceptionTable.toList = x :: rest) (h0 : x.catchType ≠ 0) (hclink : (Cond.classLink own x.catchType C).before args s = true)
    {a : Addr} {cell : Cell} (hcell : T.heap[a]? = some cell) (hobj : cell.vm.isStatics = false) (hC : s.vm.findClass C = some cell.cls) (hself : s.vm.assignable cell.cls cell.cls = true)
    {g : JFrame} (hg : g.method = m) (hx : covers x g.pc = true) :
    ∃ vm' : Vm, Stand p l e R s m args below meth c (T.setVm vm') locs cells slots ∧ ∀ target, Steps p.tables e below ((T.setVm vm').setTop { g with pc := x.handlerPc, stack := [.ref a] }) target → Steps p.tables e below ((T.setTop g).pushFrame (.throwing a)) target := by
  subst hg
  have hpl : e.platform.magicAccessors = ({} : Platform).magicAccessors := by rw [X.admits.platform]
  obtain ⟨cc, hfcc, hcl⟩ := Cond.classLink_spec hown hclink e.platform hpl
  cases hC.symm.trans hfcc
  obtain ⟨hg₁, hwarm₁, hready₁⟩ := State.classEntry (e := e) X.warmed hcl
  have hsz : (T.vm.noted g.method.cls x.catchType (.cls cell.cls)).classes.size ≤ T.vm.classes.size := by rw [Vm.size_noted]; exact Nat.le_refl _
  generalize T.vm.noted g.method.cls x.catchType (.cls cell.cls) = vm₁ at hg₁ hwarm₁ hready₁ hsz
  obtain ⟨k0, hk0⟩ := Vm.classAt_of_findClass hC
  obtain ⟨k₁, hk₁, -⟩ := hwarm₁.alike.2.2 _ _ hk0
  have hfit : vm₁.assignable cell.cls cell.cls = true := by rw [hwarm₁.alike.assignable]; exact hself
  refine ⟨vm₁, X.noted hwarm₁, fun target hrest => caughtV X.here ?_ hrest⟩
  intro Q E d acts
  have hm : ((T.setTop g).pushFrame (.throwing a)).vm.method? g.method = some meth := by rw [Stand.throwing_vm, X.warmed.alike.method?]; exact X.method
  rw [W.findHandler_eq hm X.code, htab]
  exact fhCold hx h0 (by rw [Stand.throwing_vm]; exact hg₁) (by rw [Stand.throwing_vm]; exact hsz) (by rw [Stand.throwing_heap]; exact hcell) (VmData.ne_statics_of hobj) ⟨_, hk₁⟩ ⟨_, hk₁⟩ hfit
end Catch
-- THROW 2: a call whose callee throws
def EndT (first : State) (t : State) (L : List Loc) (k n : Nat) : Prop := first.WarmedH t.vm ∧ first.sameButNew ({ t with vm := first.vm } : State) L k n
section CallT
variable {l : Launch} {R : Room} {p : Program} {e : Env} {below : List Frame} {s : State} {sargs : Array Value} {y : MethodName} {len Wt : Nat}
theorem goT {S : Spec} {P : Array Value → State → Prop} {Q : Array Value → State → Outcome → State → Prop} {bytes : ByteArray} {maxL : Nat} {ret : Option FieldType}
    (hM : MetFree l y S P (fun _ _ _ _ _ => True) Q) (hframes : S.room.frames + 1 ≤ R.frames) (hlocals : Wt + (maxL + 11) + S.room.locals ≤ R.locals)
    {m : MethodId} {meth : Method} {c : Code} {U : State} {Ls : List Loc} {c0 s0 : Nat} {g : JFrame} {ig : Instr} {mk : MethodId} {a : Array Value}
    (X : Stand p l e R s m sargs below meth c U Ls c0 s0) (hg : g.method = m) (hsize : g.locals.size = c.maxLocals) (hdg : decode c.code g.pc = .ok (ig, len))
    (hW : 2 * g.monitorRoom + (g.stack.map fun v => v.category).sum ≤ Wt) (hn : U.methodNamed? y = some mk)
    (h1 : S.pre.before a U = true) (h2 : (Cond.code y bytes maxL ret).before a U = true) (h3 : (Cond.initialized y.cls).before a U = true) (h4 : c0 + S.room.cells ≤ R.cells) (h5 : s0 + S.room.slots ≤ R.slots)
    (hP : P a (U.calling g mk a)) {k n : Nat} (hQ : ∀ o t, Q a (U.calling g mk a) o t → ∃ x, o = .threw x ∧ EndT (U.calling g mk a) t [] k n) :
    ∃ (x : Addr) (t : State), Q a (U.calling g mk a) (.threw x) t ∧
      Stand p l e R s m sargs below meth c (({ U with heap := t.heap, slotsUsed := t.slotsUsed } : State).setVm t.vm) (Ls ++ []) (c0 + k) (s0 + n) ∧
      Steps p.tables e below (doInvoke e (U.setTop g) [] mk a).1 (((({ U with heap := t.heap, slotsUsed := t.slotsUsed } : State).setVm t.vm).setTop g).pushFrame (.throwing x)) := by
  obtain ⟨methY, cY, hmY, hcY, -, hlY, -, -, -, -⟩ := Cond.code_spec hn h2
  obtain ⟨kY, hkY, -⟩ := className_of_methodNamed hn
  have hinitY : kY.init = .initialized := Cond.initialized_spec (findClass_of_methodNamed hn) hkY h3
  have h : At U g.method c below := by rw [hg]; exact X.here
  have happ : S.appliesLoose y e.platform (U.calling g mk a) = true :=
    Spec.appliesLoose_calling (g := g) h hdg hn hkY hinitY
      (X.room_calling (g := g) (R' := S.room) hsize hmY hcY hframes (by rw [hlY]; omega) h4 h5) h1
  obtain ⟨mid, hmid⟩ := h.above
  have hfr : (U.setTop g).frames = (.java g :: mid) ++ below := by rw [State.frames_setTop' g h.top, hmid]; rfl
  obtain ⟨o, s₂, hsteps, -, hend, hq⟩ := Steps.callFree hM p X.admits X.cas X.clock (acts := []) hfr happ hP trivial
  have hq' : Q a (U.calling g mk a) o s₂ := hq
  rw [State.frames_setTop' g h.top] at hend
  obtain ⟨x, rfl, hfe⟩ := hQ _ _ hq'
  obtain ⟨hW₂, e2, q2, q3, q4, q5, q6⟩ := id hfe
  have e3 : s₂ = ({ (U.calling g mk a).setFrames s₂.frames with heap := s₂.heap, slotsUsed := s₂.slotsUsed } : State).setVm s₂.vm := by
    have : s₂ = ({ s₂ with vm := (U.calling g mk a).vm } : State).setVm s₂.vm := rfl
    rw [e2] at this
    exact this
  have hf₂ : s₂.frames = .throwing x :: .java g :: U.frames.tail := hend
  have hW' : U.WarmedH s₂.vm := hW₂
  obtain ⟨g₀, hg0⟩ := Option.isSome_iff_exists.mp h.top
  obtain ⟨r, hr⟩ := State.topJava?_eq_some.mp hg0
  have hs₂ : s₂ = (((({ U with heap := s₂.heap, slotsUsed := s₂.slotsUsed } : State).setVm s₂.vm).setTop g).pushFrame (.throwing x)) := by
    have hr' : (({ U with heap := s₂.heap, slotsUsed := s₂.slotsUsed } : State).setVm s₂.vm).frames = .java g₀ :: r := hr
    refine e3.trans ?_
    rw [hf₂, State.calling_eq h.top, State.setFrames_setFrames, State.pushFrame, State.frames_setTop _ hr', State.setTop_of_frames _ hr', State.setFrames_setFrames, hr]
    rfl
  have hsame : U.sameButNew ({ U with heap := s₂.heap, slotsUsed := s₂.slotsUsed } : State) [] k n := by
    refine ⟨?_, q2, q3, q4, q5, q6⟩
    obtain ⟨t, ht, -⟩ := State.frames_cons hr
    show ({ U with heap := s₂.heap, slotsUsed := s₂.slotsUsed } : State) = { U.setFrames U.frames with heap := s₂.heap, slotsUsed := s₂.slotsUsed }
    rw [State.setFrames_self ht]
  subst hg
  refine ⟨x, s₂, hq',
    ⟨X.admits, X.cas, X.clock, X.frames, X.room, X.hears, X.method, X.code, (X.here.setHeapUsed s₂.heap s₂.slotsUsed).setVm hW'.alike, X.tail, State.WarmedH.trans X.warmed hW', X.limits, X.bytes, X.same.trans (hsame.setVm s.vm)⟩, ?_⟩
  rw [← hs₂]
  exact hsteps
end CallT
-- THROW 3: contracts of methods that throw, in the form of the walks
def MQT (below : List Frame) (Qc : Array Value → State → Outcome → State → Prop) (a : Array Value) (s : State) : State → Prop := fun t => ∃ o, t.status = .running ∧ Ended t below o ∧ Qc a s o t
/-- it threw an object of the class X, new and unlike all that was there; nothing else has changed -/
def Thr (X : String) (k n : Nat) : Array Value → State → Outcome → State → Prop := fun _ s o t => ∃ (x : Addr) (ce : Cell), o = .threw x ∧ EndT s t [] k n ∧ t.heap[x]? = some ce ∧ ce.vm.isStatics = false ∧ s.vm.findClass X = some ce.cls ∧ s.vm.assignable ce.cls ce.cls = true
theorem thr_keeps {X : String} {k n : Nat} {a : Array Value} {s t : State} {o : Outcome} (h : Thr X k n a s o t) : s.heap.size ≤ t.heap.size ∧ ∀ q, q < s.heap.size → t.heap[q]? = s.heap[q]? := by
  obtain ⟨x, ce, -, ⟨-, -, h2, -, -, -, h6⟩, -⟩ := h
  refine ⟨h2, fun q hq => ?_⟩
  obtain ⟨cq, hcq⟩ : ∃ cq, s.heap[q]? = some cq := ⟨_, Array.getElem?_eq_getElem hq⟩
  obtain ⟨c', e1, e2, e3, e4⟩ := h6 q cq hcq
  have : c'.slots = cq.slots := Array.ext e3 (fun i i1 i2 => by
    have := e4 i (fun h => by cases h)
    rw [Array.getElem?_eq_getElem i1, Array.getElem?_eq_getElem i2] at this
    exact Option.some.inj this)
  rw [hcq]
  refine e1.trans ?_
  rw [e2, this]
section MetTs
variable {l : Launch} {y : MethodName} {rm : Room} {Pc : Array Value → State → Prop} {Qc : Array Value → State → Outcome → State → Prop} {cc : ByteArray} {maxL : Nat} {ret : Option FieldType}
theorem MetT_ofW {ws ws' : List Cond} (hy : plainName y.cls = true) (hw : ws = Cond.code y cc maxL ret :: ws')
    (body : ∀ p e s m args below meth c s₁, BodyLoose p l y (headSpec ws rm) cc maxL ret e s m args below meth c s₁ → c.maxLocals = maxL → c.exceptionTable.isEmpty = true → Pc args s →
      W p l e (headSpec ws rm).room s m args below meth c s.heap [] 0 0 (MQT below Qc args s) (entryFrame m args maxL)) : MetFree l y (headSpec ws rm) Pc (fun _ _ _ _ _ => True) Qc := by
  refine MetFree.of_bodyS (code := cc) (maxLocals := maxL) (ret := ret) hy ?_ ?_
  · intro args s m h hn
    obtain ⟨meth, c, h1, h2, h3, h4, h5, h6, -, -⟩ := Cond.code_spec hn (atoms_spec (ws := ws) h _ (by rw [hw]; exact List.mem_cons_self))
    exact ⟨meth, c, h1, h2, h3, h4, h5, h6⟩
  · intro p e s m args below meth c s₁ B hml hP _
    have hh0 : s₁.heap = s.heap := by rw [B.state]; rfl
    have X := Stand.of_body B
    obtain ⟨meth', c', h1, h2, -, -, -, -, h7, -⟩ := Cond.code_spec B.named (atoms_spec (ws := ws) B.pre _ (by rw [hw]; exact List.mem_cons_self))
    cases B.method.symm.trans h1
    cases X.code.symm.trans h2
    obtain ⟨t, a1, o, b1, b2, b3⟩ := body p e s m args below meth c s₁ B hml h7 hP s₁ hh0 X
    exact ⟨t, o, a1, b1, b2, b3⟩
theorem MetH_ofW {ws ws' : List Cond} {hs : List (Nat × Nat × Nat × Nat)} (hy : plainName y.cls = true) (hw : ws = Cond.codeWith y cc maxL ret hs :: ws')
    (body : ∀ p e s m args below meth c s₁, BodyLoose p l y (headSpec ws rm) cc maxL ret e s m args below meth c s₁ → c.maxLocals = maxL → c.exceptionTable.toList = tableOf hs → Pc args s →
      W p l e (headSpec ws rm).room s m args below meth c s.heap [] 0 0 (MQT below Qc args s) (entryFrame m args maxL)) : MetFree l y (headSpec ws rm) Pc (fun _ _ _ _ _ => True) Qc := by
  refine MetFree.of_bodyS (code := cc) (maxLocals := maxL) (ret := ret) hy ?_ ?_
  · intro args s m h hn
    obtain ⟨m', meth, c, h0, h1, h2, h3, h4, -, h5, h6, -⟩ := Cond.codeWith_spec (args := args) (atoms_spec (ws := ws) h _ (by rw [hw]; exact List.mem_cons_self))
    cases hn.symm.trans h0
    exact ⟨meth, c, h1, h2, h3, h4, h5, h6⟩
  · intro p e s m args below meth c s₁ B hml hP _
    have hh0 : s₁.heap = s.heap := by rw [B.state]; rfl
    have X := Stand.of_body B
    obtain ⟨m', meth', c', h0, h1, h2, -, -, h7, -⟩ := Cond.codeWith_spec (args := args) (atoms_spec (ws := ws) B.pre _ (by rw [hw]; exact List.mem_cons_self))
    cases B.named.symm.trans h0
    cases B.method.symm.trans h1
    cases X.code.symm.trans h2
    obtain ⟨t, a1, o, b1, b2, b3⟩ := body p e s m args below meth c s₁ B hml (by rw [← h7, table_eq]) hP s₁ hh0 X
    exact ⟨t, o, a1, b1, b2, b3⟩
end MetTs
section ThrowRow
variable {p : Program} {l : Launch} {e : Env} {R : Room} {s : State} {m : MethodId} {args : Array Value} {below : List Frame} {meth : Method} {c : Code} {H : Heap} {cells slots : Nat}
/-- new X(text), thrown out of the method -/
theorem w_throwNew {cc : ByteArray} (hexec : p.tables.exec = Jvm.exec) (hb : c.code = cc) (hfl : l.flags = pinnedFlags ++ [noTraceFlag]) {own X tx : String} {names : List String} {ix0 it ic q pc : Nat} {ls : Array Slot} (hlocks : meth.locks = false) (htab : c.exceptionTable.isEmpty = true)
    (hown : s.vm.findClass own = some m.cls) (hcls : Bundle.fit X = true) (hnames : ∀ n ∈ names, Bundle.fit n = true) (hat : ∀ a ∈ Bundle.ownAtoms own ic X names, a.before args s = true)
    (hclink : (Cond.classLink own ix0 X).before args s = true) (hins : (Cond.instantiable X 6).before args s = true) (hinit : (Cond.initialized X).before args s = true) (hZ : vk_R own it tx q s)
    (d0 : decode cc pc = .ok (.new ix0, 3)) (d3 : decode cc (pc + 3) = .ok (.dup, 1)) (d4 : decode cc (pc + 4) = .ok (.ldc it, 2)) (d6 : decode cc (pc + 6) = .ok (.invokespecial ic, 3)) (d9 : decode cc (pc + 9) = .ok (.athrow, 1))
    (hsz : ls.size = c.maxLocals) (hf : names.length + 3 < R.frames) (hl : 1 + (13 * (names.length + 1) + 42) ≤ R.locals) (hc : 1 ≤ R.cells) (hs : 6 ≤ R.slots) (hH : H = s.heap) :
    W p l e R s m args below meth c H [] 0 0 (MQT below (Thr X 1 6) args s) (F0 m pc ls []) := by
  subst hb
  refine W.newc hexec rfl hown hclink hins hinit (g := F0 m pc ls []) rfl d0 (by omega) (by omega) (fun cX kX hfX hkX _ _ => ?_)
  refine lv_dup hexec rfl d3 rfl ?_
  refine va_ldcS hexec rfl hown hZ d4 ?_
  intro T hT Y
  have htr := Launch.traces_off hfl Y.admits
  obtain ⟨U, st, hrun, hend, hW, hsame, ce, hce, hO⟩ := Y.ctorThrowS hexec htr hown hcls hnames hat (fun x hx => by cases hx) (a := H.size) (cX := cX) (kX := kX) hfX hkX (by rw [hT]; simp) (by rw [hH]; exact Nat.le_refl _) (msg := .ref q) rfl (g := F0 m (pc + 6) ls [.ref q, .ref H.size, .ref H.size]) rfl hsz rfl rfl (rest := []) rfl d6 d9 (covers_of_empty htab _) hf (by show 2 * 0 + (1 + 0) + (13 * (names.length + 1) + 42) ≤ R.locals; omega) hlocks
  refine ⟨U, st, .threw H.size, hrun, hend, H.size, ce, rfl, ⟨hW, hsame⟩, hce, by rw [hO.vm]; rfl, hO.cls, hO.self⟩
end ThrowRow
section CallRow
variable {p : Program} {l : Launch} {e : Env} {R : Room} {s : State} {m : MethodId} {args : Array Value} {below : List Frame} {meth : Method} {c : Code} {H : Heap} {cells slots : Nat} {Q : State → Prop}
/-- a call whose callee throws an object of the class that the method's first handler catches -/
theorem w_callT {cc : ByteArray} (hexec : p.tables.exec = Jvm.exec) (hb : c.code = cc) {own C X : String} {index k n : Nat} {y : MethodName} {bytes : ByteArray} {maxL : Nat} {ret : Option FieldType} {ws : List Cond} {rm : Room} {Pc : Array Value → State → Prop}
    (hM : MetFree l y (headSpec ws rm) Pc (fun _ _ _ _ _ => True) (Thr X k n)) (hblind : FrameBlind Pc) (hws : ∀ w ∈ ws, ∀ (a' : Array Value) (U : State), s.WarmedH U.vm → w.before a' U = true)
    (hown : s.vm.findClass own = some m.cls) (hlink : (Cond.methodLink own index y).before args s = true) (hinst : (Cond.instanceMethod y).before args s = true) (hsel : (Cond.selects C y y).before args s = true)
    (hcode : (Cond.code y bytes maxL ret).before args s = true) (hini : (Cond.initialized y.cls).before args s = true) (hy : y.cls ≠ "java/lang/invoke/MethodHandle" ∧ y.cls ≠ "java/lang/invoke/VarHandle")
    (hfr : rm.frames + 1 ≤ R.frames) (hlo : 8 + (maxL + 11) + rm.locals ≤ R.locals) (hcl : cells + rm.cells ≤ R.cells) (hsl : slots + rm.slots ≤ R.slots)
    {b : Addr} (hrv : ∃ cell : Cell, H[b]? = some cell ∧ cell.vm.isStatics = false ∧ s.vm.findClass C = some cell.cls) {As rest : List Value} (hlen : ∀ sig, parseMethodDescriptor y.desc = some sig → As.length = sig.parameters.length)
    {pc : Nat} {ls : Array Slot} {st0 : List Value} (hst : st0 = As.reverse ++ .ref b :: rest) (hsize : ls.size = c.maxLocals) (hWt : (rest.map fun v => v.category).sum ≤ 8) (hdg : decode cc pc = .ok (.invokevirtual index, 3))
    (hPc : ∀ U : State, U.heap = H → s.WarmedH U.vm → Pc (Value.ref b :: As).toArray U)
    {x : ExceptionTableEntry} {xr : List ExceptionTableEntry} (htab : c.exceptionTable.toList = x :: xr) (h0 : x.catchType ≠ 0) (hclink : (Cond.classLink own x.catchType X).before args s = true) (hcov : covers x pc = true)
    (kk : ∀ (H1 : Heap) (ex : Nat), H.size ≤ H1.size → (∀ q, q < H.size → H1[q]? = H[q]?) → W p l e R s m args below meth c H1 [] (cells + k) (slots + n) Q (F0 m x.handlerPc ls [.ref ex])) : W p l e R s m args below meth c H [] cells slots Q (F0 m pc ls st0) := by
  intro T hT X1
  subst hb
  subst hst
  obtain ⟨cellB, hcell, hobj, hcls⟩ := hrv
  obtain ⟨mk, methM, hnamed, hmethM, hstM, habM⟩ := Cond.instanceMethod_spec hinst
  obtain ⟨methM', cM, hmethM', -, -, -, -, -, -, hsigM⟩ := Cond.code_spec hnamed hcode
  cases hmethM.symm.trans hmethM'
  obtain ⟨c2, r2, m2, q1, q2, q3, q4, kP, hkP, hkPi⟩ := Cond.selects_spec hsel
  cases hcls.symm.trans q1
  cases (State.methodFound?_of_named hnamed hy).symm.trans q2
  cases hnamed.symm.trans q3
  have hselP : selectMethod e.platform s.vm cellB.cls mk = .method mk := by rw [Launch.admits_selectMethod X1.admits]; exact q4
  obtain ⟨vm₁, X₁, hstep₁⟩ := X1.invokevirtual hexec hown hlink hnamed hmethM hstM hkP hkPi hy (a := b) (cell := cellB) (by rw [hT]; exact hcell)
    (fun z h => by rw [h] at hobj; cases hobj) hselP hmethM habM hkP hkPi (g := F0 m pc ls (As.reverse ++ .ref b :: rest)) rfl (argsL := As) (rest := rest) (hlen _ hsigM) rfl hdg
  have hW₁ : s.WarmedH (T.setVm vm₁).vm := X₁.warmed
  obtain ⟨ex, t, hq, X₂, hsteps⟩ := goT (Wt := 8) (bytes := bytes) (maxL := maxL) (ret := ret) (k := k) (n := n) hM hfr hlo X₁ (g := F0 m pc ls rest) (ig := .invokevirtual index) (mk := mk) (a := (Value.ref b :: As).toArray) rfl hsize hdg (by show 2 * 0 + (rest.map fun v => v.category).sum ≤ 8; omega) (X₁.named hnamed)
    (atoms_intro fun w hw => hws w hw _ _ hW₁) (word_at hW₁ (Or.inl (by first | rfl | simp [Cond.onTables, Cond.keeps, Cond.steady])) hcode) (word_at hW₁ (Or.inl (by first | rfl | simp [Cond.onTables, Cond.keeps, Cond.steady])) hini) hcl hsl
    (hblind _ _ _ _ (hPc _ hT hW₁)) (fun o t h => by
      obtain ⟨x, ce, e1, e2, -⟩ := h
      exact ⟨x, e1, e2⟩)
  have hkeep := thr_keeps hq
  obtain ⟨x', ce, e1, e2, e3, e4, e5, e6⟩ := hq
  cases e1
  rw [List.append_nil] at X₂
  have hal : s.vm.Alike vm₁ := hW₁.alike
  have hfc : s.vm.findClass X = some ce.cls := by
    have h1 : vm₁.findClass X = some ce.cls := e5
    rw [hal.findClass] at h1
    exact h1
  have has : s.vm.assignable ce.cls ce.cls = true := by
    have h1 : vm₁.assignable ce.cls ce.cls = true := e6
    rw [hal.assignable] at h1
    exact h1
  obtain ⟨vm₂, X₃, hstep₂⟩ := catchCold X₂ hown htab h0 hclink (a := ex) (cell := ce) e3 e4 hfc has (g := F0 m pc ls rest) rfl hcov
  obtain ⟨t2, a1, b1⟩ := kk t.heap ex (by have := hkeep.1; rw [show (State.calling (T.setVm vm₁) (F0 m pc ls rest) mk (Value.ref b :: As).toArray).heap = H from hT] at this; exact this) (fun q hq' => by
    have := hkeep.2 q (by rw [show (State.calling (T.setVm vm₁) (F0 m pc ls rest) mk (Value.ref b :: As).toArray).heap = H from hT]; exact hq')
    rw [show (State.calling (T.setVm vm₁) (F0 m pc ls rest) mk (Value.ref b :: As).toArray).heap = H from hT] at this
    exact this) _ (by rfl) X₃
  exact ⟨t2, hstep₁ _ fun acts => by rw [doInvoke_state]; exact hsteps.trans (hstep₂ _ a1), b1⟩
end CallRow
-- THROW 4: what a thrown ArithmeticException stands on
def aAt : List Cond := Bundle.ownAtoms "GuideSearch" 145 "java/lang/ArithmeticException" ["java/lang/RuntimeException", "java/lang/Exception"]
def isSt : Cond → Bool
  | .isRef _ => true
  | _ => false
def isDc : Cond → Bool
  | .declares _ => true
  | .castable .. => true
  | _ => false
def isLs : Cond → Bool
  | .laysStatic .. => true
  | _ => false
theorem aAt_kinds : aAt.all (fun w => (goodWord w || isDc w) || (isSt w || isLs w)) = true := by decide +kernel
def aTb : List Cond := aAt.filter (fun w => !isSt w)
def SV (n d : String) (U : State) : Prop := ∃ v : Value, (Term.static "java/lang/Throwable" n d).eval #[] U none [] U = some v ∧ v.isRef = true
theorem st_heap {u U : State} (hv : U.vm = u.vm) (hk : ∀ q, q < u.heap.size → U.heap[q]? = u.heap[q]?) {o n d : String} {v : Value} (h : (Term.static o n d).eval #[] u none [] u = some v) : (Term.static o n d).eval #[] U none [] U = some v := by
  have e : U.fieldNamed? o n d true = u.fieldNamed? o n d true := by simp only [State.fieldNamed?, State.fieldFound?, hv]
  simp only [Term.eval] at h ⊢
  rw [e]
  cases hf : u.fieldNamed? o n d true with
  | none => simp [hf] at h
  | some x =>
    obtain ⟨c, k, slot⟩ := x
    simp only [hf, Option.bind_eq_bind, Option.bind_some] at h ⊢
    cases hs : k.statics with
    | none => simp [hs] at h
    | some ad =>
      simp only [hs, Option.bind_some] at h ⊢
      cases hc : u.heap[ad]? with
      | none => simp [hc] at h
      | some cell =>
        have hlt : ad < u.heap.size := (Array.getElem?_eq_some_iff.mp hc).1
        rw [hk ad hlt, hc]
        rw [hc] at h
        exact h
theorem SV.moved {n d : String} {s U : State} (hW : s.WarmedH U.vm) (hk : ∀ q, q < s.heap.size → U.heap[q]? = s.heap[q]?) (h : SV n d s) : SV n d U := by
  obtain ⟨v, h1, h2⟩ := h
  exact ⟨v, st_heap (u := s.setVm U.vm) (U := U) rfl hk (Term.static_setVm hW.alike h1), h2⟩
theorem dc_moved {w : Cond} (hd : isDc w = true) {s U : State} (hW : s.WarmedH U.vm) {a a' : Array Value} (h : w.before a s = true) : w.before a' U = true := by
  cases w <;> first | cases hd | skip
  all_goals first
    | (rw [← Cond.declares_setVm hW.alike] at h; exact h)
    | (rw [← Cond.castable_setVm hW.alike] at h; exact h)
theorem ls_moved {w : Cond} (hd : isLs w = true) {s U : State} (hW : s.WarmedH U.vm) (hk : ∀ q, q < s.heap.size → U.heap[q]? = s.heap[q]?) {a a' : Array Value} (h : w.before a s = true) : w.before a' U = true := by
  cases w <;> first | cases hd | skip
  obtain ⟨c, k, i, f, ad, cell, h1, h2, h3, h4, h5, h6, h7, h8, h9⟩ := Cond.laysStatic_spec (Cond.laysStatic_setVm hW.alike h)
  have h5' : s.heap[ad]? = some cell := h5
  exact Cond.laysStatic_of (s := U) (a := ad) (cell := cell) h1 h2 h3 h4 (by rw [hk ad (Array.getElem?_eq_some_iff.mp h5').1]; exact h5') h6 h7 h8 h9
/-- all that throwing one asks of a state -/
def TA (U : State) : Prop := (∀ w ∈ aTb, w.before #[] U = true) ∧ SV "UNASSIGNED_STACK" "[Ljava/lang/StackTraceElement;" U ∧ SV "SUPPRESSED_SENTINEL" "Ljava/util/List;" U ∧ ∃ q, vk_R "GuideSearch" 143 "the weight of the case is 0" q U
theorem aTb_moved {s U : State} (hW : s.WarmedH U.vm) (hq : ∀ q, q < s.heap.size → U.heap[q]? = s.heap[q]?) {a a' : Array Value} (h : ∀ w ∈ aTb, w.before a s = true) : ∀ w ∈ aTb, w.before a' U = true := fun w hw => by
  have hm := List.mem_filter.mp hw
  have hk := List.all_eq_true.mp aAt_kinds w hm.1
  simp only [Bool.or_eq_true] at hk
  rcases hk with (hk | hk) | (hk | hk)
  · exact word_at hW (good_of_word hk) (h w hw)
  · exact dc_moved hk hW (h w hw)
  · have := hm.2
    rw [hk] at this
    cases this
  · exact ls_moved hk hW hq (h w hw)
theorem TA.moved {s U : State} (hW : s.WarmedH U.vm) (hk : ∀ q, q < s.heap.size → U.heap[q]? = s.heap[q]?) (h : TA s) : TA U :=
  ⟨aTb_moved hW hk h.1, h.2.1.moved hW hk, h.2.2.1.moved hW hk, h.2.2.2.elim fun q hq => ⟨q, hq.warm hW⟩⟩
theorem SV.isRef {n d : String} {U : State} (h : SV n d U) (a : Array Value) : (Cond.isRef (.static "java/lang/Throwable" n d)).before a U = true := by
  obtain ⟨v, h1, h2⟩ := h
  have h1' : (Term.static "java/lang/Throwable" n d).eval a U none [] U = some v := h1
  simp only [Cond.before, Cond.holds, Cond.value, h1', Option.map_some]
  cases v <;> first | rfl | cases h2
theorem TA.atoms {U : State} (h : TA U) (a : Array Value) : ∀ w ∈ aAt, w.before a U = true := fun w hw => by
  cases hs : isSt w with
  | false => exact aTb_moved (State.WarmedH.refl U) (fun _ _ => rfl) h.1 w (List.mem_filter.mpr ⟨hw, by rw [hs]; rfl⟩)
  | true =>
    have hk : (aAt.filter isSt) = [.isRef (.static "java/lang/Throwable" "UNASSIGNED_STACK" "[Ljava/lang/StackTraceElement;"), .isRef (.static "java/lang/Throwable" "SUPPRESSED_SENTINEL" "Ljava/util/List;")] := by rfl
    have hm : w ∈ aAt.filter isSt := List.mem_filter.mpr ⟨hw, hs⟩
    rw [hk] at hm
    rcases List.mem_cons.mp hm with rfl | hm
    · exact h.2.1.isRef a
    · rcases List.mem_cons.mp hm with rfl | hm
      · exact h.2.2.1.isRef a
      · cases hm
-- THROW 5: a static method with a handler table is called
section CallH
variable {l : Launch} {R : Room} {p : Program} {e : Env} {below : List Frame} {s : State} {sargs : Array Value} {y : MethodName} {len Wt : Nat}
theorem backH {ws : List Cond} {rm : Room} {Pc : Array Value → State → Prop} {Qc : Array Value → State → Outcome → State → Prop} {mc ms : Nat} {free : Addr → Prop} {bytes : ByteArray} {maxL : Nat} {ret : Option FieldType} {hs : List (Nat × Nat × Nat × Nat)}
    (hM : Met l y ws rm Pc Qc mc ms free) (hblind : FrameBlind Pc) (hrc : rm.cells = mc) (hrs : rm.slots = ms) (hframes : rm.frames + 1 ≤ R.frames) (hlocals : Wt + (maxL + 11) + rm.locals ≤ R.locals)
    (hws : ∀ w ∈ ws, ∀ a' U, s.WarmedH U.vm → w.before a' U = true) (hcode : Cond.codeWith y bytes maxL ret hs ∈ ws) (hinit : ∀ a' U, s.WarmedH U.vm → (Cond.initialized y.cls).before a' U = true) :
    Back l R p e below s sargs y len Wt (PreOf R mc ms Pc) (PostOf Qc mc ms free) := by
  intro m meth c A g ig mk a X hg hsize hdg hW hn hp
  obtain ⟨U, Ls, c0, s0⟩ := A
  dsimp only [Pt.U, Pt.locs, Pt.cells, Pt.slots] at X hn ⊢
  obtain ⟨h4, h5, hPa⟩ := hp
  dsimp only [Pt.U, Pt.locs, Pt.cells, Pt.slots] at h4 h5 hPa
  have h1 : (headSpec ws rm).pre.before a U = true := atoms_intro fun w hw => hws w hw _ _ X.warmed
  obtain ⟨mk', methY, cY, hn', hmY, hcY, -, hlY, -⟩ := Cond.codeWith_spec (args := a) (hws _ hcode a U X.warmed)
  cases hn.symm.trans hn'
  obtain ⟨kY, hkY, -⟩ := className_of_methodNamed hn
  have hinitY : kY.init = .initialized := Cond.initialized_spec (findClass_of_methodNamed hn) hkY (hinit a U X.warmed)
  have h : At U g.method c below := by rw [hg]; exact X.here
  have happ : (headSpec ws rm).appliesLoose y e.platform (U.calling g mk a) = true :=
    Spec.appliesLoose_calling (g := g) h hdg hn hkY hinitY
      (X.room_calling (g := g) (R' := (headSpec ws rm).room) hsize hmY hcY hframes (by rw [hlY]; show _ + _ + rm.locals ≤ _; omega) (by show c0 + rm.cells ≤ _; rw [hrc]; exact h4) (by show s0 + rm.slots ≤ _; rw [hrs]; exact h5)) h1
  obtain ⟨mid, hmid⟩ := h.above
  have hfr : (U.setTop g).frames = (.java g :: mid) ++ below := by rw [State.frames_setTop' g h.top, hmid]; rfl
  obtain ⟨o, s₂, hsteps, -, hend, hq⟩ := Steps.callFree hM p X.admits X.cas X.clock (acts := []) hfr happ (hblind _ _ _ _ hPa) trivial
  have hq' : Qc a (U.calling g mk a) o s₂ ∧ ∃ L, FrameEnd (U.calling g mk a) o s₂ L mc ms ∧ ∀ q ∈ L, free q.base := hq
  rw [State.frames_setTop' g h.top] at hend
  obtain ⟨hqc, L, hfe, hL⟩ := hq'
  obtain ⟨⟨v, rfl⟩, hW₂, e2, q2, q3, q4, q5, q6⟩ := id hfe
  have e3 : s₂ = ({ (U.calling g mk a).setFrames s₂.frames with heap := s₂.heap, slotsUsed := s₂.slotsUsed } : State).setVm s₂.vm := by
    have : s₂ = ({ s₂ with vm := (U.calling g mk a).vm } : State).setVm s₂.vm := rfl
    rw [e2] at this
    exact this
  obtain ⟨c₂, i₂, len₂, hc₂, hd₂, hf₂⟩ := hend
  have hW' : U.WarmedH s₂.vm := hW₂
  have hcc : c₂ = c := by
    have h1 : s₂.code? g.method = U.code? g.method := by
      rw [State.code?_eq, State.code?_eq, hW'.alike.method?]
    exact Option.some.inj (hc₂.symm.trans (h1.trans h.code))
  subst hcc
  have hlen : len₂ = len := by rw [hdg] at hd₂; cases hd₂; rfl
  subst hlen
  obtain ⟨g₀, hg0⟩ := Option.isSome_iff_exists.mp h.top
  obtain ⟨r, hr⟩ := State.topJava?_eq_some.mp hg0
  have hs₂ : s₂ = (({ U with heap := s₂.heap, slotsUsed := s₂.slotsUsed } : State).setVm s₂.vm).setTop { g with pc := g.pc + len₂, stack := v.toList ++ g.stack } := by
    have hr' : (({ U with heap := s₂.heap, slotsUsed := s₂.slotsUsed } : State).setVm s₂.vm).frames = .java g₀ :: r := hr
    refine e3.trans ?_
    rw [hf₂, State.calling_eq h.top, State.setFrames_setFrames, State.setTop_of_frames _ hr', hr]
    rfl
  have hsame : U.sameButNew ({ U with heap := s₂.heap, slotsUsed := s₂.slotsUsed } : State) L mc ms := by
    refine ⟨?_, q2, q3, q4, q5, q6⟩
    obtain ⟨t, ht, -⟩ := State.frames_cons hr
    show ({ U with heap := s₂.heap, slotsUsed := s₂.slotsUsed } : State) = { U.setFrames U.frames with heap := s₂.heap, slotsUsed := s₂.slotsUsed }
    rw [State.setFrames_self ht]
  subst hg
  refine ⟨v, ⟨(({ U with heap := s₂.heap, slotsUsed := s₂.slotsUsed } : State).setVm s₂.vm), Ls ++ L, c0 + mc, s0 + ms⟩,
    ⟨X.admits, X.cas, X.clock, X.frames, X.room, X.hears, X.method, X.code, (X.here.setHeapUsed s₂.heap s₂.slotsUsed).setVm hW'.alike, X.tail, State.WarmedH.trans X.warmed hW', X.limits, X.bytes, X.same.trans (hsame.setVm s.vm)⟩,
    ⟨g, mk, s₂, L, rfl, rfl, hqc, rfl, hL, rfl, rfl⟩, ?_⟩
  show Steps p.tables e below _ ((({ U with heap := s₂.heap, slotsUsed := s₂.slotsUsed } : State).setVm s₂.vm).setTop { g with pc := g.pc + len₂, stack := v.toList ++ g.stack })
  rw [← hs₂]
  exact hsteps
variable {m : MethodId} {meth : Method} {c : Code} {H : Heap} {locs : List Loc} {cells slots : Nat}
theorem va_runSH {ws : List Cond} {rm : Room} {Pc : Array Value → State → Prop} {Qc : Array Value → State → Outcome → State → Prop} {mc ms n nL index : Nat} {free : Addr → Prop} {bytes cc : ByteArray} {maxL : Nat} {ret : Option FieldType} {hs : List (Nat × Nat × Nat × Nat)} {Ts : List Cond} {own : String} {As rest : List Value} {g : JFrame}
    (S : CallFix p m c cc nL s sargs Ts own) (hM : Met l y ws rm Pc Qc mc ms free) (hws : ∀ w ∈ ws, ∀ a' U, s.WarmedH U.vm → w.before a' U = true) (hcode : Cond.codeWith y bytes maxL ret hs ∈ ws)
    (hl : (Cond.methodLink own index y).before sargs s = true) (hstat : (Cond.static y).before sargs s = true) (hini : (Cond.initialized y.cls).before sargs s = true) (hy : y.cls ≠ "java/lang/invoke/MethodHandle" ∧ y.cls ≠ "java/lang/invoke/VarHandle") (hlen : (parseMethodDescriptor y.desc).map (fun d => d.parameters.length) = some n)
    (hrc : rm.cells = mc) (hrs : rm.slots = ms) (hframes : rm.frames + 1 ≤ R.frames) (hlocals : 8 + (maxL + 11) + rm.locals ≤ R.locals) (hp : PreS s H Pc As)
    (hg : g.method = m) (hn : As.length = n) (hsize : g.locals.size = nL) (hstack : g.stack = As.reverse ++ rest) (hW : 2 * g.monitorRoom + (rest.map fun v => v.category).sum ≤ 8) (hdg : decode cc g.pc = .ok (.invokestatic index, 3)) (hf : cells + mc ≤ R.cells ∧ slots + ms ≤ R.slots) :
    va_Run p l e R s m sargs below meth c H locs cells slots mc ms g rest (Qc As.toArray) (free) := by
  have hK : Back l R p e below s sargs y 3 8 (PreOf R mc ms Pc) (PostOf Qc mc ms free) := backH (bytes := bytes) (maxL := maxL) (ret := ret) (hs := hs) hM hp.1 hrc hrs hframes hlocals hws hcode (fun a' U hW => word_at hW (Or.inl (by first | rfl | simp [Cond.onTables, Cond.keeps, Cond.steady])) hini)
  obtain ⟨hx, hb, hml, ho, -⟩ := S
  intro T hT X
  obtain ⟨mk, methM, cM, hnamed, hmethM, -, -, -, -, -, -, hsigM⟩ := Cond.codeWith_spec (args := sargs) (hws _ hcode sargs s (State.WarmedH.refl s))
  have hstatic : methM.isStatic = true := Cond.static_spec hnamed hmethM hstat
  obtain ⟨kP, hkP, -⟩ := className_of_methodNamed hnamed
  have hinitP : kP.init = .initialized := Cond.initialized_spec (findClass_of_methodNamed hnamed) hkP hini
  have hlen' : As.length = methM.sig.parameters.length := by
    rw [hsigM] at hlen
    rw [hn]
    exact (Option.some.inj hlen).symm
  subst hb
  obtain ⟨vm₁, X₁, hstep₁⟩ := X.invokestatic hx ho hl hnamed hmethM hstatic hkP hinitP hy (g := g) hg (argsL := As) (rest := rest) hlen' hstack hdg
  obtain ⟨v, B, X', hpost, hsteps⟩ := hK m meth c ⟨T.setVm vm₁, locs, cells, slots⟩ { g with stack := rest } (.invokestatic index) mk As.toArray X₁ hg (hsize.trans hml.symm) hdg hW (X₁.named hnamed) ⟨hf.1, hf.2, hp.2 (T.setVm vm₁) hT X₁.warmed⟩
  obtain ⟨U', l2, c2, s2⟩ := B
  obtain ⟨g', mk', t, L, e1, e2, hq, h1, hL, h2, h3⟩ := hpost
  dsimp only [Pt.U, Pt.locs, Pt.cells, Pt.slots] at X' e1 e2 h1 h2 h3 hsteps hq
  subst h1; subst h2; subst h3
  exact ⟨v, (T.setVm vm₁).calling g' mk' As.toArray, t, U', L, hT, X', hL, e1, e2, hq, fun target h => hstep₁ _ fun acts => by rw [doInvoke_state]; exact hsteps.trans h⟩
end CallH
