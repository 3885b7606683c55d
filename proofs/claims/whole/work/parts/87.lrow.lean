-- LAW 2: rows of the law's walk
/-- the worlds of both programs, the law's own array, all that was there before -/
def LI (dC : Nat → ClassId) (dI : Nat → Nat → Nat) (cs : Nat → ClassId) (s : State) (a bb : Nat → Nat) (o : Nat) (f : Nat → Int64) (xs : XS) (ms : MS) (H : Heap) : Prop :=
  s.heap.size ≤ H.size ∧ (∀ q, q < s.heap.size → H[q]? = s.heap[q]?) ∧ va_P (dC, dI) vwCl (x_W cs a xs) H ∧ va_P (dC, dI) vwCl (m_W cs bb ms) H ∧ va_P (dC, dI) vwCl [(o, .inl (cs 0, 1, .inr (.inl f)))] H
/-- what stays the same along the law -/
def LX (p : Program) (l : Launch) (s : State) (m : MethodId) (c : Code) (b L : Nat) (sc : Nat → Int32) (dC : Nat → ClassId) (dI : Nat → Nat → Nat) (cs : Nat → ClassId) (a bb : Nat → Nat) (o : Nat) : Prop :=
  p.tables.exec = Jvm.exec ∧ c.code = code ∧ c.maxLocals = 8 ∧ s.vm.findClass "GuideSearchLaw" = some m.cls ∧ (∀ w ∈ wg, w.before #[Value.ref b] s = true) ∧ va_K (dC, dI) vwCl (g_ty cs) s ∧ NW s ∧ va_X b L sc s s.heap ∧ b < s.heap.size ∧ L ≤ 4096 ∧ TA s ∧ l.flags = pinnedFlags ++ [noTraceFlag] ∧
  (∀ i j : Nat, i < 29 → j < 29 → a i = a j → i = j) ∧ (∀ i j : Nat, i < 18 → j < 18 → bb i = bb j → i = j) ∧ (∀ q, x_A a q → s.heap.size ≤ q ∧ ¬ m_A bb q ∧ ¬ q = o) ∧ (∀ q, m_A bb q → s.heap.size ≤ q ∧ ¬ q = o) ∧ s.heap.size ≤ o
theorem va_in {D : va_G} {cl : List vw_C} {ws : va_W} {H : Heap} (h : va_P D cl ws H) {k : Nat} {q : Nat × va_E} (hk : ws[k]? = some q) : q.1 < H.size := by
  have := h k q hk
  unfold va_at at this
  split at this
  · exact (Array.getElem?_eq_some_iff.mp this).1
  · obtain ⟨r, -, cell, g1, -⟩ := this
    exact (Array.getElem?_eq_some_iff.mp g1).1
theorem va_same {D : va_G} {cl : List vw_C} {ws : va_W} {H H1 : Heap} {A : Nat → Prop} (h : va_P D cl ws H) (hd : ∀ (k : Nat) (q : Nat × va_E), ws[k]? = some q → ¬ A q.1) (hq : ∀ q, q < H.size → ¬ A q → H1[q]? = H[q]?) : va_P D cl ws H1 :=
  h.kept (fun k q hk => hq q.1 (va_in h hk) (hd k q hk))
theorem LI_x {dC : Nat → ClassId} {dI : Nat → Nat → Nat} {cs : Nat → ClassId} {s : State} {a bb : Nat → Nat} {o : Nat} {f : Nat → Int64} {xs xs' : XS} {ms : MS} {H H1 : Heap} (hd : ∀ q, x_A a q → s.heap.size ≤ q ∧ ¬ m_A bb q ∧ ¬ q = o) (h : LI dC dI cs s a bb o f xs ms H) (hz : H.size ≤ H1.size) (hq : ∀ q, q < H.size → ¬ x_A a q → H1[q]? = H[q]?) (hP : va_P (dC, dI) vwCl (x_W cs a xs') H1) : LI dC dI cs s a bb o f xs' ms H1 := by
  obtain ⟨h1, h2, -, h4, h5⟩ := h
  refine ⟨Nat.le_trans h1 hz, fun q hh => ?_, hP, va_same h4 (fun k q hk hA => ?_) hq, va_same h5 (fun k q hk hA => ?_) hq⟩
  · rw [hq q (Nat.lt_of_lt_of_le hh h1) (fun hA => by have := (hd q hA).1; omega)]
    exact h2 q hh
  · obtain ⟨k1, e1⟩ := m_W_at cs bb ms k q hk
    exact (hd q.1 hA).2.1 ⟨k, k1, e1⟩
  · refine (hd q.1 hA).2.2 ?_
    have hk1 := (List.getElem?_eq_some_iff.mp hk).1
    simp at hk1
    subst hk1
    cases hk
    rfl
theorem LI_m {dC : Nat → ClassId} {dI : Nat → Nat → Nat} {cs : Nat → ClassId} {s : State} {a bb : Nat → Nat} {o : Nat} {f : Nat → Int64} {xs : XS} {ms ms' : MS} {H H1 : Heap} (hd : ∀ q, x_A a q → s.heap.size ≤ q ∧ ¬ m_A bb q ∧ ¬ q = o) (hd2 : ∀ q, m_A bb q → s.heap.size ≤ q ∧ ¬ q = o) (h : LI dC dI cs s a bb o f xs ms H) (hz : H.size ≤ H1.size) (hq : ∀ q, q < H.size → ¬ m_A bb q → H1[q]? = H[q]?) (hP : va_P (dC, dI) vwCl (m_W cs bb ms') H1) : LI dC dI cs s a bb o f xs ms' H1 := by
  obtain ⟨h1, h2, h3, -, h5⟩ := h
  refine ⟨Nat.le_trans h1 hz, fun q hh => ?_, va_same h3 (fun k q hk hA => ?_) hq, hP, va_same h5 (fun k q hk hA => ?_) hq⟩
  · rw [hq q (Nat.lt_of_lt_of_le hh h1) (fun hA => by have := (hd2 q hA).1; omega)]
    exact h2 q hh
  · obtain ⟨k1, e1⟩ := x_W_at cs a xs k q hk
    exact (hd q.1 ⟨k, k1, e1⟩).2.1 hA
  · refine (hd2 q.1 hA).2 ?_
    have hk1 := (List.getElem?_eq_some_iff.mp hk).1
    simp at hk1
    subst hk1
    cases hk
    rfl
theorem LI_o {dC : Nat → ClassId} {dI : Nat → Nat → Nat} {cs : Nat → ClassId} {s : State} {a bb : Nat → Nat} {o : Nat} {f f' : Nat → Int64} {xs : XS} {ms : MS} {H H1 : Heap} (hd : ∀ q, x_A a q → s.heap.size ≤ q ∧ ¬ m_A bb q ∧ ¬ q = o) (hd2 : ∀ q, m_A bb q → s.heap.size ≤ q ∧ ¬ q = o) (ho : s.heap.size ≤ o) (h : LI dC dI cs s a bb o f xs ms H) (hz : H.size ≤ H1.size) (hq : ∀ q, q < H.size → ¬ q = o → H1[q]? = H[q]?) (hP : va_P (dC, dI) vwCl [(o, .inl (cs 0, 1, .inr (.inl f')))] H1) : LI dC dI cs s a bb o f' xs ms H1 := by
  obtain ⟨h1, h2, h3, h4, -⟩ := h
  refine ⟨Nat.le_trans h1 hz, fun q hh => ?_, va_same (A := fun q => q = o) h3 (fun k q hk hA => ?_) hq, va_same (A := fun q => q = o) h4 (fun k q hk hA => ?_) hq, hP⟩
  · rw [hq q (Nat.lt_of_lt_of_le hh h1) (fun hA => by omega)]
    exact h2 q hh
  · obtain ⟨k1, e1⟩ := x_W_at cs a xs k q hk
    exact (hd q.1 ⟨k, k1, e1⟩).2.2 hA
  · obtain ⟨k1, e1⟩ := m_W_at cs bb ms k q hk
    exact (hd2 q.1 ⟨k, k1, e1⟩).2 hA
theorem LI_n {dC : Nat → ClassId} {dI : Nat → Nat → Nat} {cs : Nat → ClassId} {s : State} {a bb : Nat → Nat} {o : Nat} {f : Nat → Int64} {xs : XS} {ms : MS} {H H1 : Heap} (h : LI dC dI cs s a bb o f xs ms H) (hz : H.size ≤ H1.size) (hq : ∀ q, q < H.size → H1[q]? = H[q]?) : LI dC dI cs s a bb o f xs ms H1 := by
  obtain ⟨h1, h2, h3, h4, h5⟩ := h
  refine ⟨Nat.le_trans h1 hz, fun q hh => ?_, va_same (A := fun _ => False) h3 (fun _ _ _ hA => hA) (fun q h _ => hq q h), va_same (A := fun _ => False) h4 (fun _ _ _ hA => hA) (fun q h _ => hq q h), va_same (A := fun _ => False) h5 (fun _ _ _ hA => hA) (fun q h _ => hq q h)⟩
  rw [hq q (Nat.lt_of_lt_of_le hh h1)]
  exact h2 q hh
section LRows
variable {p : Program} {l : Launch} {e : Env} {R : Room} {s : State} {m : MethodId} {args : Array Value} {below : List Frame} {meth : Method} {c : Code} {H : Heap} {cells slots : Nat} {Q : State → Prop}
variable {pc mc ms : Nat} {ls : Array Slot} {rest st0 : List Value} {a0 : Array Value} {D : va_G} {cl : List vw_C} {A : Nat → Prop} {B : State → Prop}
/-- a call that writes within A; what it has written is forgotten, since it is new -/
theorem lw_calli {v : Int32} (hr : va_Run p l e R s m args below meth c H [] cells slots mc ms (F0 m pc ls st0) rest (va_Qi (fun r (_ : Unit) => r = v) (fun _ t => B t) A a0) A) (hA : ∀ q, A q → s.heap.size ≤ q)
    (k : ∀ (t : State), H.size ≤ t.heap.size → (∀ q, q < H.size → ¬ A q → t.heap[q]? = H[q]?) → B t → W p l e R s m args below meth c t.heap [] (cells + mc) (slots + ms) Q (F0 m (pc + 3) ls (.int v :: rest))) : W p l e R s m args below meth c H [] cells slots Q (F0 m pc ls st0) := by
  intro T hT X
  obtain ⟨w, st₀, t, T', L, h0, X', hL, e1, e2, ⟨⟨r, u, hv, hp, hb⟩, hz, hk⟩, st⟩ := hr T hT X
  cases hv
  subst hp
  rw [h0] at hz hk
  have X2 := Stand.forget (locs := []) (extra := L) X' (fun q hq => hA _ (hL q hq))
  obtain ⟨t2, a1, b1⟩ := k t hz hk hb T' e1 X2
  exact ⟨t2, st t2 a1, b1⟩
theorem lw_calll {v : Int64} (hr : va_Run p l e R s m args below meth c H [] cells slots mc ms (F0 m pc ls st0) rest (va_Ql (fun r (_ : Unit) => r = v) (fun _ t => B t) A a0) A) (hA : ∀ q, A q → s.heap.size ≤ q)
    (k : ∀ (t : State), H.size ≤ t.heap.size → (∀ q, q < H.size → ¬ A q → t.heap[q]? = H[q]?) → B t → W p l e R s m args below meth c t.heap [] (cells + mc) (slots + ms) Q (F0 m (pc + 3) ls (.long v :: rest))) : W p l e R s m args below meth c H [] cells slots Q (F0 m pc ls st0) := by
  intro T hT X
  obtain ⟨w, st₀, t, T', L, h0, X', hL, e1, e2, ⟨⟨r, u, hv, hp, hb⟩, hz, hk⟩, st⟩ := hr T hT X
  cases hv
  subst hp
  rw [h0] at hz hk
  have X2 := Stand.forget (locs := []) (extra := L) X' (fun q hq => hA _ (hL q hq))
  obtain ⟨t2, a1, b1⟩ := k t hz hk hb T' e1 X2
  exact ⟨t2, st t2 a1, b1⟩
theorem lw_callv {S : Type} {post : S → Prop} {BB : S → State → Prop} (hr : va_Run p l e R s m args below meth c H [] cells slots mc ms (F0 m pc ls st0) rest (va_Qv post BB A a0) A) (hA : ∀ q, A q → s.heap.size ≤ q)
    (k : ∀ (u : S) (t : State), H.size ≤ t.heap.size → (∀ q, q < H.size → ¬ A q → t.heap[q]? = H[q]?) → post u → BB u t → W p l e R s m args below meth c t.heap [] (cells + mc) (slots + ms) Q (F0 m (pc + 3) ls rest)) : W p l e R s m args below meth c H [] cells slots Q (F0 m pc ls st0) := by
  intro T hT X
  obtain ⟨w, st₀, t, T', L, h0, X', hL, e1, e2, ⟨⟨u, hv, hp, hb⟩, hz, hk⟩, st⟩ := hr T hT X
  cases hv
  rw [h0] at hz hk
  have X2 := Stand.forget (locs := []) (extra := L) X' (fun q hq => hA _ (hL q hq))
  obtain ⟨t2, a1, b1⟩ := k u t hz hk hp hb T' e1 X2
  exact ⟨t2, st t2 a1, b1⟩
/-- a place of the script -/
theorem lw_sld {cc : ByteArray} (hexec : p.tables.exec = Jvm.exec) (hb : c.code = cc) {b L : Nat} {sc : Nat → Int32} (hX : va_X b L sc s s.heap) (hbl : b < s.heap.size) (hL : L ≤ 4096) (hH : ∀ q, q < s.heap.size → H[q]? = s.heap[q]?) (hz : s.heap.size ≤ H.size) {x : Int32} {n : Nat} (hx : x = nI n) (hn : n < L) (hdg : decode cc pc = .ok (.iaload, 1))
    (k : W p l e R s m args below meth c H [] cells slots Q (F0 m (pc + 1) ls (.int (sc n) :: rest))) : W p l e R s m args below meth c H [] cells slots Q (F0 m pc ls (.int x :: .ref b :: rest)) := by
  subst hx
  refine va_sld (A := fun q => s.heap.size ≤ q) hexec hb hX hbl (Nat.not_le.mpr hbl) ⟨hz, fun q h _ => hH q h, fun _ h => absurd h List.not_mem_nil⟩ (vp_in_nI hn (by omega)) hdg ?_
  rw [nI_clamp (by omega)]
  exact k
end LRows
