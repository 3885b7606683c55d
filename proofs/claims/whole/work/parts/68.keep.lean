-- PURE 68: the nodes of a tree; the class keeps them
/-- a node: test, causes left, answer -/
abbrev ND : Type := Nat × Nat × Int32
def nds (g : GT) : Nat → Nat → Int32 → List ND
  | 0, _, _ => []
  | f + 1, code, a => if nL g code = 0 then [] else (tp g code, nL g code, a) :: (if tp g code = 0 then [] else nds g f (chl code (tp g code) 0) (nI 0) ++ (nds g f (chl code (tp g code) 1) (nI 1) ++ nds g f (chl code (tp g code) 2) (nI 2)))
def nd (g : GT) (code : Nat) (a : Int32) : List ND := nds g (un g code + 1) code a
theorem nd_0 {g : GT} {code : Nat} {a : Int32} (h : nL g code = 0) : nd g code a = [] := by
  unfold nd nds
  rw [if_pos h]
theorem nd_1 {g : GT} {code : Nat} {a : Int32} (h : ¬ nL g code = 0) (h2 : tp g code = 0) : nd g code a = [(tp g code, nL g code, a)] := by
  unfold nd nds
  rw [if_neg h, if_pos h2]
theorem nd_2 {g : GT} (hg : GOK g) {code : Nat} (hc : COK g code) {a : Int32} (h : ¬ nL g code = 0) (h2 : ¬ tp g code = 0) : nd g code a = (tp g code, nL g code, a) :: (nd g (chl code (tp g code) 0) (nI 0) ++ (nd g (chl code (tp g code) 1) (nI 1) ++ nd g (chl code (tp g code) 2) (nI 2))) := by
  obtain ⟨t1, t2, t3, -⟩ := tp_ok hg hc h2
  have e : ∀ k, k < 3 → un g (chl code (tp g code) k) + 1 = un g code := fun k hk => un_chl hg hc t1 t2 t3 hk
  unfold nd
  rw [e 0 (by decide), e 1 (by decide), e 2 (by decide)]
  show (if nL g code = 0 then [] else _) = _
  rw [if_neg h, if_neg h2]
theorem tk_app {α : Type} (n : Nat) (A B : List α) : ((A.take n) ++ B).take n = (A ++ B).take n := by
  rw [List.take_append, List.take_append, List.take_take, Nat.min_self, List.length_take]
  by_cases h : A.length ≤ n
  · rw [Nat.min_eq_right h]
  · rw [Nat.min_eq_left (by omega)]
    have e1 : n - n = 0 := by omega
    have e2 : n - A.length = 0 := by omega
    rw [e1, e2]
theorem tk_full {α : Type} {n : Nat} {A : List α} (B : List α) (h : A.length = n) : (A ++ B).take n = A := by
  rw [List.take_append, h, Nat.sub_self, List.take_zero, List.append_nil, ← h, List.take_length]
/-- the nodes that the class holds -/
def NX (st : XS) (L : List ND) : Prop := L.length ≤ 300 ∧ x_nod st = nI L.length ∧ ∀ (i : Nat) (h : i < L.length), x_nT st i = nI (L[i]'h).1 ∧ x_nL st i = nI (L[i]'h).2.1 ∧ x_nA st i = (L[i]'h).2.2
/-- all parts of the class's state but the plan's nodes and weights -/
def xj (st : XS) : Int32 × Int32 × Int32 × Int32 × (Nat → Int64) × (Nat → Int32) × (Nat → Int32) × Int32 × (Nat → Int32) × (Nat → Int32) × (Nat → Nat → Int32) × Int64 × (Nat → Int64) × (Nat → Int32) :=
  (x_opn st, x_pla st, x_cN st, x_fN st, x_pri st, x_mem st, x_lea st, x_tN st, x_cst st, x_nee st, x_tab st, x_tho st, x_val st, x_pic st)
theorem RX_xj {st st' : XS} {g : GT} (h : RX st g) (e : xj st' = xj st) : RX st' g := by
  unfold xj at e
  simp only [Prod.mk.injEq] at e
  obtain ⟨-, -, e3, -, e5, e6, e7, e8, e9, e10, e11, -⟩ := e
  unfold RX
  rw [e3, e5, e7, e8, e9, e10, e11]
  exact h
theorem xj_vp {st st' : XS} (e : xj st' = xj st) : x_val st' = x_val st ∧ x_pic st' = x_pic st := by
  unfold xj at e
  simp only [Prod.mk.injEq] at e
  obtain ⟨-, -, -, -, -, -, -, -, -, -, -, -, e13, e14⟩ := e
  exact ⟨e13, e14⟩
theorem xj_of {st st' : XS} (e : xk st' = xk st) (e1 : x_val st' = x_val st) (e2 : x_pic st' = x_pic st) : xj st' = xj st := by
  unfold xk at e
  simp only [Prod.mk.injEq] at e
  obtain ⟨a1, a2, a3, a4, a5, a6, a7, a8, a9, a10, a11, -, a13, -⟩ := e
  unfold xj
  rw [a1, a2, a3, a4, a5, a6, a7, a8, a9, a10, a11, a13, e1, e2]
theorem NX_of {st st' : XS} {L : List ND} (e : xk st' = xk st) (h : NX st L) : NX st' L := by
  unfold xk at e
  simp only [Prod.mk.injEq] at e
  obtain ⟨-, -, -, -, -, -, -, -, -, -, -, a12, -, a14, a15, a16⟩ := e
  unfold NX
  rw [a12, a14, a15, a16]
  exact h
/-- a node more -/
def pn (st : XS) (j t l : Nat) (a : Int32) : XS := x_nod_s (x_nA_s (x_nL_s (x_nT_s st j (nI t)) j (nI l)) j a) (nI (j + 1))
theorem pn_nod (st : XS) (j t l : Nat) (a : Int32) : x_nod (pn st j t l a) = nI (j + 1) := by simp only [pn, x_nod, x_nod_s, x_nA_s, x_nL_s, x_nT_s]
theorem pn_nT (st : XS) (j t l : Nat) (a : Int32) : x_nT (pn st j t l a) = upd (x_nT st) j (nI t) := by simp only [pn, x_nT, x_nod_s, x_nA_s, x_nL_s, x_nT_s]
theorem pn_nL (st : XS) (j t l : Nat) (a : Int32) : x_nL (pn st j t l a) = upd (x_nL st) j (nI l) := by simp only [pn, x_nL, x_nod_s, x_nA_s, x_nL_s, x_nT_s]
theorem pn_nA (st : XS) (j t l : Nat) (a : Int32) : x_nA (pn st j t l a) = upd (x_nA st) j a := by simp only [pn, x_nA, x_nod_s, x_nA_s, x_nL_s, x_nT_s]
theorem pn_wei (st : XS) (j t l : Nat) (a : Int32) : x_wei (pn st j t l a) = x_wei st := by simp only [pn, x_wei, x_nod_s, x_nA_s, x_nL_s, x_nT_s]
theorem pn_xj (st : XS) (j t l : Nat) (a : Int32) : xj (pn st j t l a) = xj st := by
  simp only [xj, pn, x_nod_s, x_nA_s, x_nL_s, x_nT_s, x_opn, x_pla, x_cN, x_fN, x_pri, x_mem, x_lea, x_tN, x_cst, x_nee, x_tab, x_tho, x_val, x_pic]
theorem NX_pn {st : XS} {L : List ND} (h : NX st L) (hl : L.length < 300) (t l : Nat) (a : Int32) : NX (pn st L.length t l a) (L ++ [(t, l, a)]) := by
  refine ⟨by simp; omega, by rw [pn_nod]; simp, fun i hi => ?_⟩
  have hi2 : i < L.length + 1 := by simpa using hi
  rw [pn_nT, pn_nL, pn_nA]
  unfold upd
  by_cases e : i = L.length
  · subst e
    simp
  · have hi3 : i < L.length := by omega
    simp only [if_neg e]
    rw [List.getElem_append_left hi3]
    exact h.2.2 i hi3
theorem nL_full {st : XS} {L : List ND} (h : NX st L) : L.length < 300 ∨ L.length = 300 := by have := h.1; omega
/-- what keep does at a depth -/
def RK (g : GT) (d u : Nat) (rf : XS → Int32 → Int32 → Int32 → Option XS) : Prop := ∀ (code : Nat) (a : Int32) (st : XS) (L : List ND), COK g code → vp_nar .byte a.toInt8.toInt32 = a → RX st g → MEM st g → ¬ x_val st code = -1 → WA st g d code → un g code = u → NX st L → ∃ st', rf st (nI code) a (nI d) = some st' ∧ NX st' ((L ++ nd g code a).take 300) ∧ xj st' = xj st ∧ (∀ e, e ≤ d → x_wei st' e = x_wei st e)
theorem MEM_xj {st st' : XS} {g : GT} (h : MEM st g) (e : xj st' = xj st) : MEM st' g := by
  obtain ⟨e1, e2⟩ := xj_vp e
  unfold MEM
  rw [e1, e2]
  exact h
theorem keepB {g : GT} (hg : GOK g) {d u : Nat} {rf : XS → Int32 → Int32 → Int32 → Option XS} (hd : d + u ≤ 5) (hrf : 0 < u → RK g (d + 1) (u - 1) rf) : RK g d u (x_P_keep_b rf) := by
  intro code a st L hc ha hR hM hv hW hu hN
  have hn := hg.2.1
  have hnl := nL_le hg code
  obtain ⟨-, -, mp, mc⟩ := hM code hc.1 hv
  have hLl := hN.1
  unfold x_P_keep_b
  rw [leftAtX hg (by omega) hW, sb, cntN _ hg.1, sb, show ct (lf g code) (g_nC g) = nL g code from rfl]
  by_cases e0 : nL g code = 0
  · rw [if_pos (by rw [e0]; rfl)]
    refine ⟨st, rfl, ?_, rfl, fun _ _ => rfl⟩
    rw [nd_0 e0, List.append_nil, List.take_of_length_le hN.1]
    exact hN
  · rw [if_neg (nI_ne0 (by omega) (by omega))]
    rcases nL_full hN with hl | hl
    · rw [hN.2.1, if_neg (show ¬ (300 : Int32) ≤ nI L.length from nI_ge (b := 300) hl (by decide)), if_neg (nI_pos (by have := hc.1; omega)), if_pos (show nI code < (1024 : Int32) from nI_lt (b := 1024) hc.1 (by decide)), ix_n hc.1 (by decide), ix_n hl (by decide)]
      have htp : tp g code ≤ 5 := by
        by_cases q : tp g code = 0
        · omega
        · have := (tp_ok hg hc q).2.1; omega
      have hno : ∀ v : Int32, x_nod (x_nT_s st L.length v) = nI L.length := fun v => hN.2.1
      have hno2 : ∀ v w : Int32, x_nod (x_nL_s (x_nT_s st L.length v) L.length w) = nI L.length := fun v w => hN.2.1
      have hno3 : ∀ v w z : Int32, x_nod (x_nA_s (x_nL_s (x_nT_s st L.length v) L.length w) L.length z) = nI L.length := fun v w z => hN.2.1
      rw [hno, ix_n hl (by decide), hno2, ix_n hl (by decide), hno3, mp, narB _ (by omega), narB _ (by omega), ha, iadd1 L.length]
      show ∃ st', xl2 (x_P_keep_B1 st (nI code) (nI d) rf code) 14 (nI 0) (pn st L.length (tp g code) (nL g code) a) = some st' ∧ _
      generalize hp0 : pn st L.length (tp g code) (nL g code) a = p0
      have hN0 : NX p0 (L ++ [(tp g code, nL g code, a)]) := by rw [← hp0]; exact NX_pn hN hl _ _ _
      have hj0 : xj p0 = xj st := by rw [← hp0]; exact pn_xj _ _ _ _ _
      have hw0 : ∀ e, e ≤ d → x_wei p0 e = x_wei st e := fun e _ => by rw [← hp0, pn_wei]
      by_cases q : tp g code = 0
      · refine ⟨p0, ?_, ?_, hj0, hw0⟩
        · show x_P_keep_B1 st (nI code) (nI d) rf code _ (nI 0) p0 = _
          unfold x_P_keep_B1
          rw [if_neg (by decide), mp, if_pos (by rw [q]; rfl)]
        · rw [nd_1 e0 q, List.take_of_length_le hN0.1]
          exact hN0
      · obtain ⟨t1, t2, t3, -⟩ := tp_ok hg hc q
        have hu1 := un_chl hg hc t1 t2 t3 (a := 0) (by decide)
        have step : ∀ (k : Nat), k < 3 → ∀ (n : Nat) (s : XS) (M : List ND), NX s M → xj s = xj st → (∀ e, e ≤ d → x_wei s e = x_wei st e) → ∃ s', xl2 (x_P_keep_B1 st (nI code) (nI d) rf code) (n + 1) (nI k) s = xl2 (x_P_keep_B1 st (nI code) (nI d) rf code) n (nI (k + 1)) s' ∧ NX s' ((M ++ nd g (chl code (tp g code) k) (nI k)).take 300) ∧ xj s' = xj st ∧ (∀ e, e ≤ d → x_wei s' e = x_wei st e) := by
          intro k hk n s M sN sj sw
          have hck := chl_ok hg hc t1 t2 t3 hk
          have hRs := RX_xj hR sj
          have hWs : WA s g d code := fun c c1 c2 => by rw [sw d (Nat.le_refl _)]; exact hW c c1 c2
          have huk := un_chl hg hc t1 t2 t3 hk
          obtain ⟨s1, q1, q2, q3, q4, q5, q6⟩ := behindX hRs hg hc t1 t2 t3 hk (by omega) hWs
          have j1 : xj s1 = xj st := (xj_of q2 q3 q4).trans sj
          obtain ⟨s2, r1, r2, r3, r4⟩ := hrf (by omega) (chl code (tp g code) k) (nI k) s1 M hck (narB k (by omega)) (RX_xj hR j1) (MEM_xj hM j1) (by rw [(xj_vp j1).1]; exact mc q k hk) q5 (by omega) (NX_of q2 sN)
          refine ⟨s2, ?_, r2, r3.trans j1, fun e he => ?_⟩
          · show x_P_keep_B1 st (nI code) (nI d) rf code _ (nI k) s = _
            rw [x_P_keep_B1, if_neg (show ¬ (3 : Int32) ≤ nI k from nI_ge (b := 3) hk (by decide)), mp, if_neg (nI_ne0 (by omega) (by omega)), if_neg (show ¬ (5 : Int32) ≤ nI d from nI_ge (b := 5) (by omega) (by decide)), q1, sb, withAns code hc.1 _ (by omega) k hk ⟨t1, t3⟩, sb, iadd1 d, show nI (code + (k + 1) * p4 (tp g code)) = nI (chl code (tp g code) k) from rfl, r1, sb, iadd1 k]
          · rw [r4 e (by omega), q6 e he, sw e he]
        obtain ⟨s1, a1, b1, c1, d1⟩ := step 0 (by decide) 13 p0 _ hN0 hj0 hw0
        obtain ⟨s2, a2, b2, c2, d2⟩ := step 1 (by decide) 12 s1 _ b1 c1 d1
        obtain ⟨s3, a3, b3, c3, d3⟩ := step 2 (by decide) 11 s2 _ b2 c2 d2
        refine ⟨s3, ?_, ?_, c3, d3⟩
        · have fin : xl2 (x_P_keep_B1 st (nI code) (nI d) rf code) 11 (nI 3) s3 = some s3 := by
            show x_P_keep_B1 st (nI code) (nI d) rf code _ (nI 3) s3 = _
            unfold x_P_keep_B1
            rw [if_pos (by decide)]
          exact a1.trans (a2.trans (a3.trans fin))
        · rw [nd_2 hg hc e0 q]
          rw [tk_app, List.append_assoc, tk_app] at b3
          have e : L ++ (tp g code, nL g code, a) :: (nd g (chl code (tp g code) 0) (nI 0) ++ (nd g (chl code (tp g code) 1) (nI 1) ++ nd g (chl code (tp g code) 2) (nI 2))) = (L ++ [(tp g code, nL g code, a)] ++ nd g (chl code (tp g code) 0) (nI 0)) ++ (nd g (chl code (tp g code) 1) (nI 1) ++ nd g (chl code (tp g code) 2) (nI 2)) := by simp
          rw [e]
          exact b3
    · rw [hN.2.1, if_pos (show (300 : Int32) ≤ nI L.length from by rw [hl]; decide)]
      refine ⟨st, rfl, ?_, rfl, fun _ _ => rfl⟩
      rw [tk_full _ hl]
      exact hN
theorem keepX {g : GT} (hg : GOK g) : ∀ (f d u : Nat), u < f → d + u ≤ 5 → RK g d u (x_P_keep f)
  | 0, _, _, h, _ => absurd h (Nat.not_lt_zero _)
  | f + 1, d, u, h, hd => keepB hg hd (fun h0 => keepX hg f (d + 1) (u - 1) (by omega) (by omega))
