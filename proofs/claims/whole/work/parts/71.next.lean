-- PURE 71: next of both
/-- what next answers for steps that are not below 0 -/
def nxt (g : GT) (code : Nat) (p : Int64) : Nat := if p < lN (4 ^ un g code) then one g code else tp g code
def nxE (g : GT) (code : Nat) (p : Int64) : Int32 := if p < lN (4 ^ un g code) then 0 else 1
def nxC (g : GT) (code : Nat) (p : Int64) : Int64 := if p < lN (4 ^ un g code) then -1 else tcost g code
def nxN (g : GT) (code : Nat) (p : Int64) : List ND := if p < lN (4 ^ un g code) then [] else (nd g code (-1)).take 300
theorem RX_pla {s : XS} {g : GT} (h : RX s g) (v : Int32) : RX (x_pla_s s v) g := h
theorem xb_pla (s : XS) (v : Int32) : xb (x_pla_s s v) = xb s := rfl
theorem pla_pla (s : XS) (v : Int32) : x_pla (x_pla_s s v) = v := rfl
theorem opn_pla (s : XS) (v : Int32) : x_opn (x_pla_s s v) = x_opn s := rfl
/-- the class's state without a plan -/
def dr (s : XS) : XS := x_tho_s (x_nod_s s (0 : Int32)) (-1 : Int64)
theorem dr_xb (s : XS) : xb (dr s) = xb s := rfl
theorem dr_pla (s : XS) : x_pla (dr s) = x_pla s := rfl
theorem dr_opn (s : XS) : x_opn (dr s) = x_opn s := rfl
theorem dr_tho (s : XS) : x_tho (dr s) = -1 := rfl
theorem dr_NX (s : XS) : NX (dr s) [] := ⟨by decide, rfl, fun i hi => absurd hi (Nat.not_lt_zero _)⟩
theorem nextX {st : XS} {g : GT} (h : RX st g) (hg : GOK g) {code : Nat} (hc : COK g code) (ho : x_opn st = nI code) {p : Int64} (hp : 0 ≤ p) : ∃ s', x_G_next st p = some (nI (nxt g code p), s') ∧ xb s' = xb st ∧ x_pla s' = nxE g code p ∧ x_tho s' = nxC g code p ∧ NX s' (nxN g code p) := by
  have hu := un_le hg code
  unfold x_G_next nxt nxE nxC nxN
  rw [if_pos hp, ho, unX h hg hc, sb, shl4 _ (by omega)]
  by_cases e : p < lN (4 ^ un g code)
  · rw [if_pos e, pla_pla, if_pos rfl]
    simp only [if_pos e]
    unfold x_P_drop
    rw [sb]
    show ∃ s', (x_K_oneStep (dr (x_pla_s st 0)) (x_opn (dr (x_pla_s st 0)))).bind (fun r9 => some (r9, dr (x_pla_s st 0))) = some (nI (one g code), s') ∧ _
    rw [dr_opn, opn_pla, ho, oneX (RX_xb h ((dr_xb _).trans (xb_pla _ _))) hg hc, sb]
    exact ⟨_, rfl, (dr_xb _).trans (xb_pla _ _), (dr_pla _).trans (pla_pla _ _), dr_tho _, dr_NX _⟩
  · rw [if_neg e, pla_pla, if_neg (by decide)]
    simp only [if_neg e]
    rw [opn_pla, ho]
    obtain ⟨s', a1, a2, a3, a4, a5⟩ := makeX (RX_pla h 1) hg hc
    rw [a1, bd2_s]
    exact ⟨s', rfl, a2.trans (xb_pla _ _), a3.trans (pla_pla _ _), a4, a5⟩
/-- the parts of the reference's state that no next changes -/
def mb (s : MS) : Int32 × Int32 × Int32 × Int32 × (Nat → Int32) × (Nat → Int32) × (Nat → Int64) × (Nat → Int32) × (Nat → Int64) × (Nat → Int32) × (Nat → Int32) × (Nat → Int32) :=
  (m_causes s, m_faults s, m_strangers s, m_tests s, m_one s, m_two s, m_prior s, m_learned s, m_price s, m_needs s, m_odds s, m_given s)
theorem mb_mq {s s' : MS} (e : mq s' = mq s) : mb s' = mb s ∧ m_code s' = m_code s ∧ m_exact s' = m_exact s ∧ m_cost s' = m_cost s ∧ m_nodes s' = m_nodes s ∧ m_node s' = m_node s := by
  unfold mq at e
  simp only [Prod.mk.injEq] at e
  obtain ⟨a1, a2, a3, a4, a5, a6, a7, a8, a9, a10, a11, a12, a13, a14, a15, a16, a17⟩ := e
  unfold mb
  rw [a2, a3, a4, a5, a9, a10, a11, a12, a13, a14, a15, a16]
  exact ⟨rfl, a1, a6, a7, a8, a17⟩
theorem mb_mw {s s' : MS} (e : mw s' = mw s) : mb s' = mb s ∧ m_code s' = m_code s ∧ m_exact s' = m_exact s ∧ m_cost s' = m_cost s := by
  unfold mw at e
  simp only [Prod.mk.injEq] at e
  obtain ⟨a1, a2, a3, a4, a5, a6, a7, a9, a10, a11, a12, a13, a14, a15, a16, -, -⟩ := e
  unfold mb
  rw [a2, a3, a4, a5, a9, a10, a11, a12, a13, a14, a15, a16]
  exact ⟨rfl, a1, a6, a7⟩
theorem RM_mb {s s' : MS} {g : GT} (h : RM s g) (e : mb s' = mb s) : RM s' g := by
  unfold mb at e
  simp only [Prod.mk.injEq] at e
  obtain ⟨e2, -, -, e5, -, -, e11, e12, e13, e14, e15, -⟩ := e
  unfold RM
  rw [e2, e5, e11, e12, e13, e14, e15]
  exact h
theorem GV_mb {s s' : MS} {code : Nat} (h : GV s code) (e : mb s' = mb s) : GV s' code := by
  unfold mb at e
  simp only [Prod.mk.injEq] at e
  obtain ⟨-, -, -, -, -, -, -, -, -, -, -, e12⟩ := e
  unfold GV
  rw [e12]
  exact h
theorem mq_gs (g : GT) (s : MS) (code t : Nat) : ∀ k, mq (gs g s code t k) = mq s
  | 0 => mq_lk g s code
  | k + 1 => (mq_lk g _ _).trans (mq_gs g s code t k)
theorem mq_os (g : GT) (s : MS) (code : Nat) : ∀ k, mq (os g s code k) = mq s
  | 0 => rfl
  | k + 1 => by
    have ih := mq_os g s code k
    unfold os
    split
    · split
      · exact ih
      · exact (mq_gs _ _ _ _ _).trans ((mq_gs _ _ _ _ _).trans ih)
    · exact ih
theorem mq_oS (g : GT) (s : MS) (code : Nat) : mq (oS g s code) = mq s := by
  unfold oS
  split
  · split
    · exact (mq_os _ _ _ _).trans ((mq_use _ _).trans (mq_lk _ _ _))
    · exact (mq_use _ _).trans (mq_lk _ _ _)
  · exact mq_lk _ _ _
/-- the reference's state as next begins -/
def ns0 (s : MS) (v : Int32) : MS := m_exact_s (m_cost_s (m_nodes_s (m_code_s s (0 : Int32)) (0 : Int32)) (-1 : Int64)) v
theorem ns0_mb (s : MS) (v : Int32) : mb (ns0 s v) = mb s := by
  simp only [mb, ns0, m_exact_s, m_cost_s, m_nodes_s, m_code_s, m_causes, m_faults, m_strangers, m_tests, m_one, m_two, m_prior, m_learned, m_price, m_needs, m_odds, m_given]
theorem ns0_exact (s : MS) (v : Int32) : m_exact (ns0 s v) = v := by simp only [ns0, m_exact, m_exact_s]
theorem ns0_cost (s : MS) (v : Int32) : m_cost (ns0 s v) = -1 := by simp only [ns0, m_cost, m_exact_s, m_cost_s]
theorem ns0_nodes (s : MS) (v : Int32) : m_nodes (ns0 s v) = nI 0 := by
  simp only [ns0, m_nodes, m_exact_s, m_cost_s, m_nodes_s]; rfl
theorem cost_cs (s : MS) (v : Int64) : m_cost (m_cost_s s v) = v := rfl
theorem mb_cs (s : MS) (v : Int64) : mb (m_cost_s s v) = mb s ∧ m_exact (m_cost_s s v) = m_exact s ∧ m_nodes (m_cost_s s v) = m_nodes s ∧ m_best (m_cost_s s v) = m_best s := ⟨rfl, rfl, rfl, rfl⟩
theorem mb_code (s : MS) (v : Int32) : mb (m_code_s s v) = mb s := rfl
theorem xl2_s {A B R : Type} (f : (A → B → Option R) → A → B → Option R) (n : Nat) (a : A) (b : B) : xl2 f (n + 1) a b = f (xl2 f n) a b := rfl
/-- the end of next: the tree from the open case on -/
theorem endM {g : GT} (hg : GOK g) {code : Nat} (hc : COK g code) {s : MS} (h : RM s g) (hn : m_nodes s = nI 0) (hk : m_cost s = -1) (hv : ∀ j, j < 1024 → ib g j code = true → VP s g j) (self : Int32 → MS → Option (Int32 × MS)) : ∃ s', m_M_next_B4 (nI code) self (-1) s = some (nI (tp g code), s') ∧ mb s' = mb s ∧ m_exact s' = m_exact s ∧ m_cost s' = tcost g code ∧ NM s' ((nd g code (-1)).take 300) := by
  have hS := S_le hg code
  have hc4 : code < 4096 := by have := hc.1; omega
  have hl := LK_lk g s code
  have hR1 : RM (lk g s code) g := RM_mq h (mq_lk g s code)
  have q1 := mb_mq (mq_lk g s code)
  rw [m_M_next_B4, if_pos (by decide), lookM h hg hc, sb, sumM hR1 hg hl, sb]
  by_cases e : S g code = 0
  · rw [if_pos ((lN_le0 (by omega)).mpr (by omega))]
    obtain ⟨s', w1, w2, w3⟩ := writeM hg hc hR1 (q1.2.2.2.2.1.trans hn) (fun j hj hb => by rw [best_lk]; exact (hv j hj hb).2)
    have q2 := mb_mw w3
    rw [w1, sb, ix_n hc4 (by decide), mw_best w3, best_lk, (hv code hc.1 (ib_self g code)).2]
    refine ⟨s', rfl, q2.1.trans q1.1, q2.2.2.1.trans q1.2.2.1, ?_, w2⟩
    rw [q2.2.2.2, q1.2.2.2.1, hk]
    unfold tcost
    rw [if_pos e]
  · have htv := tv_b hg hc
    rw [if_neg (fun q => e (by have := (lN_le0 (by omega)).mp q; omega)), ix_n hc4 (by decide), sb, value_lk, (hv code hc.1 (ib_self g code)).1, thM (by omega) (by omega) hS, sb]
    have q3 := mb_cs (lk g s code) (lN (th (tv g code) (S g code)))
    obtain ⟨s', w1, w2, w3⟩ := writeM hg hc (RM_mb hR1 q3.1) (q3.2.2.1.trans (q1.2.2.2.2.1.trans hn)) (fun j hj hb => by rw [q3.2.2.2, best_lk]; exact (hv j hj hb).2)
    have q2 := mb_mw w3
    rw [w1, sb, ix_n hc4 (by decide), mw_best w3, q3.2.2.2, best_lk, (hv code hc.1 (ib_self g code)).2]
    refine ⟨s', rfl, q2.1.trans (q3.1.trans q1.1), q2.2.2.1.trans (q3.2.1.trans q1.2.2.1), ?_, w2⟩
    rw [q2.2.2.2, cost_cs]
    unfold tcost
    rw [if_neg e]
theorem nextM {st : MS} {g : GT} (h : RM st g) (hg : GOK g) {code : Nat} (hc : COK g code) (ho : GV st code) {p : Int64} (hp : 0 ≤ p) : ∃ s', m_M_next st p = some (nI (nxt g code p), s') ∧ mb s' = mb st ∧ m_exact s' = nxE g code p ∧ m_cost s' = nxC g code p ∧ NM s' (nxN g code p) := by
  have hn := hg.2.1
  have hR0 : RM (m_code_s st 0) g := RM_mb h (mb_code st 0)
  have hG0 : GV (m_code_s st 0) code := GV_mb ho (mb_code st 0)
  have fin : ∀ self, ∃ s', m_M_next_B1 st p (nI code) self (nI (g_nT g + 1)) (lN (4 ^ un g code)) = some (nI (nxt g code p), s') ∧ mb s' = mb st ∧ m_exact s' = nxE g code p ∧ m_cost s' = nxC g code p ∧ NM s' (nxN g code p) := by
    intro self
    unfold nxt nxE nxC nxN
    rw [m_M_next_B1, hR0.2.1, if_pos (nI_lt (by omega) (by omega))]
    by_cases e : p < lN (4 ^ un g code)
    · simp only [if_pos e]
      show ∃ s', (if m_exact (ns0 st 0) = 0 then bd2 (m_M_oneStep (ns0 st 0) (nI code)) (fun r47 s46 => some (r47, s46)) else _) = some (nI (one g code), s') ∧ _
      rw [ns0_exact, if_pos rfl, oneM (RM_mb h (ns0_mb st 0)) hg hc, bd2_s]
      have q := mb_mq (mq_oS g (ns0 st 0) code)
      refine ⟨_, rfl, q.1.trans (ns0_mb st 0), q.2.2.1.trans (ns0_exact st 0), q.2.2.2.1.trans (ns0_cost st 0), ⟨by decide, q.2.2.2.2.1.trans (ns0_nodes st 0), fun i hi => absurd hi (Nat.not_lt_zero _)⟩⟩
    · simp only [if_neg e]
      show ∃ s', (if m_exact (ns0 st 1) = 0 then _ else xl2 (m_M_next_B4 (nI code)) 1030 (5 : Int32) (ns0 st 1)) = some (nI (tp g code), s') ∧ _
      rw [ns0_exact, if_neg (by decide)]
      obtain ⟨s1, self2, a1, a2, a3⟩ := passM hg hc (RM_mb h (ns0_mb st 1))
      have q := mb_mq a2
      rw [a1]
      obtain ⟨s', b1, b2, b3, b4, b5⟩ := endM hg hc (RM_mb h (q.1.trans (ns0_mb st 1))) (q.2.2.2.2.1.trans (ns0_nodes st 1)) (q.2.2.2.1.trans (ns0_cost st 1)) a3 self2
      exact ⟨s', b1, b2.trans (q.1.trans (ns0_mb st 1)), b3.trans (q.2.2.1.trans (ns0_exact st 1)), b4, b5⟩
  have loop : ∀ (m k fuel : Nat), k + m = g_nT g → m < fuel → ∃ s', xl2 (m_M_next_B1 st p (nI code)) fuel (nI (k + 1)) (lN (4 ^ ct (fun t => decide (dg code t = 0)) k)) = some (nI (nxt g code p), s') ∧ mb s' = mb st ∧ m_exact s' = nxE g code p ∧ m_cost s' = nxC g code p ∧ NM s' (nxN g code p) := by
    intro m
    induction m with
    | zero =>
      intro k fuel hk hf
      obtain ⟨f, rfl⟩ : ∃ f, fuel = f + 1 := ⟨fuel - 1, by omega⟩
      have : k = g_nT g := by omega
      subst this
      rw [xl2_s]
      exact fin _
    | succ m ih =>
      intro k fuel hk hf
      obtain ⟨f, rfl⟩ : ∃ f, fuel = f + 1 := ⟨fuel - 1, by omega⟩
      have hd := dg_lt code (k + 1)
      have hi := ih (k + 1) f (by omega) (by omega)
      rw [xl2_s, m_M_next_B1, hR0.2.1, if_neg (nI_nlt (by omega) (by omega)), ix_n (by omega) (by decide), hG0 (k + 1) (by omega) (by omega), iadd1]
      have hst : ct (fun t => decide (dg code t = 0)) (k + 1) = ct (fun t => decide (dg code t = 0)) k + if decide (dg code (k + 1) = 0) then 1 else 0 := rfl
      rw [hst] at hi
      by_cases e : dg code (k + 1) = 0
      · rw [decide_eq_true e, if_pos rfl, Nat.pow_succ, Nat.mul_comm] at hi
        rw [if_neg (fun q => ((dg_nn hd).mp q) e), show (4 : Int64) = lN 4 from rfl, lN_mul]
        exact hi
      · rw [decide_eq_false e, if_neg (by decide), Nat.add_zero] at hi
        rw [if_pos ((dg_nn hd).mpr e)]
        exact hi
  unfold m_M_next
  rw [if_pos hp, nowM hc.1 hG0, sb]
  exact loop (g_nT g) 0 1030 (by omega) (by omega)
theorem nextX0 (st : XS) {p : Int64} (hp : ¬ 0 ≤ p) : x_G_next st p = some (-2, st) := by
  unfold x_G_next
  rw [if_neg hp]
theorem nextM0 (st : MS) {p : Int64} (hp : ¬ 0 ≤ p) : m_M_next st p = some (-2, m_code_s st 0) := by
  unfold m_M_next
  rw [if_neg hp]
