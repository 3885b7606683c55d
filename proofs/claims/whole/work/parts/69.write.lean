-- PURE 69: the reference writes the same nodes, with a stack
def NM (st : MS) (L : List ND) : Prop := L.length ≤ 300 ∧ m_nodes st = nI L.length ∧ ∀ (i : Nat) (h : i < L.length), m_node st (3 * i) = nI (L[i]'h).1 ∧ m_node st (3 * i + 1) = nI (L[i]'h).2.1 ∧ m_node st (3 * i + 2) = (L[i]'h).2.2
/-- all parts of the reference's state but nodes and scratch arrays; value and best are kept -/
def mw (s : MS) : Int32 × Int32 × Int32 × Int32 × Int32 × Int32 × Int64 × (Nat → Int32) × (Nat → Int32) × (Nat → Int64) × (Nat → Int32) × (Nat → Int64) × (Nat → Int32) × (Nat → Int32) × (Nat → Int32) × (Nat → Int64) × (Nat → Int32) :=
  (m_code s, m_causes s, m_faults s, m_strangers s, m_tests s, m_exact s, m_cost s, m_one s, m_two s, m_prior s, m_learned s, m_price s, m_needs s, m_odds s, m_given s, m_value s, m_best s)
theorem RM_mw {s s' : MS} {g : GT} (h : RM s g) (e : mw s' = mw s) : RM s' g := by
  unfold mw at e
  simp only [Prod.mk.injEq] at e
  obtain ⟨-, e2, -, -, e5, -, -, -, -, e11, e12, e13, e14, e15, -⟩ := e
  unfold RM
  rw [e2, e5, e11, e12, e13, e14, e15]
  exact h
theorem mw_best {s s' : MS} (e : mw s' = mw s) : m_best s' = m_best s := by
  unfold mw at e
  simp only [Prod.mk.injEq] at e
  obtain ⟨-, -, -, -, -, -, -, -, -, -, -, -, -, -, -, -, e17⟩ := e
  exact e17
theorem mw_lk (g : GT) (s : MS) (code : Nat) : mw (lk g s code) = mw s := by
  simp only [mw, lk, m_weight_f, m_digit_f, m_code, m_causes, m_faults, m_strangers, m_tests, m_exact, m_cost, m_one, m_two, m_prior, m_learned, m_price, m_needs, m_odds, m_given, m_value, m_best]
theorem wait_lk (g : GT) (s : MS) (code : Nat) : m_wait (lk g s code) = m_wait s := by simp only [m_wait, lk, m_weight_f, m_digit_f]
theorem by_lk (g : GT) (s : MS) (code : Nat) : m_by (lk g s code) = m_by s := by simp only [m_by, lk, m_weight_f, m_digit_f]
theorem nodes_lk (g : GT) (s : MS) (code : Nat) : m_nodes (lk g s code) = m_nodes s := by simp only [m_nodes, lk, m_weight_f, m_digit_f]
theorem node_lk (g : GT) (s : MS) (code : Nat) : m_node (lk g s code) = m_node s := by simp only [m_node, lk, m_weight_f, m_digit_f]
/-- the stack: top first -/
def SK (g : GT) (st : MS) : List (Nat × Int32) → Prop
  | [] => True
  | e :: K => m_wait st K.length = nI e.1 ∧ m_by st K.length = e.2 ∧ K.length + 2 * un g e.1 ≤ 10 ∧ SK g st K
theorem SK_ext {g : GT} {s s' : MS} : ∀ K, (∀ i, i < K.length → m_wait s' i = m_wait s i ∧ m_by s' i = m_by s i) → SK g s K → SK g s' K
  | [], _, _ => trivial
  | e :: K, h, ⟨a, b, c, d⟩ => ⟨(h K.length (by simp)).1.trans a, (h K.length (by simp)).2.trans b, c, SK_ext K (fun i hi => h i (by simp; omega)) d⟩
def fl (g : GT) (K : List (Nat × Int32)) : List ND := K.flatMap fun e => nd g e.1 e.2
def szz : Nat → Nat
  | 0 => 1
  | n + 1 => 1 + 3 * szz n
def wsz (g : GT) : List (Nat × Int32) → Nat
  | [] => 0
  | e :: K => szz (un g e.1) + wsz g K
theorem ct_0 {f : Nat → Nat} : ∀ k, ct (fun c => decide (0 < f c)) k = 0 ↔ sm f k = 0
  | 0 => ⟨fun _ => rfl, fun _ => rfl⟩
  | k + 1 => by
    show ct (fun c => decide (0 < f c)) k + (if decide (0 < f (k + 1)) then 1 else 0) = 0 ↔ sm f k + f (k + 1) = 0
    have := ct_0 (f := f) k
    by_cases e : 0 < f (k + 1)
    · rw [decide_eq_true e, if_pos rfl]; omega
    · rw [decide_eq_false e, if_neg (by decide)]; omega
theorem nL_S (g : GT) (code : Nat) : nL g code = 0 ↔ S g code = 0 := ct_0 (f := fun c => wt g c code) (g_nC g)
/-- a node more -/
def pm (s : MS) (j : Nat) (t l a : Int32) : MS := m_nodes_s (m_node_s (m_node_s (m_node_s s (3 * j) t) (3 * j + 1) l) (3 * j + 2) a) (nI (j + 1))
theorem pm_nodes (s : MS) (j : Nat) (t l a : Int32) : m_nodes (pm s j t l a) = nI (j + 1) := by simp only [pm, m_nodes, m_nodes_s, m_node_s]
theorem pm_node (s : MS) (j : Nat) (t l a : Int32) : m_node (pm s j t l a) = upd (upd (upd (m_node s) (3 * j) t) (3 * j + 1) l) (3 * j + 2) a := by simp only [pm, m_node, m_nodes_s, m_node_s]
theorem pm_wait (s : MS) (j : Nat) (t l a : Int32) : m_wait (pm s j t l a) = m_wait s := by simp only [pm, m_wait, m_nodes_s, m_node_s]
theorem pm_by (s : MS) (j : Nat) (t l a : Int32) : m_by (pm s j t l a) = m_by s := by simp only [pm, m_by, m_nodes_s, m_node_s]
theorem pm_mw (s : MS) (j : Nat) (t l a : Int32) : mw (pm s j t l a) = mw s := by
  simp only [mw, pm, m_nodes_s, m_node_s, m_code, m_causes, m_faults, m_strangers, m_tests, m_exact, m_cost, m_one, m_two, m_prior, m_learned, m_price, m_needs, m_odds, m_given, m_value, m_best]
theorem NM_pm {s : MS} {L : List ND} (h : NM s L) (hl : L.length < 300) (t l : Nat) (a : Int32) : NM (pm s L.length (nI t) (nI l) a) (L ++ [(t, l, a)]) := by
  refine ⟨by simp; omega, by rw [pm_nodes]; simp, fun i hi => ?_⟩
  have hi2 : i < L.length + 1 := by simpa using hi
  rw [pm_node]
  unfold upd
  by_cases e : i = L.length
  · subst e
    refine ⟨?_, ?_, ?_⟩
    · rw [if_neg (by omega), if_neg (by omega), if_pos rfl]; simp
    · rw [if_neg (by omega), if_pos rfl]; simp
    · rw [if_pos rfl]; simp
  · have hi3 : i < L.length := by omega
    rw [List.getElem_append_left hi3]
    refine ⟨?_, ?_, ?_⟩
    · rw [if_neg (by omega), if_neg (by omega), if_neg (by omega)]; exact (h.2.2 i hi3).1
    · rw [if_neg (by omega), if_neg (by omega), if_neg (by omega)]; exact (h.2.2 i hi3).2.1
    · rw [if_neg (by omega), if_neg (by omega), if_neg (by omega)]; exact (h.2.2 i hi3).2.2
theorem NM_ext {s s' : MS} {L : List ND} (e1 : m_nodes s' = m_nodes s) (e2 : m_node s' = m_node s) (h : NM s L) : NM s' L := by
  unfold NM
  rw [e1, e2]
  exact h
theorem nodes_ns (s : MS) (j : Nat) (v : Int32) : m_nodes (m_node_s s j v) = m_nodes s := rfl
theorem mw_ns (s : MS) (j : Nat) (v : Int32) : mw (m_node_s s j v) = mw s := rfl
theorem LK_ns {s : MS} {g : GT} {code : Nat} (h : LK s g code) (j : Nat) (v : Int32) : LK (m_node_s s j v) g code := h
/-- a push -/
def pu (s : MS) (j c : Nat) (a : Int32) : MS := m_by_s (m_wait_s s j (nI c)) j a
theorem pu_wait (s : MS) (j c : Nat) (a : Int32) : m_wait (pu s j c a) = upd (m_wait s) j (nI c) := by simp only [pu, m_wait, m_by_s, m_wait_s]
theorem pu_by (s : MS) (j c : Nat) (a : Int32) : m_by (pu s j c a) = upd (m_by s) j a := by simp only [pu, m_by, m_by_s, m_wait_s]
theorem pu_nodes (s : MS) (j c : Nat) (a : Int32) : m_nodes (pu s j c a) = m_nodes s := by simp only [pu, m_nodes, m_by_s, m_wait_s]
theorem pu_node (s : MS) (j c : Nat) (a : Int32) : m_node (pu s j c a) = m_node s := by simp only [pu, m_node, m_by_s, m_wait_s]
theorem pu_mw (s : MS) (j c : Nat) (a : Int32) : mw (pu s j c a) = mw s := by
  simp only [mw, pu, m_by_s, m_wait_s, m_code, m_causes, m_faults, m_strangers, m_tests, m_exact, m_cost, m_one, m_two, m_prior, m_learned, m_price, m_needs, m_odds, m_given, m_value, m_best]
theorem SK_pu {g : GT} {s : MS} {K : List (Nat × Int32)} (h : SK g s K) {c : Nat} {a : Int32} (hu : K.length + 2 * un g c ≤ 10) : SK g (pu s K.length c a) ((c, a) :: K) := by
  refine ⟨by rw [pu_wait]; exact if_pos rfl, by rw [pu_by]; exact if_pos rfl, hu, SK_ext K (fun i hi => ?_) h⟩
  rw [pu_wait, pu_by]
  exact ⟨if_neg (by omega), if_neg (by omega)⟩
theorem xl3_s {A B C R : Type} (f : (A → B → C → Option R) → A → B → C → Option R) (n : Nat) (a : A) (b : B) (c : C) : xl3 f (n + 1) a b c = f (xl3 f n) a b c := rfl
theorem wr_none {s z : MS} {self1 : Int32 → MS → Option MS} {j code : Nat} (hw : m_wait s j = nI code) (hc : code < 4096) (hb : m_best z code = nI 0) (n m : Nat) : xl3 (m_M_write_B2 s self1 j) (n + 1) (nI 2) (nI m) z = self1 (nI m) z := by
  rw [xl3_s, m_M_write_B2, if_neg (nI_pos (by decide)), hw, ix_n hc (by decide), hb, if_pos (show nI 0 ≤ 0 from by decide)]
theorem wr_push {s z : MS} {self1 : Int32 → MS → Option MS} {j code t : Nat} (hw : m_wait s j = nI code) (hc : code < 4096) (hb : m_best z code = nI t) (t1 : 1 ≤ t) (t2 : t < 7) {k m : Nat} (hk : k < 3) (hm : m < 64) (n : Nat) : xl3 (m_M_write_B2 s self1 j) (n + 1) (nI k) (nI m) z = xl3 (m_M_write_B2 s self1 j) n (nI k + (-1)) (nI (m + 1)) (pu z m (chl code t k) (nI k)) := by
  rw [xl3_s, m_M_write_B2, if_neg (nI_pos (by omega)), hw, ix_n hc (by decide), hb, if_neg (nI_nle (by omega) (by omega)), ix_n hc (by decide), hb, unitN _ t2 t1, sb, ix_n hm (by decide), ix_n hm (by decide), iadd1 k, pk_mul, nI_add, iadd1 m]
  rfl
theorem wr_fin {s z : MS} {self1 : Int32 → MS → Option MS} {j m : Nat} (n : Nat) : xl3 (m_M_write_B2 s self1 j) (n + 1) (nI 0 + (-1)) (nI m) z = self1 (nI m) z := by
  rw [xl3_s, m_M_write_B2, if_pos (by decide)]
theorem writeL {g : GT} (hg : GOK g) {now : Nat} (hw : COK g now) : ∀ (fuel : Nat) (K : List (Nat × Int32)) (s : MS) (L : List ND), wsz g K < fuel → SK g s K → NM s L → RM s g → (∀ e ∈ K, e.1 < 1024 ∧ ib g e.1 now = true) → (∀ j, j < 1024 → ib g j now = true → m_best s j = nI (tp g j)) →
    ∃ s', xl2 m_M_write_B1 fuel (nI K.length) s = some s' ∧ NM s' ((L ++ fl g K).take 300) ∧ mw s' = mw s
  | 0, _, _, _, h, _, _, _, _, _ => absurd h (Nat.not_lt_zero _)
  | fuel + 1, [], s, L, _, _, hN, _, _, _ => by
    refine ⟨s, ?_, ?_, rfl⟩
    · show m_M_write_B1 _ (nI 0) s = _
      unfold m_M_write_B1
      rw [if_pos (by decide)]
    · show NM s ((L ++ []).take 300)
      rw [List.append_nil, List.take_of_length_le hN.1]
      exact hN
  | fuel + 1, (code, a) :: K, s, L, hf, ⟨k1, k2, k3, k4⟩, hN, hR, hK, hB => by
    have hn := hg.2.1
    have hf' : szz (un g code) + wsz g K < fuel + 1 := hf
    have hpos : 0 < szz (un g code) := by
      cases un g code with
      | zero => decide
      | succ n => unfold szz; omega
    obtain ⟨hc4, hib⟩ := hK (code, a) List.mem_cons_self
    have hc : COK g code := ib_COK hc4 hw hib
    have k1' : m_wait s K.length = nI code := k1
    have k2' : m_by s K.length = a := k2
    have k3' : K.length + 2 * un g code ≤ 10 := k3
    have hbl : m_best (lk g s code) = m_best s := best_lk g s code
    have hR1 : RM (lk g s code) g := RM_mw hR (mw_lk g s code)
    have hl1 : LK (lk g s code) g code := LK_lk g s code
    have hS := S_le hg code
    have hK' : ∀ e ∈ K, e.1 < 1024 ∧ ib g e.1 now = true := fun e he => hK e (List.mem_cons_of_mem _ he)
    have hfl : fl g ((code, a) :: K) = nd g code a ++ fl g K := rfl
    have hN1 : NM (lk g s code) L := NM_ext (nodes_lk g s code) (node_lk g s code) hN
    have hSK1 : SK g (lk g s code) K := SK_ext K (fun i _ => by rw [wait_lk, by_lk]; exact ⟨rfl, rfl⟩) k4
    show ∃ s', m_M_write_B1 (xl2 m_M_write_B1 fuel) (nI (K.length + 1)) s = some s' ∧ _
    rw [m_M_write_B1, if_neg (nI_nle (by omega) (by omega)), pk_m1, ix_n (by omega) (by decide), ix_n (by omega) (by decide), k1', lookM hR hg hc, sb, sumM hR1 hg hl1, sb]
    by_cases e0 : nL g code = 0
    · have hS0 : S g code = 0 := (nL_S g code).mp e0
      rw [if_pos (by rw [hS0]; rfl), hfl, nd_0 e0, List.nil_append]
      obtain ⟨s', q1, q2, q3⟩ := writeL hg hw fuel K (lk g s code) L (by omega) hSK1 hN1 hR1 hK' (fun j hj hb => by rw [hbl]; exact hB j hj hb)
      exact ⟨s', q1, q2, q3.trans (mw_lk g s code)⟩
    · have hS0 : ¬ S g code = 0 := fun q => e0 ((nL_S g code).mpr q)
      rw [if_neg (fun q => hS0 (by have := (pk_lEQ (by omega) (by decide)).mp (q.trans (show (0 : Int64) = lN 0 from rfl)); omega)), hN1.2.1]
      rcases (show L.length < 300 ∨ L.length = 300 by have := hN.1; omega) with hl | hl
      · have hno : ∀ j v, m_nodes (m_node_s (lk g s code) j v) = nI L.length := fun j v => (nodes_ns _ _ _).trans hN1.2.1
        have hno2 : ∀ j v i w, m_nodes (m_node_s (m_node_s (lk g s code) j v) i w) = nI L.length := fun j v i w => (nodes_ns _ _ _).trans (hno j v)
        have hno3 : ∀ j v i w k z, m_nodes (m_node_s (m_node_s (m_node_s (lk g s code) j v) i w) k z) = nI L.length := fun j v i w k z => (nodes_ns _ _ _).trans (hno2 j v i w)
        have hRn : ∀ j v, RM (m_node_s (lk g s code) j v) g := fun j v => RM_mw hR1 (mw_ns _ _ _)
        have hln : ∀ j v, LK (m_node_s (lk g s code) j v) g code := fun j v => LK_ns hl1 j v
        have hbc : m_best (lk g s code) code = nI (tp g code) := by rw [hbl]; exact hB code hc4 hib
        rw [if_neg (show ¬ nI L.length = (300 : Int32) from fun q => absurd ((nI_eq (a := L.length) (b := 300) (by omega) (by decide)).mp q) (by omega)), ix_n (by omega) (by decide), show (3 : Int32) = nI 3 from rfl, pk_mul, ix_n (by omega) (by decide), leftM (hRn _ _) hg (hln _ _), sb, hno, pk_mul, iadd1, ix_n (by omega) (by decide), hno2, pk_mul, show (2 : Int32) = nI 2 from rfl, nI_add, ix_n (by omega) (by decide), hno3, iadd1 L.length, hbc, k2']
        obtain ⟨nn, hnn⟩ : ∃ n, 1000 = n + 1 + 1 + 1 + 1 := ⟨996, rfl⟩
        rw [hnn]
        show ∃ s', xl3 (m_M_write_B2 s (xl2 m_M_write_B1 fuel) K.length) (nn + 1 + 1 + 1 + 1) (nI 2) (nI K.length) (pm (lk g s code) L.length (nI (tp g code)) (nI (nL g code)) a) = some s' ∧ _
        generalize hs0 : pm (lk g s code) L.length (nI (tp g code)) (nI (nL g code)) a = s0
        have p1 : NM s0 (L ++ [(tp g code, nL g code, a)]) := by rw [← hs0]; exact NM_pm hN1 hl _ _ _
        have p2 : mw s0 = mw s := by rw [← hs0, pm_mw, mw_lk]
        have p3 : SK g s0 K := by rw [← hs0]; exact SK_ext K (fun i _ => by rw [pm_wait, pm_by]; exact ⟨rfl, rfl⟩) hSK1
        have hb0 : m_best s0 = m_best s := mw_best p2
        by_cases q : tp g code = 0
        · rw [wr_none k1' (by omega) (by rw [hb0, hB code hc4 hib, q])]
          obtain ⟨s', q1, q2, q3⟩ := writeL hg hw fuel K s0 _ (by omega) p3 p1 (RM_mw hR p2) hK' (fun j hj hb => by rw [hb0]; exact hB j hj hb)
          refine ⟨s', q1, ?_, q3.trans p2⟩
          rw [hfl, nd_1 e0 q, ← List.append_assoc]
          exact q2
        · obtain ⟨t1, t2, t3, -⟩ := tp_ok hg hc q
          have hu0 := un_chl hg hc t1 t2 t3 (a := 0) (by decide)
          have hu1 := un_chl hg hc t1 t2 t3 (a := 1) (by decide)
          have hu2 := un_chl hg hc t1 t2 t3 (a := 2) (by decide)
          have z2 : m_best (pu s0 K.length (chl code (tp g code) 2) (nI 2)) = m_best s := (mw_best (pu_mw _ _ _ _)).trans hb0
          have z1 : m_best (pu (pu s0 K.length (chl code (tp g code) 2) (nI 2)) (K.length + 1) (chl code (tp g code) 1) (nI 1)) = m_best s := (mw_best (pu_mw _ _ _ _)).trans z2
          have e2 := wr_push (self1 := xl2 m_M_write_B1 fuel) k1' (by omega) (by rw [hb0, hB code hc4 hib]) t1 (by omega) (k := 2) (m := K.length) (by decide) (by omega) (nn + 1 + 1 + 1)
          have e1 := wr_push (self1 := xl2 m_M_write_B1 fuel) k1' (by omega) (by rw [z2, hB code hc4 hib]) t1 (by omega) (k := 1) (m := K.length + 1) (by decide) (by omega) (nn + 1 + 1)
          have e0' := wr_push (self1 := xl2 m_M_write_B1 fuel) k1' (by omega) (by rw [z1, hB code hc4 hib]) t1 (by omega) (k := 0) (m := K.length + 1 + 1) (by decide) (by omega) (nn + 1)
          rw [show nI 2 + (-1) = nI 1 from rfl] at e2
          rw [show nI 1 + (-1) = nI 0 from rfl] at e1
          have s2 := SK_pu p3 (c := chl code (tp g code) 2) (a := nI 2) (by omega)
          have s1 := SK_pu s2 (c := chl code (tp g code) 1) (a := nI 1) (by simp only [List.length_cons]; omega)
          have s00 := SK_pu s1 (c := chl code (tp g code) 0) (a := nI 0) (by simp only [List.length_cons]; omega)
          simp only [List.length_cons] at s00 s1
          generalize hz0 : pu (pu (pu s0 K.length (chl code (tp g code) 2) (nI 2)) (K.length + 1) (chl code (tp g code) 1) (nI 1)) (K.length + 1 + 1) (chl code (tp g code) 0) (nI 0) = z0 at s00 e0'
          have m0 : mw z0 = mw s := by rw [← hz0, pu_mw, pu_mw, pu_mw, p2]
          have n0 : NM z0 (L ++ [(tp g code, nL g code, a)]) := by
            rw [← hz0]
            exact NM_ext (by rw [pu_nodes, pu_nodes, pu_nodes]) (by rw [pu_node, pu_node, pu_node]) p1
          rw [e2.trans (e1.trans (e0'.trans (wr_fin nn)))]
          have hsz : szz (un g code) = 1 + 3 * szz (un g code - 1) := by
            obtain ⟨u, hu⟩ : ∃ u, un g code = u + 1 := ⟨un g code - 1, by omega⟩
            rw [hu]; rfl
          obtain ⟨s', q1, q2, q3⟩ := writeL hg hw fuel ((chl code (tp g code) 0, nI 0) :: (chl code (tp g code) 1, nI 1) :: (chl code (tp g code) 2, nI 2) :: K) z0 _ (by
            show szz (un g (chl code (tp g code) 0)) + (szz (un g (chl code (tp g code) 1)) + (szz (un g (chl code (tp g code) 2)) + wsz g K)) < fuel
            rw [show un g (chl code (tp g code) 0) = un g code - 1 by omega, show un g (chl code (tp g code) 1) = un g code - 1 by omega, show un g (chl code (tp g code) 2) = un g code - 1 by omega]
            omega) s00 n0 (RM_mw hR m0) (fun e he => by
              rcases List.mem_cons.mp he with r | r
              · rw [r]; exact ⟨(chl_ok hg hc t1 t2 t3 (by decide)).1, ib_chl hg hc hib t1 t2 t3 (by decide)⟩
              · rcases List.mem_cons.mp r with r | r
                · rw [r]; exact ⟨(chl_ok hg hc t1 t2 t3 (by decide)).1, ib_chl hg hc hib t1 t2 t3 (by decide)⟩
                · rcases List.mem_cons.mp r with r | r
                  · rw [r]; exact ⟨(chl_ok hg hc t1 t2 t3 (by decide)).1, ib_chl hg hc hib t1 t2 t3 (by decide)⟩
                  · exact hK' e r) (fun j hj hb => by rw [mw_best m0]; exact hB j hj hb)
          refine ⟨s', q1, ?_, q3.trans m0⟩
          have e : L ++ fl g ((code, a) :: K) = L ++ [(tp g code, nL g code, a)] ++ fl g ((chl code (tp g code) 0, nI 0) :: (chl code (tp g code) 1, nI 1) :: (chl code (tp g code) 2, nI 2) :: K) := by
            show L ++ (nd g code a ++ fl g K) = L ++ [(tp g code, nL g code, a)] ++ (nd g (chl code (tp g code) 0) (nI 0) ++ (nd g (chl code (tp g code) 1) (nI 1) ++ (nd g (chl code (tp g code) 2) (nI 2) ++ fl g K)))
            rw [nd_2 hg hc e0 q]
            simp
          rw [e]
          exact q2
      · rw [if_pos (by rw [hl]; rfl)]
        obtain ⟨s', q1, q2, q3⟩ := writeL hg hw fuel K (lk g s code) L (by omega) hSK1 hN1 hR1 hK' (fun j hj hb => by rw [hbl]; exact hB j hj hb)
        refine ⟨s', q1, ?_, q3.trans (mw_lk g s code)⟩
        rw [tk_full _ hl] at q2 ⊢
        exact q2
theorem writeM {g : GT} (hg : GOK g) {now : Nat} (hw : COK g now) {s : MS} (hR : RM s g) (hN : m_nodes s = nI 0) (hB : ∀ j, j < 1024 → ib g j now = true → m_best s j = nI (tp g j)) : ∃ s', m_M_write s (nI now) = some s' ∧ NM s' ((nd g now (-1)).take 300) ∧ mw s' = mw s := by
  have hu := un_le hg now
  have h0 : NM s [] := ⟨by decide, hN, fun i hi => absurd hi (Nat.not_lt_zero _)⟩
  have hp : NM (pu s 0 now (-1)) [] := NM_ext (pu_nodes _ _ _ _) (pu_node _ _ _ _) h0
  have hm := pu_mw s 0 now (-1)
  have hs : szz (un g now) < 1000 := by
    have : ∀ u, u < 6 → szz u < 1000 := by decide
    exact this _ (by omega)
  obtain ⟨s', q1, q2, q3⟩ := writeL hg hw 1000 [(now, -1)] (pu s 0 now (-1)) [] (by show szz (un g now) + 0 < 1000; omega) (SK_pu (K := []) trivial (by show 0 + 2 * un g now ≤ 10; omega)) hp (RM_mw hR hm) (fun e he => by
    rcases List.mem_cons.mp he with r | r
    · rw [r]; exact ⟨hw.1, ib_self g now⟩
    · cases r) (fun j hj hb => by rw [mw_best hm]; exact hB j hj hb)
  refine ⟨s', ?_, ?_, q3.trans hm⟩
  · unfold m_M_write
    rw [show (0 : Int32) = nI 0 from rfl, ix_n (by decide) (by decide), ix_n (by decide) (by decide)]
    exact q1
  · have e : ([] : List ND) ++ fl g [(now, -1)] = nd g now (-1) := by
      show [] ++ (nd g now (-1) ++ []) = _
      simp
    rw [e] at q2
    exact q2
