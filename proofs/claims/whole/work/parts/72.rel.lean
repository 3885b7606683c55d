-- PURE 72: what both states have in common; calls that only read
def CP (xs : XS) (ms : MS) (g : GT) : Prop := (∃ f, f ≤ 8 ∧ x_fN xs = nI f ∧ m_faults ms = nI f) ∧ (∀ c, 1 ≤ c → c ≤ 12 → x_lea xs c = nI (g_le g c) ∧ m_learned ms c = nI (g_le g c)) ∧ x_lea xs 0 = m_strangers ms ∧ (∀ c, 1 ≤ c → c ≤ g_nC g → (x_mem xs c = 0 ∧ m_one ms c = m_two ms c) ∨ ∃ lo hi, 1 ≤ lo ∧ lo < hi ∧ hi ≤ 12 ∧ x_mem xs c = nI (2 ^ lo ||| 2 ^ hi) ∧ m_one ms c = nI lo ∧ m_two ms c = nI hi) ∧ (∀ c, g_nC g < c → c ≤ 12 → x_mem xs c = 0)
/-- the parts that a plan tells -/
def PL (xs : XS) (ms : MS) : Prop := x_pla xs = m_exact ms ∧ (x_pla xs = 0 ∨ x_pla xs = 1) ∧ x_tho xs = m_cost ms ∧ ∃ L, NX xs L ∧ NM ms L
def REL (k : Nat) (xs : XS) (ms : MS) : Prop := ∃ (g : GT) (code : Nat), GOK g ∧ (∀ c, g_le g c ≤ k) ∧ COK g code ∧ RX xs g ∧ RM ms g ∧ x_opn xs = nI code ∧ GV ms code ∧ CP xs ms g ∧ PL xs ms
theorem REL_up {k : Nat} {xs : XS} {ms : MS} (h : REL k xs ms) : REL (k + 1) xs ms := by
  obtain ⟨g, code, a, b, c⟩ := h
  exact ⟨g, code, a, fun q => Nat.le_succ_of_le (b q), c⟩
theorem CP_b {xs xs' : XS} {ms ms' : MS} {g : GT} (h : CP xs ms g) (e1 : xb xs' = xb xs) (e2 : mb ms' = mb ms) : CP xs' ms' g := by
  unfold xb at e1
  unfold mb at e2
  simp only [Prod.mk.injEq] at e1 e2
  obtain ⟨-, -, a3, -, a5, a6, -⟩ := e1
  obtain ⟨-, b2, b3, -, b5, b6, -, b8, -⟩ := e2
  unfold CP
  rw [a3, a5, a6, b2, b3, b5, b6, b8]
  exact h
theorem opn_b {xs xs' : XS} (e : xb xs' = xb xs) : x_opn xs' = x_opn xs := by
  unfold xb at e
  simp only [Prod.mk.injEq] at e
  exact e.1
/-- states with the same main parts, and a plan of their own -/
theorem REL_b {k : Nat} {xs xs' : XS} {ms ms' : MS} (h : REL k xs ms) (e1 : xb xs' = xb xs) (e2 : mb ms' = mb ms) (hp : PL xs' ms') : REL k xs' ms' := by
  obtain ⟨g, code, a, b, c, d, e, f, i, j, -⟩ := h
  exact ⟨g, code, a, b, c, RX_xb d e1, RM_mb e e2, (opn_b e1).trans f, GV_mb i e2, CP_b j e1 e2, hp⟩
theorem PL_code {xs : XS} {ms : MS} (h : PL xs ms) (v : Int32) : PL xs (m_code_s ms v) := h
theorem REL_code {k : Nat} {xs : XS} {ms : MS} (h : REL k xs ms) (v : Int32) : REL k xs (m_code_s ms v) := by
  have := h
  obtain ⟨g, code, -, -, -, -, -, -, -, -, p⟩ := this
  exact REL_b h rfl (mb_code ms v) (PL_code p v)
theorem REL_plan {k : Nat} {xs : XS} {ms : MS} (h : REL k xs ms) : PL xs ms := by
  obtain ⟨g, code, -, -, -, -, -, -, -, -, p⟩ := h
  exact p
theorem exact2 {k : Nat} {xs : XS} {ms : MS} (h : REL k xs ms) : ∃ r, x_G_exact xs = some r ∧ m_M_exact ms = some (r, m_code_s ms 0) ∧ (r = 0 ∨ r = 1) := by
  obtain ⟨p1, p2, -⟩ := REL_plan h
  refine ⟨x_pla xs, ?_, ?_, p2⟩
  · unfold x_G_exact zb
    rw [if_pos p2]
  · unfold m_M_exact zb
    rw [show m_exact (m_code_s ms 0) = m_exact ms from rfl, ← p1, if_pos p2]
theorem cost2 {k : Nat} {xs : XS} {ms : MS} (h : REL k xs ms) : ∃ r, x_G_cost xs = some r ∧ m_M_cost ms = some (r, m_code_s ms 0) := by
  obtain ⟨-, -, p3, -⟩ := REL_plan h
  refine ⟨x_tho xs, rfl, ?_⟩
  unfold m_M_cost
  rw [show m_cost (m_code_s ms 0) = m_cost ms from rfl, ← p3]
theorem never2 {k : Nat} {xs : XS} {ms : MS} (h : REL k xs ms) (p : Int32) : ∃ r, x_G_never xs p = some r ∧ m_M_never ms p = some (r, m_code_s ms 0) := by
  obtain ⟨g, code, a, -, -, d, e, -⟩ := h
  rcases i_cases p (n := 2) (by decide) with q | q | ⟨j, hj, rfl⟩
  · refine ⟨-2, ?_, ?_⟩
    · unfold x_G_never
      rw [isAnsN (Or.inl q), sb, if_pos rfl]
    · unfold m_M_never
      rw [if_pos q]
  · have hq0 : ¬ p < 0 := fun z => by
      have h1 := Int32.lt_trans q z
      exact absurd h1 (by decide)
    have hq3 : (3 : Int32) ≤ p := by
      obtain ⟨i, hi, rfl⟩ := nI_of hq0
      have := (nI_ltI (a := 2) (by decide) hi).mp q
      exact nI_le (a := 3) this hi
    refine ⟨-2, ?_, ?_⟩
    · unfold x_G_never
      rw [isAnsN (Or.inr hq3), sb, if_pos rfl]
    · unfold m_M_never
      rw [if_neg hq0, if_neg (show ¬ p ≤ (2 : Int32) from Int32.not_le.mpr q)]
  · exact ⟨_, neverX d a (by omega), neverM e a (by omega)⟩
theorem tree2 {k : Nat} {xs : XS} {ms : MS} (h : REL k xs ms) (p q : Int32) : ∃ r, x_G_tree xs p q = some r ∧ m_M_tree ms p q = some (r, m_code_s ms 0) := by
  obtain ⟨-, -, -, L, hx, hm⟩ := REL_plan h
  have hnm : m_nodes (m_code_s ms 0) = nI L.length := hm.2.1
  have hl := hx.1
  have hJ : ∃ r, x_G_tree_J1 xs p q = some r ∧ m_M_tree_J1 ms p q = some (r, m_code_s ms 0) := by
    unfold x_G_tree_J1 m_M_tree_J1
    by_cases h0 : p < 0
    · rw [if_pos h0, if_pos h0]
      exact ⟨_, rfl, rfl⟩
    · rw [if_neg h0, if_neg h0, hx.2.1, hnm]
      obtain ⟨i, hi, rfl⟩ := nI_of h0
      by_cases h1 : i < L.length
      · rw [if_pos (nI_lt h1 (by omega)), if_pos (nI_lt h1 (by omega))]
        obtain ⟨n1, n2, n3⟩ := hx.2.2 i h1
        obtain ⟨k1, k2, k3⟩ := hm.2.2 i h1
        unfold x_P_tell
        rw [if_neg h0, if_pos (show nI i < (300 : Int32) from nI_lt (b := 300) (by omega) (by decide)), show (3 : Int32) = nI 3 from rfl, pk_mul]
        rcases i_cases q (n := 2) (by decide) with z | z | ⟨j, hj, rfl⟩
        · have e0 : ¬ q = (0 : Int32) := fun w => by rw [w] at z; exact absurd z (by decide)
          have e1 : ¬ q = (1 : Int32) := fun w => by rw [w] at z; exact absurd z (by decide)
          have e2 : ¬ q = (2 : Int32) := fun w => by rw [w] at z; exact absurd z (by decide)
          rw [if_neg e0, if_neg e1, if_neg e2, if_pos z]
          exact ⟨_, rfl, rfl⟩
        · have e0 : ¬ q = (0 : Int32) := fun w => by rw [w] at z; exact absurd z (by decide)
          have e1 : ¬ q = (1 : Int32) := fun w => by rw [w] at z; exact absurd z (by decide)
          have e2 : ¬ q = (2 : Int32) := fun w => by rw [w] at z; exact absurd z (by decide)
          have e3 : ¬ q < 0 := fun w => absurd (Int32.lt_trans z w) (by decide)
          rw [if_neg e0, if_neg e1, if_neg e2, if_neg e3, if_neg (show ¬ q ≤ (2 : Int32) from Int32.not_le.mpr z)]
          exact ⟨_, rfl, rfl⟩
        · rw [if_neg (nI_pos (n := j) (by omega)), if_pos (show nI j ≤ (2 : Int32) from nI_le (b := 2) hj (by decide)), nI_add, ix_n (j := 3 * i + j) (n := 900) (by omega) (by decide)]
          rcases (show j = 0 ∨ j = 1 ∨ j = 2 by omega) with rfl | rfl | rfl
          · rw [if_pos (by decide), ix_n (n := 300) (by omega) (by decide), sb]
            exact ⟨_, rfl, by rw [n1, ← k1]; rfl⟩
          · rw [if_neg (by decide), if_pos (by decide), ix_n (n := 300) (by omega) (by decide), sb]
            exact ⟨_, rfl, by rw [n2, ← k2]; rfl⟩
          · rw [if_neg (by decide), if_neg (by decide), if_pos (by decide), ix_n (n := 300) (by omega) (by decide), sb]
            exact ⟨_, rfl, by rw [n3, ← k3]; rfl⟩
      · rw [if_neg (nI_nlt (by omega) hi), if_neg (nI_nlt (by omega) hi)]
        exact ⟨_, rfl, rfl⟩
  unfold x_G_tree m_M_tree
  by_cases h1 : p = (-1 : Int32)
  · rw [if_pos h1, if_pos h1]
    by_cases h2 : q = 0
    · rw [if_pos h2, if_pos h2, hnm, hx.2.1]
      exact ⟨_, rfl, rfl⟩
    · rw [if_neg h2, if_neg h2]
      exact hJ
  · rw [if_neg h1, if_neg h1]
    exact hJ
theorem next2 {k : Nat} {xs : XS} {ms : MS} (h : REL k xs ms) (p : Int64) : ∃ r xs' ms', x_G_next xs p = some (r, xs') ∧ m_M_next ms p = some (r, ms') ∧ REL k xs' ms' := by
  by_cases hp : 0 ≤ p
  · have h' := h
    obtain ⟨g, code, a, b, c, d, e, f, i, -⟩ := h'
    obtain ⟨xs', x1, x2, x3, x4, x5⟩ := nextX d a c f hp
    obtain ⟨ms', m1, m2, m3, m4, m5⟩ := nextM e a c i hp
    refine ⟨_, xs', ms', x1, m1, REL_b h x2 m2 ⟨x3.trans m3.symm, ?_, x4.trans m4.symm, _, x5, m5⟩⟩
    rw [x3]
    unfold nxE
    by_cases q : p < lN (4 ^ un g code)
    · rw [if_pos q]; exact Or.inl rfl
    · rw [if_neg q]; exact Or.inr rfl
  · exact ⟨_, _, _, nextX0 xs hp, nextM0 ms hp, REL_code h 0⟩
