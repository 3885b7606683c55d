-- PURE 74: fault and test of both
theorem cN_cN (s : XS) (v : Int32) : x_cN (x_cN_s s v) = v := rfl
theorem cN_fN (s : XS) (v : Int32) : x_cN (x_fN_s s v) = x_cN s := rfl
theorem cN_pri (s : XS) (j : Nat) (v : Int64) : x_cN (x_pri_s s j v) = x_cN s := rfl
theorem cN_mem (s : XS) (j : Nat) (v : Int32) : x_cN (x_mem_s s j v) = x_cN s := rfl
theorem fN_cN (s : XS) (v : Int32) : x_fN (x_cN_s s v) = x_fN s := rfl
theorem pri_cN (s : XS) (v : Int32) : x_pri (x_cN_s s v) = x_pri s := rfl
theorem tN_tN (s : XS) (v : Int32) : x_tN (x_tN_s s v) = v := rfl
theorem tN_cst (s : XS) (j : Nat) (v : Int32) : x_tN (x_cst_s s j v) = x_tN s := rfl
theorem ca_ca (s : MS) (v : Int32) : m_causes (m_causes_s s v) = v := rfl
theorem ca_fa (s : MS) (v : Int32) : m_causes (m_faults_s s v) = m_causes s := rfl
theorem ca_co (s : MS) (v : Int32) : m_causes (m_code_s s v) = m_causes s := rfl
theorem ca_on (s : MS) (j : Nat) (v : Int32) : m_causes (m_one_s s j v) = m_causes s := rfl
theorem ca_tw (s : MS) (j : Nat) (v : Int32) : m_causes (m_two_s s j v) = m_causes s := rfl
theorem ca_pr (s : MS) (j : Nat) (v : Int64) : m_causes (m_prior_s s j v) = m_causes s := rfl
theorem fa_co (s : MS) (v : Int32) : m_faults (m_code_s s v) = m_faults s := rfl
theorem pr_co (s : MS) (v : Int32) : m_prior (m_code_s s v) = m_prior s := rfl
theorem pr_ca (s : MS) (v : Int32) : m_prior (m_causes_s s v) = m_prior s := rfl
theorem pr_on (s : MS) (j : Nat) (v : Int32) : m_prior (m_one_s s j v) = m_prior s := rfl
theorem pr_tw (s : MS) (j : Nat) (v : Int32) : m_prior (m_two_s s j v) = m_prior s := rfl
theorem te_te (s : MS) (v : Int32) : m_tests (m_tests_s s v) = v := rfl
theorem te_pc (s : MS) (j : Nat) (v : Int64) : m_tests (m_price_s s j v) = m_tests s := rfl
theorem te_co (s : MS) (v : Int32) : m_tests (m_code_s s v) = m_tests s := rfl
theorem af_b (s : XS) (v w : Int32) (j : Nat) (z : Int64) : xb (x_pri_s (x_fN_s (x_cN_s s v) w) j z) = (x_opn s, v, w, vp_updL (x_pri s) j z, x_mem s, x_lea s, x_tN s, x_cst s, x_nee s, x_tab s) ∧ xp (x_pri_s (x_fN_s (x_cN_s s v) w) j z) = xp s := by
  constructor <;> simp only [xb, xp, x_pri_s, x_fN_s, x_cN_s, x_opn, x_pla, x_cN, x_fN, x_pri, x_mem, x_lea, x_tN, x_cst, x_nee, x_tab, x_nod, x_tho, x_nT, x_nL, x_nA]
theorem mf_b (s : MS) (fa ca : Int32) (j : Nat) (x y : Int32) (z : Int64) : mb (m_prior_s (m_two_s (m_one_s (m_causes_s (m_faults_s (m_code_s s 0) fa) ca) j x) j y) j z) = (ca, fa, m_strangers s, m_tests s, upd (m_one s) j x, upd (m_two s) j y, vp_updL (m_prior s) j z, m_learned s, m_price s, m_needs s, m_odds s, m_given s) ∧ mp (m_prior_s (m_two_s (m_one_s (m_causes_s (m_faults_s (m_code_s s 0) fa) ca) j x) j y) j z) = mp s := by
  constructor <;> simp only [mb, mp, m_prior_s, m_two_s, m_one_s, m_causes_s, m_faults_s, m_code_s, m_causes, m_faults, m_strangers, m_tests, m_exact, m_cost, m_nodes, m_one, m_two, m_prior, m_learned, m_price, m_needs, m_odds, m_given, m_node]
theorem tx_b (s : XS) (v : Int32) (j : Nat) (w : Int32) : xb (x_cst_s (x_tN_s s v) j w) = (x_opn s, x_cN s, x_fN s, x_pri s, x_mem s, x_lea s, v, upd (x_cst s) j w, x_nee s, x_tab s) ∧ xp (x_cst_s (x_tN_s s v) j w) = xp s := by
  constructor <;> simp only [xb, xp, x_cst_s, x_tN_s, x_opn, x_pla, x_cN, x_fN, x_pri, x_mem, x_lea, x_tN, x_cst, x_nee, x_tab, x_nod, x_tho, x_nT, x_nL, x_nA]
theorem tm_b (s : MS) (v : Int32) (j : Nat) (w : Int64) : mb (m_price_s (m_tests_s (m_code_s s 0) v) j w) = (m_causes s, m_faults s, m_strangers s, v, m_one s, m_two s, m_prior s, m_learned s, vp_updL (m_price s) j w, m_needs s, m_odds s, m_given s) ∧ mp (m_price_s (m_tests_s (m_code_s s 0) v) j w) = mp s := by
  constructor <;> simp only [mb, mp, m_price_s, m_tests_s, m_code_s, m_causes, m_faults, m_strangers, m_tests, m_exact, m_cost, m_nodes, m_one, m_two, m_prior, m_learned, m_price, m_needs, m_odds, m_given, m_node]
theorem p2520 : ∀ d, d < 11 → 1 ≤ d → 2520 / d * 2520 = 6350400 / d := by decide
theorem pv_le {d u : Nat} (h : u ≤ d) : 6350400 / d * u ≤ 6350400 := Nat.le_trans (Nat.mul_le_mul_left _ h) (Nat.div_mul_le_self _ _)
theorem updL_N {f : Nat → Int64} {h : Nat → Nat} {n v : Nat} (hf : ∀ c, 1 ≤ c → c ≤ n → f c = lN (h c)) : ∀ c, 1 ≤ c → c ≤ n + 1 → vp_updL f (n + 1) (lN v) c = lN (updN h (n + 1) v c) := fun c c1 c2 => by
  unfold vp_updL updN
  by_cases e : c = n + 1
  · rw [if_pos e, if_pos e]
  · rw [if_neg e, if_neg e]; exact hf c c1 (by omega)
theorem updI_N {f : Nat → Int32} {h : Nat → Nat} {n v : Nat} (hf : ∀ c, 1 ≤ c → c ≤ n → f c = nI (h c)) : ∀ c, 1 ≤ c → c ≤ n + 1 → upd f (n + 1) (nI v) c = nI (updN h (n + 1) v c) := fun c c1 c2 => by
  unfold upd updN
  by_cases e : c = n + 1
  · rw [if_pos e, if_pos e]
  · rw [if_neg e, if_neg e]; exact hf c c1 (by omega)
def addC (g : GT) (v : Nat) : GT := (g.1 + 1, g.2.1, updN (g_pr g) (g.1 + 1) v, g.2.2.2)
def addT (g : GT) (v : Nat) : GT := (g.1, g.2.1 + 1, g.2.2.1, g.2.2.2.1, updN (g_co g) (g.2.1 + 1) v, g.2.2.2.2.2)
theorem GOK_addC {g : GT} (h : GOK g) {v : Nat} (hn : g_nC g < 12) (hv : v ≤ 6350400) : GOK (addC g v) := by
  refine ⟨hn, h.2.1, fun c => ?_, h.2.2.2⟩
  show (if c = g.1 + 1 then v else g_pr g c) ≤ 6350400
  by_cases e : c = g.1 + 1
  · rw [if_pos e]; exact hv
  · rw [if_neg e]; exact h.2.2.1 c
theorem GOK_addT {g : GT} (h : GOK g) {v : Nat} (hn : g_nT g < 5) (hv : v ≤ 400) : GOK (addT g v) := by
  refine ⟨h.1, hn, h.2.2.1, h.2.2.2.1, fun t => ?_, h.2.2.2.2.2.1, fun t b q => ?_⟩
  · show (if t = g.2.1 + 1 then v else g_co g t) ≤ 400
    by_cases e : t = g.2.1 + 1
    · rw [if_pos e]; exact hv
    · rw [if_neg e]; exact h.2.2.2.2.1 t
  · have := h.2.2.2.2.2.2 t b q
    exact ⟨this.1, Nat.le_succ_of_le this.2⟩
theorem COK_addT {g : GT} {code : Nat} (h : COK g code) (v : Nat) : COK (addT g v) code := ⟨h.1, fun t t1 t2 => h.2 t (Nat.lt_of_succ_lt t1) t2⟩
theorem l_range {p : Int64} {n : Nat} (hn : n < 2 ^ 63) (h0 : ¬ p < 0) (h1 : ¬ lN n < p) : ∃ j, j ≤ n ∧ p = lN j := by
  rcases l_cases p hn with q | q | q
  · exact absurd q h0
  · exact absurd q h1
  · exact q
theorem fault2 {k : Nat} {xs : XS} {ms : MS} (h : REL k xs ms) (p q : Int64) : ∃ r xs' ms', x_G_fault xs p q = some (r, xs') ∧ m_M_fault ms p q = some (r, ms') ∧ REL k xs' ms' := by
  have h' := h
  obtain ⟨g, code, hg, hl, hc, hX, hM, ho, hG, hC, hP⟩ := h'
  have hnC := hg.1
  obtain ⟨⟨f, f1, f2, f3⟩, c2, c3, c4, c5⟩ := hC
  have hR := REL_code h 0
  unfold x_G_fault m_M_fault
  by_cases e1 : q < (1 : Int64)
  · rw [if_pos e1, if_pos e1]; exact ⟨_, _, _, rfl, rfl, hR⟩
  rw [if_neg e1, if_neg e1]
  by_cases e2 : (10 : Int64) < q
  · rw [if_pos e2, if_pos e2]; exact ⟨_, _, _, rfl, rfl, hR⟩
  rw [if_neg e2, if_neg e2]
  by_cases e3 : p < (0 : Int64)
  · rw [if_pos e3, if_pos e3]; exact ⟨_, _, _, rfl, rfl, hR⟩
  rw [if_neg e3, if_neg e3]
  by_cases e4 : p ≤ q
  · rw [if_pos e4, if_pos e4, fa_co, f2, f3, ca_co, hX.1, hM.1]
    have hq0 : ¬ q < 0 := fun z => e1 (Int64.lt_trans z (by decide))
    obtain ⟨d, hd, rfl⟩ := l_range (n := 10) (by decide) hq0 e2
    have d1 : 1 ≤ d := by
      rcases (show d = 0 ∨ 1 ≤ d by omega) with z | z
      · rw [z] at e1; exact absurd (by decide) e1
      · exact z
    obtain ⟨u, hu, rfl⟩ := l_range (p := p) (n := d) (by omega) e3 (Int64.not_lt.mpr e4)
    have hz : ¬ lN d = 0 := fun z => by
      have := (pk_lEQ (a := d) (b := 0) (by omega) (by decide)).mp z
      omega
    by_cases e5 : f = 8
    · rw [if_pos (show (8 : Int32) ≤ nI f from by rw [e5]; decide), if_pos (by rw [e5]; rfl)]
      exact ⟨_, _, _, rfl, rfl, hR⟩
    rw [if_neg (show ¬ (8 : Int32) ≤ nI f from nI_ge (b := 8) (by omega) (by decide)), if_neg (show ¬ nI f = (8 : Int32) from fun z => e5 ((nI_eq (b := 8) (by omega) (by decide)).mp z))]
    by_cases e6 : g_nC g = 12
    · rw [if_neg (show ¬ nI (g_nC g) < (12 : Int32) from by rw [e6]; decide), if_pos (by rw [e6]; rfl)]
      exact ⟨_, _, _, rfl, rfl, hR⟩
    rw [if_pos (show nI (g_nC g) < (12 : Int32) from nI_lt (b := 12) (by omega) (by decide)), if_neg (show ¬ nI (g_nC g) = (12 : Int32) from fun z => e6 ((nI_eq (b := 12) (by omega) (by decide)).mp z)), dzl_n hz]
    unfold x_C_addFault
    rw [hX.1, if_pos (show nI (g_nC g) < (12 : Int32) from nI_lt (b := 12) (by omega) (by decide))]
    have hpv := pv_le hu
    have hpe : lN 2520 / lN d * lN u * (2520 : Int64) = lN (6350400 / d * u) := by
      rw [pk_lDiv (by decide) d1 (by omega), show (2520 : Int64) = lN 2520 from rfl, lN_mul, lN_mul, ← p2520 d (by omega) d1]
      congr 1
      rw [Nat.mul_right_comm]
    have hpm : (6350400 : Int64) / lN d * lN u = lN (6350400 / d * u) := by
      rw [show (6350400 : Int64) = lN 6350400 from rfl, pk_lDiv (by decide) d1 (by omega), lN_mul]
    simp only [cN_cN, cN_fN, cN_pri, fN_cN, ca_ca, ca_fa, ca_co, ca_on, ca_tw, ca_pr, f2, hM.1, iadd1]
    rw [ix_n (by omega) (by decide), ix_n (by omega) (by decide), ix_n (by omega) (by decide), dzl_n hz, ix_n (by omega) (by decide), bd2_s, show (2520 : Int64) / lN d * lN u * (2520 : Int64) = lN (6350400 / d * u) from hpe, hpm]
    have hm := mf_b ms (nI (f + 1)) (nI (g_nC g + 1)) (g_nC g + 1) (nI (g_nC g + 1)) (nI (g_nC g + 1)) (lN (6350400 / d * u))
    have hx := af_b xs (nI (g_nC g + 1)) (nI (f + 1)) (g_nC g + 1) (lN (6350400 / d * u))
    refine ⟨_, _, _, rfl, rfl, REL_mk hP (addC g (6350400 / d * u)) code hx.1 hx.2 hm.1 hm.2 (GOK_addC hg (by omega) hpv) hl hc ⟨rfl, hX.2.1, updL_N hX.2.2.1, fun c q1 q2 => (c2 c q1 (Nat.le_trans q2 (by show g_nC g + 1 ≤ 12; omega))).1, hX.2.2.2.2⟩ ⟨rfl, hM.2.1, updL_N hM.2.2.1, fun c q1 q2 => (c2 c q1 (Nat.le_trans q2 (by show g_nC g + 1 ≤ 12; omega))).2, hM.2.2.2.2⟩ ho hG ⟨⟨f + 1, by omega, rfl, rfl⟩, c2, c3, fun c q1 q2 => ?_, fun c q1 q2 => c5 c (Nat.lt_of_succ_lt q1) q2⟩⟩
    have q2' : c ≤ g_nC g + 1 := q2
    unfold upd
    by_cases z : c = g_nC g + 1
    · rw [if_pos z, if_pos z]
      exact Or.inl ⟨c5 c (by omega) (by omega), rfl⟩
    · rw [if_neg z, if_neg z]
      exact c4 c q1 (by omega)
  · rw [if_neg e4, if_neg e4]; exact ⟨_, _, _, rfl, rfl, hR⟩
theorem test2 {k : Nat} {xs : XS} {ms : MS} (h : REL k xs ms) (p : Int64) : ∃ r xs' ms', x_G_test xs p = some (r, xs') ∧ m_M_test ms p = some (r, ms') ∧ REL k xs' ms' := by
  have h' := h
  obtain ⟨g, code, hg, hl, hc, hX, hM, ho, hG, hC, hP⟩ := h'
  have hnT := hg.2.1
  have hR := REL_code h 0
  unfold x_G_test m_M_test
  by_cases e3 : p < (0 : Int64)
  · rw [if_pos e3, if_pos e3]; exact ⟨_, _, _, rfl, rfl, hR⟩
  rw [if_neg e3, if_neg e3]
  by_cases e4 : p ≤ (400 : Int64)
  · rw [if_pos e4, if_pos e4, te_co, hX.2.1, hM.2.1]
    obtain ⟨u, hu, rfl⟩ := l_range (p := p) (n := 400) (by decide) e3 (Int64.not_lt.mpr e4)
    by_cases e6 : g_nT g = 5
    · rw [if_neg (show ¬ nI (g_nT g) < (5 : Int32) from by rw [e6]; decide), if_pos (by rw [e6]; rfl)]
      exact ⟨_, _, _, rfl, rfl, hR⟩
    rw [if_pos (show nI (g_nT g) < (5 : Int32) from nI_lt (b := 5) (by omega) (by decide)), if_neg (show ¬ nI (g_nT g) = (5 : Int32) from fun z => e6 ((nI_eq (b := 5) (by omega) (by decide)).mp z))]
    unfold x_T_add
    rw [hX.2.1, if_pos (show nI (g_nT g) < (5 : Int32) from nI_lt (b := 5) (by omega) (by decide))]
    simp only [tN_tN, tN_cst, te_te, te_pc, iadd1]
    rw [ix_n (by omega) (by decide), ix_n (by omega) (by decide), bd2_s, lN_i]
    have hm := tm_b ms (nI (g_nT g + 1)) (g_nT g + 1) (lN u)
    have hx := tx_b xs (nI (g_nT g + 1)) (g_nT g + 1) (nI u)
    exact ⟨_, _, _, rfl, rfl, REL_mk hP (addT g u) code hx.1 hx.2 hm.1 hm.2 (GOK_addT hg (by omega) hu) hl (COK_addT hc u) ⟨hX.1, rfl, hX.2.2.1, hX.2.2.2.1, updI_N hX.2.2.2.2.1, hX.2.2.2.2.2⟩ ⟨hM.1, rfl, hM.2.2.1, hM.2.2.2.1, updL_N hM.2.2.2.2.1, hM.2.2.2.2.2⟩ ho hG hC⟩
  · rw [if_neg e4, if_neg e4]; exact ⟨_, _, _, rfl, rfl, hR⟩
