-- PURE 73: learn and answer of both
theorem kn2C {xs : XS} {ms : MS} {g : GT} (h : RX xs g) (hm : RM ms g) (hg : GOK g) (p : Int32) : (∃ c, 1 ≤ c ∧ c ≤ g_nC g ∧ p = nI c ∧ x_C_knows xs p = some 1 ∧ m_M_noCause ms p = some 0) ∨ (x_C_knows xs p = some 0 ∧ m_M_noCause ms p = some 1 ∧ ∀ c, 1 ≤ c → c ≤ g_nC g → ¬ p = nI c) := by
  have hn := hg.1
  by_cases h1 : p < (1 : Int32)
  · refine Or.inr ⟨?_, ?_, ?_⟩
    · unfold x_C_knows; rw [if_pos h1]
    · unfold m_M_noCause; rw [if_pos h1]
    · intro c c1 c2 e
      rw [e] at h1
      exact absurd h1 (nI_nlt (b := 1) c1 (by omega))
  · rcases i_cases p (n := g_nC g) (by omega) with q | q | ⟨j, hj, e⟩
    · exact absurd (Int32.lt_trans q (by decide)) h1
    · refine Or.inr ⟨?_, ?_, ?_⟩
      · unfold x_C_knows; rw [if_neg h1, h.1, if_pos q]
      · unfold m_M_noCause; rw [if_neg h1, hm.1, if_neg (Int32.not_le.mpr q)]
      · intro c c1 c2 e
        rw [e] at q
        exact absurd q (nI_nlt c2 (by omega))
    · have j1 : 1 ≤ j := by
        rcases (show j = 0 ∨ 1 ≤ j by omega) with z | z
        · rw [e, z] at h1; exact absurd (by decide) h1
        · exact z
      subst e
      refine Or.inl ⟨j, j1, hj, rfl, knC h hg j1 hj, ?_⟩
      unfold m_M_noCause
      rw [if_neg h1, hm.1, if_pos (nI_le hj (by omega))]
theorem kn2T {xs : XS} {ms : MS} {g : GT} (h : RX xs g) (hm : RM ms g) (hg : GOK g) (p : Int32) : (∃ c, 1 ≤ c ∧ c ≤ g_nT g ∧ p = nI c ∧ x_T_knows xs p = some 1 ∧ m_M_noTest ms p = some 0) ∨ (x_T_knows xs p = some 0 ∧ m_M_noTest ms p = some 1) := by
  have hn := hg.2.1
  by_cases h1 : p < (1 : Int32)
  · refine Or.inr ⟨?_, ?_⟩
    · unfold x_T_knows; rw [if_pos h1]
    · unfold m_M_noTest; rw [if_pos h1]
  · rcases i_cases p (n := g_nT g) (by omega) with q | q | ⟨j, hj, e⟩
    · exact absurd (Int32.lt_trans q (by decide)) h1
    · refine Or.inr ⟨?_, ?_⟩
      · unfold x_T_knows; rw [if_neg h1, h.2.1, if_pos q]
      · unfold m_M_noTest; rw [if_neg h1, hm.2.1, if_neg (Int32.not_le.mpr q)]
    · have j1 : 1 ≤ j := by
        rcases (show j = 0 ∨ 1 ≤ j by omega) with z | z
        · rw [e, z] at h1; exact absurd (by decide) h1
        · exact z
      subst e
      refine Or.inl ⟨j, j1, hj, rfl, knT h hg j1 hj, ?_⟩
      unfold m_M_noTest
      rw [if_neg h1, hm.2.1, if_pos (nI_le hj (by omega))]
/-- answers of the reference taken back: tests 1 .. k -/
def gF (s : MS) (k : Nat) : MS := m_given_f s (fun j => if 1 ≤ j ∧ j ≤ k then -1 else m_given s j)
theorem gF_0 (s : MS) : gF s 0 = s := by
  unfold gF
  have : (fun j => if 1 ≤ j ∧ j ≤ 0 then (-1 : Int32) else m_given s j) = m_given s := by
    funext j
    rw [if_neg (by omega)]
  rw [this]
  rfl
theorem gsf (s : MS) (F : Nat → Int32) (j : Nat) (v : Int32) : m_given_s (m_given_f s F) j v = m_given_f s (upd F j v) := by simp only [m_given_s, m_given_f]
theorem gF_s (s : MS) (k : Nat) : m_given_s (gF s k) (k + 1) (-1) = gF s (k + 1) := by
  unfold gF
  rw [gsf]
  congr 1
  funext j
  unfold upd
  by_cases e : j = k + 1
  · rw [if_pos e, if_pos (by omega)]
  · rw [if_neg e]
    show (if 1 ≤ j ∧ j ≤ k then (-1 : Int32) else m_given s j) = _
    by_cases q : 1 ≤ j ∧ j ≤ k
    · rw [if_pos q, if_pos (by omega)]
    · rw [if_neg q, if_neg (by omega)]
theorem gF_at (s : MS) (k : Nat) {t : Nat} (h1 : 1 ≤ t) (h2 : t ≤ k) : m_given (gF s k) t = -1 := by
  show (if 1 ≤ t ∧ t ≤ k then (-1 : Int32) else m_given s t) = -1
  rw [if_pos ⟨h1, h2⟩]
theorem learnL (p : Int32) (s : MS) : ∃ self, xl2 (m_M_learn_B2 p) 14 (1 : Int32) s = m_M_learn_B2 p self (nI 7) (gF s 6) := by
  have step : ∀ (k n : Nat), k < 6 → xl2 (m_M_learn_B2 p) (n + 1) (nI (k + 1)) (gF s k) = xl2 (m_M_learn_B2 p) n (nI (k + 1 + 1)) (gF s (k + 1)) := by
    intro k n hk
    rw [xl2_s, m_M_learn_B2, if_neg (show ¬ (7 : Int32) ≤ nI (k + 1) from nI_ge (b := 7) (by omega) (by decide)), ix_n (by omega) (by decide), iadd1, gF_s]
  have h0 : xl2 (m_M_learn_B2 p) 14 (1 : Int32) s = xl2 (m_M_learn_B2 p) (13 + 1) (nI (0 + 1)) (gF s 0) := by rw [gF_0]; rfl
  refine ⟨xl2 (m_M_learn_B2 p) 7, ?_⟩
  rw [h0, step 0 13 (by decide), step 1 12 (by decide), step 2 11 (by decide), step 3 10 (by decide), step 4 9 (by decide), step 5 8 (by decide), xl2_s]
def setLe (g : GT) (f : Nat → Nat) : GT := (g.1, g.2.1, g.2.2.1, f, g.2.2.2.2)
theorem COK_0 (g : GT) : COK g 0 := ⟨by decide, fun t _ _ => by unfold dg; rw [Nat.zero_div]⟩
theorem dg_0 (t : Nat) : dg 0 t = 0 := by unfold dg; rw [Nat.zero_div]
def updN (f : Nat → Nat) (c v : Nat) : Nat → Nat := fun j => if j = c then v else f j
/-- RX, RM, CP over the parts themselves -/
def RXe (cn tn : Int32) (pri : Nat → Int64) (lea cst nee : Nat → Int32) (tab : Nat → Nat → Int32) (g : GT) : Prop := cn = nI (g_nC g) ∧ tn = nI (g_nT g) ∧ (∀ c, 1 ≤ c → c ≤ g_nC g → pri c = lN (g_pr g c)) ∧ (∀ c, 1 ≤ c → c ≤ g_nC g → lea c = nI (g_le g c)) ∧ (∀ t, 1 ≤ t → t ≤ g_nT g → cst t = nI (g_co g t)) ∧ (∀ t, 1 ≤ t → t ≤ 5 → nee t = nI (msk (g_ne g t))) ∧ (∀ t c, 1 ≤ t → t ≤ 5 → 1 ≤ c → c ≤ 12 → tab t c = nI (g_od g t c 0 + 16 * g_od g t c 1 + 256 * g_od g t c 2))
def RMe (ca te : Int32) (pr : Nat → Int64) (le : Nat → Int32) (pc : Nat → Int64) (ne od : Nat → Int32) (g : GT) : Prop := ca = nI (g_nC g) ∧ te = nI (g_nT g) ∧ (∀ c, 1 ≤ c → c ≤ g_nC g → pr c = lN (g_pr g c)) ∧ (∀ c, 1 ≤ c → c ≤ g_nC g → le c = nI (g_le g c)) ∧ (∀ t, 1 ≤ t → t ≤ g_nT g → pc t = lN (g_co g t)) ∧ (∀ t b, 1 ≤ t → t ≤ 6 → 1 ≤ b → b ≤ 6 → ne (7 * t + b) = if g_ne g t b then 1 else 0) ∧ (∀ t c a, 1 ≤ t → t ≤ 5 → 1 ≤ c → c ≤ 12 → a < 3 → od (39 * t + 3 * c + a) = nI (g_od g t c a))
def CPe (fn : Int32) (mem lea : Nat → Int32) (fa sr : Int32) (on tw le : Nat → Int32) (g : GT) : Prop := (∃ f, f ≤ 8 ∧ fn = nI f ∧ fa = nI f) ∧ (∀ c, 1 ≤ c → c ≤ 12 → lea c = nI (g_le g c) ∧ le c = nI (g_le g c)) ∧ lea 0 = sr ∧ (∀ c, 1 ≤ c → c ≤ g_nC g → (mem c = 0 ∧ on c = tw c) ∨ ∃ lo hi, 1 ≤ lo ∧ lo < hi ∧ hi ≤ 12 ∧ mem c = nI (2 ^ lo ||| 2 ^ hi) ∧ on c = nI lo ∧ tw c = nI hi) ∧ (∀ c, g_nC g < c → c ≤ 12 → mem c = 0)
/-- the parts that a plan tells -/
def xp (s : XS) : Int32 × Int64 × Int32 × (Nat → Int32) × (Nat → Int32) × (Nat → Int32) := (x_pla s, x_tho s, x_nod s, x_nT s, x_nL s, x_nA s)
def mp (s : MS) : Int32 × Int64 × Int32 × (Nat → Int32) := (m_exact s, m_cost s, m_nodes s, m_node s)
theorem PL_p {xs xs' : XS} {ms ms' : MS} (h : PL xs ms) (ex : xp xs' = xp xs) (em : mp ms' = mp ms) : PL xs' ms' := by
  unfold xp at ex
  unfold mp at em
  simp only [Prod.mk.injEq] at ex em
  obtain ⟨a1, a2, a3, a4, a5, a6⟩ := ex
  obtain ⟨b1, b2, b3, b4⟩ := em
  unfold PL NX NM at *
  rw [a1, a2, a3, a4, a5, a6, b1, b2, b3, b4]
  exact h
theorem mp_mq {s s' : MS} (e : mq s' = mq s) : mp s' = mp s := by
  have q := mb_mq e
  unfold mp
  rw [q.2.2.1, q.2.2.2.1, q.2.2.2.2.1, q.2.2.2.2.2]
theorem REL_mk {k : Nat} {xs xs' : XS} {ms ms' : MS} (hP : PL xs ms) (g : GT) (code : Nat) {o cn fn tn : Int32} {pri : Nat → Int64} {mem lea cst nee : Nat → Int32} {tab : Nat → Nat → Int32} {ca fa sr te : Int32} {on tw : Nat → Int32} {pr : Nat → Int64} {le : Nat → Int32} {pc : Nat → Int64} {ne od gi : Nat → Int32} (ex : xb xs' = (o, cn, fn, pri, mem, lea, tn, cst, nee, tab)) (ep : xp xs' = xp xs) (em : mb ms' = (ca, fa, sr, te, on, tw, pr, le, pc, ne, od, gi)) (eq : mp ms' = mp ms) (hg : GOK g) (hl : ∀ c, g_le g c ≤ k) (hc : COK g code) (hX : RXe cn tn pri lea cst nee tab g) (hM : RMe ca te pr le pc ne od g) (ho : o = nI code) (hG : ∀ t, 1 ≤ t → t ≤ 6 → gi t = nI (dg code t) - 1) (hC : CPe fn mem lea fa sr on tw le g) : REL k xs' ms' := by
  unfold xb at ex
  unfold mb at em
  simp only [Prod.mk.injEq] at ex em
  obtain ⟨a1, a2, a3, a4, a5, a6, a7, a8, a9, a10⟩ := ex
  obtain ⟨b1, b2, b3, b4, b5, b6, b7, b8, b9, b10, b11, b12⟩ := em
  refine ⟨g, code, hg, hl, hc, ?_, ?_, a1.trans ho, ?_, ?_, PL_p hP ep eq⟩
  · unfold RX
    rw [a2, a4, a6, a7, a8, a9, a10]
    exact hX
  · unfold RM
    rw [b1, b4, b7, b8, b9, b10, b11]
    exact hM
  · unfold GV
    rw [b12]
    exact hG
  · unfold CP
    rw [a3, a5, a6, b2, b3, b5, b6, b8]
    exact hC
-- the states behind learn
theorem lx_b (s : XS) (c : Nat) (v : Int32) : xb (x_lea_s (x_opn_s s 0) c v) = (0, x_cN s, x_fN s, x_pri s, x_mem s, upd (x_lea s) c v, x_tN s, x_cst s, x_nee s, x_tab s) ∧ xp (x_lea_s (x_opn_s s 0) c v) = xp s := by
  constructor <;> simp only [xb, xp, x_lea_s, x_opn_s, x_opn, x_pla, x_cN, x_fN, x_pri, x_mem, x_lea, x_tN, x_cst, x_nee, x_tab, x_nod, x_tho, x_nT, x_nL, x_nA]
theorem gF_b (s : MS) : mb (gF (m_code_s s 0) 6) = (m_causes s, m_faults s, m_strangers s, m_tests s, m_one s, m_two s, m_prior s, m_learned s, m_price s, m_needs s, m_odds s, m_given (gF (m_code_s s 0) 6)) ∧ mp (gF (m_code_s s 0) 6) = mp s := by
  constructor <;> simp only [mb, mp, gF, m_given_f, m_code_s, m_causes, m_faults, m_strangers, m_tests, m_exact, m_cost, m_nodes, m_one, m_two, m_prior, m_learned, m_price, m_needs, m_odds, m_given, m_node]
theorem sS_b (s : MS) (v : Int32) : mb (m_strangers_s s v) = (m_causes s, m_faults s, v, m_tests s, m_one s, m_two s, m_prior s, m_learned s, m_price s, m_needs s, m_odds s, m_given s) ∧ mp (m_strangers_s s v) = mp s := by
  constructor <;> simp only [mb, mp, m_strangers_s, m_causes, m_faults, m_strangers, m_tests, m_exact, m_cost, m_nodes, m_one, m_two, m_prior, m_learned, m_price, m_needs, m_odds, m_given, m_node]
theorem lS_b (s : MS) (c : Nat) (v : Int32) : mb (m_learned_s s c v) = (m_causes s, m_faults s, m_strangers s, m_tests s, m_one s, m_two s, m_prior s, upd (m_learned s) c v, m_price s, m_needs s, m_odds s, m_given s) ∧ mp (m_learned_s s c v) = mp s := by
  constructor <;> simp only [mb, mp, m_learned_s, m_causes, m_faults, m_strangers, m_tests, m_exact, m_cost, m_nodes, m_one, m_two, m_prior, m_learned, m_price, m_needs, m_odds, m_given, m_node]
theorem mb_g {s : MS} {ca fa sr te : Int32} {on tw : Nat → Int32} {pr : Nat → Int64} {le : Nat → Int32} {pc : Nat → Int64} {ne od gi : Nat → Int32} (em : mb s = (ca, fa, sr, te, on, tw, pr, le, pc, ne, od, gi)) : m_causes s = ca ∧ m_faults s = fa ∧ m_strangers s = sr ∧ m_tests s = te ∧ m_one s = on ∧ m_two s = tw ∧ m_prior s = pr ∧ m_learned s = le ∧ m_price s = pc ∧ m_needs s = ne ∧ m_odds s = od ∧ m_given s = gi := by
  unfold mb at em
  simp only [Prod.mk.injEq] at em
  exact em
theorem learn2 {k : Nat} (hk : k < 512) {xs : XS} {ms : MS} (h : REL k xs ms) (p : Int32) : ∃ r xs' ms', x_G_learn xs p = some (r, xs') ∧ m_M_learn ms p = some (r, ms') ∧ REL (k + 1) xs' ms' := by
  have h' := h
  obtain ⟨g, code, hg, hl, hc, hX, hM, ho, hG, hC, hP⟩ := h'
  have hnC := hg.1
  obtain ⟨c1, c2, c3, c4, c5⟩ := hC
  have hlp : ∀ p0 : Int32, m_M_learn_J1 ms p0 = (if p0 = 0 then m_M_learn_J3 p0 (m_strangers_s (gF (m_code_s ms 0) 6) (m_strangers (gF (m_code_s ms 0) 6) + 1)) else ix p0 13 fun j10 => ix p0 13 fun j13 => m_M_learn_J3 p0 (m_learned_s (gF (m_code_s ms 0) 6) j13 (m_learned (gF (m_code_s ms 0) 6) j10 + 1))) := fun p0 => by
    obtain ⟨self, e⟩ := learnL p0 (m_code_s ms 0)
    unfold m_M_learn_J1
    rw [e, m_M_learn_B2, if_pos (by decide)]
  have gb := gF_b ms
  have gG : ∀ t, 1 ≤ t → t ≤ 6 → m_given (gF (m_code_s ms 0) 6) t = nI (dg 0 t) - 1 := fun t t1 t2 => by rw [gF_at _ _ t1 t2, dg_0]; decide
  generalize gF (m_code_s ms 0) 6 = s0 at hlp gb gG
  obtain ⟨gb1, gb2⟩ := gb
  obtain ⟨g1, g2, g3, g4, g5, g6, g7, g8, g9, g10, g11, -⟩ := mb_g gb1
  by_cases e : p = 0
  · subst e
    refine ⟨x_lea xs 0 + 1, x_lea_s (x_opn_s xs 0) 0 (x_lea xs 0 + 1), m_strangers_s s0 (m_strangers s0 + 1), ?_, ?_, ?_⟩
    · unfold x_G_learn x_C_countLearned
      rw [if_pos rfl, if_neg (by decide), if_pos (by decide), show (0 : Int32) = nI 0 from rfl, ix_n (by decide) (by decide), ix_n (by decide) (by decide), ix_n (by decide) (by decide), bd2_s]
      rfl
    · unfold m_M_learn
      rw [if_pos rfl, hlp, if_pos rfl]
      unfold m_M_learn_J3
      rw [if_pos rfl, show m_strangers (m_strangers_s s0 (m_strangers s0 + 1)) = m_strangers s0 + 1 from rfl, g3, ← c3]
    · have sb1 := sS_b s0 (m_strangers s0 + 1)
      rw [g1, g2, g3, g4, g5, g6, g7, g8, g9, g10, g11] at sb1
      rw [g3]
      refine REL_mk hP g 0 (lx_b xs 0 _).1 (lx_b xs 0 _).2 sb1.1 (sb1.2.trans gb2) hg (fun q => Nat.le_succ_of_le (hl q)) (COK_0 g) ⟨hX.1, hX.2.1, hX.2.2.1, fun c q1 q2 => (if_neg (by omega)).trans (hX.2.2.2.1 c q1 q2), hX.2.2.2.2⟩ hM rfl gG ⟨c1, fun c q1 q2 => ⟨(if_neg (by omega)).trans (c2 c q1 q2).1, (c2 c q1 q2).2⟩, ?_, c4, c5⟩
      exact (if_pos rfl).trans (by rw [c3])
  · rcases kn2C hX (RM_mb hM (mb_code ms 0)) hg p with ⟨c, k1, k2, rfl, k3, k4⟩ | ⟨k3, k4, -⟩
    · have hcl := (c2 c k1 (by omega))
      have hlc := hl c
      have hup : ∀ f : Nat → Int32, (∀ c', 1 ≤ c' → c' ≤ 12 → f c' = nI (g_le g c')) → ∀ c', 1 ≤ c' → c' ≤ 12 → upd f c (nI (g_le g c + 1)) c' = nI (updN (g_le g) c (g_le g c + 1) c') := fun f hf c' q1 q2 => by
        unfold upd updN
        by_cases z : c' = c
        · rw [if_pos z, if_pos z]
        · rw [if_neg z, if_neg z]; exact hf c' q1 q2
      refine ⟨nI (g_le g c + 1), x_lea_s (x_opn_s xs 0) c (nI (g_le g c + 1)), m_learned_s s0 c (nI (g_le g c + 1)), ?_, ?_, ?_⟩
      · unfold x_G_learn x_C_countLearned
        rw [if_neg e, k3, sb, if_neg (by decide), if_neg (nI_pos (by omega)), if_pos (show nI c ≤ (12 : Int32) from nI_le (b := 12) (by omega) (by decide)), ix_n (by omega) (by decide), ix_n (by omega) (by decide), ix_n (by omega) (by decide), bd2_s, show x_lea (x_opn_s xs 0) c = x_lea xs c from rfl, hcl.1, iadd1, show x_lea (x_lea_s (x_opn_s xs 0) c (nI (g_le g c + 1))) c = nI (g_le g c + 1) from if_pos rfl]
      · unfold m_M_learn
        rw [if_neg e, k4, sb, if_pos rfl, hlp, if_neg e, ix_n (by omega) (by decide), ix_n (by omega) (by decide), g8, hcl.2, iadd1]
        unfold m_M_learn_J3
        rw [if_neg e, ix_n (by omega) (by decide), show m_learned (m_learned_s s0 c (nI (g_le g c + 1))) c = nI (g_le g c + 1) from if_pos rfl]
      · have sb1 := lS_b s0 c (nI (g_le g c + 1))
        rw [g1, g2, g3, g4, g5, g6, g7, g8, g9, g10, g11] at sb1
        refine REL_mk hP (setLe g (updN (g_le g) c (g_le g c + 1))) 0 (lx_b xs c _).1 (lx_b xs c _).2 sb1.1 (sb1.2.trans gb2) ⟨hg.1, hg.2.1, hg.2.2.1, fun c' => ?_, hg.2.2.2.2⟩ (fun c' => ?_) (COK_0 _) ⟨hX.1, hX.2.1, hX.2.2.1, fun c' q1 q2 => hup _ (fun c'' r1 r2 => (c2 c'' r1 r2).1) c' q1 (Nat.le_trans q2 hnC), hX.2.2.2.2⟩ ⟨hM.1, hM.2.1, hM.2.2.1, fun c' q1 q2 => hup _ (fun c'' r1 r2 => (c2 c'' r1 r2).2) c' q1 (Nat.le_trans q2 hnC), hM.2.2.2.2⟩ rfl gG ⟨c1, fun c' q1 q2 => ⟨hup _ (fun c'' r1 r2 => (c2 c'' r1 r2).1) c' q1 q2, hup _ (fun c'' r1 r2 => (c2 c'' r1 r2).2) c' q1 q2⟩, (if_neg (by omega)).trans c3, c4, c5⟩
        · show (if c' = c then g_le g c + 1 else g_le g c') ≤ 512
          by_cases z : c' = c
          · rw [if_pos z]; omega
          · rw [if_neg z]; exact hg.2.2.2.1 c'
        · show (if c' = c then g_le g c + 1 else g_le g c') ≤ k + 1
          by_cases z : c' = c
          · rw [if_pos z]; omega
          · rw [if_neg z]; exact Nat.le_succ_of_le (hl c')
    · refine ⟨-1, xs, m_code_s ms 0, ?_, ?_, REL_up (REL_code h 0)⟩
      · unfold x_G_learn
        rw [if_neg e, k3, sb, if_pos rfl]
      · unfold m_M_learn
        rw [if_neg e, k4, sb, if_neg (by decide)]
theorem mp_code (s : MS) (v : Int32) : mp (m_code_s s v) = mp s := by
  simp only [mp, m_code_s, m_exact, m_cost, m_nodes, m_node]
theorem PL_mq {xs : XS} {ms ms' : MS} (h : PL xs ms) (e : mq ms' = mq ms) : PL xs ms' := PL_p h rfl (mp_mq e)
theorem ox_b (s : XS) (v : Int32) : xb (x_opn_s s v) = (v, x_cN s, x_fN s, x_pri s, x_mem s, x_lea s, x_tN s, x_cst s, x_nee s, x_tab s) ∧ xp (x_opn_s s v) = xp s := by
  constructor <;> simp only [xb, xp, x_opn_s, x_opn, x_pla, x_cN, x_fN, x_pri, x_mem, x_lea, x_tN, x_cst, x_nee, x_tab, x_nod, x_tho, x_nT, x_nL, x_nA]
theorem gS_b (s : MS) (t : Nat) (v : Int32) : mb (m_given_s s t v) = (m_causes s, m_faults s, m_strangers s, m_tests s, m_one s, m_two s, m_prior s, m_learned s, m_price s, m_needs s, m_odds s, upd (m_given s) t v) ∧ mp (m_given_s s t v) = mp s := by
  constructor <;> simp only [mb, mp, m_given_s, m_causes, m_faults, m_strangers, m_tests, m_exact, m_cost, m_nodes, m_one, m_two, m_prior, m_learned, m_price, m_needs, m_odds, m_given, m_node]
theorem answer2 {k : Nat} {xs : XS} {ms : MS} (h : REL k xs ms) (p q : Int32) : ∃ r xs' ms', x_G_answer xs p q = some (r, xs') ∧ m_M_answer ms p q = some (r, ms') ∧ REL k xs' ms' := by
  have h' := h
  obtain ⟨g, code, hg, hl, hc, hX, hM, ho, hG, hC, hP⟩ := h'
  have hnT := hg.2.1
  have hM0 : RM (m_code_s ms 0) g := RM_mb hM (mb_code ms 0)
  have hG0 : GV (m_code_s ms 0) code := GV_mb hG (mb_code ms 0)
  unfold x_G_answer m_M_answer
  rcases kn2T hX hM0 hg p with ⟨t, t1, t2, rfl, k3, k4⟩ | ⟨k3, k4⟩
  · rw [k3, k4, sb, sb, if_neg (by decide), if_pos rfl]
    rcases i_cases q (n := 2) (by decide) with z | z | ⟨a, ha, rfl⟩
    · rw [isAnsN (Or.inl z), sb, if_pos rfl, if_pos z]
      exact ⟨_, _, _, rfl, rfl, REL_code h 0⟩
    · have hq0 : ¬ q < 0 := fun w => absurd (Int32.lt_trans z w) (by decide)
      have hq3 : (3 : Int32) ≤ q := by
        obtain ⟨i, hi, rfl⟩ := nI_of hq0
        have := (nI_ltI (a := 2) (by decide) hi).mp z
        exact nI_le (a := 3) this hi
      rw [isAnsN (Or.inr hq3), sb, if_pos rfl, if_neg hq0, if_neg (show ¬ q ≤ (2 : Int32) from Int32.not_le.mpr z)]
      exact ⟨_, _, _, rfl, rfl, REL_code h 0⟩
    · have hl0 := LK_lk g (m_code_s ms 0) code
      have hq := mq_lk g (m_code_s ms 0) code
      have hMl : RM (lk g (m_code_s ms 0) code) g := RM_mq hM0 hq
      have hmb : mb (lk g (m_code_s ms 0) code) = mb ms := (mb_mq hq).1.trans (mb_code ms 0)
      rw [isAns a (by omega), sb, if_neg (by decide), ho, openX hX hg hc t1 t2, sb, if_neg (nI_pos (n := a) (by omega)), if_pos (show nI a ≤ (2 : Int32) from nI_le (b := 2) ha (by decide)), nowM hc.1 hG0, sb, lookM hM0 hg hc, sb, mayM hMl hg hl0 t1 t2, sb]
      have hmp : mp (lk g (m_code_s ms 0) code) = mp ms := (mp_mq hq).trans (mp_code ms 0)
      generalize lk g (m_code_s ms 0) code = s0 at hl0 hMl hmb hmp
      cases hy : may g code t
      · rw [if_pos (by rfl), if_pos (by rfl)]
        exact ⟨_, _, _, rfl, rfl, REL_b h rfl hmb (PL_p hP rfl hmp)⟩
      · rw [if_neg (by decide), if_neg (by decide)]
        have h0 := may_dg hy
        have ha3 : a < 3 := by omega
        have hck := chl_ok hg hc t1 t2 h0 ha3
        have hmb' : mb s0 = (m_causes ms, m_faults ms, m_strangers ms, m_tests ms, m_one ms, m_two ms, m_prior ms, m_learned ms, m_price ms, m_needs ms, m_odds ms, m_given ms) := hmb
        obtain ⟨g1, g2, g3, g4, g5, g6, g7, g8, g9, g10, g11, g12⟩ := mb_g hmb'
        rw [ix_n (j := t) (n := 7) (by omega) (by decide)]
        have gb := gS_b s0 t (nI a)
        rw [g1, g2, g3, g4, g5, g6, g7, g8, g9, g10, g11, g12] at gb
        generalize m_given_s s0 t (nI a) = s1 at gb ⊢
        obtain ⟨f1, f2, f3, f4, f5, f6, f7, f8, f9, f10, f11, f12⟩ := mb_g gb.1
        have hR1 : RM s1 g := by
          unfold RM
          rw [f1, f4, f7, f8, f9, f10, f11]
          exact hM
        have hgv : ∀ u, 1 ≤ u → u ≤ 6 → upd (m_given ms) t (nI a) u = nI (dg (chl code t a) u) - 1 := fun u u1 u2 => by
          unfold upd
          rw [chl_dg hg hc t1 t2 h0 ha3 u1 (by omega)]
          by_cases w : u = t
          · rw [if_pos w, if_pos w, nI_pred]
          · rw [if_neg w, if_neg w]; exact hG u u1 u2
        have hG1 : GV s1 (chl code t a) := fun u u1 u2 => by rw [f12]; exact hgv u u1 u2
        have hl1 := LK_lk g s1 (chl code t a)
        have hq1 := mq_lk g s1 (chl code t a)
        rw [withAns code hc.1 t (by omega) a ha3 ⟨t1, h0⟩, sb, show x_opn (x_opn_s xs (nI (code + (a + 1) * p4 t))) = nI (chl code t a) from rfl, show nI (code + (a + 1) * p4 t) = nI (chl code t a) from rfl, leftX (show RX (x_opn_s xs (nI (chl code t a))) g from hX) hg hck, sb, cntN _ hg.1, sb, nowM hck.1 hG1, sb, lookM hR1 hg hck, sb, leftM (RM_mq hR1 hq1) hg hl1, sb]
        exact ⟨_, _, _, rfl, rfl, REL_mk hP g (chl code t a) (ox_b xs _).1 (ox_b xs _).2 ((mb_mq hq1).1.trans gb.1) ((mp_mq hq1).trans (gb.2.trans hmp)) hg hl hck hX hM rfl hgv hC⟩
  · rw [k3, k4, sb, sb, if_pos rfl, if_neg (by decide)]
    exact ⟨_, _, _, rfl, rfl, REL_code h 0⟩
