-- PURE 75: pair of both
theorem or_inj {a b c d : Nat} (h1 : a < b) (h2 : c < d) (h : 2 ^ a ||| 2 ^ b = 2 ^ c ||| 2 ^ d) : a = c ∧ b = d := by
  have t : ∀ i, (a = i ∨ b = i) ↔ (c = i ∨ d = i) := fun i => by
    have e : (2 ^ a ||| 2 ^ b).testBit i = (2 ^ c ||| 2 ^ d).testBit i := by rw [h]
    rw [Nat.testBit_or, Nat.testBit_or, Nat.testBit_two_pow, Nat.testBit_two_pow, Nat.testBit_two_pow, Nat.testBit_two_pow, Bool.eq_iff_iff] at e
    simp only [Bool.or_eq_true, decide_eq_true_eq] at e
    exact e
  have ta := t a
  have tb := t b
  have tc := t c
  have td := t d
  omega
theorem or_lt : ∀ b, b < 13 → ∀ a, a < 13 → 2 ^ a ||| 2 ^ b < 8192 ∧ 0 < 2 ^ a ||| 2 ^ b := by decide +kernel
theorem isF2 {xs : XS} {ms : MS} {g : GT} (h : RX xs g) (hm : RM ms g) (hg : GOK g) (hC : CP xs ms g) (p : Int32) : (∃ c, 1 ≤ c ∧ c ≤ g_nC g ∧ p = nI c ∧ x_C_isFault xs p = some 1 ∧ m_M_noFault ms p = some 0) ∨ (x_C_isFault xs p = some 0 ∧ m_M_noFault ms p = some 1) := by
  have hn := hg.1
  unfold x_C_isFault m_M_noFault
  rcases kn2C h hm hg p with ⟨c, k1, k2, rfl, k3, k4⟩ | ⟨k3, k4, -⟩
  · rw [k3, k4, sb, sb, if_neg (by decide), if_pos rfl, ix_n (by omega) (by decide), ix_n (by omega) (by decide), ix_n (by omega) (by decide)]
    rcases hC.2.2.2.1 c k1 k2 with ⟨q1, q2⟩ | ⟨lo, hi, l1, l2, l3, l4, l5, l6⟩
    · rw [if_pos q1, if_pos q2]
      exact Or.inl ⟨c, k1, k2, rfl, rfl, rfl⟩
    · have ho := or_lt hi (by omega) lo (by omega)
      rw [l4, l5, l6, if_neg (nI_ne0 ho.2 (by omega)), if_neg (fun z => by have := (nI_eq (a := lo) (b := hi) (by omega) (by omega)).mp z; omega)]
      exact Or.inr ⟨rfl, rfl⟩
  · rw [k3, k4, sb, sb, if_pos rfl, if_neg (by decide)]
    exact Or.inr ⟨rfl, rfl⟩
theorem px_b (s : XS) (v : Int32) (j : Nat) (z : Int64) (w : Int32) : xb (x_mem_s (x_pri_s (x_cN_s s v) j z) j w) = (x_opn s, v, x_fN s, vp_updL (x_pri s) j z, upd (x_mem s) j w, x_lea s, x_tN s, x_cst s, x_nee s, x_tab s) ∧ xp (x_mem_s (x_pri_s (x_cN_s s v) j z) j w) = xp s := by
  constructor <;> simp only [xb, xp, x_mem_s, x_pri_s, x_cN_s, x_opn, x_pla, x_cN, x_fN, x_pri, x_mem, x_lea, x_tN, x_cst, x_nee, x_tab, x_nod, x_tho, x_nT, x_nL, x_nA]
theorem pm_b (s : MS) (ca : Int32) (j : Nat) (x y : Int32) (z : Int64) : mb (m_prior_s (m_two_s (m_one_s (m_causes_s (m_code_s s 0) ca) j x) j y) j z) = (ca, m_faults s, m_strangers s, m_tests s, upd (m_one s) j x, upd (m_two s) j y, vp_updL (m_prior s) j z, m_learned s, m_price s, m_needs s, m_odds s, m_given s) ∧ mp (m_prior_s (m_two_s (m_one_s (m_causes_s (m_code_s s 0) ca) j x) j y) j z) = mp s := by
  constructor <;> simp only [mb, mp, m_prior_s, m_two_s, m_one_s, m_causes_s, m_code_s, m_causes, m_faults, m_strangers, m_tests, m_exact, m_cost, m_nodes, m_one, m_two, m_prior, m_learned, m_price, m_needs, m_odds, m_given, m_node]
theorem on_co (s : MS) (v : Int32) : m_one (m_code_s s v) = m_one s := rfl
theorem tw_co (s : MS) (v : Int32) : m_two (m_code_s s v) = m_two s := rfl
theorem pairJ {k : Nat} {xs : XS} {ms : MS} {g : GT} {code : Nat} (hg : GOK g) (hl : ∀ c, g_le g c ≤ k) (hc : COK g code) (hX : RX xs g) (hM : RM ms g) (ho : x_opn xs = nI code) (hG : GV ms code) (hC : CP xs ms g) (hP : PL xs ms) {a b lo hi : Nat} (a1 : 1 ≤ a) (a2 : a ≤ g_nC g) (b1 : 1 ≤ b) (b2 : b ≤ g_nC g) (hl1 : 1 ≤ lo) (hlh : lo < hi) (hh : hi ≤ 12) (hor : 2 ^ a ||| 2 ^ b = 2 ^ lo ||| 2 ^ hi) :
    ∃ r xs' ms', ((x_C_hasPair xs (nI (2 ^ a) ||| nI (2 ^ b))).bind fun r13 => if r13 = 0 then if (x_cN xs) < (12 : Int32) then bd2 (x_C_addPair xs (nI a) (nI b)) fun r18 s17 => some (r18, s17) else some ((-4 : Int32), xs) else some ((-3 : Int32), xs)) = some (r, xs') ∧ m_M_pair_J2 ms (nI a) (nI b) (nI lo) (nI hi) = some (r, ms') ∧ REL k xs' ms' := by
  have hn := hg.1
  have hC' := hC
  obtain ⟨f1, c2, c3, c4, c5⟩ := hC'
  have hR : REL k xs (m_code_s ms 0) := REL_code ⟨g, code, hg, hl, hc, hX, hM, ho, hG, hC, hP⟩ 0
  have hlt := or_lt hi (by omega) lo (by omega)
  rw [nI_or, hor]
  -- the class looks at all members
  have hx : x_C_hasPair xs (nI (2 ^ lo ||| 2 ^ hi)) = if anyN (fun j => decide (x_mem xs j = nI (2 ^ lo ||| 2 ^ hi))) 1 12 then some 1 else some 0 := by
    unfold x_C_hasPair
    have := xl1_any (x_C_hasPair_B1 xs (nI (2 ^ lo ||| 2 ^ hi))) 13 (fun j => decide (x_mem xs j = nI (2 ^ lo ||| 2 ^ hi))) (some 1) (some 0) 14 1 (by omega) (by omega) ?_ ?_
    · exact this
    · intro j self j1 j2
      unfold x_C_hasPair_B1
      rw [if_neg (show ¬ (12 : Int32) < nI j from nI_nlt (a := 12) (by omega) (by decide)), ix_n (by omega) (by decide), iadd1]
      by_cases e : x_mem xs j = nI (2 ^ lo ||| 2 ^ hi)
      · rw [if_pos e]; simp only [decide_eq_true e, if_true]
      · rw [if_neg e]; simp only [decide_eq_false e, Bool.false_eq_true, if_false]
    · intro self
      unfold x_C_hasPair_B1
      rw [if_pos (by decide)]
  have hany : anyN (fun j => decide (x_mem xs j = nI (2 ^ lo ||| 2 ^ hi))) 1 12 = anyN (fun j => decide (m_one ms j = nI lo) && decide (m_two ms j = nI hi)) 1 (g_nC g) := by
    rw [Bool.eq_iff_iff, anyN_iff, anyN_iff]
    constructor
    · rintro ⟨j, j1, j2, j3⟩
      have j3' := of_decide_eq_true j3
      have hj : j ≤ g_nC g := by
        rcases (show j ≤ g_nC g ∨ g_nC g < j by omega) with z | z
        · exact z
        · rw [c5 j z (by omega)] at j3'
          exact absurd j3'.symm (nI_ne0 hlt.2 (by omega))
      refine ⟨j, j1, by omega, ?_⟩
      rcases c4 j j1 hj with ⟨q1, -⟩ | ⟨lo', hi', l1, l2, l3, l4, l5, l6⟩
      · rw [q1] at j3'
        exact absurd j3'.symm (nI_ne0 hlt.2 (by omega))
      · rw [l4] at j3'
        have ho' := or_lt hi' (by omega) lo' (by omega)
        have := (nI_eq (by omega) (by omega)).mp j3'
        obtain ⟨r1, r2⟩ := or_inj l2 hlh this
        show (decide (m_one ms j = nI lo) && decide (m_two ms j = nI hi)) = true
        rw [l5, l6, r1, r2]
        simp
    · rintro ⟨j, j1, j2, j3⟩
      simp only [Bool.and_eq_true, decide_eq_true_eq] at j3
      refine ⟨j, j1, by omega, decide_eq_true ?_⟩
      rcases c4 j j1 (by omega) with ⟨-, q2⟩ | ⟨lo', hi', l1, l2, l3, l4, l5, l6⟩
      · rw [j3.1, j3.2] at q2
        have := (nI_eq (a := lo) (b := hi) (by omega) (by omega)).mp q2
        omega
      · have r1 := (nI_eq (by omega) (by omega)).mp (l5.symm.trans j3.1)
        have r2 := (nI_eq (by omega) (by omega)).mp (l6.symm.trans j3.2)
        rw [l4, r1, r2]
  have hm : ∀ o0, (∀ self, m_M_pair_B3 ms (nI a) (nI b) (nI lo) (nI hi) self (nI (g_nC g + 1)) = o0) → m_M_pair_J2 ms (nI a) (nI b) (nI lo) (nI hi) = if anyN (fun j => decide (m_one ms j = nI lo) && decide (m_two ms j = nI hi)) 1 (g_nC g) then some (-3, m_code_s ms 0) else o0 := by
    intro o0 h0
    unfold m_M_pair_J2
    have := xl1_any (m_M_pair_B3 ms (nI a) (nI b) (nI lo) (nI hi)) (g_nC g + 1) (fun j => decide (m_one ms j = nI lo) && decide (m_two ms j = nI hi)) (some (-3, m_code_s ms 0)) o0 14 1 (by omega) (by omega) ?_ h0
    · rw [Nat.add_sub_cancel] at this
      exact this
    · intro j self j1 j2
      rw [m_M_pair_B3, ca_co, hM.1, if_neg (nI_nlt (by omega) (by omega)), ix_n (by omega) (by decide), ix_n (by omega) (by decide), on_co, tw_co, iadd1]
      by_cases e : m_one ms j = nI lo
      · rw [if_pos e, decide_eq_true e]
        by_cases e2 : m_two ms j = nI hi
        · rw [if_pos e2, decide_eq_true e2]; rfl
        · rw [if_neg e2, decide_eq_false e2]; rfl
      · rw [if_neg e, decide_eq_false e]; rfl
  rw [hx, hany]
  by_cases e6 : g_nC g = 12
  · rw [hm (some (-4, m_code_s ms 0)) (fun self => by
      rw [m_M_pair_B3, ca_co, hM.1, if_pos (nI_lt (by omega) (by omega)), if_pos (by rw [e6]; rfl)])]
    cases anyN (fun j => decide (m_one ms j = nI lo) && decide (m_two ms j = nI hi)) 1 (g_nC g)
    · simp only [Bool.false_eq_true, if_false]
      rw [sb, if_pos rfl, hX.1, if_neg (show ¬ nI (g_nC g) < (12 : Int32) from by rw [e6]; decide)]
      exact ⟨_, _, _, rfl, rfl, hR⟩
    · simp only [if_true]
      rw [sb, if_neg (by decide)]
      exact ⟨_, _, _, rfl, rfl, hR⟩
  · have ha := hg.2.2.1 a
    have hb := hg.2.2.1 b
    have hpa : g_pr g a / 2520 ≤ 2520 := by omega
    have hpb : g_pr g b / 2520 ≤ 2520 := by omega
    have hpv : g_pr g a / 2520 * (g_pr g b / 2520) ≤ 6350400 := Nat.mul_le_mul hpa hpb
    have hpe : lN (g_pr g a) / (2520 : Int64) * (lN (g_pr g b) / (2520 : Int64)) = lN (g_pr g a / 2520 * (g_pr g b / 2520)) := by
      rw [show (2520 : Int64) = lN 2520 from rfl, pk_lDiv (by omega) (by decide) (by decide), pk_lDiv (by omega) (by decide) (by decide), lN_mul]
    rw [hm (some (nI (g_nC g + 1), m_prior_s (m_two_s (m_one_s (m_causes_s (m_code_s ms 0) (nI (g_nC g + 1))) (g_nC g + 1) (nI lo)) (g_nC g + 1) (nI hi)) (g_nC g + 1) (lN (g_pr g a / 2520 * (g_pr g b / 2520))))) (fun self => by
      rw [m_M_pair_B3, ca_co, hM.1, if_pos (nI_lt (by omega) (by omega)), if_neg (show ¬ nI (g_nC g) = (12 : Int32) from fun z => e6 ((nI_eq (b := 12) (by omega) (by decide)).mp z))]
      simp only [ca_ca, ca_on, ca_tw, ca_pr, iadd1, pr_tw, pr_on, pr_ca, pr_co]
      rw [ix_n (by omega) (by decide), ix_n (by omega) (by decide), ix_n (by omega) (by decide), ix_n (by omega) (by decide), ix_n (by omega) (by decide), hM.2.2.1 a a1 a2, hM.2.2.1 b b1 b2, hpe])]
    cases anyN (fun j => decide (m_one ms j = nI lo) && decide (m_two ms j = nI hi)) 1 (g_nC g)
    · simp only [Bool.false_eq_true, if_false]
      rw [sb, if_pos rfl, hX.1, if_pos (show nI (g_nC g) < (12 : Int32) from nI_lt (b := 12) (by omega) (by decide))]
      unfold x_C_addPair
      rw [hX.1, if_neg (show ¬ (12 : Int32) ≤ nI (g_nC g) from nI_ge (b := 12) (by omega) (by decide)), knC hX hg a1 a2, sb, if_neg (by decide), knC hX hg b1 b2, sb, if_neg (by decide), bitN a (by omega), bitN b (by omega)]
      simp only [cN_cN, cN_pri, cN_mem, pri_cN, iadd1, sb]
      rw [ix_n (by omega) (by decide), ix_n (by omega) (by decide), ix_n (by omega) (by decide), ix_n (by omega) (by decide), bd2_s, hX.2.2.1 a a1 a2, hX.2.2.1 b b1 b2, hpe, nI_or, hor]
      have pm := pm_b ms (nI (g_nC g + 1)) (g_nC g + 1) (nI lo) (nI hi) (lN (g_pr g a / 2520 * (g_pr g b / 2520)))
      have px := px_b xs (nI (g_nC g + 1)) (g_nC g + 1) (lN (g_pr g a / 2520 * (g_pr g b / 2520))) (nI (2 ^ lo ||| 2 ^ hi))
      refine ⟨_, _, _, rfl, rfl, REL_mk hP (addC g (g_pr g a / 2520 * (g_pr g b / 2520))) code px.1 px.2 pm.1 pm.2 (GOK_addC hg (by omega) hpv) hl hc ⟨rfl, hX.2.1, updL_N hX.2.2.1, fun c q1 q2 => (c2 c q1 (Nat.le_trans q2 (by show g_nC g + 1 ≤ 12; omega))).1, hX.2.2.2.2⟩ ⟨rfl, hM.2.1, updL_N hM.2.2.1, fun c q1 q2 => (c2 c q1 (Nat.le_trans q2 (by show g_nC g + 1 ≤ 12; omega))).2, hM.2.2.2.2⟩ ho hG ⟨f1, c2, c3, fun c q1 q2 => ?_, fun c q1 q2 => ?_⟩⟩
      · have q2' : c ≤ g_nC g + 1 := q2
        unfold upd
        by_cases z : c = g_nC g + 1
        · rw [if_pos z, if_pos z, if_pos z]
          exact Or.inr ⟨lo, hi, hl1, hlh, hh, rfl, rfl, rfl⟩
        · rw [if_neg z, if_neg z, if_neg z]
          exact c4 c q1 (by omega)
      · have q1' : g_nC g + 1 < c := q1
        exact (if_neg (by omega)).trans (c5 c (by omega) q2)
    · simp only [if_true]
      rw [sb, if_neg (by decide)]
      exact ⟨_, _, _, rfl, rfl, hR⟩
theorem pair2 {k : Nat} {xs : XS} {ms : MS} (h : REL k xs ms) (p q : Int32) : ∃ r xs' ms', x_G_pair xs p q = some (r, xs') ∧ m_M_pair ms p q = some (r, ms') ∧ REL k xs' ms' := by
  have h' := h
  obtain ⟨g, code, hg, hl, hc, hX, hM, ho, hG, hC, hP⟩ := h'
  have hn := hg.1
  have hM0 : RM (m_code_s ms 0) g := RM_mb hM (mb_code ms 0)
  have hC0 : CP xs (m_code_s ms 0) g := CP_b hC rfl (mb_code ms 0)
  have hR := REL_code h 0
  unfold x_G_pair m_M_pair
  rcases isF2 hX hM0 hg hC0 p with ⟨a, a1, a2, rfl, a3, a4⟩ | ⟨a3, a4⟩
  · rw [a3, a4, sb, sb, if_neg (by decide), if_pos rfl]
    rcases isF2 hX hM0 hg hC0 q with ⟨b, b1, b2, rfl, b3, b4⟩ | ⟨b3, b4⟩
    · rw [b3, b4, sb, sb, if_neg (by decide), if_pos rfl]
      by_cases e : a = b
      · rw [if_pos (by rw [e]), if_pos (by rw [e])]
        exact ⟨_, _, _, rfl, rfl, hR⟩
      · have hne : ¬ nI a = nI b := fun z => e ((nI_eq (by omega) (by omega)).mp z)
        rw [if_neg hne, if_neg hne, bitN a (by omega), sb, bitN b (by omega), sb]
        by_cases e2 : b ≤ a
        · rw [if_pos (nI_le e2 (by omega)), m_M_pair_J1, if_pos (nI_le e2 (by omega))]
          exact pairJ hg hl hc hX hM ho hG hC hP a1 a2 b1 b2 b1 (by omega) (by omega) (Nat.or_comm _ _)
        · rw [if_neg (nI_ge (by omega) (by omega)), m_M_pair_J1, if_neg (nI_ge (by omega) (by omega))]
          exact pairJ hg hl hc hX hM ho hG hC hP a1 a2 b1 b2 a1 (by omega) (by omega) rfl
    · rw [b3, b4, sb, sb, if_pos rfl, if_neg (by decide)]
      exact ⟨_, _, _, rfl, rfl, hR⟩
  · rw [a3, a4, sb, sb, if_pos rfl, if_neg (by decide)]
    exact ⟨_, _, _, rfl, rfl, hR⟩
