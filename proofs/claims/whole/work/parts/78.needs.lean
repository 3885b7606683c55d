-- PURE 78: needs of both
theorem msk_bs (f : Nat → Bool) : msk f = bs f 5 := by
  unfold msk bs bs bs bs bs bs
  cases f 1 <;> cases f 2 <;> cases f 3 <;> cases f 4 <;> cases f 5 <;> rfl
theorem msk_ext {f h : Nat → Bool} (e : ∀ b, 1 ≤ b → b ≤ 5 → f b = h b) : msk f = msk h := by
  unfold msk
  rw [e 1 (by decide) (by decide), e 2 (by decide) (by decide), e 3 (by decide) (by decide), e 4 (by decide) (by decide), e 5 (by decide) (by decide)]
theorem msk_or (f h : Nat → Bool) : msk f ||| msk h = msk (fun b => f b || h b) := by
  rw [msk_bs, msk_bs, msk_bs]
  apply Nat.eq_of_testBit_eq
  intro i
  rw [Nat.testBit_or, bs_test, bs_test, bs_test]
  cases decide (1 ≤ i) <;> cases decide (i ≤ 5) <;> simp
theorem msk_one : ∀ o, o < 6 → 1 ≤ o → msk (fun b => decide (b = o)) = 2 ^ o := by decide
theorem allX {xs : XS} {g : GT} (h : RX xs g) (hg : GOK g) {o : Nat} (o1 : 1 ≤ o) (o2 : o ≤ g_nT g) : x_T_allNeededBy xs (nI o) = some (nI (msk (rnds (g_ne g) 5 (g_ne g o) 5))) := by
  have hn := hg.2.1
  -- one round
  have inner : ∀ (r : Nat) (self2 : Int32 → Int32 → Option Int32) (F : Nat → Bool), xl2 (x_T_allNeededBy_B3 xs (nI r) self2) 14 (nI 1) (nI (msk F)) = self2 (nI (r + 1)) (nI (msk (rnd (g_ne g) F 5))) := by
    intro r self2 F
    have step : ∀ (k n : Nat), k < 5 → xl2 (x_T_allNeededBy_B3 xs (nI r) self2) (n + 1) (nI (k + 1)) (nI (msk (rnd (g_ne g) F k))) = xl2 (x_T_allNeededBy_B3 xs (nI r) self2) n (nI (k + 1 + 1)) (nI (msk (rnd (g_ne g) F (k + 1)))) := by
      intro k n hk
      have hm := msk_lt (rnd (g_ne g) F k)
      rw [xl2_s, x_T_allNeededBy_B3, if_neg (show ¬ (5 : Int32) < nI (k + 1) from nI_nlt (a := 5) (by omega) (by decide)), holdsN (by omega) (by omega), sb, msk_test _ (by omega) (by omega), iadd1]
      cases e : rnd (g_ne g) F k (k + 1)
      · rw [if_pos (show (if false = true then (1 : Int32) else 0) = 0 from rfl), show (0 : Int32) = nI 0 from rfl, nI_or, Nat.or_zero]
        have : msk (rnd (g_ne g) F (k + 1)) = msk (rnd (g_ne g) F k) := msk_ext fun b _ _ => by
          show (rnd (g_ne g) F k b || (rnd (g_ne g) F k (k + 1) && g_ne g (k + 1) b)) = _
          rw [e]; simp
        rw [this]
      · rw [if_neg (show ¬ (if true = true then (1 : Int32) else 0) = 0 from by decide), ix_n (by omega) (by decide), h.2.2.2.2.2.1 (k + 1) (by omega) (by omega), nI_or, msk_or]
        have : msk (rnd (g_ne g) F (k + 1)) = msk (fun b => rnd (g_ne g) F k b || g_ne g (k + 1) b) := msk_ext fun b _ _ => by
          show (rnd (g_ne g) F k b || (rnd (g_ne g) F k (k + 1) && g_ne g (k + 1) b)) = _
          rw [e]; simp
        rw [this]
    have h0 : xl2 (x_T_allNeededBy_B3 xs (nI r) self2) 14 (nI 1) (nI (msk F)) = xl2 (x_T_allNeededBy_B3 xs (nI r) self2) (13 + 1) (nI (0 + 1)) (nI (msk (rnd (g_ne g) F 0))) := rfl
    rw [h0, step 0 13 (by decide), step 1 12 (by decide), step 2 11 (by decide), step 3 10 (by decide), step 4 9 (by decide), xl2_s, x_T_allNeededBy_B3, if_pos (by decide), iadd1 r]
  have step2 : ∀ (r n : Nat), r < 5 → xl2 (x_T_allNeededBy_B2 xs) (n + 1) (nI r) (nI (msk (rnds (g_ne g) 5 (g_ne g o) r))) = xl2 (x_T_allNeededBy_B2 xs) n (nI (r + 1)) (nI (msk (rnds (g_ne g) 5 (g_ne g o) (r + 1)))) := by
    intro r n hr
    rw [xl2_s, x_T_allNeededBy_B2, if_neg (show ¬ (5 : Int32) ≤ nI r from nI_ge (b := 5) hr (by decide)), show (1 : Int32) = nI 1 from rfl, inner]
    rfl
  unfold x_T_allNeededBy
  rw [knT h hg o1 o2, sb, if_neg (by decide), ix_n (by omega) (by decide), h.2.2.2.2.2.1 o o1 (by omega)]
  unfold x_T_allNeededBy_J1
  have h0 : xl2 (x_T_allNeededBy_B2 xs) 14 (0 : Int32) (nI (msk (g_ne g o))) = xl2 (x_T_allNeededBy_B2 xs) (13 + 1) (nI 0) (nI (msk (rnds (g_ne g) 5 (g_ne g o) 0))) := rfl
  rw [h0, step2 0 13 (by decide), step2 1 12 (by decide), step2 2 11 (by decide), step2 3 10 (by decide), step2 4 9 (by decide), xl2_s, x_T_allNeededBy_B2, if_pos (by decide)]
/-- the reference's found tests -/
def FN (s : MS) (F : Nat → Bool) : Prop := ∀ b, 1 ≤ b → b ≤ 6 → m_found s b = bI (F b)
theorem mq_fs (s : MS) (j : Nat) (v : Int32) : mq (m_found_s s j v) = mq s := rfl
theorem fo_fs (s : MS) (j : Nat) (v : Int32) : m_found (m_found_s s j v) = upd (m_found s) j v := rfl
theorem nar01 : vp_nar .boolean (0 : Int32) = bI false ∧ vp_nar .boolean (1 : Int32) = bI true := by decide
theorem nb5 {s0 : MS} {g : GT} (h : RM s0 g) {a : Nat} (a1 : 1 ≤ a) (a2 : a ≤ 6) (F : Nat → Bool) (self4 : Int32 → MS → Option (Int32 × MS)) : ∀ (m b fuel : Nat) (s : MS), b + m = 7 → 1 ≤ b → m < fuel → mq s = mq s0 → (∀ j, 1 ≤ j → j ≤ 6 → m_found s j = bI (if j < b then sb1 (g_ne g) F a j else F j)) → ∃ s', xl2 (m_M_needs_B5 (nI a) self4) fuel (nI b) s = self4 (nI (a + 1)) s' ∧ mq s' = mq s0 ∧ FN s' (sb1 (g_ne g) F a)
  | 0, b, fuel, s, hb, b1, hf, hq, hF => by
    obtain ⟨f, rfl⟩ : ∃ f, fuel = f + 1 := ⟨fuel - 1, by omega⟩
    have : b = 7 := by omega
    subst this
    refine ⟨s, ?_, hq, fun j j1 j2 => ?_⟩
    · rw [xl2_s, m_M_needs_B5, if_pos (by decide), iadd1]
    · rw [hF j j1 j2, if_pos (by omega)]
  | m + 1, b, fuel, s, hb, b1, hf, hq, hF => by
    obtain ⟨f, rfl⟩ : ∃ f, fuel = f + 1 := ⟨fuel - 1, by omega⟩
    have hRs := RM_mq h hq
    have hfa : m_found s a = bI (F a) := by
      rw [hF a a1 a2]
      by_cases q : a < b
      · rw [if_pos q]
        unfold sb1
        cases F a <;> simp
      · rw [if_neg q]
    have next : ∀ v, v = sb1 (g_ne g) F a b → ∃ s', xl2 (m_M_needs_B5 (nI a) self4) f (nI (b + 1)) (m_found_s s b (bI v)) = self4 (nI (a + 1)) s' ∧ mq s' = mq s0 ∧ FN s' (sb1 (g_ne g) F a) := fun v hv => by
      refine nb5 h a1 a2 F self4 m (b + 1) f (m_found_s s b (bI v)) (by omega) (by omega) (by omega) ((mq_fs s b _).trans hq) (fun j j1 j2 => ?_)
      rw [fo_fs]
      unfold upd
      by_cases e : j = b
      · rw [if_pos e, if_pos (by omega), e, hv]
      · rw [if_neg e, hF j j1 j2]
        by_cases q : j < b
        · rw [if_pos q, if_pos (by omega)]
        · rw [if_neg q, if_neg (by omega)]
    rw [xl2_s, m_M_needs_B5, if_neg (show ¬ (7 : Int32) ≤ nI b from nI_ge (b := 7) (by omega) (by decide)), ix_n (n := 7) (j := b) (by omega) (by decide), hF b b1 (by omega), if_neg (Nat.lt_irrefl b), ix_n (n := 7) (j := b) (by omega) (by decide), ix_n (n := 7) (j := a) (by omega) (by decide), hfa, ix_n (n := 7) (j := b) (by omega) (by decide), show (7 : Int32) = nI 7 from rfl, pk_mul, nI_add, ix_n (n := 49) (j := 7 * a + b) (by omega) (by decide), hRs.2.2.2.2.2.1 a b a1 a2 b1 (by omega), nar01.1, nar01.2, iadd1]
    cases e1 : F b
    · rw [if_pos (show bI false = 0 from rfl)]
      cases e2 : F a
      · rw [if_pos (show bI false = 0 from rfl)]
        exact next false (by unfold sb1; rw [e1, e2]; rfl)
      · rw [if_neg (show ¬ bI true = 0 from by decide)]
        cases e3 : g_ne g a b
        · rw [if_pos (show (if false = true then (1 : Int32) else 0) = 0 from rfl)]
          exact next false (by unfold sb1; rw [e1, e2, e3]; rfl)
        · rw [if_neg (show ¬ (if true = true then (1 : Int32) else 0) = 0 from by decide)]
          exact next true (by unfold sb1; rw [e1, e2, e3]; rfl)
    · rw [if_neg (show ¬ bI true = 0 from by decide)]
      exact next true (by unfold sb1; rw [e1]; rfl)
theorem nb4 {s0 : MS} {g : GT} (h : RM s0 g) (r : Nat) (F : Nat → Bool) (self2 : Int32 → MS → Option (Int32 × MS)) : ∀ (m a fuel : Nat) (s : MS), a + m = 6 → m < fuel → mq s = mq s0 → FN s (rnd (g_ne g) F a) → ∃ s', xl2 (m_M_needs_B4 (nI r) self2) fuel (nI (a + 1)) s = self2 (nI (r + 1)) s' ∧ mq s' = mq s0 ∧ FN s' (rnd (g_ne g) F 6)
  | 0, a, fuel, s, ha, hf, hq, hF => by
    obtain ⟨f, rfl⟩ : ∃ f, fuel = f + 1 := ⟨fuel - 1, by omega⟩
    have : a = 6 := by omega
    subst this
    refine ⟨s, ?_, hq, hF⟩
    rw [xl2_s, m_M_needs_B4, if_pos (by decide), iadd1]
  | m + 1, a, fuel, s, ha, hf, hq, hF => by
    obtain ⟨f, rfl⟩ : ∃ f, fuel = f + 1 := ⟨fuel - 1, by omega⟩
    obtain ⟨s1, e1, e2, e3⟩ := nb5 h (a := a + 1) (by omega) (by omega) (rnd (g_ne g) F a) (xl2 (m_M_needs_B4 (nI r) self2) f) 6 1 14 s (by omega) (by omega) (by omega) hq (fun j j1 j2 => by rw [hF j j1 j2, if_neg (by omega)])
    rw [xl2_s, m_M_needs_B4, if_neg (show ¬ (7 : Int32) ≤ nI (a + 1) from nI_ge (b := 7) (by omega) (by decide)), show (1 : Int32) = nI 1 from rfl, e1]
    exact nb4 h r F self2 m (a + 1) f s1 (by omega) (by omega) e2 e3
theorem nb2 {s0 : MS} {g : GT} (h : RM s0 g) (p q : Int32) (F : Nat → Bool) : ∀ (m r fuel : Nat) (s : MS), r + m = 6 → m < fuel → mq s = mq s0 → FN s (rnds (g_ne g) 6 F r) → ∃ s' self, xl2 (m_M_needs_B2 p q) fuel (nI r) s = m_M_needs_B2 p q self (nI 6) s' ∧ mq s' = mq s0 ∧ FN s' (rnds (g_ne g) 6 F 6)
  | 0, r, fuel, s, hr, hf, hq, hF => by
    obtain ⟨f, rfl⟩ : ∃ f, fuel = f + 1 := ⟨fuel - 1, by omega⟩
    have : r = 6 := by omega
    subst this
    exact ⟨s, _, xl2_s _ _ _ _, hq, hF⟩
  | m + 1, r, fuel, s, hr, hf, hq, hF => by
    obtain ⟨f, rfl⟩ : ∃ f, fuel = f + 1 := ⟨fuel - 1, by omega⟩
    obtain ⟨s1, e1, e2, e3⟩ := nb4 h r (rnds (g_ne g) 6 F r) (xl2 (m_M_needs_B2 p q) f) 6 0 14 s (by omega) (by omega) hq hF
    rw [xl2_s, m_M_needs_B2, if_neg (show ¬ (6 : Int32) ≤ nI r from nI_ge (b := 6) (by omega) (by decide)), show (1 : Int32) = nI (0 + 1) from rfl, e1]
    exact nb2 h p q F m (r + 1) f s1 (by omega) (by omega) e2 e3
theorem nb1 (s0 : MS) (p : Int32) {o : Nat} (o2 : o ≤ 6) : ∀ (m b fuel : Nat) (s : MS), b + m = 7 → m < fuel → mq s = mq s0 → (∀ j, j < b → m_found s j = bI (decide (j = o))) → ∃ s', xl2 (m_M_needs_B1 p (nI o)) fuel (nI b) s = xl2 (m_M_needs_B2 p (nI o)) 14 (nI 0) s' ∧ mq s' = mq s0 ∧ FN s' (fun b => decide (b = o))
  | 0, b, fuel, s, hb, hf, hq, hF => by
    obtain ⟨f, rfl⟩ : ∃ f, fuel = f + 1 := ⟨fuel - 1, by omega⟩
    have : b = 7 := by omega
    subst this
    refine ⟨s, ?_, hq, fun j j1 j2 => hF j (by omega)⟩
    rw [xl2_s, m_M_needs_B1, if_pos (by decide)]
    rfl
  | m + 1, b, fuel, s, hb, hf, hq, hF => by
    obtain ⟨f, rfl⟩ : ∃ f, fuel = f + 1 := ⟨fuel - 1, by omega⟩
    have next : ∀ v, v = decide (b = o) → ∃ s', xl2 (m_M_needs_B1 p (nI o)) f (nI (b + 1)) (m_found_s s b (bI v)) = xl2 (m_M_needs_B2 p (nI o)) 14 (nI 0) s' ∧ mq s' = mq s0 ∧ FN s' (fun b => decide (b = o)) := fun v hv => by
      refine nb1 s0 p o2 m (b + 1) f (m_found_s s b (bI v)) (by omega) (by omega) ((mq_fs s b _).trans hq) (fun j hj => ?_)
      rw [fo_fs]
      unfold upd
      by_cases e : j = b
      · rw [if_pos e, e, hv]
      · rw [if_neg e]; exact hF j (by omega)
    rw [xl2_s, m_M_needs_B1, if_neg (show ¬ (7 : Int32) ≤ nI b from nI_ge (b := 7) (by omega) (by decide)), ix_n (n := 7) (j := b) (by omega) (by decide), ix_n (n := 7) (j := b) (by omega) (by decide), nar01.1, nar01.2, iadd1]
    by_cases e : b = o
    · rw [if_pos (by rw [e])]
      exact next true (by rw [decide_eq_true e])
    · rw [if_neg (fun z => e ((nI_eq (by omega) (by omega)).mp z))]
      exact next false (by rw [decide_eq_false e])
def setNe (g : GT) (f : Nat → Nat → Bool) : GT := (g.1, g.2.1, g.2.2.1, g.2.2.2.1, g.2.2.2.2.1, f, g.2.2.2.2.2.2)
def neU (g : GT) (t o : Nat) : Nat → Nat → Bool := fun t' b' => g_ne g t' b' || (decide (t' = t) && decide (b' = o))
theorem nx_b (s : XS) (t : Nat) (v : Int32) : xb (x_nee_s s t v) = (x_opn s, x_cN s, x_fN s, x_pri s, x_mem s, x_lea s, x_tN s, x_cst s, upd (x_nee s) t v, x_tab s) ∧ xp (x_nee_s s t v) = xp s := by
  constructor <;> simp only [xb, xp, x_nee_s, x_opn, x_pla, x_cN, x_fN, x_pri, x_mem, x_lea, x_tN, x_cst, x_nee, x_tab, x_nod, x_tho, x_nT, x_nL, x_nA]
theorem nm_b (s : MS) (j : Nat) (v : Int32) : mb (m_needs_s s j v) = (m_causes s, m_faults s, m_strangers s, m_tests s, m_one s, m_two s, m_prior s, m_learned s, m_price s, upd (m_needs s) j v, m_odds s, m_given s) ∧ mp (m_needs_s s j v) = mp s := by
  constructor <;> simp only [mb, mp, m_needs_s, m_causes, m_faults, m_strangers, m_tests, m_exact, m_cost, m_nodes, m_one, m_two, m_prior, m_learned, m_price, m_needs, m_odds, m_given, m_node]
theorem needs2 {k : Nat} {xs : XS} {ms : MS} (h : REL k xs ms) (p q : Int32) : ∃ r xs' ms', x_G_needs xs p q = some (r, xs') ∧ m_M_needs ms p q = some (r, ms') ∧ REL k xs' ms' := by
  have h' := h
  obtain ⟨g, code, hg, hl, hc, hX, hM, ho, hG, hC, hP⟩ := h'
  have hnT := hg.2.1
  have hM0 : RM (m_code_s ms 0) g := RM_mb hM (mb_code ms 0)
  have hR := REL_code h 0
  unfold x_G_needs m_M_needs
  rcases kn2T hX hM0 hg p with ⟨t, t1, t2, rfl, k3, k4⟩ | ⟨k3, k4⟩
  · rw [k3, k4, sb, sb, if_neg (by decide), if_pos rfl]
    rcases kn2T hX hM0 hg q with ⟨o, o1, o2, rfl, k5, k6⟩ | ⟨k5, k6⟩
    · rw [k5, k6, sb, sb, if_neg (by decide), if_pos rfl]
      by_cases e : t = o
      · rw [if_pos (by rw [e]), if_pos (by rw [e])]
        exact ⟨_, _, _, rfl, rfl, hR⟩
      · have hne : ¬ nI t = nI o := fun z => e ((nI_eq (by omega) (by omega)).mp z)
        have hN5 : ∀ x b, g_ne g x b = true → 1 ≤ b ∧ b ≤ 5 := fun x b hb => by
          have := hg.2.2.2.2.2.2 x b hb
          omega
        have hsame := clo_same hN5 o1 (by omega) e
        obtain ⟨s1, r1, r2, r3⟩ := nb1 (m_code_s ms 0) (nI t) (o := o) (by omega) 7 0 14 (m_code_s ms 0) (by omega) (by omega) rfl (fun j hj => absurd hj (Nat.not_lt_zero _))
        obtain ⟨s2, self, w1, w2, w3⟩ := nb2 hM0 (nI t) (nI o) (fun b => decide (b = o)) 6 0 14 s1 (by omega) (by omega) r2 r3
        have hm2 := msk_lt (rnds (g_ne g) 5 (g_ne g o) 5)
        have mb2 : mb s2 = mb ms := (mb_mq w2).1.trans (mb_code ms 0)
        have mp2 : mp s2 = mp ms := (mp_mq w2).trans (mp_code ms 0)
        rw [if_neg hne, if_neg hne, allX hX hg o1 o2, sb, bitN t (by omega), sb, nI_and, and_p2, msk_test _ t1 (by omega), show xl2 (m_M_needs_B1 (nI t) (nI o)) 14 (0 : Int32) (m_code_s ms 0) = _ from r1, w1, m_M_needs_B2, if_pos (show (6 : Int32) ≤ nI 6 from by decide), ix_n (n := 7) (j := t) (by omega) (by decide), w3 t t1 (by omega), hsame]
        cases hf : rnds (g_ne g) 5 (g_ne g o) 5 t
        · rw [if_pos (show nI (if false = true then 2 ^ t else 0) = 0 from rfl), if_pos (show bI false = 0 from rfl), show (7 : Int32) = nI 7 from rfl, pk_mul, nI_add, ix_n (n := 49) (j := 7 * t + o) (by omega) (by decide)]
          have hme : ∀ t', msk (neU g t o t') = if t' = t then msk (g_ne g t) ||| 2 ^ o else msk (g_ne g t') := fun t' => by
            unfold neU
            by_cases z : t' = t
            · rw [if_pos z, ← msk_one o (by omega) o1, msk_or, z]
              exact msk_ext fun b _ _ => by simp
            · rw [if_neg z]
              exact msk_ext fun b _ _ => by simp [z]
          -- the class
          have hxA : x_T_addNeed xs (nI t) (nI o) = some (nI (ct (neU g t o t) 5), x_nee_s xs t (nI (msk (neU g t o t)))) := by
            unfold x_T_addNeed
            rw [knT hX hg t1 t2, sb, if_neg (by decide), ix_n (n := 6) (j := t) (by omega) (by decide), bitN o (by omega), sb, ix_n (n := 6) (j := t) (by omega) (by decide), ix_n (n := 6) (j := t) (by omega) (by decide), hX.2.2.2.2.2.1 t t1 (by omega), nI_or, show msk (g_ne g t) ||| 2 ^ o = msk (neU g t o t) from by rw [hme t, if_pos rfl], show x_nee (x_nee_s xs t (nI (msk (neU g t o t)))) t = nI (msk (neU g t o t)) from if_pos rfl]
            rw [msk_bs, cntN _ (by decide), sb]
          -- the reference
          have hne2 : m_needs s2 = m_needs ms := by
            have := (mb_g (show mb s2 = (m_causes ms, m_faults ms, m_strangers ms, m_tests ms, m_one ms, m_two ms, m_prior ms, m_learned ms, m_price ms, m_needs ms, m_odds ms, m_given ms) from mb2))
            exact this.2.2.2.2.2.2.2.2.2.1
          have hup : ∀ t' b', 1 ≤ t' → t' ≤ 6 → 1 ≤ b' → b' ≤ 6 → upd (m_needs ms) (7 * t + o) 1 (7 * t' + b') = if neU g t o t' b' then 1 else 0 := fun t' b' q1 q2 q3 q4 => by
            unfold upd neU
            by_cases z : t' = t ∧ b' = o
            · rw [if_pos (by rw [z.1, z.2]), z.1, z.2]; simp
            · rw [if_neg (fun w => z (by omega)), hM.2.2.2.2.2.1 t' b' q1 q2 q3 q4]
              have : (decide (t' = t) && decide (b' = o)) = false := by
                rw [Bool.and_eq_false_iff, decide_eq_false_iff_not, decide_eq_false_iff_not]
                omega
              rw [this, Bool.or_false]
          have hcount : xl2 (m_M_needs_B3 (nI t) s2 (7 * t + o)) 14 (nI 1) (nI 0) = some (nI (ct (neU g t o t) 6), m_needs_s s2 (7 * t + o) 1) := by
            have step : ∀ (j n : Nat), j < 6 → xl2 (m_M_needs_B3 (nI t) s2 (7 * t + o)) (n + 1) (nI (j + 1)) (nI (ct (neU g t o t) j)) = xl2 (m_M_needs_B3 (nI t) s2 (7 * t + o)) n (nI (j + 1 + 1)) (nI (ct (neU g t o t) (j + 1))) := by
              intro j n hj
              have hrd : m_needs (m_needs_s s2 (7 * t + o) (vp_nar .boolean (1 : Int32))) (7 * t + (j + 1)) = if neU g t o t (j + 1) then 1 else 0 := by
                rw [nar01.2, ← hup t (j + 1) t1 (by omega) (by omega) (by omega), ← hne2]
                rfl
              rw [xl2_s, m_M_needs_B3, if_neg (show ¬ (7 : Int32) ≤ nI (j + 1) from nI_ge (b := 7) (by omega) (by decide)), show (7 : Int32) = nI 7 from rfl, pk_mul, nI_add, ix_n (n := 49) (j := 7 * t + (j + 1)) (by omega) (by decide), hrd, iadd1]
              show _ = xl2 (m_M_needs_B3 (nI t) s2 (7 * t + o)) n (nI (j + 1 + 1)) (nI (ct (neU g t o t) j + if neU g t o t (j + 1) then 1 else 0))
              cases neU g t o t (j + 1)
              · rfl
              · rw [if_neg (show ¬ (if true = true then (1 : Int32) else 0) = 0 from by decide), iadd1]
                rfl
            have h0 : xl2 (m_M_needs_B3 (nI t) s2 (7 * t + o)) 14 (nI 1) (nI 0) = xl2 (m_M_needs_B3 (nI t) s2 (7 * t + o)) (13 + 1) (nI (0 + 1)) (nI (ct (neU g t o t) 0)) := rfl
            rw [h0, step 0 13 (by decide), step 1 12 (by decide), step 2 11 (by decide), step 3 10 (by decide), step 4 9 (by decide), step 5 8 (by decide), xl2_s, m_M_needs_B3, if_pos (by decide), nar01.2]
            rfl
          have hct : ct (neU g t o t) 6 = ct (neU g t o t) 5 := by
            show ct (neU g t o t) 5 + (if neU g t o t 6 then 1 else 0) = _
            have : neU g t o t 6 = false := by
              unfold neU
              cases hz : g_ne g t 6
              · have : decide (6 = o) = false := decide_eq_false (by omega)
                rw [this]; simp
              · have := hN5 t 6 hz
                omega
            rw [this]; rfl
          rw [hxA, bd2_s, show xl2 (m_M_needs_B3 (nI t) s2 (7 * t + o)) 14 (1 : Int32) (0 : Int32) = _ from hcount, hct]
          have hmb2 : mb s2 = (m_causes ms, m_faults ms, m_strangers ms, m_tests ms, m_one ms, m_two ms, m_prior ms, m_learned ms, m_price ms, m_needs ms, m_odds ms, m_given ms) := mb2
          obtain ⟨g1, g2, g3, g4, g5, g6, g7, g8, g9, g10, g11, g12⟩ := mb_g hmb2
          have nb := nm_b s2 (7 * t + o) 1
          rw [g1, g2, g3, g4, g5, g6, g7, g8, g9, g10, g11, g12] at nb
          refine ⟨_, _, _, rfl, rfl, REL_mk hP (setNe g (neU g t o)) code (nx_b xs t _).1 (nx_b xs t _).2 nb.1 (nb.2.trans mp2) ⟨hg.1, hg.2.1, hg.2.2.1, hg.2.2.2.1, hg.2.2.2.2.1, hg.2.2.2.2.2.1, fun t' b' hb => ?_⟩ hl hc ⟨hX.1, hX.2.1, hX.2.2.1, hX.2.2.2.1, hX.2.2.2.2.1, fun t' q1 q2 => ?_, hX.2.2.2.2.2.2⟩ ⟨hM.1, hM.2.1, hM.2.2.1, hM.2.2.2.1, hM.2.2.2.2.1, hup, hM.2.2.2.2.2.2⟩ ho hG hC⟩
          · have hb' : (g_ne g t' b' || (decide (t' = t) && decide (b' = o))) = true := hb
            show 1 ≤ b' ∧ b' ≤ g_nT g
            rw [Bool.or_eq_true, Bool.and_eq_true, decide_eq_true_eq, decide_eq_true_eq] at hb'
            rcases hb' with z | z
            · exact hg.2.2.2.2.2.2 t' b' z
            · rw [z.2]; exact ⟨o1, o2⟩
          · show (if t' = t then nI (msk (neU g t o t)) else x_nee xs t') = nI (msk (neU g t o t'))
            by_cases z : t' = t
            · rw [if_pos z, z]
            · rw [if_neg z, hme t', if_neg z]
              exact hX.2.2.2.2.2.1 t' q1 q2
        · have hpw : ¬ nI (if true = true then 2 ^ t else 0) = 0 := by
            have h32 : 2 ^ t ≤ 2 ^ 5 := Nat.pow_le_pow_right (by decide) (by omega)
            have hp : 0 < 2 ^ t := Nat.pow_pos (by decide)
            rw [if_pos rfl]
            exact nI_ne0 hp (by omega)
          rw [if_neg hpw, if_neg (show ¬ bI true = 0 from by decide)]
          exact ⟨_, _, _, rfl, rfl, REL_b h rfl mb2 (PL_p hP rfl mp2)⟩
    · rw [k5, k6, sb, sb, if_pos rfl, if_neg (by decide)]
      exact ⟨_, _, _, rfl, rfl, hR⟩
  · rw [k3, k4, sb, sb, if_pos rfl, if_neg (by decide)]
    exact ⟨_, _, _, rfl, rfl, hR⟩
