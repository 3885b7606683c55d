-- PURE 79: odd of both
theorem gcd_st (a b : Nat) : Nat.gcd a b = Nat.gcd b (a % b) := by
  rw [Nat.gcd_comm a b, Nat.gcd_rec b a, Nat.gcd_comm]
theorem mod_half {b r : Nat} (h0 : 0 < r) (h1 : r < b) : 2 * (b % r) < b := by
  have h2 := Nat.mod_lt b h0
  have h3 : b % r + r ≤ b := by
    have := Nat.div_add_mod b r
    have h4 : 1 ≤ b / r := (Nat.one_le_div_iff h0).mpr (by omega)
    have h5 : r * 1 ≤ r * (b / r) := Nat.mul_le_mul_left r h4
    omega
  omega
theorem gcdX : ∀ (m a b i fuel : Nat), a < 2 ^ 63 → b < 2 ^ 63 → b < 2 ^ m → 2 * m < fuel → i + 2 * m < 200 → xl3 x_G_commonDivisor_B1 fuel (nI i) (lN b) (lN a) = some (lN (Nat.gcd a b))
  | m, a, 0, i, fuel, ha, _, _, hf, hi => by
    obtain ⟨f, rfl⟩ : ∃ f, fuel = f + 1 := ⟨fuel - 1, by omega⟩
    rw [xl3_s, x_G_commonDivisor_B1, if_neg (show ¬ (200 : Int32) ≤ nI i from nI_ge (b := 200) (by omega) (by decide)), if_pos (show lN 0 = 0 from rfl), Nat.gcd_zero_right]
  | 0, a, b + 1, i, fuel, _, _, hb, _, _ => by
    rw [Nat.pow_zero] at hb
    omega
  | m + 1, a, b + 1, i, fuel, ha, hb63, hb, hf, hi => by
    obtain ⟨f, rfl⟩ : ∃ f, fuel = f + 1 + 1 := ⟨fuel - 2, by omega⟩
    have hz : ∀ c, c < 2 ^ 63 → ¬ c = 0 → ¬ lN c = 0 := fun c hc h0 q => h0 ((pk_lEQ (b := 0) hc (by decide)).mp q)
    have hr := Nat.mod_lt a (show 0 < b + 1 by omega)
    rw [xl3_s, x_G_commonDivisor_B1, if_neg (show ¬ (200 : Int32) ≤ nI i from nI_ge (b := 200) (by omega) (by decide)), if_neg (hz (b + 1) hb63 (by omega)), dzl_n (hz (b + 1) hb63 (by omega)), lrem ha (by omega) hb63, iadd1, gcd_st a (b + 1)]
    by_cases e : a % (b + 1) = 0
    · rw [e, xl3_s, x_G_commonDivisor_B1, if_neg (show ¬ (200 : Int32) ≤ nI (i + 1) from nI_ge (b := 200) (by omega) (by decide)), if_pos (show lN 0 = 0 from rfl), Nat.gcd_zero_right]
    · have hr63 : a % (b + 1) < 2 ^ 63 := by omega
      have hh := mod_half (b := b + 1) (r := a % (b + 1)) (by omega) hr
      rw [xl3_s, x_G_commonDivisor_B1, if_neg (show ¬ (200 : Int32) ≤ nI (i + 1) from nI_ge (b := 200) (by omega) (by decide)), if_neg (hz _ hr63 e), dzl_n (hz _ hr63 e), lrem hb63 (by omega) hr63, iadd1, gcd_st (b + 1) (a % (b + 1))]
      exact gcdX m (a % (b + 1)) ((b + 1) % (a % (b + 1))) (i + 1 + 1) f hr63 (by omega) (by rw [Nat.pow_succ] at hb; omega) (by omega) (by omega)
theorem gcdM : ∀ (m a b fuel : Nat), a < 2 ^ 63 → b < 2 ^ 63 → b < 2 ^ m → 2 * m < fuel → xl2 m_M_common_B1 fuel (lN b) (lN a) = some (lN (Nat.gcd a b))
  | m, a, 0, fuel, ha, _, _, hf => by
    obtain ⟨f, rfl⟩ : ∃ f, fuel = f + 1 := ⟨fuel - 1, by omega⟩
    rw [xl2_s, m_M_common_B1, if_pos (show lN 0 ≤ 0 from by decide), Nat.gcd_zero_right]
  | 0, a, b + 1, fuel, _, _, hb, _ => by
    rw [Nat.pow_zero] at hb
    omega
  | m + 1, a, b + 1, fuel, ha, hb63, hb, hf => by
    obtain ⟨f, rfl⟩ : ∃ f, fuel = f + 1 + 1 := ⟨fuel - 2, by omega⟩
    have hz : ∀ c, c < 2 ^ 63 → ¬ c = 0 → ¬ lN c = 0 := fun c hc h0 q => h0 ((pk_lEQ (b := 0) hc (by decide)).mp q)
    have hp : ∀ c, c < 2 ^ 63 → ¬ c = 0 → ¬ lN c ≤ 0 := fun c hc h0 q => h0 ((lN_le0 hc).mp q)
    have hr := Nat.mod_lt a (show 0 < b + 1 by omega)
    rw [xl2_s, m_M_common_B1, if_neg (hp (b + 1) hb63 (by omega)), dzl_n (hz (b + 1) hb63 (by omega)), lrem ha (by omega) hb63, gcd_st a (b + 1)]
    by_cases e : a % (b + 1) = 0
    · rw [e, xl2_s, m_M_common_B1, if_pos (show lN 0 ≤ 0 from by decide), Nat.gcd_zero_right]
    · have hr63 : a % (b + 1) < 2 ^ 63 := by omega
      have hh := mod_half (b := b + 1) (r := a % (b + 1)) (by omega) hr
      rw [xl2_s, m_M_common_B1, if_neg (hp _ hr63 e), dzl_n (hz _ hr63 e), lrem hb63 (by omega) hr63, gcd_st (b + 1) (a % (b + 1))]
      exact gcdM m (a % (b + 1)) ((b + 1) % (a % (b + 1))) f hr63 (by omega) (by rw [Nat.pow_succ] at hb; omega) (by omega)
/-- the three ways of odd: an unknown cause; no weight; an answer -/
def odd3 (xs : XS) (p q : Int32) (ms' : MS) (r : Int64) : Prop :=
  (x_C_knows xs p = some 0 ∧ r = -1 ∧ m_code ms' = 0) ∨
  (x_C_knows xs p = some 1 ∧ (∃ w, x_K_weight xs (x_opn xs) = some w ∧ w ≤ 0) ∧ m_code ms' = 1) ∨
  (x_C_knows xs p = some 1 ∧ (∃ w v d, x_K_weight xs (x_opn xs) = some w ∧ ¬ w ≤ 0 ∧ x_K_weightOf xs p (x_opn xs) = some v ∧ x_G_commonDivisor w v = some d ∧ ¬ d ≤ 0 ∧ ¬ d = 0 ∧ r = if q = 0 then v / d else w / d) ∧ m_code ms' = 0)
theorem mc_b (s : MS) (v : Int32) : mb (m_code_s s v) = mb s ∧ mp (m_code_s s v) = mp s ∧ m_code (m_code_s s v) = v ∧ m_weight (m_code_s s v) = m_weight s := ⟨mb_code s v, mp_code s v, rfl, rfl⟩
theorem odd2 {k : Nat} {xs : XS} {ms : MS} (h : REL k xs ms) (p q : Int32) : ∃ r ms', m_M_odd ms p q = some (r, ms') ∧ REL k xs ms' ∧ odd3 xs p q ms' r := by
  have h' := h
  obtain ⟨g, code, hg, hl, hc, hX, hM, ho, hG, hC, hP⟩ := h'
  have hnC := hg.1
  have hM0 : RM (m_code_s ms 0) g := RM_mb hM (mb_code ms 0)
  have hG0 : GV (m_code_s ms 0) code := GV_mb hG (mb_code ms 0)
  unfold m_M_odd
  rcases kn2C hX hM0 hg p with ⟨c, c1, c2, rfl, k5, k6⟩ | ⟨k5, k6, -⟩
  · have hS := S_le hg code
    have hw := wt_le hg c code
    have hl0 := LK_lk g (m_code_s ms 0) code
    have hq := mq_lk g (m_code_s ms 0) code
    have hMl : RM (lk g (m_code_s ms 0) code) g := RM_mq hM0 hq
    have hmb : mb (lk g (m_code_s ms 0) code) = mb ms := (mb_mq hq).1.trans (mb_code ms 0)
    have hmp : mp (lk g (m_code_s ms 0) code) = mp ms := (mp_mq hq).trans (mp_code ms 0)
    rw [k6, sb, if_pos rfl, nowM hc.1 hG0, sb, lookM hM0 hg hc, sb, sumM hMl hg hl0, sb]
    generalize lk g (m_code_s ms 0) code = s7 at hl0 hMl hmb hmp
    have hrel : ∀ v, REL k xs (m_code_s s7 v) := fun v => by
      have mc := mc_b s7 v
      exact REL_b h rfl (mc.1.trans hmb) (PL_p hP rfl (mc.2.1.trans hmp))
    have hwx : x_K_weight xs (x_opn xs) = some (lN (S g code)) := by rw [ho]; exact weightS hX hg hc
    by_cases e : S g code = 0
    · have mc := mc_b s7 1
      rw [if_pos (show lN (12 * S g code) = 0 from by rw [e]; rfl), mc.2.2.1, if_neg (by decide)]
      refine ⟨_, _, rfl, hrel 1, Or.inr (Or.inl ⟨k5, ⟨_, hwx, ?_⟩, mc.2.2.1⟩)⟩
      rw [e]; decide
    · have mc := mc_b s7 0
      have hg0 : 0 < Nat.gcd (S g code) (wt g c code) := Nat.gcd_pos_of_pos_left _ (by omega)
      have hgle : Nat.gcd (S g code) (wt g c code) ≤ S g code := Nat.gcd_le_left _ (by omega)
      have hz : ¬ lN (12 * Nat.gcd (S g code) (wt g c code)) = 0 := fun z => by
        have := (pk_lEQ (b := 0) (by omega) (by decide)).mp z
        omega
      have hcm : m_M_common (lN (12 * S g code)) (lN (12 * wt g c code)) = some (lN (12 * Nat.gcd (S g code) (wt g c code))) := by
        unfold m_M_common
        rw [gcdM 50 (12 * S g code) (12 * wt g c code) 202 (by omega) (by omega) (by omega) (by decide), Nat.gcd_mul_left]
      have hcx : x_G_commonDivisor (lN (S g code)) (lN (wt g c code)) = some (lN (Nat.gcd (S g code) (wt g c code))) := by
        unfold x_G_commonDivisor
        exact gcdX 50 (S g code) (wt g c code) 0 202 (by omega) (by omega) (by omega) (by decide) (by decide)
      rw [if_neg (fun z => e (by have := (pk_lEQ (b := 0) (by omega) (by decide)).mp z; omega)), mc.2.2.1, if_pos (by decide), ix_n (n := 13) (j := c) (by omega) (by decide), mc.2.2.2, hl0.2 c c1 c2, hcm, sb, ix_n (n := 13) (j := c) (by omega) (by decide), hl0.2 c c1 c2, dzl_n hz, dzl_n hz, pk_lDiv (by omega) (by omega) (by omega), pk_lDiv (by omega) (by omega) (by omega), Nat.mul_div_mul_left _ _ (by decide), Nat.mul_div_mul_left _ _ (by decide)]
      refine ⟨if q = 0 then lN (wt g c code / Nat.gcd (S g code) (wt g c code)) else lN (S g code / Nat.gcd (S g code) (wt g c code)), m_code_s s7 0, ?_, hrel 0, Or.inr (Or.inr ⟨k5, ⟨lN (S g code), lN (wt g c code), lN (Nat.gcd (S g code) (wt g c code)), hwx, fun z => e ((lN_le0 (by omega)).mp z), ?_, hcx, fun z => ?_, fun z => ?_, ?_⟩, mc.2.2.1⟩)⟩
      · by_cases z : q = 0
        · rw [if_pos z, if_pos z]
        · rw [if_neg z, if_neg z]
      · rw [ho]; exact weightX hX hg hc c1 c2
      · have := (lN_le0 (by omega)).mp z
        omega
      · have := (pk_lEQ (b := 0) (by omega) (by decide)).mp z
        omega
      · rw [pk_lDiv (by omega) hg0 (by omega), pk_lDiv (by omega) hg0 (by omega)]
  · rw [k6, sb, if_neg (by decide)]
    exact ⟨_, _, rfl, REL_code h 0, Or.inl ⟨k5, rfl, rfl⟩⟩
