-- PURE 80: both states at the start
def g0 : GT := (0, 0, fun _ => 0, fun _ => 0, fun _ => 0, fun _ _ => false, fun _ _ a => if a = 0 then 12 else 0)
theorem GOK_0 : GOK g0 := ⟨by decide, by decide, fun _ => Nat.zero_le _, fun _ => Nat.zero_le _, fun _ => Nat.zero_le _, fun _ _ => Nat.le_refl 12, fun _ _ h => by cases h⟩
/-- the parts that the reference's constructor leaves alone -/
def mi (s : MS) : Int32 × Int32 × Int32 × Int32 × (Nat → Int32) × (Nat → Int32) × (Nat → Int64) × (Nat → Int32) × (Nat → Int64) × (Nat → Int32) × Int32 × Int64 × Int32 :=
  (m_causes s, m_faults s, m_strangers s, m_tests s, m_one s, m_two s, m_prior s, m_learned s, m_price s, m_needs s, m_exact s, m_cost s, m_nodes s)
theorem mi_od (s : MS) (j : Nat) (v : Int32) : mi (m_odds_s s j v) = mi s := rfl
theorem mi_gi (s : MS) (j : Nat) (v : Int32) : mi (m_given_s s j v) = mi s := rfl
theorem od_od (s : MS) (j : Nat) (v : Int32) : m_odds (m_odds_s s j v) = upd (m_odds s) j v := rfl
theorem od_gi (s : MS) (j : Nat) (v : Int32) : m_odds (m_given_s s j v) = m_odds s := rfl
theorem gi_gi (s : MS) (j : Nat) (v : Int32) : m_given (m_given_s s j v) = upd (m_given s) j v := rfl
theorem init2 (O : Nat → Int32) : ∀ (m i fuel : Nat) (s : MS), i + m = 7 → m < fuel → mi s = mi m_st0 → m_odds s = O → (∀ j, j < i → m_given s j = -1) → ∃ s', xl2 m_M_init_B2 fuel (nI i) s = some s' ∧ mi s' = mi m_st0 ∧ m_odds s' = O ∧ (∀ j, j < 7 → m_given s' j = -1)
  | 0, i, fuel, s, hi, hf, h1, h2, h3 => by
    obtain ⟨f, rfl⟩ : ∃ f, fuel = f + 1 := ⟨fuel - 1, by omega⟩
    have : i = 7 := by omega
    subst this
    refine ⟨s, ?_, h1, h2, h3⟩
    rw [xl2_s, m_M_init_B2, if_pos (by decide)]
  | m + 1, i, fuel, s, hi, hf, h1, h2, h3 => by
    obtain ⟨f, rfl⟩ : ∃ f, fuel = f + 1 := ⟨fuel - 1, by omega⟩
    rw [xl2_s, m_M_init_B2, if_neg (show ¬ (7 : Int32) ≤ nI i from nI_ge (b := 7) (by omega) (by decide)), ix_n (by omega) (by decide), iadd1]
    refine init2 O m (i + 1) f _ (by omega) (by omega) ((mi_gi s i _).trans h1) ((od_gi s i _).trans h2) (fun j hj => ?_)
    rw [gi_gi]
    unfold upd
    by_cases e : j = i
    · rw [if_pos e]
    · rw [if_neg e]; exact h3 j (by omega)
theorem init1 : ∀ (m i fuel : Nat) (s : MS), i + m = 273 → m < fuel → mi s = mi m_st0 → (∀ j, j < i → m_odds s j = nI (if j % 3 = 0 then 12 else 0)) → ∃ s', xl2 m_M_init_B1 fuel (nI i) s = some s' ∧ mi s' = mi m_st0 ∧ (∀ j, j < 273 → m_odds s' j = nI (if j % 3 = 0 then 12 else 0)) ∧ (∀ j, j < 7 → m_given s' j = -1)
  | 0, i, fuel, s, hi, hf, h1, h2 => by
    obtain ⟨f, rfl⟩ : ∃ f, fuel = f + 1 := ⟨fuel - 1, by omega⟩
    have : i = 273 := by omega
    subst this
    obtain ⟨s', a1, a2, a3, a4⟩ := init2 (m_odds s) 7 0 300 s (by decide) (by decide) h1 rfl (fun j hj => absurd hj (Nat.not_lt_zero _))
    refine ⟨s', ?_, a2, fun j hj => by rw [a3]; exact h2 j hj, a4⟩
    rw [xl2_s, m_M_init_B1, if_pos (by decide)]
    exact a1
  | m + 1, i, fuel, s, hi, hf, h1, h2 => by
    obtain ⟨f, rfl⟩ : ∃ f, fuel = f + 1 := ⟨fuel - 1, by omega⟩
    have hm : i % 3 < 3 := Nat.mod_lt _ (by decide)
    have next : ∀ v : Int32, v = nI (if i % 3 = 0 then 12 else 0) → ∃ s', xl2 m_M_init_B1 f (nI (i + 1)) (m_odds_s s i v) = some s' ∧ mi s' = mi m_st0 ∧ (∀ j, j < 273 → m_odds s' j = nI (if j % 3 = 0 then 12 else 0)) ∧ (∀ j, j < 7 → m_given s' j = -1) := fun v hv => by
      refine init1 m (i + 1) f (m_odds_s s i v) (by omega) (by omega) ((mi_od s i v).trans h1) (fun j hj => ?_)
      rw [od_od]
      unfold upd
      by_cases e : j = i
      · rw [if_pos e, hv, e]
      · rw [if_neg e]; exact h2 j (by omega)
    rw [xl2_s, m_M_init_B1, if_neg (show ¬ (273 : Int32) ≤ nI i from nI_ge (b := 273) (by omega) (by decide)), ix_n (by omega) (by decide), ix_n (by omega) (by decide), iadd1, show (3 : Int32) = nI 3 from rfl, pk_rem (by omega) (by decide) (by decide)]
    by_cases e : i % 3 = 0
    · rw [if_pos (by rw [e]; rfl)]
      exact next 12 (by rw [if_pos e]; rfl)
    · rw [if_neg (nI_ne0 (by omega) (by omega))]
      exact next 0 (by rw [if_neg e]; rfl)
theorem initM : ∃ s, m_M_init = some s ∧ mi s = mi m_st0 ∧ (∀ j, j < 273 → m_odds s j = nI (if j % 3 = 0 then 12 else 0)) ∧ (∀ j, j < 7 → m_given s j = -1) := by
  unfold m_M_init
  exact init1 273 0 300 m_st0 (by decide) (by decide) rfl (fun j hj => absurd hj (Nat.not_lt_zero _))
theorem x0_b : xb x_st0 = (0, 0, 0, fun _ => 0, fun _ => 0, fun _ => 0, 0, fun _ => 0, fun _ => 0, x_tab x_st0) ∧ xp x_st0 = (0, -1, 0, fun _ => 0, fun _ => 0, fun _ => 0) := by
  constructor <;> simp only [xb, xp, x_st0, x_opn, x_pla, x_cN, x_fN, x_pri, x_mem, x_lea, x_tN, x_cst, x_nee, x_tab, x_nod, x_tho, x_nT, x_nL, x_nA]
theorem m0_b : mi m_st0 = (0, 0, 0, 0, fun _ => 0, fun _ => 0, fun _ => 0, fun _ => 0, fun _ => 0, fun _ => 0, 0, -1, 0) := by
  simp only [mi, m_st0, m_causes, m_faults, m_strangers, m_tests, m_exact, m_cost, m_nodes, m_one, m_two, m_prior, m_learned, m_price, m_needs]
theorem REL_0 : ∃ s, m_M_init = some s ∧ REL 0 x_st0 s := by
  obtain ⟨s, a1, a2, a3, a4⟩ := initM
  refine ⟨s, a1, ?_⟩
  rw [m0_b] at a2
  unfold mi at a2
  simp only [Prod.mk.injEq] at a2
  obtain ⟨b1, b2, b3, b4, b5, b6, b7, b8, b9, b10, b11, b12, b13⟩ := a2
  have hx := x0_b.1
  have hp := x0_b.2
  unfold xp at hp
  simp only [Prod.mk.injEq] at hp
  obtain ⟨p1, p2, p3, -⟩ := hp
  have hP : PL x_st0 s := ⟨by rw [p1, b11], Or.inl p1, by rw [p2, b12], [], ⟨by decide, by rw [p3]; rfl, fun i hi => absurd hi (Nat.not_lt_zero _)⟩, ⟨by decide, by rw [b13]; rfl, fun i hi => absurd hi (Nat.not_lt_zero _)⟩⟩
  have hm : mb s = (0, 0, 0, 0, fun _ => 0, fun _ => 0, fun _ => 0, fun _ => 0, fun _ => 0, fun _ => 0, m_odds s, m_given s) := by
    unfold mb
    rw [b1, b2, b3, b4, b5, b6, b7, b8, b9, b10]
  have hz : ∀ c, 1 ≤ c → ¬ c ≤ g_nC g0 := fun c c1 c2 => by
    have : c ≤ 0 := c2
    omega
  refine REL_mk hP g0 0 hx rfl hm rfl GOK_0 (fun _ => Nat.le_refl _) (COK_0 g0) ⟨rfl, rfl, fun c c1 c2 => absurd c2 (hz c c1), fun c c1 c2 => absurd c2 (hz c c1), fun c c1 c2 => absurd c2 (hz c c1), fun t _ _ => rfl, fun t c t1 t2 c1 c2 => ?_⟩ ⟨rfl, rfl, fun c c1 c2 => absurd c2 (hz c c1), fun c c1 c2 => absurd c2 (hz c c1), fun c c1 c2 => absurd c2 (hz c c1), fun t b _ _ _ _ => rfl, fun t c a t1 t2 c1 c2 ha => ?_⟩ rfl (fun t t1 t2 => ?_) ⟨⟨0, by decide, rfl, rfl⟩, fun c _ _ => ⟨rfl, rfl⟩, rfl, fun c c1 c2 => absurd c2 (hz c c1), fun c _ _ => rfl⟩
  · show (if t = 0 then (fun _ => (0 : Int32)) else (fun j => if j < 13 then (12 : Int32) else (fun _ => 0) j)) c = nI 12
    rw [if_neg (by omega)]
    show (if c < 13 then (12 : Int32) else 0) = nI 12
    rw [if_pos (by omega)]
    rfl
  · rw [a3 _ (by omega)]
    show nI (if (39 * t + 3 * c + a) % 3 = 0 then 12 else 0) = nI (if a = 0 then 12 else 0)
    by_cases e : a = 0
    · rw [if_pos e, if_pos (by omega)]
    · rw [if_neg e, if_neg (by omega)]
  · rw [a4 t (by omega), dg_0]
    decide
