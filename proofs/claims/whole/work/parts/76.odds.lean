-- PURE 76: odds of both
theorem msk13 : ∀ a, a < 13 → ∀ b, b < 13 → ∀ c, c < 13 → nI (a + 16 * b + 256 * c) &&& (((15 : Int32) <<< (((4 : Int32) * nI 0) &&& 31)) ^^^ (-1 : Int32)) = nI (0 + 16 * b + 256 * c) ∧ nI (a + 16 * b + 256 * c) &&& (((15 : Int32) <<< (((4 : Int32) * nI 1) &&& 31)) ^^^ (-1 : Int32)) = nI (a + 16 * 0 + 256 * c) ∧ nI (a + 16 * b + 256 * c) &&& (((15 : Int32) <<< (((4 : Int32) * nI 2) &&& 31)) ^^^ (-1 : Int32)) = nI (a + 16 * b + 256 * 0) := by decide +kernel
theorem orr13 : ∀ a, a < 13 → ∀ b, b < 13 → ∀ c, c < 13 → nI (0 + 16 * b + 256 * c) ||| nI a <<< (((4 : Int32) * nI 0) &&& 31) = nI (a + 16 * b + 256 * c) ∧ nI (a + 16 * 0 + 256 * c) ||| nI b <<< (((4 : Int32) * nI 1) &&& 31) = nI (a + 16 * b + 256 * c) ∧ nI (a + 16 * b + 256 * 0) ||| nI c <<< (((4 : Int32) * nI 2) &&& 31) = nI (a + 16 * b + 256 * c) := by decide +kernel
def odU (g : GT) (t c a v : Nat) : Nat → Nat → Nat → Nat := fun t' c' a' => if t' = t ∧ c' = c ∧ a' = a then v else g_od g t' c' a'
def setOd (g : GT) (t c a v : Nat) : GT := (g.1, g.2.1, g.2.2.1, g.2.2.2.1, g.2.2.2.2.1, g.2.2.2.2.2.1, odU g t c a v)
/-- the twelfths of all three answers, one of them new -/
def tog (g : GT) (t c a v : Nat) : Nat := g_od g t c 0 + g_od g t c 1 + g_od g t c 2 - g_od g t c a + v
theorem od_a_le (g : GT) (t c : Nat) {a : Nat} (ha : a < 3) : g_od g t c a ≤ g_od g t c 0 + g_od g t c 1 + g_od g t c 2 := by
  match a, ha with
  | 0, _ => omega
  | 1, _ => omega
  | 2, _ => omega
theorem GOK_od {g : GT} (h : GOK g) {t c a v : Nat} (ha : a < 3) (hv : tog g t c a v ≤ 12) : GOK (setOd g t c a v) := by
  refine ⟨h.1, h.2.1, h.2.2.1, h.2.2.2.1, h.2.2.2.2.1, fun t' c' => ?_, h.2.2.2.2.2.2⟩
  show odU g t c a v t' c' 0 + odU g t c a v t' c' 1 + odU g t c a v t' c' 2 ≤ 12
  have := h.2.2.2.2.2.1 t' c'
  unfold odU
  by_cases e : t' = t ∧ c' = c
  · obtain ⟨rfl, rfl⟩ := e
    unfold tog at hv
    match a, ha with
    | 0, _ => simp only [true_and, if_true, Nat.reduceEqDiff, if_false]; omega
    | 1, _ => simp only [true_and, if_true, Nat.reduceEqDiff, if_false]; omega
    | 2, _ => simp only [true_and, if_true, Nat.reduceEqDiff, if_false]; omega
  · rw [if_neg (fun q => e ⟨q.1, q.2.1⟩), if_neg (fun q => e ⟨q.1, q.2.1⟩), if_neg (fun q => e ⟨q.1, q.2.1⟩)]
    exact this
theorem togX {xs : XS} {g : GT} (h : RX xs g) (hg : GOK g) {t c : Nat} (h1 : 1 ≤ t) (h2 : t ≤ g_nT g) (c1 : 1 ≤ c) (c2 : c ≤ 12) : x_T_together xs (nI t) (nI c) = some (nI (g_od g t c 0 + g_od g t c 1 + g_od g t c 2)) := by
  have step : ∀ (a n v : Nat), a < 3 → xl2 (x_T_together_B1 xs (nI t) (nI c)) (n + 1) (nI a) (nI v) = xl2 (x_T_together_B1 xs (nI t) (nI c)) n (nI (a + 1)) (nI (v + g_od g t c a)) := fun a n v ha => by
    rw [xl2_s, x_T_together_B1, if_neg (show ¬ (3 : Int32) ≤ nI a from nI_ge (b := 3) ha (by decide)), twN h hg h1 h2 c1 c2 ha, sb, iadd1, nI_add]
  unfold x_T_together
  show xl2 (x_T_together_B1 xs (nI t) (nI c)) (13 + 1) (nI 0) (nI 0) = _
  rw [step 0 13 0 (by decide), step 1 12 _ (by decide), step 2 11 _ (by decide), xl2_s, x_T_together_B1, if_pos (by decide), Nat.zero_add]
theorem setX {xs : XS} {g : GT} (h : RX xs g) (hg : GOK g) {t c a v : Nat} (h1 : 1 ≤ t) (h2 : t ≤ g_nT g) (c1 : 1 ≤ c) (c2 : c ≤ 12) (ha : a < 3) (hv : v ≤ 12) : x_T_setTwelfths xs (nI t) (nI c) (nI a) (nI v) = some (x_tab_s xs t c (nI (odU g t c a v t c 0 + 16 * odU g t c a v t c 1 + 256 * odU g t c a v t c 2))) := by
  have hn := hg.2.1
  have o0 := od_le hg t c (a := 0) (by decide)
  have o1 := od_le hg t c (a := 1) (by decide)
  have o2 := od_le hg t c (a := 2) (by decide)
  unfold x_T_setTwelfths
  rw [placeT h hg h1 h2 c1 c2, sb, if_neg (by decide), ix_n (by omega) (by decide), ix_n (by omega) (by decide), ix_n (by omega) (by decide), ix_n (by omega) (by decide), h.2.2.2.2.2.2 t c h1 (by omega) c1 c2]
  obtain ⟨m0, m1, m2⟩ := msk13 _ (Nat.lt_succ_of_le o0) _ (Nat.lt_succ_of_le o1) _ (Nat.lt_succ_of_le o2)
  unfold odU
  match a, ha with
  | 0, _ =>
    rw [m0, (orr13 v (by omega) _ (Nat.lt_succ_of_le o1) _ (Nat.lt_succ_of_le o2)).1]
    simp only [true_and, if_true, Nat.reduceEqDiff, if_false]
  | 1, _ =>
    rw [m1, (orr13 _ (Nat.lt_succ_of_le o0) v (by omega) _ (Nat.lt_succ_of_le o2)).2.1]
    simp only [true_and, if_true, Nat.reduceEqDiff, if_false]
  | 2, _ =>
    rw [m2, (orr13 _ (Nat.lt_succ_of_le o0) _ (Nat.lt_succ_of_le o1) v (by omega)).2.2]
    simp only [true_and, if_true, Nat.reduceEqDiff, if_false]
theorem ox2_b (s : XS) (t c : Nat) (v : Int32) : xb (x_tab_s s t c v) = (x_opn s, x_cN s, x_fN s, x_pri s, x_mem s, x_lea s, x_tN s, x_cst s, x_nee s, x_tab (x_tab_s s t c v)) ∧ xp (x_tab_s s t c v) = xp s := by
  constructor <;> simp only [xb, xp, x_tab_s, x_opn, x_pla, x_cN, x_fN, x_pri, x_mem, x_lea, x_tN, x_cst, x_nee, x_tab, x_nod, x_tho, x_nT, x_nL, x_nA]
theorem tab_tab (s : XS) (t c : Nat) (v : Int32) (t' c' : Nat) : x_tab (x_tab_s s t c v) t' c' = if t' = t ∧ c' = c then v else x_tab s t' c' := by
  unfold x_tab x_tab_s
  by_cases h : t' = t
  · by_cases q : c' = c
    · simp only [h, q, if_true, upd, and_self]
    · simp only [h, q, if_true, upd, and_false, if_false]
  · simp only [h, if_false, false_and]
theorem om_b (s : MS) (j : Nat) (v : Int32) : mb (m_odds_s (m_code_s s 0) j v) = (m_causes s, m_faults s, m_strangers s, m_tests s, m_one s, m_two s, m_prior s, m_learned s, m_price s, m_needs s, upd (m_odds s) j v, m_given s) ∧ mp (m_odds_s (m_code_s s 0) j v) = mp s := by
  constructor <;> simp only [mb, mp, m_odds_s, m_code_s, m_causes, m_faults, m_strangers, m_tests, m_exact, m_cost, m_nodes, m_one, m_two, m_prior, m_learned, m_price, m_needs, m_odds, m_given, m_node]
theorem oddsJ {k : Nat} {xs : XS} {ms : MS} {g : GT} {code : Nat} (hg : GOK g) (hl : ∀ c, g_le g c ≤ k) (hc : COK g code) (hX : RX xs g) (hM : RM ms g) (ho : x_opn xs = nI code) (hG : GV ms code) (hC : CP xs ms g) (hP : PL xs ms) {t c a v : Nat} (t1 : 1 ≤ t) (t2 : t ≤ g_nT g) (c1 : 1 ≤ c) (c2 : c ≤ g_nC g) (ha : a < 3) (hv : v ≤ 12) {p q : Int64} (ep : ((12 : Int64) * p / q).toInt32 = nI v) (ex : ((12 : Int64) / q * p).toInt32 = nI v) :
    ∃ r xs' ms', ((x_T_together xs (nI t) (nI c)).bind fun r15 => (x_T_twelfths xs (nI t) (nI c) (nI a)).bind fun r17 => if ((r15 - r17) + (((12 : Int64) / q) * p).toInt32) ≤ (12 : Int32) then (x_G_answerIn (x_opn xs) (nI t)).bind fun r20 => if r20 = (-1 : Int32) then (x_T_setTwelfths xs (nI t) (nI c) (nI a) (((12 : Int64) / q) * p).toInt32).bind fun s23 => some (((r15 - r17) + (((12 : Int64) / q) * p).toInt32), s23) else some ((-3 : Int32), xs) else some ((-2 : Int32), xs)) = some (r, xs') ∧ xl2 (m_M_odds_B1 ms (nI t) (nI c) (nI a) p q) 14 (0 : Int32) (((12 : Int64) * p) / q).toInt32 = some (r, ms') ∧ REL k xs' ms' := by
  have hnC := hg.1
  have hnT := hg.2.1
  have hR : REL k xs (m_code_s ms 0) := REL_code ⟨g, code, hg, hl, hc, hX, hM, ho, hG, hC, hP⟩ 0
  have hoa := od_a_le g t c ha
  have hsum := hg.2.2.2.2.2.1 t c
  have hd := dg_lt code t
  have hM0 : RM (m_code_s ms 0) g := RM_mb hM (mb_code ms 0)
  rw [ep, ex, togX hX hg t1 t2 c1 (by omega), sb, twN hX hg t1 t2 c1 (by omega) ha, sb, pk_sub hoa, nI_add]
  -- the reference's loop
  have stepN : ∀ (j n w : Nat), j < 3 → ¬ j = a → xl2 (m_M_odds_B1 ms (nI t) (nI c) (nI a) p q) (n + 1) (nI j) (nI w) = xl2 (m_M_odds_B1 ms (nI t) (nI c) (nI a) p q) n (nI (j + 1)) (nI (w + g_od g t c j)) := fun j n w hj hja => by
    rw [xl2_s, m_M_odds_B1, if_neg (show ¬ (3 : Int32) ≤ nI j from nI_ge (b := 3) hj (by decide)), if_neg (fun z => hja ((nI_eq (by omega) (by omega)).mp z)), oddsM hM0 t1 (by omega) c1 (by omega) hj, sb, iadd1, nI_add]
  have stepE : ∀ (n w : Nat), xl2 (m_M_odds_B1 ms (nI t) (nI c) (nI a) p q) (n + 1) (nI a) (nI w) = xl2 (m_M_odds_B1 ms (nI t) (nI c) (nI a) p q) n (nI (a + 1)) (nI w) := fun n w => by
    rw [xl2_s, m_M_odds_B1, if_neg (show ¬ (3 : Int32) ≤ nI a from nI_ge (b := 3) ha (by decide)), if_pos rfl, iadd1]
  have hloop : xl2 (m_M_odds_B1 ms (nI t) (nI c) (nI a) p q) 14 (0 : Int32) (nI v) = xl2 (m_M_odds_B1 ms (nI t) (nI c) (nI a) p q) 11 (nI 3) (nI (tog g t c a v)) := by
    show xl2 (m_M_odds_B1 ms (nI t) (nI c) (nI a) p q) (13 + 1) (nI 0) (nI v) = _
    unfold tog
    match a, ha with
    | 0, _ =>
      rw [stepE 13 v, stepN 1 12 _ (by decide) (by decide), stepN 2 11 _ (by decide) (by decide)]
      congr 2
      omega
    | 1, _ =>
      rw [stepN 0 13 v (by decide) (by decide), stepE 12 _, stepN 2 11 _ (by decide) (by decide)]
      congr 2
      omega
    | 2, _ =>
      rw [stepN 0 13 v (by decide) (by decide), stepN 1 12 _ (by decide) (by decide), stepE 11 _]
      congr 2
      omega
  have htl : tog g t c a v < 100 := by unfold tog; omega
  rw [hloop, xl2_s, m_M_odds_B1, if_pos (show (3 : Int32) ≤ nI 3 from by decide), show g_od g t c 0 + g_od g t c 1 + g_od g t c 2 - g_od g t c a + v = tog g t c a v from rfl]
  by_cases e : tog g t c a v ≤ 12
  · rw [if_pos (show nI (tog g t c a v) ≤ (12 : Int32) from nI_le (b := 12) e (by decide)), if_pos (show nI (tog g t c a v) ≤ (12 : Int32) from nI_le (b := 12) e (by decide)), ix_n (by omega) (by decide), show m_given (m_code_s ms 0) t = m_given ms t from rfl, hG t t1 (by omega), ho, ansIn code hc.1 t (by omega) t1, sb]
    by_cases e0 : dg code t = 0
    · rw [if_pos ((nIm1 hd).mpr e0), if_pos ((dg_neg hd).mpr e0), setX hX hg t1 t2 c1 (by omega) ha hv, sb, ix_i (j := 39 * t + 3 * c + a) (by rw [show (39 : Int32) = nI 39 from rfl, show (3 : Int32) = nI 3 from rfl, pk_mul, pk_mul, nI_add, nI_add]) (by omega) (by decide), ep]
      have hx := ox2_b xs t c (nI (odU g t c a v t c 0 + 16 * odU g t c a v t c 1 + 256 * odU g t c a v t c 2))
      have hm := om_b ms (39 * t + 3 * c + a) (nI v)
      refine ⟨_, _, _, rfl, rfl, REL_mk hP (setOd g t c a v) code hx.1 hx.2 hm.1 hm.2 (GOK_od hg ha e) hl hc ⟨hX.1, hX.2.1, hX.2.2.1, hX.2.2.2.1, hX.2.2.2.2.1, hX.2.2.2.2.2.1, fun t' c' q1 q2 q3 q4 => ?_⟩ ⟨hM.1, hM.2.1, hM.2.2.1, hM.2.2.2.1, hM.2.2.2.2.1, hM.2.2.2.2.2.1, fun t' c' a' q1 q2 q3 q4 q5 => ?_⟩ ho hG hC⟩
      · rw [tab_tab]
        show (if t' = t ∧ c' = c then _ else _) = nI (odU g t c a v t' c' 0 + 16 * odU g t c a v t' c' 1 + 256 * odU g t c a v t' c' 2)
        by_cases z : t' = t ∧ c' = c
        · rw [if_pos z, z.1, z.2]
        · rw [if_neg z, hX.2.2.2.2.2.2 t' c' q1 q2 q3 q4]
          unfold odU
          rw [if_neg (fun w => z ⟨w.1, w.2.1⟩), if_neg (fun w => z ⟨w.1, w.2.1⟩), if_neg (fun w => z ⟨w.1, w.2.1⟩)]
      · show (if 39 * t' + 3 * c' + a' = 39 * t + 3 * c + a then nI v else m_odds ms (39 * t' + 3 * c' + a')) = nI (if t' = t ∧ c' = c ∧ a' = a then v else g_od g t' c' a')
        by_cases z : t' = t ∧ c' = c ∧ a' = a
        · rw [if_pos z, if_pos (by rw [z.1, z.2.1, z.2.2])]
        · rw [if_neg z, if_neg (fun w => z (by omega))]
          exact hM.2.2.2.2.2.2 t' c' a' q1 q2 q3 q4 q5
    · rw [if_neg (fun z => e0 ((nIm1 hd).mp z)), if_neg (fun z => e0 ((dg_neg hd).mp z))]
      exact ⟨_, _, _, rfl, rfl, hR⟩
  · rw [if_neg (show ¬ nI (tog g t c a v) ≤ (12 : Int32) from nI_ge (a := 12) (by omega) (by omega)), if_neg (show ¬ nI (tog g t c a v) ≤ (12 : Int32) from nI_ge (a := 12) (by omega) (by omega))]
    exact ⟨_, _, _, rfl, rfl, hR⟩
theorem odds2 {k : Nat} {xs : XS} {ms : MS} (h : REL k xs ms) (p1 p2 p3 : Int32) (p q : Int64) : ∃ r xs' ms', x_G_odds xs p1 p2 p3 p q = some (r, xs') ∧ m_M_odds ms p1 p2 p3 p q = some (r, ms') ∧ REL k xs' ms' := by
  have h' := h
  obtain ⟨g, code, hg, hl, hc, hX, hM, ho, hG, hC, hP⟩ := h'
  have hM0 : RM (m_code_s ms 0) g := RM_mb hM (mb_code ms 0)
  have hR := REL_code h 0
  unfold x_G_odds m_M_odds
  rcases kn2T hX hM0 hg p1 with ⟨t, t1, t2, rfl, k3, k4⟩ | ⟨k3, k4⟩
  · rw [k3, k4, sb, sb, if_neg (by decide), if_pos rfl]
    rcases kn2C hX hM0 hg p2 with ⟨c, c1, c2, rfl, k5, k6⟩ | ⟨k5, k6, -⟩
    · rw [k5, k6, sb, sb, if_neg (by decide), if_pos rfl]
      rcases i_cases p3 (n := 2) (by decide) with z | z | ⟨a, ha, rfl⟩
      · rw [isAnsN (Or.inl z), sb, if_pos rfl, if_pos z]
        exact ⟨_, _, _, rfl, rfl, hR⟩
      · have hq0 : ¬ p3 < 0 := fun w => absurd (Int32.lt_trans z w) (by decide)
        have hq3 : (3 : Int32) ≤ p3 := by
          obtain ⟨i, hi, rfl⟩ := nI_of hq0
          have := (nI_ltI (a := 2) (by decide) hi).mp z
          exact nI_le (a := 3) this hi
        rw [isAnsN (Or.inr hq3), sb, if_pos rfl, if_neg hq0, if_pos (show (2 : Int32) < p3 from z)]
        exact ⟨_, _, _, rfl, rfl, hR⟩
      · rw [isAns a (by omega), sb, if_neg (by decide), if_neg (nI_pos (n := a) (by omega)), if_neg (show ¬ (2 : Int32) < nI a from nI_nlt (a := 2) ha (by decide))]
        unfold x_G_isPartOfTwelve
        by_cases e1 : q < (1 : Int64)
        · rw [if_pos e1, if_pos e1, sb, if_pos rfl]
          exact ⟨_, _, _, rfl, rfl, hR⟩
        rw [if_neg e1, if_neg e1]
        have hq0 : ¬ q < 0 := fun z => e1 (Int64.lt_trans z (by decide))
        obtain ⟨d, hd, rfl⟩ := pk_lOf hq0
        have d1 : 1 ≤ d := by
          rcases (show d = 0 ∨ 1 ≤ d by omega) with z | z
          · rw [z] at e1; exact absurd (by decide) e1
          · exact z
        have hz : ¬ lN d = 0 := fun z => by
          have := (pk_lEQ (a := d) (b := 0) hd (by decide)).mp z
          omega
        have hrm := lrem (v := 12) (by decide) d1 hd
        have hr12 : 12 % d ≤ 12 := Nat.mod_le _ _
        simp only [dzl_n hz]
        rw [lN12, hrm, show (0 : Int64) = lN 0 from rfl]
        by_cases e2 : 12 % d = 0
        · have hd12 : d ≤ 12 := by
            rcases (show d ≤ 12 ∨ 12 < d by omega) with z | z
            · exact z
            · rw [Nat.mod_eq_of_lt z] at e2; omega
          rw [if_pos (show lN (12 % d) = lN 0 from by rw [e2]), if_neg (show ¬ lN 12 < lN d from fun z => by have := (pk_lLT (a := 12) (by decide) hd).mp z; omega), if_neg (show ¬ lN 0 < lN (12 % d) from fun z => by have := (pk_lLT (a := 0) (by decide) (by omega)).mp z; omega)]
          by_cases e3 : p < lN 0
          · rw [if_pos e3, if_pos e3, sb, if_pos rfl]
            exact ⟨_, _, _, rfl, rfl, hR⟩
          rw [if_neg e3, if_neg e3]
          by_cases e4 : p ≤ lN d
          · rw [if_neg (Int64.not_lt.mpr e4), if_pos e4, sb, if_neg (by decide)]
            obtain ⟨u, hu, rfl⟩ := l_range (p := p) (n := d) hd e3 (Int64.not_lt.mpr e4)
            obtain ⟨m, hm⟩ := Nat.dvd_of_mod_eq_zero e2
            have hm12 : 12 / d = m := by rw [hm, Nat.mul_div_cancel_left _ d1]
            have hmu : m * u ≤ 12 := by rw [hm, Nat.mul_comm d m]; exact Nat.mul_le_mul_left _ hu
            have ep : ((12 : Int64) * lN u / lN d).toInt32 = nI (m * u) := by
              rw [lN12, lN_mul, pk_lDiv (by omega) d1 hd, lN_i]
              congr 1
              rw [hm, Nat.mul_assoc, Nat.mul_div_cancel_left _ d1]
            have ex : ((12 : Int64) / lN d * lN u).toInt32 = nI (m * u) := by
              rw [lN12, pk_lDiv (by decide) d1 hd, lN_mul, lN_i, hm12]
            exact oddsJ hg hl hc hX hM ho hG hC hP t1 t2 c1 c2 (by omega) hmu ep ex
          · rw [if_pos (Int64.not_le.mp e4), if_neg e4, sb, if_pos rfl]
            exact ⟨_, _, _, rfl, rfl, hR⟩
        · rw [if_neg (show ¬ lN (12 % d) = lN 0 from fun z => e2 ((pk_lEQ (b := 0) (by omega) (by decide)).mp z)), sb, if_pos rfl]
          by_cases e5 : lN 12 < lN d
          · rw [if_pos e5]
            exact ⟨_, _, _, rfl, rfl, hR⟩
          · rw [if_neg e5, if_pos (show lN 0 < lN (12 % d) from (pk_lLT (a := 0) (by decide) (by omega)).mpr (by omega))]
            exact ⟨_, _, _, rfl, rfl, hR⟩
    · rw [k5, k6, sb, sb, if_pos rfl, if_neg (by decide)]
      exact ⟨_, _, _, rfl, rfl, hR⟩
  · rw [k3, k4, sb, sb, if_pos rfl, if_neg (by decide)]
    exact ⟨_, _, _, rfl, rfl, hR⟩
