-- PURE 62: never, of the reference
theorem RM_cs {s : MS} {g : GT} (h : RM s g) (v : Int32) : RM (m_code_s s v) g := by
  unfold RM at h ⊢
  simp only [m_causes, m_tests, m_prior, m_learned, m_price, m_needs, m_odds, m_code_s] at h ⊢
  exact h
theorem neverM {ms : MS} {g : GT} (h0 : RM ms g) (hg : GOK g) {a : Nat} (ha : a < 3) : m_M_never ms (nI a) = some (nI (nev g a), m_code_s ms 0) := by
  have hn := hg.2.1
  have hcn := hg.1
  have h := RM_cs h0 0
  unfold m_M_never
  rw [if_neg (nI_pos (by omega)), if_pos (show nI a ≤ (2 : Int32) from nI_le (b := 2) (by omega) (by decide))]
  have := xl2_up (m_M_never_B1 ms (nI a)) (g_nT g + 1) (fun i => nI (ct (fun t => !can g t a) (i - 1))) (some (nI (nev g a), m_code_s ms 0)) 14 1 (by omega) (by omega) ?_ ?_
  · exact this
  · intro j self hj hjn
    obtain ⟨k, rfl⟩ : ∃ k, j = k + 1 := ⟨j - 1, by omega⟩
    unfold m_M_never_B1
    rw [h.2.1, if_neg (nI_nlt (by omega) (by omega))]
    simp only [Nat.add_sub_cancel]
    have inner := xl2_up (m_M_never_B2 ms (nI a) (nI (k + 1)) (nI (ct (fun t => !can g t a) k)) self) (g_nC g + 1) (fun i => bI (anyN (fun c => decide (0 < g_od g (k + 1) c a)) 1 (i - 1))) (self (nI (k + 1 + 1)) (nI (ct (fun t => !can g t a) (k + 1)))) 14 1 (by omega) (by omega) ?_ ?_
    · exact inner
    · intro i self2 hi hin
      obtain ⟨q, rfl⟩ : ∃ q, i = q + 1 := ⟨i - 1, by omega⟩
      have ho := od_le hg (k + 1) (q + 1) ha
      have hs : anyN (fun c => decide (0 < g_od g (k + 1) c a)) 1 (q + 1) = (anyN (fun c => decide (0 < g_od g (k + 1) c a)) 1 q || decide (0 < g_od g (k + 1) (q + 1) a)) := by
        rw [anyN_snoc, show 1 + q = q + 1 by omega]
      unfold m_M_never_B2
      rw [h.1, if_neg (nI_nlt (by omega) (by omega))]
      simp only [Nat.add_sub_cancel]
      rw [hs, iadd1 (q + 1)]
      cases anyN (fun c => decide (0 < g_od g (k + 1) c a)) 1 q
      · rw [if_pos (by decide), oddsM h (by omega) (by omega) (by omega) (by omega) ha, sb]
        by_cases e : g_od g (k + 1) (q + 1) a = 0
        · rw [if_pos (by rw [e]; decide), decide_eq_false (by omega)]; rfl
        · rw [if_neg (nI_nle (by omega) (by omega)), decide_eq_true (by omega)]; rfl
      · rw [if_neg (by decide)]; rfl
    · intro self2
      unfold m_M_never_B2
      rw [h.1, if_pos (nI_lt (by omega) (by omega)), Nat.add_sub_cancel, iadd1]
      show _ = self _ (nI (ct (fun t => !can g t a) k + if (!can g (k + 1) a) then 1 else 0))
      show (if bI (can g (k + 1) a) = 0 then _ else _) = _
      cases can g (k + 1) a
      · rw [if_pos (by decide), iadd1]; rfl
      · rw [if_neg (by decide)]; rfl
  · intro self
    unfold m_M_never_B1
    rw [h.2.1, if_pos (nI_lt (by omega) (by omega))]
    rfl
