-- PURE 54: the reference finds the tests that may be used
theorem bI0 (b : Bool) : (bI b = 0) ↔ b = false := by cases b <;> decide
theorem useJ4 {s : MS} {g : GT} (hg : GOK g) {code : Nat} (hl : LK s g code) {j : Nat} (j1 : 1 ≤ j) (j2 : j ≤ g_nC g) (a : Bool) (self : Int32 → Int32 → Option MS) (v : Int32) : m_M_findUse_J4 s (nI j) (bI a) self v = self (nI (j + 1)) (bI (a || (lf g code j && decide (v = 0)))) := by
  have hn := hg.1
  have h2 := wt_le hg j code
  unfold m_M_findUse_J4
  rw [iadd1]
  cases a
  · rw [if_pos (by decide), ix_n (by omega) (by decide), hl.2 j j1 j2]
    by_cases e : wt g j code = 0
    · rw [if_pos ((lN_le0 (by omega)).mpr (by omega)), show lf g code j = false from decide_eq_false (by omega)]; rfl
    · rw [if_neg (fun q => e (by have := (lN_le0 (by omega)).mp q; omega)), show lf g code j = true from decide_eq_true (by omega)]
      by_cases ev : v = 0
      · rw [if_pos ev, decide_eq_true ev]; rfl
      · rw [if_neg ev, decide_eq_false ev]; rfl
  · rw [if_neg (by decide)]; rfl
theorem useB3 {s : MS} {g : GT} (h : RM s g) (hg : GOK g) {code : Nat} (hl : LK s g code) {t : Nat} (h1 : 1 ≤ t) (h2 : t ≤ g_nT g) (self2 : Int32 → MS → Option MS) : xl2 (m_M_findUse_B3 (nI (la (lf g code) (g_nC g))) (nI t) s self2) 14 (nI 1) (nI 0) = self2 (nI (t + 1)) (m_use_s s t (bI (amb g t (g_nC g) (lf g code) && may g code t))) := by
  have hn := hg.1
  have hn5 := hg.2.1
  have hL : la (lf g code) (g_nC g) ≤ g_nC g := by
    rcases la_char (lf g code) (g_nC g) with ⟨q, _⟩ | ⟨_, q, _⟩ <;> omega
  have := xl2_up (m_M_findUse_B3 (nI (la (lf g code) (g_nC g))) (nI t) s self2) (max 1 (la (lf g code) (g_nC g))) (fun i => bI (anyN (fun c => lf g code c && !decide (pkd g t c = pkd g t (la (lf g code) (g_nC g)))) 1 (i - 1))) (self2 (nI (t + 1)) (m_use_s s t (bI (amb g t (g_nC g) (lf g code) && may g code t)))) 14 1 (by omega) (by omega) ?_ ?_
  · exact this
  · intro j self hj hjn
    have hjL : j < la (lf g code) (g_nC g) := by omega
    obtain ⟨k, rfl⟩ : ∃ k, j = k + 1 := ⟨j - 1, by omega⟩
    have hp := pkd_eq hg t (k + 1) (la (lf g code) (g_nC g))
    have o0 := od_le hg t (k + 1) (a := 0) (by decide)
    have o1 := od_le hg t (k + 1) (a := 1) (by decide)
    have o2 := od_le hg t (k + 1) (a := 2) (by decide)
    have q0 := od_le hg t (la (lf g code) (g_nC g)) (a := 0) (by decide)
    have q1 := od_le hg t (la (lf g code) (g_nC g)) (a := 1) (by decide)
    have q2 := od_le hg t (la (lf g code) (g_nC g)) (a := 2) (by decide)
    have odd : ∀ c a, 1 ≤ c → c ≤ 12 → a < 3 → m_M_oddsOf s (nI t) (nI c) (nI a) = some (nI (g_od g t c a)) := fun c a c1 c2 ha => oddsM h h1 (by omega) c1 c2 ha
    unfold m_M_findUse_B3 m_M_findUse_J5
    rw [if_neg (nI_ge hjL (by omega)), show (0 : Int32) = nI 0 from rfl, show (1 : Int32) = nI 1 from rfl, show (2 : Int32) = nI 2 from rfl]
    rw [odd (k + 1) 0 (by omega) (by omega) (by decide), sb, odd (la (lf g code) (g_nC g)) 0 (by omega) (by omega) (by decide), sb]
    rw [odd (k + 1) 1 (by omega) (by omega) (by decide), sb, odd (la (lf g code) (g_nC g)) 1 (by omega) (by omega) (by decide), sb]
    rw [odd (k + 1) 2 (by omega) (by omega) (by decide), sb, odd (la (lf g code) (g_nC g)) 2 (by omega) (by omega) (by decide), sb]
    simp only [nI_eq (show g_od g t (k + 1) 0 < 2 ^ 31 by omega) (show g_od g t (la (lf g code) (g_nC g)) 0 < 2 ^ 31 by omega), nI_eq (show g_od g t (k + 1) 1 < 2 ^ 31 by omega) (show g_od g t (la (lf g code) (g_nC g)) 1 < 2 ^ 31 by omega), nI_eq (show g_od g t (k + 1) 2 < 2 ^ 31 by omega) (show g_od g t (la (lf g code) (g_nC g)) 2 < 2 ^ 31 by omega)]
    rw [useJ4 hg hl (by omega) (by omega), useJ4 hg hl (by omega) (by omega)]
    have hs : anyN (fun c => lf g code c && !decide (pkd g t c = pkd g t (la (lf g code) (g_nC g)))) 1 (k + 1) = (anyN (fun c => lf g code c && !decide (pkd g t c = pkd g t (la (lf g code) (g_nC g)))) 1 k || (lf g code (k + 1) && !decide (pkd g t (k + 1) = pkd g t (la (lf g code) (g_nC g))))) := by
      rw [anyN_snoc, show 1 + k = k + 1 by omega]
    simp only [Nat.add_sub_cancel]
    rw [hs, show decide (nI 1 = 0) = false from by decide, show decide (nI 0 = 0) = true from by decide]
    by_cases e0 : g_od g t (k + 1) 0 = g_od g t (la (lf g code) (g_nC g)) 0
    · rw [if_pos e0]
      by_cases e1 : g_od g t (k + 1) 1 = g_od g t (la (lf g code) (g_nC g)) 1
      · rw [if_pos e1]
        by_cases e2 : g_od g t (k + 1) 2 = g_od g t (la (lf g code) (g_nC g)) 2
        · rw [if_pos e2, decide_eq_true (hp.mpr ⟨e0, e1, e2⟩)]; rfl
        · rw [if_neg e2, decide_eq_false (fun q => e2 (hp.mp q).2.2)]; rfl
      · rw [if_neg e1, decide_eq_false (fun q => e1 (hp.mp q).2.1)]; rfl
    · rw [if_neg e0, decide_eq_false (fun q => e0 (hp.mp q).1)]; rfl
  · intro self
    have hm : anyN (fun c => lf g code c && !decide (pkd g t c = pkd g t (la (lf g code) (g_nC g)))) 1 (max 1 (la (lf g code) (g_nC g)) - 1) = amb g t (g_nC g) (lf g code) := by
      unfold amb
      rw [show max 1 (la (lf g code) (g_nC g)) - 1 = la (lf g code) (g_nC g) - 1 by omega]
    unfold m_M_findUse_B3
    rw [if_pos (nI_le (by omega) (by omega)), hm, iadd1]
    cases ha : amb g t (g_nC g) (lf g code)
    · rw [if_pos (by decide), ix_n (by omega) (by decide)]; rfl
    · rw [if_neg (by decide), mayM h hg hl h1 h2, sb]
      cases hy : may g code t
      · rw [if_pos (by decide), ix_n (by omega) (by decide)]; rfl
      · rw [if_neg (by decide), ix_n (by omega) (by decide)]; rfl
