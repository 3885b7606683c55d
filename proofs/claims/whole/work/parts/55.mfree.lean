-- PURE 55: findUse and free of the reference
theorem RM_uf {s : MS} {g : GT} (h : RM s g) (f : Nat → Int32) : RM (m_use_f s f) g := by
  unfold RM at h ⊢
  simp only [m_causes, m_tests, m_prior, m_learned, m_price, m_needs, m_odds, m_use_f] at h ⊢
  exact h
theorem LK_uf {s : MS} {g : GT} {code : Nat} (h : LK s g code) (f : Nat → Int32) : LK (m_use_f s f) g code := by
  unfold LK at h ⊢
  simp only [m_digit, m_weight, m_use_f] at h ⊢
  exact h
theorem us_uf (s : MS) (f : Nat → Int32) (t : Nat) (v : Int32) : m_use_s (m_use_f s f) t v = m_use_f s (upd f t v) := by simp only [m_use_s, m_use_f]
theorem use_uf (s : MS) (f : Nat → Int32) : m_use (m_use_f s f) = f := by simp only [m_use, m_use_f]
theorem uf_self (s : MS) : m_use_f s (m_use s) = s := rfl
/-- the uses of the tests 1 .. k, over what stood there -/
def Uk (g : GT) (code : Nat) (s : MS) : Nat → Nat → Int32
  | 0 => m_use s
  | k + 1 => upd (Uk g code s k) (k + 1) (bI (amb g (k + 1) (g_nC g) (lf g code) && may g code (k + 1)))
theorem Uk_at (g : GT) (code : Nat) (s : MS) : ∀ k t, 1 ≤ t → t ≤ k → Uk g code s k t = bI (amb g t (g_nC g) (lf g code) && may g code t)
  | 0, t, h1, h2 => by omega
  | k + 1, t, h1, h2 => by
    show (if t = k + 1 then bI (amb g (k + 1) (g_nC g) (lf g code) && may g code (k + 1)) else Uk g code s k t) = _
    by_cases e : t = k + 1
    · rw [if_pos e, e]
    · rw [if_neg e]; exact Uk_at g code s k t h1 (by omega)
theorem useB2 {s : MS} {g : GT} (h : RM s g) (hg : GOK g) {code : Nat} (hl : LK s g code) : xl2 (m_M_findUse_B2 (nI (la (lf g code) (g_nC g)))) 14 (nI 1) s = some (m_use_f s (Uk g code s (g_nT g))) := by
  have hn := hg.2.1
  have := xl2_up (m_M_findUse_B2 (nI (la (lf g code) (g_nC g)))) (g_nT g + 1) (fun i => m_use_f s (Uk g code s (i - 1))) (some (m_use_f s (Uk g code s (g_nT g)))) 14 1 (by omega) (by omega) ?_ ?_
  · exact this
  · intro j self hj hjn
    obtain ⟨k, rfl⟩ : ∃ k, j = k + 1 := ⟨j - 1, by omega⟩
    have hR := RM_uf h (Uk g code s (k + 1 - 1))
    have hL := LK_uf hl (Uk g code s (k + 1 - 1))
    unfold m_M_findUse_B2
    rw [hR.2.1, if_neg (nI_nlt (by omega) (by omega))]
    have key := useB3 hR hg hL hj (show k + 1 ≤ g_nT g by omega) self
    rw [us_uf] at key
    exact key
  · intro self
    have hR := RM_uf h (Uk g code s (g_nT g + 1 - 1))
    unfold m_M_findUse_B2
    rw [hR.2.1, if_pos (nI_lt (by omega) (by omega))]
    rfl
theorem useM {s : MS} {g : GT} (h : RM s g) (hg : GOK g) {code : Nat} (hl : LK s g code) : m_M_findUse s = some (m_use_f s (Uk g code s (g_nT g))) := by
  have hn := hg.1
  unfold m_M_findUse
  have := xl2_up (m_M_findUse_B1 s) (g_nC g + 1) (fun i => nI (la (lf g code) (i - 1))) (some (m_use_f s (Uk g code s (g_nT g)))) 14 1 (by omega) (by omega) ?_ ?_
  · exact this
  · intro j self hj hjn
    obtain ⟨k, rfl⟩ : ∃ k, j = k + 1 := ⟨j - 1, by omega⟩
    have h2 := wt_le hg (k + 1) code
    unfold m_M_findUse_B1
    rw [h.1, if_neg (nI_nlt (by omega) (by omega)), ix_n (by omega) (by decide), hl.2 (k + 1) hj (by omega), iadd1]
    show _ = self _ (nI (if lf g code (k + 1) then k + 1 else la (lf g code) k))
    simp only [Nat.add_sub_cancel]
    by_cases e : wt g (k + 1) code = 0
    · rw [if_pos ((lN_le0 (by omega)).mpr (by omega)), show lf g code (k + 1) = false from decide_eq_false (by omega)]; rfl
    · rw [if_neg (fun q => e (by have := (lN_le0 (by omega)).mp q; omega)), show lf g code (k + 1) = true from decide_eq_true (by omega), if_pos rfl]
  · intro self
    unfold m_M_findUse_B1
    rw [h.1, if_pos (nI_lt (by omega) (by omega)), Nat.add_sub_cancel]
    exact useB2 h hg hl
/-- behind findUse with two causes left at least: the state tells the usable tests -/
def UK (s : MS) (g : GT) (code : Nat) : Prop := ∀ t, 1 ≤ t → t ≤ g_nT g → m_use s t = bI (usb g code t)
theorem UK_use {s : MS} {g : GT} (hg : GOK g) {code : Nat} (h2 : 2 ≤ nL g code) : UK (m_use_f s (Uk g code s (g_nT g))) g code := fun t t1 t2 => by
  rw [use_uf, Uk_at g code s (g_nT g) t t1 t2, amb_apt g t hg.1]
  unfold usb
  rw [decide_eq_true h2, Bool.true_and, Bool.and_comm]
theorem freeM {s : MS} {g : GT} (h : RM s g) (hg : GOK g) {code : Nat} (hu : UK s g code) : m_M_free s = some (nI (fre g code)) := by
  have hn := hg.2.1
  unfold m_M_free
  have := xl1_first (m_M_free_B1 s) (g_nT g + 1) (fun t => usb g code t && decide (g_co g t = 0)) 14 1 (by omega) (by omega) ?_ ?_
  · rw [Nat.add_sub_cancel] at this
    exact this
  · intro j self hj hjn
    have hco := hg.2.2.2.2.1 j
    unfold m_M_free_B1
    rw [h.2.1, if_neg (nI_nlt (by omega) (by omega)), ix_n (by omega) (by decide), h.2.2.2.2.1 j hj (by omega), iadd1]
    by_cases e : g_co g j = 0
    · rw [if_pos (by rw [e]; rfl), ix_n (by omega) (by decide), hu j hj (by omega), decide_eq_true e, Bool.and_true]
      cases usb g code j
      · rw [if_pos (by decide), if_neg (by decide)]
      · rw [if_neg (by decide), if_pos rfl]
    · rw [if_neg (fun q => e ((pk_lEQ (by omega) (by decide)).mp (q.trans (show (0 : Int64) = lN 0 from rfl)))), decide_eq_false e, Bool.and_false, if_neg (by decide)]
  · intro self
    unfold m_M_free_B1
    rw [h.2.1, if_pos (nI_lt (by omega) (by omega))]
    rfl
