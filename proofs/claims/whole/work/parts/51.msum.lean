-- PURE 51: the reference's sums over the causes of a case
/-- the state holds the weights and digits of a case -/
def LK (s : MS) (g : GT) (code : Nat) : Prop := (∀ t, 1 ≤ t → t ≤ 6 → m_digit s t = nI (dg code t) - 1) ∧ (∀ c, 1 ≤ c → c ≤ g_nC g → m_weight s c = lN (12 * wt g c code))
theorem LK_lk (g : GT) (ms : MS) (code : Nat) : LK (lk g ms code) g code := ⟨fun _ h1 h2 => lk_dig g ms code h1 h2, fun _ h1 h2 => lk_wt g ms code h1 h2⟩
theorem sumM {s : MS} {g : GT} (h : RM s g) (hg : GOK g) {code : Nat} (hl : LK s g code) : m_M_sum s = some (lN (12 * S g code)) := by
  have hn := hg.1
  unfold m_M_sum
  have := xl2_up (m_M_sum_B1 s) (g_nC g + 1) (fun i => lN (12 * sm (fun c => wt g c code) (i - 1))) (some (lN (12 * S g code))) 14 1 (by omega) (by omega) ?_ ?_
  · exact this
  · intro j self hj hjn
    obtain ⟨k, rfl⟩ : ∃ k, j = k + 1 := ⟨j - 1, by omega⟩
    unfold m_M_sum_B1
    rw [h.1, if_neg (nI_nlt (by omega) (by omega)), ix_n (by omega) (by decide), hl.2 (k + 1) hj (by omega), iadd1]
    show self _ (lN (12 * sm _ k) + lN _) = self _ (lN (12 * (sm _ k + wt g (k + 1) code)))
    rw [lN_add, Nat.mul_add]
  · intro self
    unfold m_M_sum_B1
    rw [h.1, if_pos (nI_lt (by omega) (by omega))]
    rfl
theorem mostM {s : MS} {g : GT} (h : RM s g) (hg : GOK g) {code : Nat} (hl : LK s g code) : m_M_most s = some (lN (12 * top g code)) := by
  have hn := hg.1
  unfold m_M_most
  have := xl2_up (m_M_most_B1 s) (g_nC g + 1) (fun i => lN (12 * mx (fun c => wt g c code) (i - 1))) (some (lN (12 * top g code))) 14 1 (by omega) (by omega) ?_ ?_
  · exact this
  · intro j self hj hjn
    obtain ⟨k, rfl⟩ : ∃ k, j = k + 1 := ⟨j - 1, by omega⟩
    have h1 := mx_le (f := fun c => wt g c code) (fun c => wt_le hg c code) k
    have h2 := wt_le hg (k + 1) code
    unfold m_M_most_B1
    rw [h.1, if_neg (nI_nlt (by omega) (by omega)), ix_n (by omega) (by decide), hl.2 (k + 1) hj (by omega), iadd1]
    show _ = self _ (lN (12 * max (mx (fun c => wt g c code) k) (wt g (k + 1) code)))
    simp only [Nat.add_sub_cancel]
    by_cases e : wt g (k + 1) code ≤ mx (fun c => wt g c code) k
    · rw [if_pos ((pk_lLE (by omega) (by omega)).mpr (by omega)), Nat.max_eq_left e]
    · rw [if_neg (fun q => e (by have := (pk_lLE (by omega) (by omega)).mp q; omega)), ix_n (by omega) (by decide), hl.2 (k + 1) hj (by omega), Nat.max_eq_right (by omega)]
  · intro self
    unfold m_M_most_B1
    rw [h.1, if_pos (nI_lt (by omega) (by omega))]
    rfl
theorem leftM {s : MS} {g : GT} (h : RM s g) (hg : GOK g) {code : Nat} (hl : LK s g code) : m_M_left s = some (nI (nL g code)) := by
  have hn := hg.1
  unfold m_M_left
  have := xl2_up (m_M_left_B1 s) (g_nC g + 1) (fun i => nI (ct (lf g code) (i - 1))) (some (nI (nL g code))) 14 1 (by omega) (by omega) ?_ ?_
  · exact this
  · intro j self hj hjn
    obtain ⟨k, rfl⟩ : ∃ k, j = k + 1 := ⟨j - 1, by omega⟩
    have h2 := wt_le hg (k + 1) code
    unfold m_M_left_B1
    rw [h.1, if_neg (nI_nlt (by omega) (by omega)), ix_n (by omega) (by decide), hl.2 (k + 1) hj (by omega), iadd1]
    show _ = self _ (nI (ct (lf g code) k + if lf g code (k + 1) then 1 else 0))
    simp only [Nat.add_sub_cancel]
    by_cases e : wt g (k + 1) code = 0
    · rw [if_pos ((lN_le0 (by omega)).mpr (by omega)), show lf g code (k + 1) = false from decide_eq_false (by omega)]; rfl
    · rw [if_neg (fun q => e (by have := (lN_le0 (by omega)).mp q; omega)), show lf g code (k + 1) = true from decide_eq_true (by omega), if_pos rfl, iadd1]
  · intro self
    unfold m_M_left_B1
    rw [h.1, if_pos (nI_lt (by omega) (by omega))]
    rfl
theorem dg_neg {d : Nat} (h : d < 4) : (nI d - 1 < 0) ↔ d = 0 := by
  match d, h with
  | 0, _ => decide
  | 1, _ => decide
  | 2, _ => decide
  | 3, _ => decide
theorem dg_nn {d : Nat} (h : d < 4) : (0 ≤ nI d - 1) ↔ ¬ d = 0 := by
  match d, h with
  | 0, _ => decide
  | 1, _ => decide
  | 2, _ => decide
  | 3, _ => decide
