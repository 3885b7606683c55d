-- PURE 61: never, of the class
def can (g : GT) (t a : Nat) : Bool := anyN (fun c => decide (0 < g_od g t c a)) 1 (g_nC g)
def nev (g : GT) (a : Nat) : Nat := ct (fun t => !can g t a) (g_nT g)
theorem canX {xs : XS} {g : GT} (h : RX xs g) (hg : GOK g) {t a : Nat} (h1 : 1 ≤ t) (h2 : t ≤ g_nT g) (ha : a < 3) : x_T_canAnswer xs (nI t) (nI a) (nI (g_nC g)) = some (bI (can g t a)) := by
  have hn := hg.1
  unfold x_T_canAnswer
  have := xl1_any (x_T_canAnswer_B1 xs (nI t) (nI a) (nI (g_nC g))) (g_nC g + 1) (fun c => decide (0 < g_od g t c a)) (some 1) (some 0) 14 1 (by omega) (by omega) ?_ ?_
  · refine Eq.trans this ?_
    rw [Nat.add_sub_cancel]
    show (if can g t a then some 1 else some 0) = _
    cases can g t a <;> rfl
  · intro j self hj hjn
    have ho := od_le hg t j ha
    unfold x_T_canAnswer_B1
    rw [if_neg (nI_nlt (by omega) (by omega)), twN h hg h1 h2 hj (by omega) ha, sb, iadd1]
    by_cases e : g_od g t j a = 0
    · rw [if_pos (by rw [e]; decide), decide_eq_false (by omega), if_neg (by decide)]
    · rw [if_neg (nI_nle (by omega) (by omega)), decide_eq_true (by omega), if_pos rfl]
  · intro self
    unfold x_T_canAnswer_B1
    rw [if_pos (nI_lt (by omega) (by omega))]
theorem isAns : ∀ a, a < 3 → x_G_isAnswer (nI a) = some 1 := by decide +kernel
theorem isAnsN {p : Int32} (h : p < 0 ∨ (3 : Int32) ≤ p) : x_G_isAnswer p = some 0 := by
  unfold x_G_isAnswer
  by_cases e : p < 0
  · rw [if_pos e]
  · rw [if_neg e, if_pos (h.resolve_left e)]
theorem neverX {xs : XS} {g : GT} (h : RX xs g) (hg : GOK g) {a : Nat} (ha : a < 3) : x_G_never xs (nI a) = some (nI (nev g a)) := by
  have hn := hg.2.1
  unfold x_G_never
  rw [isAns a ha, sb, if_neg (by decide)]
  have := xl2_up (x_G_never_B1 xs (nI a)) (g_nT g + 1) (fun i => nI (ct (fun t => !can g t a) (i - 1))) (some (nI (nev g a))) 14 1 (by omega) (by omega) ?_ ?_
  · exact this
  · intro j self hj hjn
    obtain ⟨k, rfl⟩ : ∃ k, j = k + 1 := ⟨j - 1, by omega⟩
    unfold x_G_never_B1
    rw [h.2.1, if_neg (nI_nlt (by omega) (by omega)), h.1, canX h hg hj (by omega) ha, sb, iadd1]
    show _ = self _ (nI (ct (fun t => !can g t a) k + if (!can g (k + 1) a) then 1 else 0))
    simp only [Nat.add_sub_cancel]
    cases can g (k + 1) a
    · rw [if_pos (by decide), iadd1]; rfl
    · rw [if_neg (by decide)]; rfl
  · intro self
    unfold x_G_never_B1
    rw [h.2.1, if_pos (nI_lt (by omega) (by omega))]
    rfl
