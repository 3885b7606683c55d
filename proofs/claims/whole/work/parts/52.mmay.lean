-- PURE 52: the reference's may
theorem anyN_snoc (p : Nat → Bool) : ∀ d i, anyN p i (d + 1) = (anyN p i d || p (i + d))
  | 0, i => by
    show (p i || false) = (false || p (i + 0))
    rw [Bool.or_false, Bool.false_or, Nat.add_zero]
  | d + 1, i => by
    show (p i || anyN p (i + 1) (d + 1)) = ((p i || anyN p (i + 1) d) || p (i + (d + 1)))
    rw [anyN_snoc p d (i + 1), Bool.or_assoc, show i + 1 + d = i + (d + 1) by omega]
theorem anyN_cut (p : Nat → Bool) {n : Nat} : ∀ d, (∀ j, n < j → p j = false) → anyN p 1 (n + d) = anyN p 1 n
  | 0, _ => rfl
  | d + 1, h => by
    rw [show n + (d + 1) = (n + d) + 1 by omega, anyN_snoc, anyN_cut p d h, h (1 + (n + d)) (by omega), Bool.or_false]
/-- may, with the first k needs looked at -/
def mk (g : GT) (code t k : Nat) : Bool := decide (dg code t = 0) && !anyN (fun b => g_ne g t b && decide (dg code b = 0)) 1 k
theorem mk_may {g : GT} (hg : GOK g) (code t : Nat) : mk g code t (g_nT g) = may g code t := by
  have hn := hg.2.1
  have := anyN_cut (fun b => g_ne g t b && decide (dg code b = 0)) (n := g_nT g) (5 - g_nT g) (fun j hj => by
    cases hb : g_ne g t j
    · rfl
    · have := hg.2.2.2.2.2.2 t j hb; omega)
  rw [show g_nT g + (5 - g_nT g) = 5 by omega] at this
  unfold mk may
  rw [this]
def bI (b : Bool) : Int32 := if b then 1 else 0
theorem zb_bI (b : Bool) : zb (bI b) (some (bI b)) = some (bI b) := by
  cases b
  · exact if_pos (Or.inl rfl)
  · exact if_pos (Or.inr rfl)
theorem mayM {s : MS} {g : GT} (h : RM s g) (hg : GOK g) {code : Nat} (hl : LK s g code) {t : Nat} (h1 : 1 ≤ t) (h2 : t ≤ g_nT g) : m_M_may s (nI t) = some (bI (may g code t)) := by
  have hn := hg.2.1
  have hd := dg_lt code t
  have loop : ∀ v : Int32, v = bI (mk g code t 0) → m_M_may_J1 s (nI t) v = some (bI (may g code t)) := by
    intro v hv
    subst hv
    unfold m_M_may_J1
    have := xl2_up (m_M_may_B2 s (nI t)) (g_nT g + 1) (fun i => bI (mk g code t (i - 1))) (some (bI (may g code t))) 14 1 (by omega) (by omega) ?_ ?_
    · exact this
    · intro j self hj hjn
      obtain ⟨k, rfl⟩ : ∃ k, j = k + 1 := ⟨j - 1, by omega⟩
      have hdk := dg_lt code (k + 1)
      have hs : mk g code t (k + 1) = (mk g code t k && !(g_ne g t (k + 1) && decide (dg code (k + 1) = 0))) := by
        unfold mk
        rw [anyN_snoc, show 1 + k = k + 1 by omega, Bool.not_or, Bool.and_assoc]
      unfold m_M_may_B2
      rw [h.2.1, if_neg (nI_nlt (by omega) (by omega)), iadd1]
      simp only [Nat.add_sub_cancel]
      rw [hs]
      cases hm : mk g code t k
      · rw [if_pos (by decide)]; rfl
      · rw [if_neg (by decide), ix_i (j := 7 * t + (k + 1)) (by rw [show (7 : Int32) = nI 7 from rfl, pk_mul, nI_add]) (by omega) (by decide), h.2.2.2.2.2.1 t (k + 1) h1 (by omega) (by omega) (by omega)]
        cases hb : g_ne g t (k + 1)
        · rw [if_pos (by decide)]; rfl
        · rw [if_neg (by decide), ix_n (by omega) (by decide), hl.1 (k + 1) (by omega) (by omega)]
          by_cases e : dg code (k + 1) = 0
          · rw [if_pos ((dg_neg hdk).mpr e), decide_eq_true e]; rfl
          · rw [if_neg (fun q => e ((dg_neg hdk).mp q)), decide_eq_false e]; rfl
    · intro self
      unfold m_M_may_B2
      rw [h.2.1, if_pos (nI_lt (by omega) (by omega)), Nat.add_sub_cancel, mk_may hg]
      exact zb_bI _
  unfold m_M_may
  rw [ix_n (by omega) (by decide), hl.1 t h1 (by omega)]
  by_cases e : dg code t = 0
  · rw [if_neg (fun q => ((dg_nn hd).mp q) e)]
    exact loop 1 (by unfold mk; rw [decide_eq_true e]; rfl)
  · rw [if_pos ((dg_nn hd).mpr e)]
    exact loop 0 (by unfold mk; rw [decide_eq_false e]; rfl)
