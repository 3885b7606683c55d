-- PURE 56: the reference's gain: twelve times the class's
def gs (g : GT) (s : MS) (code t : Nat) : Nat → MS
  | 0 => lk g s code
  | k + 1 => lk g (gs g s code t k) (chl code t k)
theorem gs_RM {g : GT} {s : MS} (h : RM s g) (code t : Nat) : ∀ k, RM (gs g s code t k) g
  | 0 => lk_RM h code
  | k + 1 => lk_RM (gs_RM h code t k) _
theorem gainM {s : MS} {g : GT} (h : RM s g) (hg : GOK g) {code : Nat} (hc : COK g code) {t : Nat} (h1 : 1 ≤ t) (h2 : t ≤ g_nT g) (h0 : dg code t = 0) : m_M_gain s (nI code) (nI t) = some (lI (12 * gn g code t), gs g s code t 3) := by
  have hn := hg.2.1
  have e12 : lN (12 * top g code) = lI (12 * (top g code : Int)) := by rw [lI_n]; rfl
  unfold m_M_gain
  rw [lookM h hg hc, sb, mostM (lk_RM h code) hg (LK_lk g s code), sb, e12, lI_neg]
  have := xl3_up (m_M_gain_B1 (nI code) (nI t)) 4 (fun i => lI (12 * gnp g code t (i - 1))) (fun i => gs g s code t (i - 1)) (some (lI (12 * gn g code t), gs g s code t 3)) 14 1 (by omega) (by omega) ?_ ?_
  · have e0 : (12 * gnp g code t (1 - 1) : Int) = -(12 * (top g code : Int)) := by
      show 12 * -(top g code : Int) = _
      omega
    rw [e0] at this
    exact this
  · intro j self hj hj4
    obtain ⟨k, rfl⟩ : ∃ k, j = k + 1 := ⟨j - 1, by omega⟩
    have hR := gs_RM h code t k
    have hch := chl_ok hg hc h1 h2 h0 (a := k) (by omega)
    unfold m_M_gain_B1
    rw [if_neg (show ¬ (4 : Int32) ≤ nI (k + 1) from nI_ge (b := 4) hj4 (by decide)), unitN t (by omega) h1, sb, pk_mul, nI_add]
    simp only [Nat.add_sub_cancel]
    rw [show code + (k + 1) * p4 t = chl code t k from rfl, lookM hR hg hch, sb, mostM (lk_RM hR _) hg (LK_lk g _ _), sb, iadd1, lI_n, lI_add]
    have e3 : (12 * gnp g code t k + ((12 * top g (chl code t k) : Nat) : Int) : Int) = 12 * gnp g code t (k + 1) := by
      show _ = 12 * (gnp g code t k + (top g (chl code t k) : Int))
      omega
    rw [e3]
    rfl
  · intro self
    rfl
