-- PURE 58: one step of the reference is that of the class
theorem ff_none : ∀ d i, ff (fun _ => false) i d = 0
  | 0, _ => rfl
  | d + 1, i => by
    show (if false then i else ff (fun _ => false) (i + 1) d) = 0
    rw [if_neg (by decide), ff_none d (i + 1)]
theorem one_end {g : GT} {code : Nat} (h : ¬ 2 ≤ nL g code) : one g code = 0 := by
  have hu : ∀ t, usb g code t = false := fun t => by unfold usb; rw [decide_eq_false h]; rfl
  have h1 : fre g code = 0 := by
    unfold fre
    rw [ff_ext (q := fun _ => false) _ _ (fun j _ _ => by rw [hu j]; rfl), ff_none]
  have h2 : ∀ k, (bg g code k).2 = 0 := fun k => by
    induction k with
    | zero => rfl
    | succ k ih =>
      have e : bg g code (k + 1) = bg g code k := by
        show (if usb g code (k + 1) then _ else bg g code k) = _
        rw [hu (k + 1), if_neg (by decide)]
      rw [e]; exact ih
  unfold one
  rw [if_pos h1, h2]
/-- the state behind one step -/
def oS (g : GT) (s : MS) (code : Nat) : MS := if 2 ≤ nL g code then (if fre g code = 0 then os g (m_use_f (lk g s code) (Uk g code (lk g s code) (g_nT g))) code (g_nT g) else m_use_f (lk g s code) (Uk g code (lk g s code) (g_nT g))) else lk g s code
theorem oneM {s : MS} {g : GT} (h : RM s g) (hg : GOK g) {code : Nat} (hc : COK g code) : m_M_oneStep s (nI code) = some (nI (one g code), oS g s code) := by
  have hn := hg.1
  have hct := ct_le (lf g code) (g_nC g)
  have hR := lk_RM h code
  have hL := LK_lk g s code
  unfold m_M_oneStep oS
  rw [lookM h hg hc, sb, leftM hR hg hL, sb]
  by_cases e : 2 ≤ nL g code
  · have hR2 := RM_uf hR (Uk g code (lk g s code) (g_nT g))
    have hU := UK_use (s := lk g s code) hg e
    have hfl : fre g code < 1 + g_nT g + 1 := ff_lt _ _ _
    have hn5 := hg.2.1
    rw [if_pos (show (2 : Int32) ≤ nI (nL g code) from nI_le (a := 2) e (by unfold nL; omega)), if_pos e, useM hR hg hL, sb, freeM hR2 hg hU, sb]
    by_cases e0 : fre g code = 0
    · rw [if_pos (by rw [e0]; decide), if_pos e0]
      have := bestM hR2 hg hc hU
      unfold one
      rw [if_pos e0, e0]
      exact this
    · rw [if_neg (nI_nle (by omega) (by omega)), if_neg e0]
      unfold one
      rw [if_neg e0]
  · rw [if_neg (show ¬ (2 : Int32) ≤ nI (nL g code) from nI_ge (b := 2) (by omega) (by decide)), if_neg e, one_end e]
    rfl
