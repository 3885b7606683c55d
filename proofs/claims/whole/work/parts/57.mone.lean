-- PURE 57: the reference's one step
theorem use_lk (g : GT) (s : MS) (code : Nat) : m_use (lk g s code) = m_use s := by simp only [m_use, lk, m_weight_f, m_digit_f]
theorem use_gs (g : GT) (s : MS) (code t : Nat) : ∀ k, m_use (gs g s code t k) = m_use s
  | 0 => use_lk g s code
  | k + 1 => by
    show m_use (lk g (gs g s code t k) (chl code t k)) = _
    rw [use_lk, use_gs g s code t k]
theorem bg_gn {g : GT} (code : Nat) : ∀ k, ¬ (bg g code k).2 = 0 → (bg g code k).1 = gn g code (bg g code k).2 ∧ usb g code (bg g code k).2 = true
  | 0, h => absurd rfl h
  | k + 1, h => by
    have hstep : bg g code (k + 1) = if usb g code (k + 1) then (if (bg g code k).2 = 0 then (gn g code (k + 1), k + 1) else if gn g code (k + 1) * g_co g (bg g code k).2 ≤ (bg g code k).1 * g_co g (k + 1) then bg g code k else (gn g code (k + 1), k + 1)) else bg g code k := rfl
    rw [hstep] at h ⊢
    cases hu : usb g code (k + 1)
    · rw [hu, if_neg (by decide)] at h
      rw [if_neg (by decide)]
      exact bg_gn code k h
    · rw [hu, if_pos rfl] at h
      rw [if_pos rfl]
      by_cases e : (bg g code k).2 = 0
      · rw [if_pos e]; exact ⟨rfl, hu⟩
      · rw [if_neg e] at h ⊢
        by_cases e2 : gn g code (k + 1) * g_co g (bg g code k).2 ≤ (bg g code k).1 * g_co g (k + 1)
        · rw [if_pos e2]; exact bg_gn code k e
        · rw [if_neg e2]; exact ⟨rfl, hu⟩
/-- the reference's state while it looks for the best gain -/
def os (g : GT) (s : MS) (code : Nat) : Nat → MS
  | 0 => s
  | k + 1 => if usb g code (k + 1) then (if (bg g code k).2 = 0 then os g s code k else gs g (gs g (os g s code k) code (k + 1) 3) code (bg g code k).2 3) else os g s code k
theorem os_ok {g : GT} {s : MS} (h : RM s g) (code : Nat) : ∀ k, RM (os g s code k) g ∧ m_use (os g s code k) = m_use s
  | 0 => ⟨h, rfl⟩
  | k + 1 => by
    have ih := os_ok h code k
    have e : os g s code (k + 1) = if usb g code (k + 1) then (if (bg g code k).2 = 0 then os g s code k else gs g (gs g (os g s code k) code (k + 1) 3) code (bg g code k).2 3) else os g s code k := rfl
    rw [e]
    cases usb g code (k + 1)
    · rw [if_neg (by decide)]; exact ih
    · rw [if_pos rfl]
      by_cases e0 : (bg g code k).2 = 0
      · rw [if_pos e0]; exact ih
      · rw [if_neg e0]
        exact ⟨gs_RM (gs_RM ih.1 code _ 3) code _ 3, by rw [use_gs, use_gs]; exact ih.2⟩
theorem m144 {a b : Int} {c d : Nat} : (12 * a * (c : Int) ≤ 12 * b * (d : Int)) ↔ (a * c ≤ b * d) := by
  rw [Int.mul_assoc, Int.mul_assoc]
  omega
theorem mulb12 {z : Int} {c : Nat} (h1 : -9481096396800 ≤ z) (h2 : z ≤ 28443289190400) (hc : c ≤ 400) : -9223372036854775808 ≤ 12 * z * c ∧ 12 * z * c < 9223372036854775808 := by
  have hc0 : (0 : Int) ≤ c := Int.natCast_nonneg c
  have hc4 : (c : Int) ≤ 400 := by omega
  constructor
  · have : -113773156761600 * (c : Int) ≤ 12 * z * c := Int.mul_le_mul_of_nonneg_right (by omega) hc0
    omega
  · have : 12 * z * c ≤ 341319470284800 * (c : Int) := Int.mul_le_mul_of_nonneg_right (by omega) hc0
    omega
theorem bestM {s : MS} {g : GT} (h : RM s g) (hg : GOK g) {code : Nat} (hc : COK g code) (hu : UK s g code) : xl3 (m_M_oneStep_B1 (nI code)) 14 (nI 1) (nI 0) s = some (nI (bg g code (g_nT g)).2, os g s code (g_nT g)) := by
  have hn := hg.2.1
  have := xl3_up (m_M_oneStep_B1 (nI code)) (g_nT g + 1) (fun i => nI (bg g code (i - 1)).2) (fun i => os g s code (i - 1)) (some (nI (bg g code (g_nT g)).2, os g s code (g_nT g))) 14 1 (by omega) (by omega) ?_ ?_
  · exact this
  · intro j self hj hjn
    obtain ⟨k, rfl⟩ : ∃ k, j = k + 1 := ⟨j - 1, by omega⟩
    simp only [Nat.add_sub_cancel]
    obtain ⟨hR, hus⟩ := os_ok h code k
    have hb := bg_b hg code k
    have hgn := gn_b hg code (k + 1)
    have hstep : bg g code (k + 1) = if usb g code (k + 1) then (if (bg g code k).2 = 0 then (gn g code (k + 1), k + 1) else if gn g code (k + 1) * g_co g (bg g code k).2 ≤ (bg g code k).1 * g_co g (k + 1) then bg g code k else (gn g code (k + 1), k + 1)) else bg g code k := rfl
    have ostep : os g s code (k + 1) = if usb g code (k + 1) then (if (bg g code k).2 = 0 then os g s code k else gs g (gs g (os g s code k) code (k + 1) 3) code (bg g code k).2 3) else os g s code k := rfl
    rw [hstep, ostep]
    unfold m_M_oneStep_B1 m_M_oneStep_J3 m_M_oneStep_J2
    rw [hR.2.1, if_neg (nI_nlt (by omega) (by omega)), ix_n (by omega) (by decide), hus, hu (k + 1) hj (by omega), iadd1]
    cases hy : usb g code (k + 1)
    · rw [if_pos (by decide)]; rfl
    · rw [if_neg (by decide), if_pos rfl, if_pos rfl]
      by_cases e : (bg g code k).2 = 0
      · rw [if_pos (by rw [e]; rfl), if_neg (by decide), if_pos e, if_pos e]
      · obtain ⟨eg, eu⟩ := bg_gn code k e
        have hR2 := gs_RM hR code (k + 1) 3
        have hR3 := gs_RM hR2 code (bg g code k).2 3
        have c1 := hg.2.2.2.2.1 (bg g code k).2
        have c2 := hg.2.2.2.2.1 (k + 1)
        rw [if_neg (nI_ne0 (by omega) (by omega)), if_neg e, if_neg e, gainM hR hg hc hj (by omega) (may_dg (usb_may hy)), bd2_s, ix_n (by omega) (by decide), gainM hR2 hg hc (by omega) (by omega) (may_dg (usb_may eu)), bd2_s, ix_n (by omega) (by decide), hR2.2.2.2.2.1 _ (by omega) (by omega), hR3.2.2.2.2.1 _ hj (by omega), lI_n, lI_n, lI_mul, lI_mul]
        have m1 := mulb12 hgn.1 hgn.2 c1
        have hb2 := hb.2
        rw [eg] at hb2
        have m2 := mulb12 hb2.1 hb2.2 c2
        by_cases e2 : gn g code (k + 1) * g_co g (bg g code k).2 ≤ (bg g code k).1 * g_co g (k + 1)
        · rw [if_pos e2]
          rw [eg] at e2
          rw [if_pos ((lI_le m1.1 m1.2 m2.1 m2.2).mpr (m144.mpr e2)), if_pos rfl]
        · rw [if_neg e2]
          rw [eg] at e2
          rw [if_neg (fun q => e2 (m144.mp ((lI_le m1.1 m1.2 m2.1 m2.2).mp q))), if_neg (by decide)]
  · intro self
    obtain ⟨hR, _⟩ := os_ok h code (g_nT g + 1 - 1)
    unfold m_M_oneStep_B1
    rw [hR.2.1, if_pos (nI_lt (by omega) (by omega))]
    rfl
