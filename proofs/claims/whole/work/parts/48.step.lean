-- PURE 48: gains, one step
def lI (z : Int) : Int64 := Int64.ofInt z
theorem lI_n (n : Nat) : lN n = lI n := rfl
theorem lI_add (a b : Int) : lI a + lI b = lI (a + b) := (Int64.ofInt_add a b).symm
theorem lI_neg (a : Int) : -lI a = lI (-a) := (Int64.ofInt_neg a).symm
theorem lI_mul (a b : Int) : lI a * lI b = lI (a * b) := (Int64.ofInt_mul a b).symm
theorem lI_to {z : Int} (h1 : -9223372036854775808 ≤ z) (h2 : z < 9223372036854775808) : (lI z).toInt = z := Int64.toInt_ofInt_of_le h1 h2
theorem lI_le {a b : Int} (a1 : -9223372036854775808 ≤ a) (a2 : a < 9223372036854775808) (b1 : -9223372036854775808 ≤ b) (b2 : b < 9223372036854775808) : lI a ≤ lI b ↔ a ≤ b := by
  rw [Int64.le_iff_toInt_le, lI_to a1 a2, lI_to b1 b2]
def top (g : GT) (code : Nat) : Nat := mx (fun c => wt g c code) (g_nC g)
theorem top_le {g : GT} (h : GOK g) (code : Nat) : top g code ≤ 9481096396800 := mx_le (fun c => wt_le h c code) _
def chl (code t a : Nat) : Nat := code + (a + 1) * p4 t
theorem chl_ok {g : GT} (hg : GOK g) {code t a : Nat} (hc : COK g code) (h1 : 1 ≤ t) (h2 : t ≤ g_nT g) (h0 : dg code t = 0) (ha : a < 3) : COK g (chl code t a) := by
  have hn := hg.2.1
  obtain ⟨k1, k2⟩ := dg_add hc.1 (t := t) (by omega) h1 h0 ha
  refine ⟨k1, fun u hu hu7 => ?_⟩
  have := k2 u hu7 (by omega)
  rw [if_neg (by omega)] at this
  exact this.trans (hc.2 u hu hu7)
/-- the gain of a test, in the units of the weights -/
def gnp (g : GT) (code t : Nat) : Nat → Int
  | 0 => -(top g code : Int)
  | k + 1 => gnp g code t k + top g (chl code t k)
def gn (g : GT) (code t : Nat) : Int := gnp g code t 3
theorem gainX {xs : XS} {g : GT} (h : RX xs g) (hg : GOK g) {code : Nat} (hc : COK g code) {t : Nat} (h1 : 1 ≤ t) (h2 : t ≤ g_nT g) (h0 : dg code t = 0) : x_K_gain xs (nI code) (nI t) = some (lI (gn g code t)) := by
  have hn := hg.2.1
  unfold x_K_gain
  rw [greatX h hg hc, sb, lI_n, lI_neg]
  have := xl2_up (x_K_gain_B1 xs (nI code) (nI t)) 3 (fun i => lI (gnp g code t i)) (some (lI (gn g code t))) 14 0 (by omega) (by omega) ?_ ?_
  · exact this
  · intro j self hj hj3
    unfold x_K_gain_B1
    rw [if_neg (show ¬ (3 : Int32) ≤ nI j from nI_ge (b := 3) hj3 (by decide)), withAns code hc.1 t (by omega) j hj3 ⟨h1, h0⟩, sb, show nI (code + (j + 1) * p4 t) = nI (chl code t j) from rfl, greatX h hg (chl_ok hg hc h1 h2 h0 hj3), sb, iadd1, lI_n, lI_add]
    rfl
  · intro self
    rfl
/-- the best by gain / cost among the first k tests: its gain, its number (0: none) -/
def bg (g : GT) (code : Nat) : Nat → Int × Nat
  | 0 => (0, 0)
  | k + 1 => if usb g code (k + 1) then (if (bg g code k).2 = 0 then (gn g code (k + 1), k + 1) else if gn g code (k + 1) * g_co g (bg g code k).2 ≤ (bg g code k).1 * g_co g (k + 1) then bg g code k else (gn g code (k + 1), k + 1)) else bg g code k
theorem gn_b {g : GT} (h : GOK g) (code t : Nat) : -9481096396800 ≤ gn g code t ∧ gn g code t ≤ 28443289190400 := by
  have a := top_le h code
  have b0 := top_le h (chl code t 0)
  have b1 := top_le h (chl code t 1)
  have b2 := top_le h (chl code t 2)
  show -9481096396800 ≤ -(top g code : Int) + top g (chl code t 0) + top g (chl code t 1) + top g (chl code t 2) ∧ -(top g code : Int) + top g (chl code t 0) + top g (chl code t 1) + top g (chl code t 2) ≤ 28443289190400
  omega
theorem bg_b {g : GT} (h : GOK g) (code : Nat) : ∀ k, (bg g code k).2 ≤ k ∧ -9481096396800 ≤ (bg g code k).1 ∧ (bg g code k).1 ≤ 28443289190400
  | 0 => ⟨Nat.le_refl _, by show (-9481096396800 : Int) ≤ 0; decide, by show (0 : Int) ≤ 28443289190400; decide⟩
  | k + 1 => by
    have ih := bg_b h code k
    have hg := gn_b h code (k + 1)
    unfold bg
    cases usb g code (k + 1)
    · exact ⟨by have := ih.1; simp; omega, by simpa using ih.2⟩
    · by_cases e : (bg g code k).2 = 0
      · simp only [if_true, if_pos e]; exact ⟨Nat.le_refl _, hg⟩
      · by_cases e2 : gn g code (k + 1) * g_co g (bg g code k).2 ≤ (bg g code k).1 * g_co g (k + 1)
        · simp only [if_true, if_neg e, if_pos e2]; exact ⟨by have := ih.1; omega, ih.2⟩
        · simp only [if_true, if_neg e, if_neg e2]; exact ⟨Nat.le_refl _, hg⟩
theorem mulb {z : Int} {c : Nat} (h1 : -9481096396800 ≤ z) (h2 : z ≤ 28443289190400) (hc : c ≤ 400) : -9223372036854775808 ≤ z * c ∧ z * c < 9223372036854775808 := by
  have hc0 : (0 : Int) ≤ c := Int.natCast_nonneg c
  have hc4 : (c : Int) ≤ 400 := by omega
  constructor
  · have : -9481096396800 * (c : Int) ≤ z * c := Int.mul_le_mul_of_nonneg_right h1 hc0
    omega
  · have : z * c ≤ 28443289190400 * (c : Int) := Int.mul_le_mul_of_nonneg_right h2 hc0
    omega
theorem usb_may {g : GT} {code t : Nat} (h : usb g code t = true) : may g code t = true := by
  unfold usb at h
  simp only [Bool.and_eq_true] at h
  exact h.2.1
theorem may_dg {g : GT} {code t : Nat} (h : may g code t = true) : dg code t = 0 := by
  unfold may at h
  simp only [Bool.and_eq_true, decide_eq_true_eq] at h
  exact h.1
theorem bestX {xs : XS} {g : GT} (h : RX xs g) (hg : GOK g) {code : Nat} (hc : COK g code) : x_K_bestGain xs (nI code) (nI (bs (usb g code) (g_nT g))) = some (nI (bg g code (g_nT g)).2) := by
  have hn := hg.2.1
  have hsl := bs_lt13 (usb g code) (k := g_nT g) (by omega)
  unfold x_K_bestGain
  have := xl3_up (x_K_bestGain_B1 xs (nI code) (nI (bs (usb g code) (g_nT g)))) (g_nT g + 1) (fun i => lI (bg g code (i - 1)).1) (fun i => nI (bg g code (i - 1)).2) (some (nI (bg g code (g_nT g)).2)) 14 1 (by omega) (by omega) ?_ ?_
  · exact this
  · intro j self hj hjn
    obtain ⟨k, rfl⟩ : ∃ k, j = k + 1 := ⟨j - 1, by omega⟩
    have hb := bg_b hg code k
    have hgn := gn_b hg code (k + 1)
    unfold x_K_bestGain_B1
    rw [h.2.1, if_neg (nI_nlt (by omega) (by omega)), holdsN (by omega) (by omega), sb, bs_test, decide_eq_true hj, decide_eq_true (show k + 1 ≤ g_nT g by omega), Bool.true_and, Bool.true_and, iadd1]
    simp only [Nat.add_sub_cancel]
    have hstep : bg g code (k + 1) = if usb g code (k + 1) then (if (bg g code k).2 = 0 then (gn g code (k + 1), k + 1) else if gn g code (k + 1) * g_co g (bg g code k).2 ≤ (bg g code k).1 * g_co g (k + 1) then bg g code k else (gn g code (k + 1), k + 1)) else bg g code k := rfl
    rw [hstep]
    cases hu : usb g code (k + 1)
    · rfl
    · rw [if_neg (by decide), gainX h hg hc (by omega) (by omega) (may_dg (usb_may hu)), sb, if_pos rfl]
      by_cases e : (bg g code k).2 = 0
      · rw [if_pos (by rw [e]; rfl), if_pos e]
      · rw [if_neg (nI_ne0 (by omega) (by omega)), if_neg e, priceX h hg (by omega) (by omega), sb, priceX h hg (by omega) (by omega), sb]
        have c1 := hg.2.2.2.2.1 (bg g code k).2
        have c2 := hg.2.2.2.2.1 (k + 1)
        rw [i64od (by omega), i64od (by omega), lI_n, lI_n, lI_mul, lI_mul]
        have m1 := mulb hgn.1 hgn.2 c1
        have m2 := mulb hb.2.1 hb.2.2 c2
        by_cases e2 : gn g code (k + 1) * g_co g (bg g code k).2 ≤ (bg g code k).1 * g_co g (k + 1)
        · rw [if_pos ((lI_le m1.1 m1.2 m2.1 m2.2).mpr e2), if_pos e2]
        · rw [if_neg (fun q => e2 ((lI_le m1.1 m1.2 m2.1 m2.2).mp q)), if_neg e2]
  · intro self
    unfold x_K_bestGain_B1
    rw [h.2.1, if_pos (nI_lt (by omega) (by omega))]
    rfl
/-- the test that ONE STEP tells -/
def one (g : GT) (code : Nat) : Nat := if fre g code = 0 then (bg g code (g_nT g)).2 else fre g code
theorem ff_lt (p : Nat → Bool) : ∀ d i, ff p i d < i + d + 1
  | 0, i => by show 0 < i + 0 + 1; omega
  | d + 1, i => by
    have := ff_lt p d (i + 1)
    show (if p i then i else ff p (i + 1) d) < i + (d + 1) + 1
    cases p i
    · simp; omega
    · simp; omega
theorem oneX {xs : XS} {g : GT} (h : RX xs g) (hg : GOK g) {code : Nat} (hc : COK g code) : x_K_oneStep xs (nI code) = some (nI (one g code)) := by
  have hn := hg.2.1
  unfold x_K_oneStep one
  rw [leftX h hg hc, sb, usableX h hg hc, sb, freeX h hg, sb]
  have hl : fre g code < 1 + g_nT g + 1 := ff_lt _ _ _
  by_cases e : fre g code = 0
  · rw [if_pos (by rw [e]; rfl), if_pos e, bestX h hg hc, sb]
  · rw [if_neg (nI_ne0 (by omega) (by omega)), if_neg e]
