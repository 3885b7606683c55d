-- PURE 43: the class's state holds a g; its weights
def msk (f : Nat → Bool) : Nat := (if f 1 then 2 else 0) + (if f 2 then 4 else 0) + (if f 3 then 8 else 0) + (if f 4 then 16 else 0) + (if f 5 then 32 else 0)
def RX (xs : XS) (g : GT) : Prop := x_cN xs = nI (g_nC g) ∧ x_tN xs = nI (g_nT g) ∧ (∀ c, 1 ≤ c → c ≤ g_nC g → x_pri xs c = lN (g_pr g c)) ∧ (∀ c, 1 ≤ c → c ≤ g_nC g → x_lea xs c = nI (g_le g c)) ∧ (∀ t, 1 ≤ t → t ≤ g_nT g → x_cst xs t = nI (g_co g t)) ∧ (∀ t, 1 ≤ t → t ≤ 5 → x_nee xs t = nI (msk (g_ne g t))) ∧ (∀ t c, 1 ≤ t → t ≤ 5 → 1 ≤ c → c ≤ 12 → x_tab xs t c = nI (g_od g t c 0 + 16 * g_od g t c 1 + 256 * g_od g t c 2))
theorem knC {xs : XS} {g : GT} (h : RX xs g) (hg : GOK g) {c : Nat} (h1 : 1 ≤ c) (h2 : c ≤ g_nC g) : x_C_knows xs (nI c) = some 1 := by
  have hn := hg.1
  unfold x_C_knows
  rw [h.1, if_neg (show ¬ nI c < (1 : Int32) from nI_nlt (b := 1) h1 (by omega)), if_neg (nI_nlt h2 (by omega)), if_neg (show ¬ (12 : Int32) < nI c from nI_nlt (a := 12) (by omega) (by omega))]
theorem knC0 {xs : XS} {g : GT} (h : RX xs g) (hg : GOK g) {c : Nat} (h2 : g_nC g < c) (h3 : c < 2 ^ 31) : x_C_knows xs (nI c) = some 0 := by
  have hn := hg.1
  unfold x_C_knows
  rw [h.1, if_neg (show ¬ nI c < (1 : Int32) from nI_nlt (b := 1) (by omega) (by omega)), if_pos (nI_lt h2 (by omega))]
theorem knT {xs : XS} {g : GT} (h : RX xs g) (hg : GOK g) {t : Nat} (h1 : 1 ≤ t) (h2 : t ≤ g_nT g) : x_T_knows xs (nI t) = some 1 := by
  have hn := hg.2.1
  unfold x_T_knows
  rw [h.2.1, if_neg (show ¬ nI t < (1 : Int32) from nI_nlt (b := 1) h1 (by omega)), if_neg (nI_nlt h2 (by omega)), if_neg (show ¬ (5 : Int32) < nI t from nI_nlt (a := 5) (by omega) (by omega))]
theorem min5 : ∀ n, n < 600 → ((if (5 : Int32) < nI n then (5 : Int32) else nI n) + (1 : Int32)).toInt64 = lN (min n 5 + 1) := by decide +kernel
theorem priorC {xs : XS} {g : GT} (h : RX xs g) (hg : GOK g) {c : Nat} (h1 : 1 ≤ c) (h2 : c ≤ g_nC g) : x_C_prior xs (nI c) = some (lN (P0 g c)) := by
  have hn := hg.1
  unfold x_C_prior
  rw [knC h hg h1 h2, sb, if_neg (by decide), ix_n (by omega) (by decide), ix_n (by omega) (by decide), h.2.2.1 c h1 h2, h.2.2.2.1 c h1 h2, min5 _ (by have := hg.2.2.2.1 c; omega), lN_mul]
  rfl
theorem priorC0 {xs : XS} {g : GT} (h : RX xs g) (hg : GOK g) {c : Nat} (h2 : g_nC g < c) (h3 : c < 2 ^ 31) : x_C_prior xs (nI c) = some 0 := by
  unfold x_C_prior
  rw [knC0 h hg h2 h3, sb, if_pos (by decide)]
theorem placeT {xs : XS} {g : GT} (h : RX xs g) (hg : GOK g) {t c : Nat} (h1 : 1 ≤ t) (h2 : t ≤ g_nT g) (c1 : 1 ≤ c) (c2 : c ≤ 12) : x_T_hasPlace xs (nI t) (nI c) = some 1 := by
  unfold x_T_hasPlace
  rw [knT h hg h1 h2, sb, if_neg (by decide), if_neg (show ¬ nI c < (1 : Int32) from nI_nlt (b := 1) c1 (by omega)), if_neg (show ¬ (12 : Int32) < nI c from nI_nlt (a := 12) (by omega) (by omega))]
theorem twN {xs : XS} {g : GT} (h : RX xs g) (hg : GOK g) {t c a : Nat} (h1 : 1 ≤ t) (h2 : t ≤ g_nT g) (c1 : 1 ≤ c) (c2 : c ≤ 12) (ha : a < 3) : x_T_twelfths xs (nI t) (nI c) (nI a) = some (nI (g_od g t c a)) := by
  have hn := hg.2.1
  have ho := hg.2.2.2.2.2.1 t c
  unfold x_T_twelfths
  rw [placeT h hg h1 h2 c1 c2, sb, if_neg (by decide), ix_n (by omega) (by decide), ix_n (by omega) (by decide), h.2.2.2.2.2.2 t c h1 (by omega) c1 c2]
  obtain ⟨e0, e1, e2⟩ := tw13 (g_od g t c 0) (by omega) (g_od g t c 1) (by omega) (g_od g t c 2) (by omega)
  match a, ha with
  | 0, _ => exact congrArg some e0
  | 1, _ => exact congrArg some e1
  | 2, _ => exact congrArg some e2
/-- the weight with the first k tests looked at, the others counted as 12 -/
def wr (g : GT) (c code k : Nat) : Nat := wk g c code k * 12 ^ (5 - k)
theorem wr_step0 {g : GT} {c code k : Nat} (hk : k < 5) (h0 : dg code (k + 1) = 0) : wr g c code (k + 1) = wr g c code k := by
  unfold wr
  show wk g c code k * fac g c code (k + 1) * 12 ^ (5 - (k + 1)) = _
  unfold fac
  rw [if_pos h0, Nat.mul_assoc]
  congr 1
  rw [show 5 - k = (5 - (k + 1)) + 1 by omega, Nat.pow_succ, Nat.mul_comm]
theorem wr_step1 {g : GT} {c code k : Nat} (hk : k < 5) (h0 : ¬ dg code (k + 1) = 0) : wr g c code (k + 1) = wr g c code k / 12 * g_od g (k + 1) c (dg code (k + 1) - 1) := by
  unfold wr
  show wk g c code k * fac g c code (k + 1) * 12 ^ (5 - (k + 1)) = _
  unfold fac
  rw [if_neg h0, show 5 - k = (5 - (k + 1)) + 1 by omega, Nat.pow_succ, ← Nat.mul_assoc, Nat.mul_div_cancel _ (by decide), Nat.mul_assoc, Nat.mul_comm (g_od g (k + 1) c (dg code (k + 1) - 1)), ← Nat.mul_assoc]
theorem wr_le {g : GT} (h : GOK g) (c code : Nat) {k : Nat} (hk : k ≤ 5) : wr g c code k ≤ 9481096396800 := by
  unfold wr
  have h1 := wk_le h c code k
  calc wk g c code k * 12 ^ (5 - k) ≤ (38102400 * 12 ^ k) * 12 ^ (5 - k) := Nat.mul_le_mul_right _ h1
    _ = 38102400 * 12 ^ 5 := by rw [Nat.mul_assoc, ← Nat.pow_add, show k + (5 - k) = 5 by omega]
    _ ≤ 9481096396800 := by decide
theorem wr_end {g : GT} {c code : Nat} (hc : COK g code) (hg : GOK g) : ∀ d, g_nT g + d ≤ 5 → wr g c code (g_nT g + d) = wr g c code (g_nT g)
  | 0, _ => rfl
  | d + 1, h => by
    rw [← wr_end hc hg d (by omega), show g_nT g + (d + 1) = (g_nT g + d) + 1 by omega]
    exact wr_step0 (by omega) (hc.2 _ (by omega) (by omega))
theorem wr_wt {g : GT} {c code : Nat} (hc : COK g code) (hg : GOK g) : wr g c code (g_nT g) = wt g c code := by
  have hn := hg.2.1
  have := wr_end hc hg (c := c) (5 - g_nT g) (by omega)
  rw [← this, show g_nT g + (5 - g_nT g) = 5 by omega]
  unfold wr wt
  simp
theorem i64od {n : Nat} (h : n < 2 ^ 31) : (nI n).toInt64 = lN n := nI_l h
theorem weightX {xs : XS} {g : GT} (h : RX xs g) (hg : GOK g) {code : Nat} (hc : COK g code) {c : Nat} (h1 : 1 ≤ c) (h2 : c ≤ g_nC g) : x_K_weightOf xs (nI c) (nI code) = some (lN (wt g c code)) := by
  have hn := hg.2.1
  have hcn := hg.1
  unfold x_K_weightOf
  rw [priorC h hg h1 h2, sb, show lN (P0 g c) * (248832 : Int64) = lN (wr g c code 0) from by unfold wr wk; rw [show (248832 : Int64) = lN 248832 from rfl, lN_mul]]
  have := xl2_up (x_K_weightOf_B1 xs (nI c) (nI code)) (g_nT g + 1) (fun i => lN (wr g c code (i - 1))) (some (lN (wt g c code))) 14 1 (by omega) (by omega) ?_ ?_
  · exact this
  · intro j self hj hjn
    unfold x_K_weightOf_B1
    rw [h.2.1, if_neg (nI_nlt (by omega) (by omega)), ansIn code hc.1 j (by omega) hj, sb]
    have hd4 := dg_lt code j
    obtain ⟨k, rfl⟩ : ∃ k, j = k + 1 := ⟨j - 1, by omega⟩
    by_cases e : dg code (k + 1) = 0
    · rw [if_pos (by rw [e]; decide), iadd1]
      show self _ (lN (wr g c code k)) = self _ (lN (wr g c code (k + 1)))
      rw [wr_step0 (by omega) e]
    · have ed : nI (dg code (k + 1)) - 1 = nI (dg code (k + 1) - 1) := by
        obtain ⟨d, hd⟩ : ∃ d, dg code (k + 1) = d + 1 := ⟨dg code (k + 1) - 1, by omega⟩
        rw [hd, nI_pred]; rfl
      rw [ed, if_neg (show ¬ nI (dg code (k + 1) - 1) = (-1 : Int32) from fun q => by
        have := nI_pos (n := dg code (k + 1) - 1) (by omega)
        rw [q] at this
        exact this (by decide)), twN h hg (by omega) (by omega) h1 (by omega) (by omega), sb, iadd1]
      show self _ (lN (wr g c code k) / 12 * _) = self _ (lN (wr g c code (k + 1)))
      have hw := wr_le hg c code (k := k) (by omega)
      have ho := od_le hg (k + 1) c (a := dg code (k + 1) - 1) (by omega)
      rw [wr_step1 (by omega) e, show (12 : Int64) = lN 12 from rfl, pk_lDiv (by omega) (by decide) (by decide), i64od (by omega), lN_mul]
  · intro self
    unfold x_K_weightOf_B1
    rw [h.2.1, if_pos (nI_lt (by omega) (by omega))]
    show some (lN (wr g c code (g_nT g + 1 - 1))) = _
    rw [Nat.add_sub_cancel, wr_wt hc hg]
