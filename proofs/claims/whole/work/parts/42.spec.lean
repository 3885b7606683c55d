-- PURE 42: what both programs compute, in whole numbers
/-- nC, nT, priors, how often learned, costs, needs, odds -/
abbrev GT : Type := Nat × Nat × (Nat → Nat) × (Nat → Nat) × (Nat → Nat) × (Nat → Nat → Bool) × (Nat → Nat → Nat → Nat)
def g_nC (g : GT) : Nat := g.1
def g_nT (g : GT) : Nat := g.2.1
def g_pr (g : GT) : Nat → Nat := g.2.2.1
def g_le (g : GT) : Nat → Nat := g.2.2.2.1
def g_co (g : GT) : Nat → Nat := g.2.2.2.2.1
def g_ne (g : GT) : Nat → Nat → Bool := g.2.2.2.2.2.1
def g_od (g : GT) : Nat → Nat → Nat → Nat := g.2.2.2.2.2.2
/-- the factor of a test in a case: 12 where it has no answer, else the answer's odds -/
def fac (g : GT) (c code t : Nat) : Nat := if dg code t = 0 then 12 else g_od g t c (dg code t - 1)
def P0 (g : GT) (c : Nat) : Nat := g_pr g c * (min (g_le g c) 5 + 1)
/-- a cause's weight in units of 1 / (2520^2 * 12^5), with the first k tests looked at -/
def wk (g : GT) (c code : Nat) : Nat → Nat
  | 0 => P0 g c
  | k + 1 => wk g c code k * fac g c code (k + 1)
def wt (g : GT) (c code : Nat) : Nat := wk g c code 5
/-- sums over causes 1 .. k -/
def sm (f : Nat → Nat) : Nat → Nat
  | 0 => 0
  | k + 1 => sm f k + f (k + 1)
def S (g : GT) (code : Nat) : Nat := sm (fun c => wt g c code) (g_nC g)
def mx (f : Nat → Nat) : Nat → Nat
  | 0 => 0
  | k + 1 => max (mx f k) (f (k + 1))
/-- how many of 1 .. k -/
def ct (f : Nat → Bool) : Nat → Nat
  | 0 => 0
  | k + 1 => ct f k + if f (k + 1) then 1 else 0
def lf (g : GT) (code c : Nat) : Bool := decide (0 < wt g c code)
def nL (g : GT) (code : Nat) : Nat := ct (lf g code) (g_nC g)
/-- the limits that every state keeps -/
def GOK (g : GT) : Prop := g_nC g ≤ 12 ∧ g_nT g ≤ 5 ∧ (∀ c, g_pr g c ≤ 6350400) ∧ (∀ c, g_le g c ≤ 512) ∧ (∀ t, g_co g t ≤ 400) ∧ (∀ t c, g_od g t c 0 + g_od g t c 1 + g_od g t c 2 ≤ 12) ∧ (∀ t b, g_ne g t b = true → 1 ≤ b ∧ b ≤ g_nT g)
/-- a case's code: only tests that are there have answers -/
def COK (g : GT) (code : Nat) : Prop := code < 1024 ∧ ∀ t, g_nT g < t → t < 7 → dg code t = 0
theorem od_le {g : GT} (h : GOK g) (t c : Nat) {a : Nat} (ha : a < 3) : g_od g t c a ≤ 12 := by
  have := h.2.2.2.2.2.1 t c
  match a, ha with
  | 0, _ => omega
  | 1, _ => omega
  | 2, _ => omega
theorem dg_lt (code t : Nat) : dg code t < 4 := Nat.mod_lt _ (by decide)
theorem fac_le {g : GT} (h : GOK g) (c code t : Nat) : fac g c code t ≤ 12 := by
  unfold fac
  by_cases e : dg code t = 0
  · rw [if_pos e]; decide
  · rw [if_neg e]
    exact od_le h t c (by have := dg_lt code t; omega)
theorem P0_le {g : GT} (h : GOK g) (c : Nat) : P0 g c ≤ 38102400 := by
  unfold P0
  have h1 := h.2.2.1 c
  have h2 : min (g_le g c) 5 + 1 ≤ 6 := by have := Nat.min_le_right (g_le g c) 5; omega
  calc g_pr g c * (min (g_le g c) 5 + 1) ≤ 6350400 * 6 := Nat.mul_le_mul h1 h2
    _ = 38102400 := by decide
theorem wk_le {g : GT} (h : GOK g) (c code : Nat) : ∀ k, wk g c code k ≤ 38102400 * 12 ^ k
  | 0 => by rw [Nat.pow_zero, Nat.mul_one]; exact P0_le h c
  | k + 1 => by
    show wk g c code k * fac g c code (k + 1) ≤ _
    calc wk g c code k * fac g c code (k + 1) ≤ (38102400 * 12 ^ k) * 12 := Nat.mul_le_mul (wk_le h c code k) (fac_le h c code (k + 1))
      _ = 38102400 * 12 ^ (k + 1) := by rw [Nat.pow_succ, Nat.mul_assoc]
theorem wt_le {g : GT} (h : GOK g) (c code : Nat) : wt g c code ≤ 9481096396800 := by
  have := wk_le h c code 5
  exact Nat.le_trans this (by decide)
theorem sm_le {f : Nat → Nat} {b : Nat} (h : ∀ c, f c ≤ b) : ∀ k, sm f k ≤ b * k
  | 0 => Nat.le_refl _
  | k + 1 => by
    show sm f k + f (k + 1) ≤ b * (k + 1)
    have := sm_le h k
    have := h (k + 1)
    rw [Nat.mul_succ]
    omega
theorem S_le {g : GT} (h : GOK g) (code : Nat) : S g code ≤ 113773156761600 := by
  have h1 := sm_le (f := fun c => wt g c code) (b := 9481096396800) (fun c => wt_le h c code) (g_nC g)
  have h2 := h.1
  unfold S
  calc sm (fun c => wt g c code) (g_nC g) ≤ 9481096396800 * g_nC g := h1
    _ ≤ 9481096396800 * 12 := Nat.mul_le_mul_left _ h2
    _ = 113773156761600 := by decide
