-- PURE 46: loops that look for one; tests that may be made
def anyN (p : Nat → Bool) (i : Nat) : Nat → Bool
  | 0 => false
  | d + 1 => p i || anyN p (i + 1) d
theorem anyN_iff (p : Nat → Bool) : ∀ d i, anyN p i d = true ↔ ∃ j, i ≤ j ∧ j < i + d ∧ p j = true
  | 0, i => ⟨fun h => (by cases h), fun ⟨j, h1, h2, _⟩ => (by omega)⟩
  | d + 1, i => by
    show (p i || anyN p (i + 1) d) = true ↔ _
    rw [Bool.or_eq_true, anyN_iff p d (i + 1)]
    constructor
    · rintro (h | ⟨j, h1, h2, h3⟩)
      · exact ⟨i, Nat.le_refl _, by omega, h⟩
      · exact ⟨j, by omega, by omega, h3⟩
    · rintro ⟨j, h1, h2, h3⟩
      by_cases e : j = i
      · subst e; exact Or.inl h3
      · exact Or.inr ⟨j, by omega, by omega, h3⟩
theorem xl1_any {R : Type} (f : (Int32 → Option R) → Int32 → Option R) (N : Nat) (p : Nat → Bool) (o1 o0 : Option R) : ∀ (fuel i : Nat), i ≤ N → N - i < fuel → (∀ (j : Nat) (self : Int32 → Option R), i ≤ j → j < N → f self (nI j) = if p j then o1 else self (nI (j + 1))) → (∀ self, f self (nI N) = o0) → xl1 f fuel (nI i) = if anyN p i (N - i) then o1 else o0 := by
  intro fuel
  induction fuel with
  | zero => intro i _ h; exact absurd h (Nat.not_lt_zero _)
  | succ n ih =>
    intro i hi hf hs he
    show f (xl1 f n) (nI i) = _
    by_cases h : i = N
    · subst h
      rw [he, Nat.sub_self]; rfl
    · rw [hs i _ (Nat.le_refl _) (by omega), show N - i = (N - (i + 1)) + 1 by omega]
      show _ = if (p i || anyN p (i + 1) (N - (i + 1))) then o1 else o0
      cases hp : p i
      · rw [if_neg (by decide), ih (i + 1) (by omega) (by omega) (fun j self h1 h2 => hs j self (by omega) h2) he, Bool.false_or]
      · rw [if_pos rfl, Bool.true_or, if_pos rfl]
theorem anyN_ext {p q : Nat → Bool} : ∀ d i, (∀ j, i ≤ j → j < i + d → p j = q j) → anyN p i d = anyN q i d
  | 0, _, _ => rfl
  | d + 1, i, e => by
    show (p i || anyN p (i + 1) d) = (q i || anyN q (i + 1) d)
    rw [e i (Nat.le_refl _) (by omega), anyN_ext d (i + 1) (fun j h1 h2 => e j (by omega) (by omega))]
/-- a test that has no answer, and all that it needs have one -/
def may (g : GT) (code t : Nat) : Bool := decide (dg code t = 0) && !anyN (fun b => g_ne g t b && decide (dg code b = 0)) 1 5
theorem msk_lt (f : Nat → Bool) : msk f < 64 := by
  unfold msk
  cases f 1 <;> cases f 2 <;> cases f 3 <;> cases f 4 <;> cases f 5 <;> decide
theorem msk_test (f : Nat → Bool) {b : Nat} (h1 : 1 ≤ b) (h2 : b ≤ 5) : (msk f).testBit b = f b := by
  unfold msk
  rcases (show b = 1 ∨ b = 2 ∨ b = 3 ∨ b = 4 ∨ b = 5 by omega) with rfl | rfl | rfl | rfl | rfl <;>
    (cases f 1 <;> cases f 2 <;> cases f 3 <;> cases f 4 <;> cases f 5 <;> decide)
theorem nIm1 {d : Nat} (h : d < 4) : (nI d - 1 = (-1 : Int32)) ↔ d = 0 := by
  match d, h with
  | 0, _ => decide
  | 1, _ => decide
  | 2, _ => decide
  | 3, _ => decide
theorem openX {xs : XS} {g : GT} (h : RX xs g) (hg : GOK g) {code : Nat} (hc : COK g code) {t : Nat} (h1 : 1 ≤ t) (h2 : t ≤ g_nT g) : x_T_isOpen xs (nI t) (nI code) = some (if may g code t then 1 else 0) := by
  have hn := hg.2.1
  unfold x_T_isOpen
  rw [knT h hg h1 h2, sb, if_neg (by decide), ansIn code hc.1 t (by omega) h1, sb]
  have hd := dg_lt code t
  unfold may
  by_cases e : dg code t = 0
  · rw [if_pos ((nIm1 hd).mpr e), decide_eq_true e, Bool.true_and]
    have := xl1_any (x_T_isOpen_B1 xs (nI t) (nI code)) 6 (fun b => g_ne g t b && decide (dg code b = 0)) (some 0) (some 1) 14 1 (by omega) (by omega) ?_ ?_
    · refine Eq.trans this ?_
      show (if anyN _ 1 5 then some 0 else some 1) = _
      cases anyN (fun b => g_ne g t b && decide (dg code b = 0)) 1 5 <;> rfl
    · intro j self hj hj6
      unfold x_T_isOpen_B1
      rw [if_neg (show ¬ (5 : Int32) < nI j from nI_nlt (a := 5) (by omega) (by omega)), ix_n (by omega) (by decide), h.2.2.2.2.2.1 t h1 (by omega), holdsN (by have := msk_lt (g_ne g t); omega) (by omega), sb, msk_test _ hj (by omega), iadd1]
      cases hb : g_ne g t j
      · rfl
      · rw [if_neg (by decide), ansIn code hc.1 j (by omega) hj, sb]
        have hdj := dg_lt code j
        by_cases ej : dg code j = 0
        · rw [if_pos ((nIm1 hdj).mpr ej), decide_eq_true ej]; rfl
        · rw [if_neg (fun q => ej ((nIm1 hdj).mp q)), decide_eq_false ej]; rfl
    · intro self
      rfl
  · rw [if_neg (fun q => e ((nIm1 hd).mp q)), decide_eq_false e]; rfl
theorem priceX {xs : XS} {g : GT} (h : RX xs g) (hg : GOK g) {t : Nat} (h1 : 1 ≤ t) (h2 : t ≤ g_nT g) : x_T_price xs (nI t) = some (nI (g_co g t)) := by
  have hn := hg.2.1
  unfold x_T_price
  rw [knT h hg h1 h2, sb, if_neg (by decide), ix_n (by omega) (by decide), h.2.2.2.2.1 t h1 h2]
