-- PURE 41: a case's code: two bits a test; sets as bits; packed odds
def dg (code t : Nat) : Nat := code / 4 ^ (t - 1) % 4
def p4 (t : Nat) : Nat := 4 ^ (t - 1)
set_option maxRecDepth 100000 in
theorem ansIn : ∀ code, code < 1024 → ∀ t, t < 6 → 1 ≤ t → x_G_answerIn (nI code) (nI t) = some (nI (dg code t) - 1) := by decide +kernel
set_option maxRecDepth 100000 in
theorem withAns : ∀ code, code < 1024 → ∀ t, t < 6 → ∀ a, a < 3 → (1 ≤ t ∧ dg code t = 0) → x_G_withAnswer (nI code) (nI t) (nI a) = some (nI (code + (a + 1) * p4 t)) := by decide +kernel
theorem unitN : ∀ t, t < 7 → 1 ≤ t → m_M_unit (nI t) = some (nI (p4 t)) := by decide +kernel
theorem dg_add {code : Nat} (hc : code < 1024) {t : Nat} (ht : t < 6) (h1 : 1 ≤ t) (h0 : dg code t = 0) {a : Nat} (ha : a < 3) : code + (a + 1) * p4 t < 1024 ∧ ∀ u, u < 7 → 1 ≤ u → dg (code + (a + 1) * p4 t) u = if u = t then a + 1 else dg code u := by
  rcases (show t = 1 ∨ t = 2 ∨ t = 3 ∨ t = 4 ∨ t = 5 by omega) with rfl | rfl | rfl | rfl | rfl <;>
    (simp only [dg, p4, Nat.reduceSub, Nat.reducePow] at h0 ⊢
     refine ⟨by omega, fun u hu h1u => ?_⟩
     rcases (show u = 1 ∨ u = 2 ∨ u = 3 ∨ u = 4 ∨ u = 5 ∨ u = 6 by omega) with rfl | rfl | rfl | rfl | rfl | rfl <;>
       (simp only [Nat.reduceSub, Nat.reducePow, Nat.reduceEqDiff, if_true, if_false]; omega))
/-- the number of members of a set of 1 .. 12 -/
def pc (s : Nat) : Nat := s / 2 % 2 + s / 4 % 2 + s / 8 % 2 + s / 16 % 2 + s / 32 % 2 + s / 64 % 2 + s / 128 % 2 + s / 256 % 2 + s / 512 % 2 + s / 1024 % 2 + s / 2048 % 2 + s / 4096 % 2
set_option maxRecDepth 100000 in
theorem bitCnt : ∀ h, h < 4096 → x_JI_bitCount (nI (2 * h)) = some (nI (pc (2 * h))) := by decide +kernel
theorem tw13 : ∀ a, a < 13 → ∀ b, b < 13 → ∀ c, c < 13 → (nI (a + 16 * b + 256 * c) >>> (((4 : Int32) * nI 0) &&& 31)) &&& (15 : Int32) = nI a ∧ (nI (a + 16 * b + 256 * c) >>> (((4 : Int32) * nI 1) &&& 31)) &&& (15 : Int32) = nI b ∧ (nI (a + 16 * b + 256 * c) >>> (((4 : Int32) * nI 2) &&& 31)) &&& (15 : Int32) = nI c := by decide +kernel
