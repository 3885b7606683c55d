-- PURE 44: sets as ints
theorem nI_or (a b : Nat) : nI a ||| nI b = nI (a ||| b) := by
  apply Int32.toBitVec_inj.mp
  show BitVec.ofNat 32 a ||| BitVec.ofNat 32 b = BitVec.ofNat 32 (a ||| b)
  exact BitVec.ofNat_or.symm
theorem nI_and (a b : Nat) : nI a &&& nI b = nI (a &&& b) := by
  apply Int32.toBitVec_inj.mp
  show BitVec.ofNat 32 a &&& BitVec.ofNat 32 b = BitVec.ofNat 32 (a &&& b)
  exact BitVec.ofNat_and.symm
/-- the set of those of 1 .. k that f says -/
def bs (f : Nat → Bool) : Nat → Nat
  | 0 => 0
  | k + 1 => bs f k ||| if f (k + 1) then 2 ^ (k + 1) else 0
theorem bs_test (f : Nat → Bool) : ∀ k i, (bs f k).testBit i = (decide (1 ≤ i) && decide (i ≤ k) && f i)
  | 0, i => by
    show Nat.testBit 0 i = _
    rw [Nat.zero_testBit]
    by_cases h : 1 ≤ i
    · have : ¬ i ≤ 0 := by omega
      simp [this]
    · simp [h]
  | k + 1, i => by
    show (bs f k ||| if f (k + 1) then 2 ^ (k + 1) else 0).testBit i = _
    rw [Nat.testBit_or, bs_test f k i]
    by_cases e : i = k + 1
    · subst e
      cases hf : f (k + 1) <;> simp [hf, Nat.testBit_two_pow]
    · have h1 : (if f (k + 1) then 2 ^ (k + 1) else 0).testBit i = false := by
        cases hf : f (k + 1)
        · simp
        · simp only [if_true, Nat.testBit_two_pow]
          exact decide_eq_false (by omega)
      rw [h1, Bool.or_false]
      congr 2
      exact decide_eq_decide.mpr (by omega)
theorem bs_lt (f : Nat → Bool) : ∀ k, bs f k < 2 ^ (k + 1)
  | 0 => by show 0 < 2 ^ 1; decide
  | k + 1 => by
    show (bs f k ||| if f (k + 1) then 2 ^ (k + 1) else 0) < 2 ^ (k + 1 + 1)
    apply Nat.or_lt_two_pow
    · exact Nat.lt_trans (bs_lt f k) (Nat.pow_lt_pow_right (by decide) (by omega))
    · cases f (k + 1)
      · exact Nat.two_pow_pos _
      · exact Nat.pow_lt_pow_right (by decide) (by omega)
theorem bs_lt13 (f : Nat → Bool) {k : Nat} (h : k ≤ 12) : bs f k < 8192 := Nat.lt_of_lt_of_le (bs_lt f k) (Nat.pow_le_pow_right (n := 2) (by decide) (by omega : k + 1 ≤ 13))
theorem and_p2 (s c : Nat) : s &&& 2 ^ c = if s.testBit c then 2 ^ c else 0 := by
  apply Nat.eq_of_testBit_eq
  intro i
  rw [Nat.testBit_and, Nat.testBit_two_pow]
  by_cases e : c = i
  · subst e
    cases h : s.testBit c <;> simp [Nat.testBit_two_pow]
  · rw [decide_eq_false e, Bool.and_false]
    cases s.testBit c <;> simp [Nat.testBit_two_pow, e]
theorem bitN : ∀ c, c < 13 → x_G_bit (nI c) = some (nI (2 ^ c)) := by decide +kernel
theorem holdsN {s c : Nat} (hs : s < 2 ^ 31) (hc : c < 13) : x_G_holds (nI s) (nI c) = some (if s.testBit c then 1 else 0) := by
  unfold x_G_holds
  rw [bitN c hc, sb, nI_and, and_p2]
  cases h : s.testBit c
  · rfl
  · rw [if_pos rfl]
    have hp : 2 ^ c < 2 ^ 31 := Nat.pow_lt_pow_right (by decide) (by omega)
    rw [if_neg (nI_ne0 (Nat.two_pow_pos c) hp)]; rfl
theorem ct_ext {f h : Nat → Bool} : ∀ k, (∀ i, 1 ≤ i → i ≤ k → f i = h i) → ct f k = ct h k
  | 0, _ => rfl
  | k + 1, e => by
    show ct f k + (if f (k + 1) then 1 else 0) = ct h k + (if h (k + 1) then 1 else 0)
    rw [ct_ext k (fun i h1 h2 => e i h1 (by omega)), e (k + 1) (by omega) (by omega)]
theorem ct_more {f : Nat → Bool} {k : Nat} : ∀ d, ct (fun i => decide (i ≤ k) && f i) (k + d) = ct f k
  | 0 => ct_ext k (fun i _ h => by simp [h])
  | d + 1 => by
    show ct (fun i => decide (i ≤ k) && f i) (k + d) + (if decide (k + d + 1 ≤ k) && f (k + d + 1) then 1 else 0) = _
    rw [ct_more d]
    have : ¬ k + d + 1 ≤ k := by omega
    simp [this]
theorem pc_bs (f : Nat → Bool) {k : Nat} (hk : k ≤ 12) : pc (bs f k) = ct f k := by
  have key : ∀ i, 1 ≤ i → bs f k / 2 ^ i % 2 = if (decide (i ≤ k) && f i) then 1 else 0 := fun i hi => by
    rw [← Nat.toNat_testBit, bs_test]
    simp only [hi, decide_true, Bool.true_and]
    cases (decide (i ≤ k) && f i) <;> rfl
  have e : ct (fun i => decide (i ≤ k) && f i) 12 = ct f k := by
    have := ct_more (f := f) (k := k) (12 - k)
    rwa [show k + (12 - k) = 12 by omega] at this
  rw [← e]
  unfold pc
  have k1 := key 1 (by decide); have k2 := key 2 (by decide); have k3 := key 3 (by decide); have k4 := key 4 (by decide)
  have k5 := key 5 (by decide); have k6 := key 6 (by decide); have k7 := key 7 (by decide); have k8 := key 8 (by decide)
  have k9 := key 9 (by decide); have k10 := key 10 (by decide); have k11 := key 11 (by decide); have k12 := key 12 (by decide)
  simp only [Nat.reducePow] at k1 k2 k3 k4 k5 k6 k7 k8 k9 k10 k11 k12
  rw [k1, k2, k3, k4, k5, k6, k7, k8, k9, k10, k11, k12]
  simp only [ct, Nat.zero_add, Nat.reduceAdd]
theorem cntN (f : Nat → Bool) {k : Nat} (hk : k ≤ 12) : x_JI_bitCount (nI (bs f k)) = some (nI (ct f k)) := by
  have h0 : bs f k % 2 = 0 := by
    have := Nat.toNat_testBit (bs f k) 0
    rw [bs_test] at this
    simp at this
    omega
  have hl := bs_lt13 f hk
  have h2 : bs f k = 2 * (bs f k / 2) := by omega
  rw [← pc_bs f hk]
  have := bitCnt (bs f k / 2) (by omega)
  rw [← h2] at this
  exact this
