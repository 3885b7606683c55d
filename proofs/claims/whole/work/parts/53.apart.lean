-- PURE 53: first or last, two causes with other odds are found alike
theorem fs_char (f : Nat → Bool) : ∀ k, (fs f k = 0 ∧ ∀ i, 1 ≤ i → i ≤ k → f i = false) ∨ (1 ≤ fs f k ∧ fs f k ≤ k ∧ f (fs f k) = true ∧ ∀ i, 1 ≤ i → i < fs f k → f i = false)
  | 0 => Or.inl ⟨rfl, fun i h1 h2 => by omega⟩
  | k + 1 => by
    have e : fs f (k + 1) = if fs f k = 0 then (if f (k + 1) then k + 1 else 0) else fs f k := rfl
    rcases fs_char f k with ⟨h0, ha⟩ | ⟨h1, h2, h3, h4⟩
    · rw [if_pos h0] at e
      cases hf : f (k + 1)
      · rw [hf, if_neg (by decide)] at e
        refine Or.inl ⟨e, fun i i1 i2 => ?_⟩
        by_cases q : i = k + 1
        · rw [q]; exact hf
        · exact ha i i1 (by omega)
      · rw [hf, if_pos rfl] at e
        rw [e]
        exact Or.inr ⟨by omega, Nat.le_refl _, hf, fun i i1 i2 => ha i i1 (by omega)⟩
    · rw [if_neg (by omega)] at e
      rw [e]
      exact Or.inr ⟨h1, by omega, h3, h4⟩
/-- the last of 1 .. k, 0 if none -/
def la (f : Nat → Bool) : Nat → Nat
  | 0 => 0
  | k + 1 => if f (k + 1) then k + 1 else la f k
theorem la_char (f : Nat → Bool) : ∀ k, (la f k = 0 ∧ ∀ i, 1 ≤ i → i ≤ k → f i = false) ∨ (1 ≤ la f k ∧ la f k ≤ k ∧ f (la f k) = true ∧ ∀ i, la f k < i → i ≤ k → f i = false)
  | 0 => Or.inl ⟨rfl, fun i h1 h2 => by omega⟩
  | k + 1 => by
    have e : la f (k + 1) = if f (k + 1) then k + 1 else la f k := rfl
    cases hf : f (k + 1)
    · rw [hf, if_neg (by decide)] at e
      rw [e]
      rcases la_char f k with ⟨h0, ha⟩ | ⟨h1, h2, h3, h4⟩
      · refine Or.inl ⟨h0, fun i i1 i2 => ?_⟩
        by_cases q : i = k + 1
        · rw [q]; exact hf
        · exact ha i i1 (by omega)
      · refine Or.inr ⟨h1, by omega, h3, fun i i1 i2 => ?_⟩
        by_cases q : i = k + 1
        · rw [q]; exact hf
        · exact h4 i i1 (by omega)
    · rw [hf, if_pos rfl] at e
      rw [e]
      exact Or.inr ⟨by omega, Nat.le_refl _, hf, fun i i1 i2 => by omega⟩
def two (g : GT) (t n : Nat) (f : Nat → Bool) : Prop := ∃ c d, 1 ≤ c ∧ c ≤ n ∧ 1 ≤ d ∧ d ≤ n ∧ f c = true ∧ f d = true ∧ ¬ pkd g t c = pkd g t d
theorem apt_iff (g : GT) (t s : Nat) : apt g t s = true ↔ two g t 12 s.testBit := by
  unfold apt
  rw [anyN_iff]
  constructor
  · rintro ⟨j, j1, j2, hj⟩
    simp only [Bool.and_eq_true, Bool.not_eq_true', decide_eq_false_iff_not] at hj
    obtain ⟨a, b, c⟩ := hj
    rcases fs_char s.testBit (j - 1) with ⟨h0, _⟩ | ⟨h1, h2, h3, _⟩
    · exact absurd h0 b
    · exact ⟨j, fs s.testBit (j - 1), j1, by omega, h1, by omega, a, h3, c⟩
  · rintro ⟨c, d, c1, c2, d1, d2, fc, fd, ne⟩
    rcases fs_char s.testBit 12 with ⟨_, ha⟩ | ⟨h1, h2, h3, h4⟩
    · rw [ha c c1 c2] at fc; cases fc
    · have pick : ∃ x, 1 ≤ x ∧ x ≤ 12 ∧ s.testBit x = true ∧ ¬ pkd g t x = pkd g t (fs s.testBit 12) := by
        by_cases e : pkd g t c = pkd g t (fs s.testBit 12)
        · exact ⟨d, d1, d2, fd, fun q => ne (e.trans q.symm)⟩
        · exact ⟨c, c1, c2, fc, e⟩
      obtain ⟨x, x1, x2, fx, nx⟩ := pick
      have hne : ¬ x = fs s.testBit 12 := fun q => nx (by rw [q])
      have hlt : fs s.testBit 12 < x := by
        rcases Nat.lt_or_ge x (fs s.testBit 12) with q | q
        · rw [h4 x x1 q] at fx; cases fx
        · omega
      have hfs : fs s.testBit (x - 1) = fs s.testBit 12 := by
        rcases fs_char s.testBit (x - 1) with ⟨_, ha⟩ | ⟨k1, k2, k3, k4⟩
        · rw [ha _ h1 (by omega)] at h3; cases h3
        · rcases Nat.lt_trichotomy (fs s.testBit (x - 1)) (fs s.testBit 12) with q | q | q
          · rw [h4 _ k1 q] at k3; cases k3
          · exact q
          · rw [k4 _ h1 q] at h3; cases h3
      refine ⟨x, x1, by omega, ?_⟩
      simp only [Bool.and_eq_true, Bool.not_eq_true', decide_eq_false_iff_not]
      rw [hfs]
      exact ⟨fx, by omega, nx⟩
/-- the reference's way: the others against the last -/
def amb (g : GT) (t n : Nat) (f : Nat → Bool) : Bool := anyN (fun c => f c && !decide (pkd g t c = pkd g t (la f n))) 1 (la f n - 1)
theorem amb_iff (g : GT) (t n : Nat) (f : Nat → Bool) : amb g t n f = true ↔ two g t n f := by
  unfold amb
  rw [anyN_iff]
  rcases la_char f n with ⟨h0, ha⟩ | ⟨h1, h2, h3, h4⟩
  · constructor
    · rintro ⟨j, j1, j2, _⟩; rw [h0] at j2; omega
    · rintro ⟨c, d, c1, c2, _, _, fc, _⟩; rw [ha c c1 c2] at fc; cases fc
  · constructor
    · rintro ⟨j, j1, j2, hj⟩
      simp only [Bool.and_eq_true, Bool.not_eq_true', decide_eq_false_iff_not] at hj
      exact ⟨j, la f n, j1, by omega, h1, h2, hj.1, h3, hj.2⟩
    · rintro ⟨c, d, c1, c2, d1, d2, fc, fd, ne⟩
      have pick : ∃ x, 1 ≤ x ∧ x ≤ n ∧ f x = true ∧ ¬ pkd g t x = pkd g t (la f n) := by
        by_cases e : pkd g t c = pkd g t (la f n)
        · exact ⟨d, d1, d2, fd, fun q => ne (e.trans q.symm)⟩
        · exact ⟨c, c1, c2, fc, e⟩
      obtain ⟨x, x1, x2, fx, nx⟩ := pick
      have hne : ¬ x = la f n := fun q => nx (by rw [q])
      have hlt : x < la f n := by
        rcases Nat.lt_or_ge (la f n) x with q | q
        · rw [h4 x q x2] at fx; cases fx
        · omega
      refine ⟨x, x1, by omega, ?_⟩
      simp only [Bool.and_eq_true, Bool.not_eq_true', decide_eq_false_iff_not]
      exact ⟨fx, nx⟩
theorem amb_apt (g : GT) (t : Nat) {n : Nat} (hn : n ≤ 12) (f : Nat → Bool) : amb g t n f = apt g t (bs f n) := by
  have key : two g t n f ↔ two g t 12 (bs f n).testBit := by
    constructor
    · rintro ⟨c, d, c1, c2, d1, d2, fc, fd, ne⟩
      exact ⟨c, d, c1, by omega, d1, by omega, by rw [bs_test, decide_eq_true c1, decide_eq_true c2, fc]; rfl, by rw [bs_test, decide_eq_true d1, decide_eq_true d2, fd]; rfl, ne⟩
    · rintro ⟨c, d, c1, _, d1, _, fc, fd, ne⟩
      rw [bs_test] at fc fd
      simp only [Bool.and_eq_true, decide_eq_true_eq] at fc fd
      exact ⟨c, d, c1, fc.1.2, d1, fd.1.2, fc.2, fd.2, ne⟩
  cases h1 : amb g t n f <;> cases h2 : apt g t (bs f n)
  · rfl
  · have := (amb_iff g t n f).mpr (key.mpr ((apt_iff g t _).mp h2)); rw [h1] at this; cases this
  · have := (apt_iff g t _).mpr (key.mp ((amb_iff g t n f).mp h1)); rw [h2] at this; cases this
  · rfl
theorem pkd_eq {g : GT} (h : GOK g) (t c d : Nat) : pkd g t c = pkd g t d ↔ g_od g t c 0 = g_od g t d 0 ∧ g_od g t c 1 = g_od g t d 1 ∧ g_od g t c 2 = g_od g t d 2 := by
  have a := h.2.2.2.2.2.1 t c
  have b := h.2.2.2.2.2.1 t d
  unfold pkd
  constructor
  · intro e
    have h0 : g_od g t c 0 = g_od g t d 0 := by
      have e2 : (g_od g t c 0 + 16 * g_od g t c 1 + 256 * g_od g t c 2) % 16 = (g_od g t d 0 + 16 * g_od g t d 1 + 256 * g_od g t d 2) % 16 := by rw [e]
      omega
    have h1 : g_od g t c 1 = g_od g t d 1 := by
      have e3 : (g_od g t c 1 + 16 * g_od g t c 2) % 16 = (g_od g t d 1 + 16 * g_od g t d 2) % 16 := by rw [show g_od g t c 1 + 16 * g_od g t c 2 = g_od g t d 1 + 16 * g_od g t d 2 by omega]
      omega
    exact ⟨h0, h1, by omega⟩
  · rintro ⟨h0, h1, h2⟩
    rw [h0, h1, h2]
