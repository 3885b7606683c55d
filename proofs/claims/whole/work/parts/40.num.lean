-- PURE 40: numbers and loops
theorem xl1_up {R : Type} (f : (Int32 → Option R) → Int32 → Option R) (N : Nat) (o : Option R) : ∀ (fuel i : Nat), i ≤ N → N - i < fuel → (∀ (j : Nat) (self : Int32 → Option R), i ≤ j → j < N → f self (nI j) = self (nI (j + 1))) → (∀ self, f self (nI N) = o) → xl1 f fuel (nI i) = o := by
  intro fuel
  induction fuel with
  | zero => intro i _ h; exact absurd h (Nat.not_lt_zero _)
  | succ n ih =>
    intro i hi hf hs he
    show f (xl1 f n) (nI i) = o
    by_cases h : i = N
    · subst h; exact he _
    · rw [hs i _ (Nat.le_refl _) (by omega)]
      exact ih (i + 1) (by omega) (by omega) (fun j self h1 h2 => hs j self (by omega) h2) he
theorem xl2_up {B R : Type} (f : (Int32 → B → Option R) → Int32 → B → Option R) (N : Nat) (g : Nat → B) (o : Option R) : ∀ (fuel i : Nat), i ≤ N → N - i < fuel → (∀ (j : Nat) (self : Int32 → B → Option R), i ≤ j → j < N → f self (nI j) (g j) = self (nI (j + 1)) (g (j + 1))) → (∀ self, f self (nI N) (g N) = o) → xl2 f fuel (nI i) (g i) = o := by
  intro fuel
  induction fuel with
  | zero => intro i _ h; exact absurd h (Nat.not_lt_zero _)
  | succ n ih =>
    intro i hi hf hs he
    show f (xl2 f n) (nI i) (g i) = o
    by_cases h : i = N
    · subst h; exact he _
    · rw [hs i _ (Nat.le_refl _) (by omega)]
      exact ih (i + 1) (by omega) (by omega) (fun j self h1 h2 => hs j self (by omega) h2) he
theorem xl3_up {B C R : Type} (f : (Int32 → B → C → Option R) → Int32 → B → C → Option R) (N : Nat) (g : Nat → B) (g2 : Nat → C) (o : Option R) : ∀ (fuel i : Nat), i ≤ N → N - i < fuel → (∀ (j : Nat) (self : Int32 → B → C → Option R), i ≤ j → j < N → f self (nI j) (g j) (g2 j) = self (nI (j + 1)) (g (j + 1)) (g2 (j + 1))) → (∀ self, f self (nI N) (g N) (g2 N) = o) → xl3 f fuel (nI i) (g i) (g2 i) = o := by
  intro fuel
  induction fuel with
  | zero => intro i _ h; exact absurd h (Nat.not_lt_zero _)
  | succ n ih =>
    intro i hi hf hs he
    show f (xl3 f n) (nI i) (g i) (g2 i) = o
    by_cases h : i = N
    · subst h; exact he _
    · rw [hs i _ (Nat.le_refl _) (by omega)]
      exact ih (i + 1) (by omega) (by omega) (fun j self h1 h2 => hs j self (by omega) h2) he
theorem xl4_up {B C D R : Type} (f : (Int32 → B → C → D → Option R) → Int32 → B → C → D → Option R) (N : Nat) (g : Nat → B) (g2 : Nat → C) (g3 : Nat → D) (o : Option R) : ∀ (fuel i : Nat), i ≤ N → N - i < fuel → (∀ (j : Nat) (self : Int32 → B → C → D → Option R), i ≤ j → j < N → f self (nI j) (g j) (g2 j) (g3 j) = self (nI (j + 1)) (g (j + 1)) (g2 (j + 1)) (g3 (j + 1))) → (∀ self, f self (nI N) (g N) (g2 N) (g3 N) = o) → xl4 f fuel (nI i) (g i) (g2 i) (g3 i) = o := by
  intro fuel
  induction fuel with
  | zero => intro i _ h; exact absurd h (Nat.not_lt_zero _)
  | succ n ih =>
    intro i hi hf hs he
    show f (xl4 f n) (nI i) (g i) (g2 i) (g3 i) = o
    by_cases h : i = N
    · subst h; exact he _
    · rw [hs i _ (Nat.le_refl _) (by omega)]
      exact ih (i + 1) (by omega) (by omega) (fun j self h1 h2 => hs j self (by omega) h2) he
theorem ix_n {R : Type} {j n : Nat} (h : j < n) (hn : n < 2 ^ 31) (k : Nat → Option R) : ix (nI j) n k = k j := by
  unfold ix
  rw [if_neg (nI_in h hn), nI_clamp (by omega)]
theorem ix_i {R : Type} {x : Int32} {j n : Nat} (e : x = nI j) (h : j < n) (hn : n < 2 ^ 31) (k : Nat → Option R) : ix x n k = k j := by
  rw [e]; exact ix_n h hn k
theorem sb {A R : Type} (a : A) (f : A → Option R) : (some a).bind f = f a := rfl
theorem bd2_s {A B R : Type} (a : A) (b : B) (f : A → B → Option R) : bd2 (some (a, b)) f = f a b := rfl
theorem dzl_n {R : Type} {y : Int64} (h : ¬ y = 0) (k : Option R) : dzl y k = k := if_neg h
theorem iadd1 (i : Nat) : nI i + 1 = nI (i + 1) := (nI_succ i).symm
/-- any int against a range of Nats -/
theorem i_cases (x : Int32) {n : Nat} (hn : n + 1 < 2 ^ 31) : x < 0 ∨ nI n < x ∨ ∃ j : Nat, j ≤ n ∧ x = nI j := by
  rcases pk_ix x (n := n + 1) (by omega) with h | h | ⟨j, hj, e⟩
  · exact Or.inl h
  · refine Or.inr (Or.inl ?_)
    by_cases h2 : x < 0
    · exact absurd h2 (fun q => by
        have h0 := nI_pos' (n := n + 1) (by omega)
        exact absurd (Int32.le_trans h0 h) (Int32.not_le.mpr q))
    · obtain ⟨j, hj, e⟩ := nI_of h2
      subst e
      rw [nI_ltI (by omega) hj]
      rw [nI_leI (by omega) hj] at h
      omega
  · exact Or.inr (Or.inr ⟨j, by omega, e⟩)
theorem l_cases (x : Int64) {n : Nat} (hn : n < 2 ^ 63) : x < 0 ∨ lN n < x ∨ ∃ j : Nat, j ≤ n ∧ x = lN j := by
  by_cases h : x < 0
  · exact Or.inl h
  · obtain ⟨k, hk, e⟩ := pk_lOf h
    subst e
    by_cases h2 : k ≤ n
    · exact Or.inr (Or.inr ⟨k, h2, rfl⟩)
    · exact Or.inr (Or.inl ((pk_lLT hn hk).mpr (by omega)))
