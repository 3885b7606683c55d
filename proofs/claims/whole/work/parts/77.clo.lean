-- PURE 77: two ways to all that a test needs
def sb1 (N : Nat → Nat → Bool) (F : Nat → Bool) (o : Nat) : Nat → Bool := fun b => F b || (F o && N o b)
def rnd (N : Nat → Nat → Bool) (F : Nat → Bool) : Nat → Nat → Bool
  | 0 => F
  | k + 1 => sb1 N (rnd N F k) (k + 1)
def rnds (N : Nat → Nat → Bool) (n : Nat) (F : Nat → Bool) : Nat → Nat → Bool
  | 0 => F
  | r + 1 => rnd N (rnds N n F r) n
def clo (N : Nat → Nat → Bool) (n : Nat) (F : Nat → Bool) : Prop := ∀ o b, 1 ≤ o → o ≤ n → 1 ≤ b → b ≤ n → F o = true → N o b = true → F b = true
theorem sb1_up {N : Nat → Nat → Bool} {F : Nat → Bool} {o b : Nat} (h : F b = true) : sb1 N F o b = true := by
  unfold sb1
  rw [h]; rfl
theorem rnd_up {N : Nat → Nat → Bool} {F : Nat → Bool} {b j : Nat} (h : rnd N F j b = true) : ∀ d, rnd N F (j + d) b = true
  | 0 => h
  | d + 1 => sb1_up (rnd_up h d)
theorem ct_mono {f h : Nat → Bool} : ∀ k, (∀ i, 1 ≤ i → i ≤ k → f i = true → h i = true) → ct f k ≤ ct h k
  | 0, _ => Nat.le_refl _
  | k + 1, e => by
    have ih := ct_mono k (fun i i1 i2 => e i i1 (by omega))
    have hk := e (k + 1) (by omega) (Nat.le_refl _)
    show ct f k + (if f (k + 1) then 1 else 0) ≤ ct h k + (if h (k + 1) then 1 else 0)
    cases hf : f (k + 1)
    · rw [if_neg (by decide)]; omega
    · rw [hk hf, if_pos rfl]; omega
theorem ct_lt {f h : Nat → Bool} {o : Nat} (fo : f o = false) (ho : h o = true) : ∀ k, (∀ i, 1 ≤ i → i ≤ k → f i = true → h i = true) → 1 ≤ o → o ≤ k → ct f k < ct h k
  | 0, _, h1, h2 => by omega
  | k + 1, e, h1, h2 => by
    show ct f k + (if f (k + 1) then 1 else 0) < ct h k + (if h (k + 1) then 1 else 0)
    by_cases q : o = k + 1
    · subst q
      have := ct_mono k (fun i i1 i2 => e i i1 (by omega))
      rw [fo, ho, if_neg (by decide), if_pos rfl]
      omega
    · have ih := ct_lt fo ho k (fun i i1 i2 => e i i1 (by omega)) h1 (by omega)
      have hk := e (k + 1) (by omega) (Nat.le_refl _)
      cases hf : f (k + 1)
      · rw [if_neg (by decide)]; omega
      · rw [hk hf, if_pos rfl]; omega
theorem rnd_grow {N : Nat → Nat → Bool} {F : Nat → Bool} {n : Nat} : clo N n (rnd N F n) ∨ ct F n < ct (rnd N F n) n := by
  by_cases hc : clo N n (rnd N F n)
  · exact Or.inl hc
  · refine Or.inr ?_
    unfold clo at hc
    simp only [Classical.not_forall] at hc
    obtain ⟨o, b, o1, o2, b1, b2, ro, no, rb⟩ := hc
    have fo : F o = false := by
      cases e : F o
      · rfl
      · exfalso
        apply rb
        have h1 : rnd N F (o - 1) o = true := by
          have := rnd_up (N := N) (F := F) (j := 0) e (o - 1)
          rw [Nat.zero_add] at this
          exact this
        have h2 : rnd N F (o - 1 + 1) b = true := by
          show sb1 N (rnd N F (o - 1)) (o - 1 + 1) b = true
          rw [show o - 1 + 1 = o by omega]
          unfold sb1
          rw [h1, no]
          simp
        have := rnd_up h2 (n - o)
        rw [show o - 1 + 1 + (n - o) = n by omega] at this
        exact this
    exact ct_lt fo ro n (fun i _ _ hi => by
      have := rnd_up (N := N) (F := F) (j := 0) hi n
      rw [Nat.zero_add] at this
      exact this) o1 o2
theorem rnd_clo {N : Nat → Nat → Bool} {F : Nat → Bool} {n : Nat} (h : clo N n F) : ∀ k, k ≤ n → ∀ b, 1 ≤ b → b ≤ n → rnd N F k b = F b
  | 0, _, _, _, _ => rfl
  | k + 1, hk, b, b1, b2 => by
    have ih := rnd_clo h k (by omega)
    show (rnd N F k b || (rnd N F k (k + 1) && N (k + 1) b)) = F b
    rw [ih b b1 b2, ih (k + 1) (by omega) hk]
    cases e1 : F b
    · cases e2 : F (k + 1)
      · rfl
      · cases e3 : N (k + 1) b
        · rfl
        · have := h (k + 1) b (by omega) hk b1 b2 e2 e3
          rw [e1] at this
          cases this
    · rfl
theorem clo_ext {N : Nat → Nat → Bool} {F H : Nat → Bool} {n : Nat} (h : clo N n F) (e : ∀ b, 1 ≤ b → b ≤ n → H b = F b) : clo N n H := fun o b o1 o2 b1 b2 ho nb => by
  rw [e b b1 b2]
  exact h o b o1 o2 b1 b2 (by rw [← e o o1 o2]; exact ho) nb
theorem rnds_grow {N : Nat → Nat → Bool} {F : Nat → Bool} {n : Nat} : ∀ r, clo N n (rnds N n F r) ∨ ct F n + r ≤ ct (rnds N n F r) n
  | 0 => Or.inr (Nat.le_refl _)
  | r + 1 => by
    rcases rnds_grow (N := N) (F := F) (n := n) r with h | h
    · exact Or.inl (clo_ext h (fun b b1 b2 => rnd_clo h n (Nat.le_refl _) b b1 b2))
    · rcases rnd_grow (N := N) (F := rnds N n F r) (n := n) with q | q
      · exact Or.inl q
      · exact Or.inr (by show ct F n + (r + 1) ≤ ct (rnd N (rnds N n F r) n) n; omega)
theorem ct_zero {F : Nat → Bool} : ∀ n, ct F n = 0 → ∀ o, 1 ≤ o → o ≤ n → F o = false
  | 0, _, o, h1, h2 => by omega
  | n + 1, h, o, h1, h2 => by
    have h' : ct F n + (if F (n + 1) then 1 else 0) = 0 := h
    by_cases e : o = n + 1
    · rw [e]
      cases q : F (n + 1)
      · rfl
      · rw [q, if_pos rfl] at h'; omega
    · exact ct_zero n (by omega) o h1 (by omega)
theorem rnds_clo {N : Nat → Nat → Bool} {F : Nat → Bool} {n : Nat} : clo N n (rnds N n F n) := by
  rcases rnds_grow (N := N) (F := F) (n := n) n with h | h
  · exact h
  · have hl := ct_le (rnds N n F n) n
    have hz : ct F n = 0 := by omega
    have h0 := ct_zero n hz
    have hc : clo N n F := fun o b o1 o2 _ _ ho _ => by rw [h0 o o1 o2] at ho; cases ho
    have : ∀ r, ∀ b, 1 ≤ b → b ≤ n → rnds N n F r b = F b := by
      intro r
      induction r with
      | zero => intro b _ _; rfl
      | succ r ih =>
        intro b b1 b2
        show rnd N (rnds N n F r) n b = F b
        rw [rnd_clo (clo_ext hc ih) n (Nat.le_refl _) b b1 b2, ih b b1 b2]
    exact clo_ext hc (this n)
/-- what holds at the start and along every step holds at the end -/
theorem rnds_inv {N : Nat → Nat → Bool} {F : Nat → Bool} {n : Nat} (P : Nat → Prop) (h0 : ∀ b, F b = true → P b) (hs : ∀ o b, 1 ≤ o → o ≤ n → P o → N o b = true → P b) : ∀ r b, rnds N n F r b = true → P b := by
  have h1 : ∀ (H : Nat → Bool), (∀ b, H b = true → P b) → ∀ k, k ≤ n → ∀ b, rnd N H k b = true → P b := by
    intro H hH k
    induction k with
    | zero => intro _ b hb; exact hH b hb
    | succ k ih =>
      intro hk b hb
      have hb' : (rnd N H k b || (rnd N H k (k + 1) && N (k + 1) b)) = true := hb
      rw [Bool.or_eq_true, Bool.and_eq_true] at hb'
      rcases hb' with q | ⟨q1, q2⟩
      · exact ih (by omega) b q
      · exact hs (k + 1) b (by omega) hk (ih (by omega) (k + 1) q1) q2
  intro r
  induction r with
  | zero => exact h0
  | succ r ih => intro b hb; exact h1 _ ih n (Nat.le_refl _) b hb
theorem rnds_up {N : Nat → Nat → Bool} {F : Nat → Bool} {n b : Nat} (h : F b = true) : ∀ r, rnds N n F r b = true
  | 0 => h
  | r + 1 => by
    have := rnd_up (N := N) (F := rnds N n F r) (j := 0) (rnds_up h r) n
    rw [Nat.zero_add] at this
    exact this
theorem clo_same {N : Nat → Nat → Bool} (hN : ∀ o b, N o b = true → 1 ≤ b ∧ b ≤ 5) {o : Nat} (o1 : 1 ≤ o) (o2 : o ≤ 5) {t : Nat} (ht : ¬ t = o) : rnds N 6 (fun b => decide (b = o)) 6 t = rnds N 5 (N o) 5 t := by
  have cF := rnds_clo (N := N) (F := fun b => decide (b = o)) (n := 6)
  have cA := rnds_clo (N := N) (F := N o) (n := 5)
  have hFo : rnds N 6 (fun b => decide (b = o)) 6 o = true := rnds_up (decide_eq_true rfl) 6
  rw [Bool.eq_iff_iff]
  constructor
  · intro h
    have := rnds_inv (N := N) (n := 6) (F := fun b => decide (b = o)) (fun b => b = o ∨ rnds N 5 (N o) 5 b = true) (fun b hb => Or.inl (of_decide_eq_true hb)) (fun x b x1 x2 hx hb => by
      have hb5 := hN x b hb
      rcases hx with rfl | hx
      · exact Or.inr (rnds_up hb 5)
      · have hx5 : 1 ≤ x ∧ x ≤ 5 := rnds_inv (N := N) (n := 5) (F := N o) (fun b => 1 ≤ b ∧ b ≤ 5) (fun b hb => hN o b hb) (fun y b _ _ _ hb => hN y b hb) 5 x hx
        exact Or.inr (cA x b hx5.1 hx5.2 hb5.1 hb5.2 hx hb)) 6 t h
    rcases this with q | q
    · exact absurd q ht
    · exact q
  · intro h
    exact rnds_inv (N := N) (n := 5) (F := N o) (fun b => rnds N 6 (fun b => decide (b = o)) 6 b = true) (fun b hb => by
      have hb5 := hN o b hb
      exact cF o b o1 (by omega) hb5.1 (by omega) hFo hb) (fun x b x1 x2 hx hb => by
      have hb5 := hN x b hb
      exact cF x b x1 (by omega) hb5.1 (by omega) hx hb) 5 t h
