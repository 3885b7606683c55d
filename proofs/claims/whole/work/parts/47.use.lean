-- PURE 47: tests that tell causes apart, usable tests, the first free one
theorem xl2_any {B R : Type} (f : (Int32 → B → Option R) → Int32 → B → Option R) (N : Nat) (g : Nat → B) (p : Nat → Bool) (o1 o0 : Option R) : ∀ (fuel i : Nat), i ≤ N → N - i < fuel → (∀ (j : Nat) (self : Int32 → B → Option R), i ≤ j → j < N → f self (nI j) (g j) = if p j then o1 else self (nI (j + 1)) (g (j + 1))) → (∀ self, f self (nI N) (g N) = o0) → xl2 f fuel (nI i) (g i) = if anyN p i (N - i) then o1 else o0 := by
  intro fuel
  induction fuel with
  | zero => intro i _ h; exact absurd h (Nat.not_lt_zero _)
  | succ n ih =>
    intro i hi hf hs he
    show f (xl2 f n) (nI i) (g i) = _
    by_cases h : i = N
    · subst h
      rw [he, Nat.sub_self]; rfl
    · rw [hs i _ (Nat.le_refl _) (by omega), show N - i = (N - (i + 1)) + 1 by omega]
      show _ = if (p i || anyN p (i + 1) (N - (i + 1))) then o1 else o0
      cases hp : p i
      · rw [if_neg (by decide), ih (i + 1) (by omega) (by omega) (fun j self h1 h2 => hs j self (by omega) h2) he, Bool.false_or]
      · rw [if_pos rfl, Bool.true_or, if_pos rfl]
/-- the first index from i on, within d, that p says; 0 if none -/
def ff (p : Nat → Bool) (i : Nat) : Nat → Nat
  | 0 => 0
  | d + 1 => if p i then i else ff p (i + 1) d
theorem xl1_first (f : (Int32 → Option Int32) → Int32 → Option Int32) (N : Nat) (p : Nat → Bool) : ∀ (fuel i : Nat), i ≤ N → N - i < fuel → (∀ (j : Nat) (self : Int32 → Option Int32), i ≤ j → j < N → f self (nI j) = if p j then some (nI j) else self (nI (j + 1))) → (∀ self, f self (nI N) = some (nI 0)) → xl1 f fuel (nI i) = some (nI (ff p i (N - i))) := by
  intro fuel
  induction fuel with
  | zero => intro i _ h; exact absurd h (Nat.not_lt_zero _)
  | succ n ih =>
    intro i hi hf hs he
    show f (xl1 f n) (nI i) = _
    by_cases h : i = N
    · subst h
      rw [he, Nat.sub_self]; rfl
    · rw [hs i _ (Nat.le_refl _) (by omega), show N - i = (N - (i + 1)) + 1 by omega]
      show _ = some (nI (if p i then i else ff p (i + 1) (N - (i + 1))))
      cases hp : p i
      · rw [if_neg (by decide), ih (i + 1) (by omega) (by omega) (fun j self h1 h2 => hs j self (by omega) h2) he]; rfl
      · rw [if_pos rfl]; rfl
/-- the first of 1 .. k, 0 if none -/
def fs (f : Nat → Bool) : Nat → Nat
  | 0 => 0
  | k + 1 => if fs f k = 0 then (if f (k + 1) then k + 1 else 0) else fs f k
theorem fs_le (f : Nat → Bool) : ∀ k, fs f k ≤ k
  | 0 => Nat.le_refl _
  | k + 1 => by
    have h := fs_le f k
    show (if fs f k = 0 then (if f (k + 1) then k + 1 else 0) else fs f k) ≤ k + 1
    by_cases e : fs f k = 0
    · rw [if_pos e]
      cases f (k + 1)
      · exact Nat.zero_le _
      · exact Nat.le_refl _
    · rw [if_neg e]; omega
def pkd (g : GT) (t c : Nat) : Nat := g_od g t c 0 + 16 * g_od g t c 1 + 256 * g_od g t c 2
theorem pkd_lt {g : GT} (h : GOK g) (t c : Nat) : pkd g t c < 4096 := by
  have := h.2.2.2.2.2.1 t c
  unfold pkd
  omega
/-- two causes of the set s have other odds at the test t -/
def apt (g : GT) (t s : Nat) : Bool := anyN (fun j => s.testBit j && (!decide (fs s.testBit (j - 1) = 0) && !decide (pkd g t j = pkd g t (fs s.testBit (j - 1))))) 1 12
theorem apartX {xs : XS} {g : GT} (h : RX xs g) (hg : GOK g) {t s : Nat} (h1 : 1 ≤ t) (h2 : t ≤ g_nT g) (hs : s < 2 ^ 31) : x_T_tellsApart xs (nI t) (nI s) = some (if apt g t s then 1 else 0) := by
  have hn := hg.2.1
  unfold x_T_tellsApart
  rw [knT h hg h1 h2, sb, if_neg (by decide)]
  have := xl2_any (x_T_tellsApart_B1 xs (nI t) (nI s)) 13 (fun j => nI (fs s.testBit (j - 1))) (fun j => s.testBit j && (!decide (fs s.testBit (j - 1) = 0) && !decide (pkd g t j = pkd g t (fs s.testBit (j - 1))))) (some 1) (some 0) 14 1 (by omega) (by omega) ?_ ?_
  · refine Eq.trans this ?_
    show (if apt g t s then some 1 else some 0) = _
    cases apt g t s <;> rfl
  · intro j self hj hj13
    obtain ⟨k, rfl⟩ : ∃ k, j = k + 1 := ⟨j - 1, by omega⟩
    unfold x_T_tellsApart_B1
    rw [if_neg (show ¬ (12 : Int32) < nI (k + 1) from nI_nlt (a := 12) (by omega) (by omega)), holdsN hs (by omega), sb, iadd1]
    have hfk := fs_le s.testBit k
    show _ = if (s.testBit (k + 1) && (!decide (fs s.testBit k = 0) && !decide (pkd g t (k + 1) = pkd g t (fs s.testBit k)))) then some 1 else self (nI (k + 1 + 1)) (nI (if fs s.testBit k = 0 then (if s.testBit (k + 1) then k + 1 else 0) else fs s.testBit k))
    cases hb : s.testBit (k + 1)
    · rw [if_pos (by decide), Bool.false_and, if_neg (by decide)]
      by_cases e : fs s.testBit k = 0
      · rw [if_pos e, if_neg (by decide)]
        show self _ (nI (fs s.testBit k)) = _
        rw [e]
      · rw [if_neg e]; rfl
    · rw [if_neg (by decide), Bool.true_and]
      by_cases e : fs s.testBit k = 0
      · rw [if_pos (show nI (fs s.testBit (k + 1 - 1)) = 0 from by rw [Nat.add_sub_cancel, e]; rfl), if_pos e, decide_eq_true e, if_pos rfl]; rfl
      · rw [if_neg (show ¬ nI (fs s.testBit (k + 1 - 1)) = 0 from by rw [Nat.add_sub_cancel]; exact nI_ne0 (by omega) (by omega)), if_neg e, decide_eq_false e]
        rw [ix_n (by omega) (by decide), ix_n (by omega) (by decide), ix_n (by omega) (by decide)]
        rw [ix_i (j := fs s.testBit k) (by rw [Nat.add_sub_cancel]) (by omega) (by decide)]
        rw [show x_tab xs t (k + 1) = nI (pkd g t (k + 1)) from h.2.2.2.2.2.2 t (k + 1) h1 (by omega) (by omega) (by omega), show x_tab xs t (fs s.testBit k) = nI (pkd g t (fs s.testBit k)) from h.2.2.2.2.2.2 t (fs s.testBit k) h1 (by omega) (by omega) (by omega)]
        have p1 := pkd_lt hg t (k + 1)
        have p2 := pkd_lt hg t (fs s.testBit k)
        by_cases ep : pkd g t (k + 1) = pkd g t (fs s.testBit k)
        · rw [if_pos (congrArg nI ep), decide_eq_true ep]; rfl
        · rw [if_neg (fun q => ep ((nI_eq (by omega) (by omega)).mp q)), decide_eq_false ep]; rfl
  · intro self
    rfl
def usb (g : GT) (code t : Nat) : Bool := decide (2 ≤ nL g code) && (may g code t && apt g t (bs (lf g code) (g_nC g)))
theorem bs_ext {f h : Nat → Bool} : ∀ k, (∀ i, 1 ≤ i → i ≤ k → f i = h i) → bs f k = bs h k
  | 0, _ => rfl
  | k + 1, e => by
    show (bs f k ||| if f (k + 1) then 2 ^ (k + 1) else 0) = (bs h k ||| if h (k + 1) then 2 ^ (k + 1) else 0)
    rw [bs_ext k (fun i h1 h2 => e i h1 (by omega)), e (k + 1) (by omega) (by omega)]
theorem bs_none : ∀ k, bs (fun _ => false) k = 0
  | 0 => rfl
  | k + 1 => by
    show (bs (fun _ => false) k ||| if false then 2 ^ (k + 1) else 0) = 0
    rw [bs_none k, if_neg (by decide)]; rfl
theorem ct_le (f : Nat → Bool) : ∀ k, ct f k ≤ k
  | 0 => Nat.le_refl _
  | k + 1 => by
    have := ct_le f k
    show ct f k + (if f (k + 1) then 1 else 0) ≤ k + 1
    cases f (k + 1) <;> simp <;> omega
theorem usableX {xs : XS} {g : GT} (h : RX xs g) (hg : GOK g) {code : Nat} (hc : COK g code) : x_K_usable xs (nI code) (nI (bs (lf g code) (g_nC g))) = some (nI (bs (usb g code) (g_nT g))) := by
  have hn := hg.2.1
  have hcn := hg.1
  have hct := ct_le (lf g code) (g_nC g)
  have hsl := bs_lt13 (lf g code) hcn
  unfold x_K_usable
  rw [cntN _ hcn, sb]
  by_cases e : 2 ≤ nL g code
  · rw [if_pos (show (2 : Int32) ≤ nI (ct (lf g code) (g_nC g)) from nI_le (a := 2) e (by omega))]
    have := xl2_up (x_K_usable_B1 xs (nI code) (nI (bs (lf g code) (g_nC g)))) (g_nT g + 1) (fun i => nI (bs (usb g code) (i - 1))) (some (nI (bs (usb g code) (g_nT g)))) 14 1 (by omega) (by omega) ?_ ?_
    · exact this
    · intro j self hj hjn
      obtain ⟨k, rfl⟩ : ∃ k, j = k + 1 := ⟨j - 1, by omega⟩
      unfold x_K_usable_B1
      rw [h.2.1, if_neg (nI_nlt (by omega) (by omega)), openX h hg hc hj (by omega), sb, iadd1]
      show _ = self _ (nI (bs (usb g code) k ||| if (decide (2 ≤ nL g code) && (may g code (k + 1) && apt g (k + 1) (bs (lf g code) (g_nC g)))) then 2 ^ (k + 1) else 0))
      rw [decide_eq_true e, Bool.true_and]
      cases hm : may g code (k + 1)
      · rw [if_pos (by decide), Bool.false_and, if_neg (by decide), Nat.or_zero]; rfl
      · rw [if_neg (by decide), apartX h hg (by omega) (by omega) (by omega), sb, Bool.true_and]
        cases ha : apt g (k + 1) (bs (lf g code) (g_nC g))
        · rw [if_pos (by decide), if_neg (by decide), Nat.or_zero]; rfl
        · rw [if_neg (by decide), bitN (k + 1) (by omega), sb, if_pos rfl]
          show self _ (nI (bs (usb g code) k) ||| nI (2 ^ (k + 1))) = _
          rw [nI_or]
    · intro self
      unfold x_K_usable_B1
      rw [h.2.1, if_pos (nI_lt (by omega) (by omega))]
      rfl
  · rw [if_neg (show ¬ (2 : Int32) ≤ nI (ct (lf g code) (g_nC g)) from nI_ge (b := 2) (by unfold nL at e; omega) (by decide))]
    have : bs (usb g code) (g_nT g) = 0 := by
      rw [bs_ext (h := fun _ => false) _ (fun i _ _ => by unfold usb; rw [decide_eq_false e]; rfl), bs_none]
    rw [this]; rfl
/-- the first usable test of cost 0, or 0 -/
def fre (g : GT) (code : Nat) : Nat := ff (fun t => usb g code t && decide (g_co g t = 0)) 1 (g_nT g)
theorem ff_ext {p q : Nat → Bool} : ∀ d i, (∀ j, i ≤ j → j < i + d → p j = q j) → ff p i d = ff q i d
  | 0, _, _ => rfl
  | d + 1, i, e => by
    show (if p i then i else ff p (i + 1) d) = (if q i then i else ff q (i + 1) d)
    rw [e i (Nat.le_refl _) (by omega), ff_ext d (i + 1) (fun j h1 h2 => e j (by omega) (by omega))]
theorem freeX {xs : XS} {g : GT} (h : RX xs g) (hg : GOK g) {code : Nat} : x_K_firstFree xs (nI (bs (usb g code) (g_nT g))) = some (nI (fre g code)) := by
  have hn := hg.2.1
  have hsl := bs_lt13 (usb g code) (k := g_nT g) (by omega)
  unfold x_K_firstFree
  have := xl1_first (x_K_firstFree_B1 xs (nI (bs (usb g code) (g_nT g)))) (g_nT g + 1) (fun t => usb g code t && decide (g_co g t = 0)) 14 1 (by omega) (by omega) ?_ ?_
  · rw [Nat.add_sub_cancel] at this
    exact this
  · intro j self hj hjn
    have hco := hg.2.2.2.2.1 j
    unfold x_K_firstFree_B1
    rw [h.2.1, if_neg (nI_nlt (by omega) (by omega)), holdsN (by omega) (by omega), sb, bs_test, decide_eq_true hj, decide_eq_true (show j ≤ g_nT g by omega), Bool.true_and, Bool.true_and, iadd1]
    cases hu : usb g code j
    · rw [if_pos (by decide), Bool.false_and, if_neg (by decide)]
    · rw [if_neg (by decide), priceX h hg hj (by omega), sb, Bool.true_and]
      by_cases e : g_co g j = 0
      · rw [if_pos (by rw [e]; rfl), decide_eq_true e, if_pos rfl]
      · rw [if_neg (nI_ne0 (by omega) (by omega)), decide_eq_false e, if_neg (by decide)]
  · intro self
    unfold x_K_firstFree_B1
    rw [h.2.1, if_pos (nI_lt (by omega) (by omega))]
    rfl
