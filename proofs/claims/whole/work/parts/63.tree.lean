-- PURE 63: the tree's values and picks
/-- the tests that a tree may ask first in a case -/
def cnd (g : GT) (code t : Nat) : Bool := usb g code t && (decide (fre g code = 0) || decide (t = fre g code))
/-- what a test's tree costs, by values v of the cases behind it -/
def cst (g : GT) (v : Nat → Nat) (code t : Nat) : Nat := g_co g t * S g code + (v (chl code t 0) + v (chl code t 1) + v (chl code t 2))
/-- the least of tests 1 .. k, and its test (0: none) -/
def bt (g : GT) (v : Nat → Nat) (code : Nat) : Nat → Nat × Nat
  | 0 => (300 * (nL g code - 1) * S g code, 0)
  | k + 1 => if cnd g code (k + 1) then (if (bt g v code k).2 = 0 then (cst g v code (k + 1), k + 1) else if (bt g v code k).1 ≤ cst g v code (k + 1) then bt g v code k else (cst g v code (k + 1), k + 1)) else bt g v code k
def tvf (g : GT) : Nat → Nat → Nat
  | 0, _ => 0
  | f + 1, code => (bt g (tvf g f) code (g_nT g)).1
def tv (g : GT) (code : Nat) : Nat := tvf g 6 code
def tp (g : GT) (code : Nat) : Nat := (bt g (tv g) code (g_nT g)).2
theorem cnd_dg {g : GT} {code t : Nat} (h : cnd g code t = true) : dg code t = 0 := by
  unfold cnd at h
  simp only [Bool.and_eq_true] at h
  exact may_dg (usb_may h.1)
theorem ct_flip {f h : Nat → Bool} {t : Nat} (ft : f t = true) (ht : h t = false) : ∀ k, (∀ i, 1 ≤ i → i ≤ k → ¬ i = t → h i = f i) → 1 ≤ t → t ≤ k → ct h k + 1 = ct f k
  | 0, _, h1, h2 => by omega
  | k + 1, hh, h1, h2 => by
    show ct h k + (if h (k + 1) then 1 else 0) + 1 = ct f k + if f (k + 1) then 1 else 0
    by_cases e : k + 1 = t
    · rw [e, ft, ht]
      have : ct h k = ct f k := ct_ext k (fun i i1 i2 => hh i i1 (by omega) (by omega))
      rw [this]; rfl
    · have := ct_flip ft ht k (fun i i1 i2 i3 => hh i i1 (by omega) i3) h1 (by omega)
      rw [hh (k + 1) (by omega) (Nat.le_refl _) e]
      omega
theorem chl_dg {g : GT} (hg : GOK g) {code t a : Nat} (hc : COK g code) (h1 : 1 ≤ t) (h2 : t ≤ g_nT g) (h0 : dg code t = 0) (ha : a < 3) {u : Nat} (u1 : 1 ≤ u) (u2 : u < 7) : dg (chl code t a) u = if u = t then a + 1 else dg code u :=
  (dg_add hc.1 (t := t) (by have := hg.2.1; omega) h1 h0 ha).2 u u2 u1
theorem un_chl {g : GT} (hg : GOK g) {code t a : Nat} (hc : COK g code) (h1 : 1 ≤ t) (h2 : t ≤ g_nT g) (h0 : dg code t = 0) (ha : a < 3) : un g (chl code t a) + 1 = un g code := by
  have hn := hg.2.1
  unfold un
  refine ct_flip (t := t) (decide_eq_true h0) ?_ (g_nT g) ?_ h1 h2
  · rw [chl_dg hg hc h1 h2 h0 ha h1 (by omega), if_pos rfl]; rfl
  · intro i i1 i2 i3
    rw [chl_dg hg hc h1 h2 h0 ha i1 (by omega), if_neg i3]
theorem un_le {g : GT} (hg : GOK g) (code : Nat) : un g code ≤ 5 := Nat.le_trans (ct_le _ _) hg.2.1
theorem cst_ext {g : GT} {v w : Nat → Nat} {code t : Nat} (h : ∀ a, a < 3 → v (chl code t a) = w (chl code t a)) : cst g v code t = cst g w code t := by
  unfold cst
  rw [h 0 (by decide), h 1 (by decide), h 2 (by decide)]
theorem bt_ext {g : GT} {v w : Nat → Nat} {code : Nat} : ∀ k, (∀ t a, 1 ≤ t → t ≤ k → dg code t = 0 → a < 3 → v (chl code t a) = w (chl code t a)) → bt g v code k = bt g w code k
  | 0, _ => rfl
  | k + 1, h => by
    have ih := bt_ext (g := g) (code := code) k (fun t a t1 t2 t3 ha => h t a t1 (by omega) t3 ha)
    unfold bt
    rw [ih]
    cases hq : cnd g code (k + 1)
    · rfl
    · rw [cst_ext (g := g) (fun a ha => h (k + 1) a (by omega) (Nat.le_refl _) (cnd_dg hq) ha)]
theorem tvf_up {g : GT} (hg : GOK g) : ∀ f code, COK g code → un g code < f → tvf g (f + 1) code = tvf g f code
  | 0, _, _, h => absurd h (Nat.not_lt_zero _)
  | f + 1, code, hc, h => by
    show (bt g (tvf g (f + 1)) code (g_nT g)).1 = (bt g (tvf g f) code (g_nT g)).1
    rw [bt_ext (g := g) (g_nT g) (fun t a t1 t2 t3 ha => tvf_up hg f (chl code t a) (chl_ok hg hc t1 t2 t3 ha) (by have := un_chl hg hc t1 t2 t3 ha; omega))]
theorem tv_eq {g : GT} (hg : GOK g) {code : Nat} (hc : COK g code) : tv g code = (bt g (tv g) code (g_nT g)).1 := by
  have := tvf_up hg 6 code hc (by have := un_le hg code; omega)
  exact this.symm
/-- weights behind an answer -/
theorem wk_chl {g : GT} (hg : GOK g) {code t a : Nat} (hc : COK g code) (h1 : 1 ≤ t) (h2 : t ≤ g_nT g) (h0 : dg code t = 0) (ha : a < 3) (c : Nat) : ∀ k, k ≤ 5 → (k < t → wk g c (chl code t a) k = wk g c code k) ∧ (t ≤ k → ∃ x, wk g c code k = x * 12 ∧ wk g c (chl code t a) k = x * g_od g t c a)
  | 0, _ => ⟨fun _ => rfl, fun h => by omega⟩
  | k + 1, hk => by
    have ih := wk_chl hg hc h1 h2 h0 ha c k (by omega)
    have hd := chl_dg hg hc h1 h2 h0 ha (u := k + 1) (by omega) (by omega)
    refine ⟨fun h => ?_, fun h => ?_⟩
    · show wk g c (chl code t a) k * fac g c (chl code t a) (k + 1) = wk g c code k * fac g c code (k + 1)
      rw [ih.1 (by omega)]
      unfold fac
      rw [hd, if_neg (show ¬ k + 1 = t by omega)]
    · by_cases e : k + 1 = t
      · refine ⟨wk g c code k, ?_, ?_⟩
        · show wk g c code k * fac g c code (k + 1) = _
          unfold fac
          rw [if_pos (by rw [e]; exact h0)]
        · show wk g c (chl code t a) k * fac g c (chl code t a) (k + 1) = _
          rw [ih.1 (by omega)]
          unfold fac
          rw [hd, if_pos e, if_neg (by omega), e]
          rfl
      · obtain ⟨x, e1, e2⟩ := ih.2 (by omega)
        refine ⟨x * fac g c code (k + 1), ?_, ?_⟩
        · show wk g c code k * fac g c code (k + 1) = _
          rw [e1, Nat.mul_right_comm]
        · show wk g c (chl code t a) k * fac g c (chl code t a) (k + 1) = _
          have : fac g c (chl code t a) (k + 1) = fac g c code (k + 1) := by
            unfold fac
            rw [hd, if_neg e]
          rw [e2, this, Nat.mul_right_comm]
theorem wt_chl {g : GT} (hg : GOK g) {code t a : Nat} (hc : COK g code) (h1 : 1 ≤ t) (h2 : t ≤ g_nT g) (h0 : dg code t = 0) (ha : a < 3) (c : Nat) : wt g c (chl code t a) = wt g c code / 12 * g_od g t c a := by
  obtain ⟨x, e1, e2⟩ := (wk_chl hg hc h1 h2 h0 ha c 5 (Nat.le_refl _)).2 (by have := hg.2.1; omega)
  unfold wt
  rw [e1, e2, Nat.mul_div_cancel _ (by decide)]
theorem wt_div {g : GT} (hg : GOK g) {code t : Nat} (hc : COK g code) (h1 : 1 ≤ t) (h2 : t ≤ g_nT g) (h0 : dg code t = 0) (c : Nat) : wt g c (chl code t 0) + wt g c (chl code t 1) + wt g c (chl code t 2) ≤ wt g c code := by
  have w0 := wt_chl hg hc h1 h2 h0 (a := 0) (by decide) c
  have w1 := wt_chl hg hc h1 h2 h0 (a := 1) (by decide) c
  have w2 := wt_chl hg hc h1 h2 h0 (a := 2) (by decide) c
  rw [w0, w1, w2, ← Nat.mul_add, ← Nat.mul_add]
  have := hg.2.2.2.2.2.1 t c
  calc wt g c code / 12 * (g_od g t c 0 + g_od g t c 1 + g_od g t c 2) ≤ wt g c code / 12 * 12 := Nat.mul_le_mul_left _ this
    _ ≤ wt g c code := Nat.div_mul_le_self _ _
theorem sm3 {f0 f1 f2 h : Nat → Nat} (e : ∀ c, f0 c + f1 c + f2 c ≤ h c) : ∀ k, sm f0 k + sm f1 k + sm f2 k ≤ sm h k
  | 0 => Nat.le_refl _
  | k + 1 => by
    have := sm3 e k
    have := e (k + 1)
    show sm f0 k + f0 (k + 1) + (sm f1 k + f1 (k + 1)) + (sm f2 k + f2 (k + 1)) ≤ sm h k + h (k + 1)
    omega
theorem S_chl {g : GT} (hg : GOK g) {code t : Nat} (hc : COK g code) (h1 : 1 ≤ t) (h2 : t ≤ g_nT g) (h0 : dg code t = 0) : S g (chl code t 0) + S g (chl code t 1) + S g (chl code t 2) ≤ S g code :=
  sm3 (fun c => wt_div hg hc h1 h2 h0 c) _
theorem nL_le {g : GT} (hg : GOK g) (code : Nat) : nL g code ≤ 12 := Nat.le_trans (ct_le _ _) hg.1
theorem bt_le {g : GT} (hg : GOK g) {v : Nat → Nat} {code b : Nat} (hb : 3300 ≤ b) : ∀ k, (∀ t, 1 ≤ t → t ≤ k → cnd g code t = true → cst g v code t ≤ b * S g code) → (bt g v code k).1 ≤ b * S g code ∧ (bt g v code k).2 ≤ k
  | 0, _ => ⟨Nat.mul_le_mul_right _ (by have := nL_le hg code; omega), Nat.le_refl _⟩
  | k + 1, h => by
    have ih := bt_le hg hb k (fun t t1 t2 t3 => h t t1 (by omega) t3)
    unfold bt
    cases hq : cnd g code (k + 1)
    · exact ⟨ih.1, by have := ih.2; simp; omega⟩
    · have hk := h (k + 1) (by omega) (Nat.le_refl _) hq
      by_cases e : (bt g v code k).2 = 0
      · simp only [if_true, if_pos e]; exact ⟨hk, Nat.le_refl _⟩
      · by_cases e2 : (bt g v code k).1 ≤ cst g v code (k + 1)
        · simp only [if_true, if_neg e, if_pos e2]; exact ⟨ih.1, by have := ih.2; omega⟩
        · simp only [if_true, if_neg e, if_neg e2]; exact ⟨hk, Nat.le_refl _⟩
theorem cst_le {g : GT} (hg : GOK g) {v : Nat → Nat} {code t b : Nat} (hc : COK g code) (h1 : 1 ≤ t) (h2 : t ≤ g_nT g) (h0 : dg code t = 0) (hv : ∀ a, a < 3 → v (chl code t a) ≤ b * S g (chl code t a)) : cst g v code t ≤ (400 + b) * S g code := by
  unfold cst
  have a0 := hv 0 (by decide)
  have a1 := hv 1 (by decide)
  have a2 := hv 2 (by decide)
  have hs := Nat.mul_le_mul_left b (S_chl hg hc h1 h2 h0)
  have hp := Nat.mul_le_mul_right (S g code) (hg.2.2.2.2.1 t)
  rw [Nat.mul_add, Nat.mul_add] at hs
  rw [Nat.add_mul]
  omega
theorem tvf_le {g : GT} (hg : GOK g) : ∀ f code, COK g code → tvf g f code ≤ (400 * un g code + 3300) * S g code
  | 0, _, _ => Nat.zero_le _
  | f + 1, code, hc => by
    refine (bt_le hg (by omega) (g_nT g) (fun t t1 t2 t3 => ?_)).1
    have h0 := cnd_dg t3
    have hu := un_chl hg hc t1 t2 h0 (a := 0) (by decide)
    have := cst_le hg (v := tvf g f) (b := 400 * (un g code - 1) + 3300) hc t1 t2 h0 (fun a ha => by
      have := tvf_le hg f (chl code t a) (chl_ok hg hc t1 t2 h0 ha)
      have hu := un_chl hg hc t1 t2 h0 ha
      rw [show un g code - 1 = un g (chl code t a) by omega]
      exact this)
    rw [show 400 * un g code + 3300 = 400 + (400 * (un g code - 1) + 3300) by omega]
    exact this
theorem tv_le {g : GT} (hg : GOK g) {code : Nat} (hc : COK g code) : tv g code ≤ 5300 * S g code :=
  Nat.le_trans (tvf_le hg 6 code hc) (Nat.mul_le_mul_right _ (by have := un_le hg code; omega))
theorem tv_b {g : GT} (hg : GOK g) {code : Nat} (hc : COK g code) : tv g code ≤ 602997730836480000 := by
  have h1 := tv_le hg hc
  have h2 := S_le hg code
  omega
theorem cst_b {g : GT} (hg : GOK g) {code t : Nat} (hc : COK g code) (h1 : 1 ≤ t) (h2 : t ≤ g_nT g) (h0 : dg code t = 0) : cst g (tv g) code t ≤ 602997730836480000 := by
  have hu := un_chl hg hc h1 h2 h0 (a := 0) (by decide)
  have h3 := cst_le hg (v := tv g) (b := 400 * (un g code - 1) + 3300) hc h1 h2 h0 (fun a ha => by
    have := tvf_le hg 6 (chl code t a) (chl_ok hg hc h1 h2 h0 ha)
    have hu := un_chl hg hc h1 h2 h0 ha
    rw [show un g code - 1 = un g (chl code t a) by omega]
    exact this)
  have h4 := S_le hg code
  have h5 := un_le hg code
  have h6 : (400 + (400 * (un g code - 1) + 3300)) * S g code ≤ 5300 * 113773156761600 := Nat.mul_le_mul (by omega) h4
  omega
theorem bt_b {g : GT} (hg : GOK g) {code : Nat} (hc : COK g code) {k : Nat} (hk : k ≤ g_nT g) : (bt g (tv g) code k).1 ≤ 602997730836480000 ∧ (bt g (tv g) code k).2 ≤ k := by
  have := bt_le hg (v := tv g) (code := code) (b := 5300) (by decide) k (fun t t1 t2 t3 => by
    have h0 := cnd_dg t3
    have hu := un_chl hg hc t1 (by omega : t ≤ g_nT g) h0 (a := 0) (by decide)
    have h3 := cst_le hg (v := tv g) (b := 400 * (un g code - 1) + 3300) hc t1 (by omega) h0 (fun a ha => by
      have := tvf_le hg 6 (chl code t a) (chl_ok hg hc t1 (by omega) h0 ha)
      have hu := un_chl hg hc t1 (by omega : t ≤ g_nT g) h0 ha
      rw [show un g code - 1 = un g (chl code t a) by omega]
      exact this)
    exact Nat.le_trans h3 (Nat.mul_le_mul_right _ (by have := un_le hg code; omega)))
  have h4 := S_le hg code
  exact ⟨by have := this.1; omega, this.2⟩
theorem bt_cnd {g : GT} {v : Nat → Nat} {code : Nat} : ∀ k, ¬ (bt g v code k).2 = 0 → cnd g code (bt g v code k).2 = true ∧ 1 ≤ (bt g v code k).2
  | 0, h => absurd rfl h
  | k + 1, h => by
    have ih := bt_cnd (g := g) (v := v) (code := code) k
    unfold bt at h ⊢
    cases hq : cnd g code (k + 1)
    · rw [hq] at h
      simp only [Bool.false_eq_true, if_false] at h ⊢
      exact ih h
    · rw [hq] at h
      simp only [if_true] at h ⊢
      by_cases e : (bt g v code k).2 = 0
      · simp only [if_pos e]; exact ⟨hq, by omega⟩
      · by_cases e2 : (bt g v code k).1 ≤ cst g v code (k + 1)
        · simp only [if_neg e, if_pos e2]; exact ih e
        · simp only [if_neg e, if_neg e2]; exact ⟨hq, by omega⟩
/-- a pick is a usable test without an answer -/
theorem tp_ok {g : GT} (hg : GOK g) {code : Nat} (hc : COK g code) (h : ¬ tp g code = 0) : 1 ≤ tp g code ∧ tp g code ≤ g_nT g ∧ dg code (tp g code) = 0 ∧ cnd g code (tp g code) = true :=
  have q := bt_cnd (g := g) (v := tv g) (code := code) (g_nT g) h
  ⟨q.2, (bt_b hg hc (Nat.le_refl _)).2, cnd_dg q.1, q.1⟩
