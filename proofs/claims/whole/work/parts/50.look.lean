-- PURE 50: the reference's state holds a g; it looks at a case
def RM (ms : MS) (g : GT) : Prop := m_causes ms = nI (g_nC g) ∧ m_tests ms = nI (g_nT g) ∧ (∀ c, 1 ≤ c → c ≤ g_nC g → m_prior ms c = lN (g_pr g c)) ∧ (∀ c, 1 ≤ c → c ≤ g_nC g → m_learned ms c = nI (g_le g c)) ∧ (∀ t, 1 ≤ t → t ≤ g_nT g → m_price ms t = lN (g_co g t)) ∧ (∀ t b, 1 ≤ t → t ≤ 6 → 1 ≤ b → b ≤ 6 → m_needs ms (7 * t + b) = if g_ne g t b then 1 else 0) ∧ (∀ t c a, 1 ≤ t → t ≤ 5 → 1 ≤ c → c ≤ 12 → a < 3 → m_odds ms (39 * t + 3 * c + a) = nI (g_od g t c a))
/-- the digits 1 .. k of a case, over what stood there -/
def Dk (ms : MS) (code : Nat) : Nat → Nat → Int32
  | 0 => m_digit ms
  | k + 1 => upd (Dk ms code k) (k + 1) (nI (dg code (k + 1)) - 1)
theorem Dk_at (ms : MS) (code : Nat) : ∀ k t, 1 ≤ t → t ≤ k → Dk ms code k t = nI (dg code t) - 1
  | 0, t, h1, h2 => by omega
  | k + 1, t, h1, h2 => by
    show (if t = k + 1 then nI (dg code (k + 1)) - 1 else Dk ms code k t) = _
    by_cases e : t = k + 1
    · rw [if_pos e, e]
    · rw [if_neg e]; exact Dk_at ms code k t h1 (by omega)
/-- the weights 1 .. k in a case (twelve times the class's), over what stood there -/
def Wk (g : GT) (ms : MS) (code : Nat) : Nat → Nat → Int64
  | 0 => m_weight ms
  | k + 1 => vp_updL (Wk g ms code k) (k + 1) (lN (12 * wt g (k + 1) code))
theorem Wk_at (g : GT) (ms : MS) (code : Nat) : ∀ k c, 1 ≤ c → c ≤ k → Wk g ms code k c = lN (12 * wt g c code)
  | 0, c, h1, h2 => by omega
  | k + 1, c, h1, h2 => by
    show (if c = k + 1 then lN (12 * wt g (k + 1) code) else Wk g ms code k c) = _
    by_cases e : c = k + 1
    · rw [if_pos e, e]
    · rw [if_neg e]; exact Wk_at g ms code k c h1 (by omega)
/-- the state behind a look -/
def lk (g : GT) (ms : MS) (code : Nat) : MS := m_weight_f (m_digit_f ms (Dk ms code 6)) (Wk g ms code (g_nC g))
theorem oddsM {ms : MS} {g : GT} (h : RM ms g) {t c a : Nat} (h1 : 1 ≤ t) (h2 : t ≤ 5) (c1 : 1 ≤ c) (c2 : c ≤ 12) (ha : a < 3) : m_M_oddsOf ms (nI t) (nI c) (nI a) = some (nI (g_od g t c a)) := by
  unfold m_M_oddsOf
  rw [ix_i (j := 39 * t + 3 * c + a) (by rw [show (39 : Int32) = nI 39 from rfl, show (3 : Int32) = nI 3 from rfl, pk_mul, pk_mul, nI_add, nI_add]) (by omega) (by decide), h.2.2.2.2.2.2 t c a h1 h2 c1 c2 ha]
theorem times5 : ∀ n, n < 600 → (if nI n ≤ (5 : Int32) then (nI n + (1 : Int32)) else (6 : Int32)).toInt64 = lN (min n 5 + 1) := by decide +kernel
theorem m12 {k : Nat} (c : Nat) : 12 * k * c = 12 * (k * c) := Nat.mul_assoc _ _ _
/-- the inner loop: the tests' factors of cause c -/
theorem lookB4 {g : GT} (hg : GOK g) {code : Nat} (hc : COK g code) {c : Nat} (c1 : 1 ≤ c) (c2 : c ≤ g_nC g) (self2 : Int32 → MS → Option MS) (s : MS) (h : RM s g) (hd : ∀ t, 1 ≤ t → t ≤ 6 → m_digit s t = nI (dg code t) - 1) (hw : m_weight s c = lN (P0 g c)) :
    xl2 (m_M_look_B4 (nI c) self2) 14 (nI 1) s = self2 (nI (c + 1)) (m_weight_f s (vp_updL (m_weight s) c (lN (12 * wt g c code)))) := by
  have hn := hg.1
  have key : ∀ k, k ≤ 6 → (if k = 6 then 12 * wt g c code else wk g c code k) ≤ 113773156761600 := fun k hk => by
    by_cases e : k = 6
    · rw [if_pos e]; have := wt_le hg c code; omega
    · rw [if_neg e]
      have := wk_le hg c code k
      have h5 : 12 ^ k ≤ 12 ^ 5 := Nat.pow_le_pow_right (by decide) (by omega)
      calc wk g c code k ≤ 38102400 * 12 ^ k := this
        _ ≤ 38102400 * 12 ^ 5 := Nat.mul_le_mul_left _ h5
        _ ≤ 113773156761600 := by decide
  have := xl2_up (m_M_look_B4 (nI c) self2) 7 (fun i => m_weight_f s (vp_updL (m_weight s) c (lN (if i - 1 = 6 then 12 * wt g c code else wk g c code (i - 1))))) (self2 (nI (c + 1)) (m_weight_f s (vp_updL (m_weight s) c (lN (12 * wt g c code))))) 14 1 (by omega) (by omega) ?_ ?_
  · have e0 : m_weight_f s (vp_updL (m_weight s) c (lN (if 1 - 1 = 6 then 12 * wt g c code else wk g c code (1 - 1)))) = s := by
      have : vp_updL (m_weight s) c (lN (P0 g c)) = m_weight s := by
        funext j
        unfold vp_updL
        by_cases e : j = c
        · rw [if_pos e, e, hw]
        · rw [if_neg e]
      show m_weight_f s (vp_updL (m_weight s) c (lN (P0 g c))) = s
      rw [this]; rfl
    rw [e0] at this
    exact this
  · intro j self hj hj7
    obtain ⟨k, rfl⟩ : ∃ k, j = k + 1 := ⟨j - 1, by omega⟩
    have e1 : ¬ (k + 1 - 1 = 6) := by omega
    rw [if_neg e1]
    unfold m_M_look_B4
    rw [if_neg (show ¬ (7 : Int32) ≤ nI (k + 1) from nI_ge (b := 7) (by omega) (by decide)), ix_n (by omega) (by decide), ix_n (by omega) (by decide), iadd1]
    have hdk : m_digit (m_weight_f s (vp_updL (m_weight s) c (lN (wk g c code (k + 1 - 1))))) (k + 1) = nI (dg code (k + 1)) - 1 := hd (k + 1) (by omega) (by omega)
    have hwk : m_weight (m_weight_f s (vp_updL (m_weight s) c (lN (wk g c code (k + 1 - 1))))) c = lN (wk g c code k) := by
      show vp_updL (m_weight s) c (lN (wk g c code (k + 1 - 1))) c = _
      rw [pk_uLs]; rfl
    have hset : ∀ v : Int64, m_weight_s (m_weight_f s (vp_updL (m_weight s) c (lN (wk g c code (k + 1 - 1))))) c v = m_weight_f s (vp_updL (m_weight s) c v) := fun v => by
      show m_weight_f s (vp_updL (vp_updL (m_weight s) c (lN (wk g c code (k + 1 - 1)))) c v) = _
      congr 1
      funext j
      unfold vp_updL
      by_cases e : j = c
      · rw [if_pos e, if_pos e]
      · rw [if_neg e, if_neg e, if_neg e]
    have hd4 := dg_lt code (k + 1)
    have hnext : (if k + 1 + 1 - 1 = 6 then 12 * wt g c code else wk g c code (k + 1 + 1 - 1)) = wk g c code k * fac g c code (k + 1) := by
      by_cases e : k = 5
      · subst e
        rw [if_pos (by rfl)]
        unfold fac
        rw [if_pos (hc.2 6 (by have := hg.2.1; omega) (by decide)), Nat.mul_comm]
        rfl
      · rw [if_neg (by omega)]; rfl
    rw [hdk, hnext]
    by_cases e : dg code (k + 1) = 0
    · rw [if_neg (by rw [e]; decide), ix_n (by omega) (by decide), hwk, hset]
      unfold fac
      rw [if_pos e, show (12 : Int32).toInt64 = lN 12 from rfl, lN_mul]
    · have ed : nI (dg code (k + 1)) - 1 = nI (dg code (k + 1) - 1) := by
        obtain ⟨d, hd9⟩ : ∃ d, dg code (k + 1) = d + 1 := ⟨dg code (k + 1) - 1, by omega⟩
        rw [hd9, nI_pred]; rfl
      have hk5 : k + 1 ≤ g_nT g := by
        rcases Nat.lt_or_ge (g_nT g) (k + 1) with q | q
        · exact absurd (hc.2 (k + 1) q (by omega)) e
        · exact q
      have hn5 := hg.2.1
      have hR : RM (m_weight_f s (vp_updL (m_weight s) c (lN (wk g c code (k + 1 - 1))))) g := h
      have ho := od_le hg (k + 1) c (a := dg code (k + 1) - 1) (by omega)
      rw [if_pos (by rw [ed]; exact nI_pos' (by omega)), ix_n (by omega) (by decide), hdk, ed, oddsM hR (by omega) (by omega) c1 (by omega) (by omega), sb, ix_n (by omega) (by decide), hwk, hset, i64od (by omega), lN_mul]
      unfold fac
      rw [if_neg e]
  · intro self
    unfold m_M_look_B4
    rw [if_pos (by decide), iadd1]
    rfl
theorem RM_ws {s : MS} {g : GT} (h : RM s g) (c : Nat) (u : Int64) : RM (m_weight_s s c u) g := by
  unfold RM at h ⊢
  simp only [m_causes, m_tests, m_prior, m_learned, m_price, m_needs, m_odds, m_weight_s] at h ⊢
  exact h
theorem dig_ws (s : MS) (c : Nat) (u : Int64) : m_digit (m_weight_s s c u) = m_digit s := by simp only [m_digit, m_weight_s]
theorem wei_ws (s : MS) (c : Nat) (u : Int64) : m_weight (m_weight_s s c u) = vp_updL (m_weight s) c u := by simp only [m_weight, m_weight_s]
theorem wf_ws (s : MS) (c : Nat) (u : Int64) (f : Nat → Int64) : m_weight_f (m_weight_s s c u) f = m_weight_f s f := by simp only [m_weight_f, m_weight_s]
theorem upL2 (f : Nat → Int64) (c : Nat) (u v : Int64) : vp_updL (vp_updL f c u) c v = vp_updL f c v := by
  funext j
  unfold vp_updL
  by_cases e : j = c
  · rw [if_pos e, if_pos e]
  · rw [if_neg e, if_neg e, if_neg e]
theorem lookJ3 {g : GT} (hg : GOK g) {code : Nat} (hc : COK g code) {c : Nat} (c1 : 1 ≤ c) (c2 : c ≤ g_nC g) (self2 : Int32 → MS → Option MS) (s : MS) (h : RM s g) (hd : ∀ t, 1 ≤ t → t ≤ 6 → m_digit s t = nI (dg code t) - 1) {v : Int32} (hv : v.toInt64 = lN (min (g_le g c) 5 + 1)) :
    m_M_look_J3 (nI c) s self2 v = self2 (nI (c + 1)) (m_weight_f s (vp_updL (m_weight s) c (lN (12 * wt g c code)))) := by
  have hn := hg.1
  have hR := RM_ws h c (lN (g_pr g c * (min (g_le g c) 5 + 1)))
  have hd2 : ∀ t, 1 ≤ t → t ≤ 6 → m_digit (m_weight_s s c (lN (g_pr g c * (min (g_le g c) 5 + 1)))) t = nI (dg code t) - 1 := fun t h1 h2 => by rw [dig_ws]; exact hd t h1 h2
  have hw2 : m_weight (m_weight_s s c (lN (g_pr g c * (min (g_le g c) 5 + 1)))) c = lN (P0 g c) := by rw [wei_ws, pk_uLs]; rfl
  have key := lookB4 hg hc c1 c2 self2 _ hR hd2 hw2
  rw [wei_ws, wf_ws, upL2] at key
  unfold m_M_look_J3
  rw [ix_n (by omega) (by decide), ix_n (by omega) (by decide), hv, h.2.2.1 c c1 c2, lN_mul]
  exact key
theorem lookB2 {g : GT} (hg : GOK g) {code : Nat} (hc : COK g code) (s : MS) (h : RM s g) (hd : ∀ t, 1 ≤ t → t ≤ 6 → m_digit s t = nI (dg code t) - 1) :
    xl2 m_M_look_B2 14 (nI 1) s = some (m_weight_f s (Wk g s code (g_nC g))) := by
  have hn := hg.1
  have := xl2_up m_M_look_B2 (g_nC g + 1) (fun i => m_weight_f s (Wk g s code (i - 1))) (some (m_weight_f s (Wk g s code (g_nC g)))) 14 1 (by omega) (by omega) ?_ ?_
  · exact this
  · intro j self hj hjn
    obtain ⟨k, rfl⟩ : ∃ k, j = k + 1 := ⟨j - 1, by omega⟩
    have hR : RM (m_weight_f s (Wk g s code (k + 1 - 1))) g := h
    have hle := hg.2.2.2.1 (k + 1)
    have ht5 := times5 (g_le g (k + 1)) (by omega)
    unfold m_M_look_B2
    rw [hR.1, if_neg (nI_nlt (by omega) (by omega)), ix_n (by omega) (by decide), hR.2.2.2.1 (k + 1) hj (by omega)]
    by_cases e : nI (g_le g (k + 1)) ≤ (5 : Int32)
    · rw [if_pos e] at ht5
      rw [if_pos e, ix_n (by omega) (by decide), hR.2.2.2.1 (k + 1) hj (by omega), lookJ3 hg hc hj (by omega) self _ hR hd ht5]
      rfl
    · rw [if_neg e] at ht5
      rw [if_neg e, lookJ3 hg hc hj (by omega) self _ hR hd ht5]
      rfl
  · intro self
    have hR : RM (m_weight_f s (Wk g s code (g_nC g + 1 - 1))) g := h
    unfold m_M_look_B2
    rw [hR.1, if_pos (nI_lt (by omega) (by omega))]
    rfl
theorem lookM {ms : MS} {g : GT} (h : RM ms g) (hg : GOK g) {code : Nat} (hc : COK g code) : m_M_look ms (nI code) = some (lk g ms code) := by
  have hc1 := hc.1
  unfold m_M_look
  have := xl3_up m_M_look_B1 7 (fun i => nI (code / 4 ^ (i - 1))) (fun i => m_digit_f ms (Dk ms code (i - 1))) (some (lk g ms code)) 14 1 (by omega) (by omega) ?_ ?_
  · have e0 : m_digit_f ms (Dk ms code (1 - 1)) = ms := rfl
    rw [e0, show 4 ^ (1 - 1) = 1 from rfl, Nat.div_one] at this
    exact this
  · intro j self hj hj7
    obtain ⟨k, rfl⟩ : ∃ k, j = k + 1 := ⟨j - 1, by omega⟩
    have hq : code / 4 ^ k < 2 ^ 31 := Nat.lt_of_le_of_lt (Nat.div_le_self _ _) (by omega)
    unfold m_M_look_B1
    rw [if_neg (show ¬ (7 : Int32) ≤ nI (k + 1) from nI_ge (b := 7) (by omega) (by decide)), ix_n (by omega) (by decide), iadd1]
    simp only [Nat.add_sub_cancel]
    rw [show (4 : Int32) = nI 4 from rfl, pk_rem hq (by decide) (by decide), pk_div hq (by decide) (by decide), Nat.div_div_eq_div_mul, ← Nat.pow_succ]
    rfl
  · intro self
    unfold m_M_look_B1
    rw [if_pos (by decide)]
    show xl2 m_M_look_B2 14 (nI 1) (m_digit_f ms (Dk ms code 6)) = _
    rw [lookB2 hg hc (m_digit_f ms (Dk ms code 6)) h (fun t h1 h2 => Dk_at ms code 6 t h1 h2)]
    have : ∀ k, Wk g (m_digit_f ms (Dk ms code 6)) code k = Wk g ms code k := fun k => by
      induction k with
      | zero => rfl
      | succ k ih => show vp_updL (Wk g (m_digit_f ms (Dk ms code 6)) code k) _ _ = _; rw [ih]; rfl
    rw [this]; rfl
theorem lk_dig (g : GT) (ms : MS) (code : Nat) {t : Nat} (h1 : 1 ≤ t) (h2 : t ≤ 6) : m_digit (lk g ms code) t = nI (dg code t) - 1 := Dk_at ms code 6 t h1 h2
theorem lk_wt (g : GT) (ms : MS) (code : Nat) {c : Nat} (h1 : 1 ≤ c) (h2 : c ≤ g_nC g) : m_weight (lk g ms code) c = lN (12 * wt g c code) := Wk_at g ms code (g_nC g) c h1 h2
theorem lk_RM {g : GT} {ms : MS} (h : RM ms g) (code : Nat) : RM (lk g ms code) g := h
