-- PURE 64: the plan's weights at a depth
/-- all parts of the class's state but values, picks and weights of the plan -/
def xk (st : XS) : Int32 × Int32 × Int32 × Int32 × (Nat → Int64) × (Nat → Int32) × (Nat → Int32) × Int32 × (Nat → Int32) × (Nat → Int32) × (Nat → Nat → Int32) × Int32 × Int64 × (Nat → Int32) × (Nat → Int32) × (Nat → Int32) :=
  (x_opn st, x_pla st, x_cN st, x_fN st, x_pri st, x_mem st, x_lea st, x_tN st, x_cst st, x_nee st, x_tab st, x_nod st, x_tho st, x_nT st, x_nL st, x_nA st)
theorem xk_val (st : XS) (j : Nat) (v : Int64) : xk (x_val_s st j v) = xk st := rfl
theorem xk_pic (st : XS) (j : Nat) (v : Int32) : xk (x_pic_s st j v) = xk st := rfl
theorem xk_wei (st : XS) (d j : Nat) (v : Int64) : xk (x_wei_s st d j v) = xk st := rfl
theorem xk_weif (st : XS) (d : Nat) (f : Nat → Int64) : xk (x_wei_f st d f) = xk st := rfl
theorem RX_xk {st st' : XS} {g : GT} (h : RX st g) (e : xk st' = xk st) : RX st' g := by
  unfold xk at e
  simp only [Prod.mk.injEq] at e
  obtain ⟨-, -, e3, -, e5, e6, e7, e8, e9, e10, e11, -⟩ := e
  unfold RX
  rw [e3, e5, e7, e8, e9, e10, e11]
  exact h
theorem val_wei (st : XS) (d j : Nat) (v : Int64) : x_val (x_wei_s st d j v) = x_val st := rfl
theorem pic_wei (st : XS) (d j : Nat) (v : Int64) : x_pic (x_wei_s st d j v) = x_pic st := rfl
theorem wei_wei (st : XS) (d j : Nat) (v : Int64) (e i : Nat) : x_wei (x_wei_s st d j v) e i = if e = d then (if i = j then v else x_wei st d i) else x_wei st e i := by
  unfold x_wei x_wei_s
  by_cases h : e = d
  · simp only [h, if_true]; rfl
  · simp only [h, if_false]
theorem wei_val (st : XS) (j : Nat) (v : Int64) : x_wei (x_val_s st j v) = x_wei st := rfl
theorem wei_pic (st : XS) (j : Nat) (v : Int32) : x_wei (x_pic_s st j v) = x_wei st := rfl
theorem pic_val (st : XS) (j : Nat) (v : Int64) : x_pic (x_val_s st j v) = x_pic st := rfl
theorem val_pic (st : XS) (j : Nat) (v : Int32) : x_val (x_pic_s st j v) = x_val st := rfl
theorem val_val (st : XS) (j : Nat) (v : Int64) : x_val (x_val_s st j v) = vp_updL (x_val st) j v := rfl
theorem pic_pic (st : XS) (j : Nat) (v : Int32) : x_pic (x_pic_s st j v) = upd (x_pic st) j v := rfl
/-- a cause's weight, 0 beyond the causes -/
def wq (g : GT) (code c : Nat) : Nat := if c ≤ g_nC g then wt g c code else 0
theorem wq_le {g : GT} (h : GOK g) (code c : Nat) : wq g code c ≤ 9481096396800 := by
  unfold wq
  by_cases e : c ≤ g_nC g
  · rw [if_pos e]; exact wt_le h c code
  · rw [if_neg e]; exact Nat.zero_le _
/-- the weights at a depth are those of a case -/
def WA (st : XS) (g : GT) (d code : Nat) : Prop := ∀ c, 1 ≤ c → c ≤ 12 → x_wei st d c = lN (wq g code c)
theorem weightX0 {xs : XS} {g : GT} (h : RX xs g) (hg : GOK g) {code : Nat} (hc : COK g code) {c : Nat} (h2 : g_nC g < c) (h3 : c ≤ 12) : x_K_weightOf xs (nI c) (nI code) = some (lN 0) := by
  have hn := hg.2.1
  unfold x_K_weightOf
  rw [priorC0 h hg h2 (by omega), sb]
  have := xl2_up (x_K_weightOf_B1 xs (nI c) (nI code)) (g_nT g + 1) (fun _ => lN 0) (some (lN 0)) 14 1 (by omega) (by omega) ?_ ?_
  · exact this
  · intro j self hj hjn
    have hd := dg_lt code j
    unfold x_K_weightOf_B1
    rw [h.2.1, if_neg (nI_nlt (by omega) (by omega)), ansIn code hc.1 j (by omega) hj, sb, iadd1]
    by_cases e : dg code j = 0
    · rw [if_pos ((nIm1 hd).mpr e)]
    · rw [if_neg (fun q => e ((nIm1 hd).mp q))]
      have e1 : nI (dg code j) - 1 = nI (dg code j - 1) := by
        obtain ⟨k, hk⟩ : ∃ k, dg code j = k + 1 := ⟨dg code j - 1, by omega⟩
        rw [hk]; exact nI_pred k
      rw [e1, twN h hg hj (by omega) (by omega) h3 (by omega), sb]
      have : (lN 0 / (12 : Int64)) * (nI (g_od g j c (dg code j - 1))).toInt64 = lN 0 := by
        rw [show lN 0 / (12 : Int64) = 0 from by decide, Int64.zero_mul]; rfl
      rw [this]
  · intro self
    unfold x_K_weightOf_B1
    rw [h.2.1, if_pos (nI_lt (by omega) (by omega))]
theorem weightQ {xs : XS} {g : GT} (h : RX xs g) (hg : GOK g) {code : Nat} (hc : COK g code) {c : Nat} (h1 : 1 ≤ c) (h3 : c ≤ 12) : x_K_weightOf xs (nI c) (nI code) = some (lN (wq g code c)) := by
  unfold wq
  by_cases e : c ≤ g_nC g
  · rw [if_pos e]; exact weightX h hg hc h1 e
  · rw [if_neg e]; exact weightX0 h hg hc (by omega) h3
/-- loops over the places 1 .. 12 of a row of weights: some state, the row as it should be -/
theorem wloop (B : (Int32 → XS → Option XS) → Int32 → XS → Option XS) (d : Nat) (w : Nat → Int64) (st0 : XS) (I : XS → Prop) (hI : ∀ s j v, I s → I (x_wei_s s d j v))
    (hB : ∀ (self : Int32 → XS → Option XS) (j : Nat) (s : XS), 1 ≤ j → j ≤ 12 → I s → B self (nI j) s = self (nI (j + 1)) (x_wei_s s d j (w j)))
    (hE : ∀ (self : Int32 → XS → Option XS) (s : XS), B self (nI 13) s = some s) (h0 : I st0) :
    ∃ st1, xl2 B 14 (nI 1) st0 = some st1 ∧ I st1 ∧ xk st1 = xk st0 ∧ x_val st1 = x_val st0 ∧ x_pic st1 = x_pic st0 ∧ (∀ c, 1 ≤ c → c ≤ 12 → x_wei st1 d c = w c) ∧ (∀ e, ¬ e = d → x_wei st1 e = x_wei st0 e) := by
  have key : ∀ (n j : Nat) (s : XS), 1 ≤ j → j + n = 13 → I s → ∃ st1, xl2 B (n + 1) (nI j) s = some st1 ∧ I st1 ∧ xk st1 = xk s ∧ x_val st1 = x_val s ∧ x_pic st1 = x_pic s ∧ (∀ c, j ≤ c → c ≤ 12 → x_wei st1 d c = w c) ∧ (∀ c, c < j → x_wei st1 d c = x_wei s d c) ∧ (∀ e, ¬ e = d → x_wei st1 e = x_wei s e) := by
    intro n
    induction n with
    | zero =>
      intro j s j1 jn hs
      have : j = 13 := by omega
      subst this
      refine ⟨s, hE _ s, hs, rfl, rfl, rfl, fun c c1 c2 => by omega, fun _ _ => rfl, fun _ _ => rfl⟩
    | succ n ih =>
      intro j s j1 jn hs
      show ∃ st1, B (xl2 B (n + 1)) (nI j) s = some st1 ∧ _
      rw [hB _ j s j1 (by omega) hs]
      obtain ⟨s1, e1, e2, e3, e4, e5, e6, e7, e8⟩ := ih (j + 1) (x_wei_s s d j (w j)) (by omega) (by omega) (hI s j (w j) hs)
      refine ⟨s1, e1, e2, e3, e4, e5, fun c c1 c2 => ?_, fun c c1 => ?_, fun e he => ?_⟩
      · by_cases q : c = j
        · rw [q, e7 j (by omega), wei_wei, if_pos rfl, if_pos rfl]
        · exact e6 c (by omega) c2
      · rw [e7 c (by omega), wei_wei, if_pos rfl, if_neg (by omega)]
      · rw [e8 e he]
        funext i
        rw [wei_wei, if_neg he]
  obtain ⟨s1, e1, e2, e3, e4, e5, e6, e7, e8⟩ := key 12 1 st0 (by omega) (by omega) h0
  have e1' : xl2 B 14 (nI 1) st0 = some s1 := by
    have hm : ∀ (n : Nat) (j : Nat) (s s1 : XS), xl2 B n (nI j) s = some s1 → 1 ≤ j → j ≤ 13 → I s → 13 - j < n → xl2 B (n + 1) (nI j) s = some s1 := by
      intro n
      induction n with
      | zero => intro j s s1 h _ _ _ hh; omega
      | succ n ih =>
        intro j s s1 h j1 j2 hs hn
        by_cases q : j = 13
        · subst q
          rw [show xl2 B (n + 1) (nI 13) s = B (xl2 B n) (nI 13) s from rfl, hE] at h
          show B (xl2 B (n + 1)) (nI 13) s = some s1
          rw [hE]; exact h
        · rw [show xl2 B (n + 1) (nI j) s = B (xl2 B n) (nI j) s from rfl, hB _ j s j1 (by omega) hs] at h
          show B (xl2 B (n + 1)) (nI j) s = some s1
          rw [hB _ j s j1 (by omega) hs]
          exact ih (j + 1) _ s1 h (by omega) (by omega) (hI _ _ _ hs) (by omega)
    exact hm 13 1 st0 s1 e1 (by omega) (by omega) h0 (by omega)
  exact ⟨s1, e1', e2, e3, e4, e5, e6, e8⟩
theorem firstX {st : XS} {g : GT} (h : RX st g) (hg : GOK g) {code : Nat} (hc : COK g code) : ∃ st1, x_P_weighFirst st (nI code) = some st1 ∧ xk st1 = xk st ∧ x_val st1 = x_val st ∧ x_pic st1 = x_pic st ∧ WA st1 g 0 code := by
  obtain ⟨s1, e1, -, e3, e4, e5, e6, -⟩ := wloop (x_P_weighFirst_B1 (nI code)) 0 (fun c => lN (wq g code c)) st (fun s => xk s = xk st) (fun s j v hs => (xk_wei s 0 j v).trans hs)
    (fun self j s j1 j2 hs => by
      unfold x_P_weighFirst_B1
      rw [if_neg (show ¬ (12 : Int32) < nI j from nI_nlt (a := 12) j2 (by decide)), show (0 : Int32) = nI 0 from rfl, ix_n (by decide) (by decide), weightQ (RX_xk h hs) hg hc j1 j2, sb, ix_n (by omega) (by decide), iadd1])
    (fun self s => by unfold x_P_weighFirst_B1; rw [if_pos (by decide)]) rfl
  exact ⟨s1, e1, e3, e4, e5, e6⟩
theorem wq_chl {g : GT} (hg : GOK g) {code t a : Nat} (hc : COK g code) (h1 : 1 ≤ t) (h2 : t ≤ g_nT g) (h0 : dg code t = 0) (ha : a < 3) (c : Nat) : wq g (chl code t a) c = wq g code c / 12 * g_od g t c a := by
  unfold wq
  by_cases e : c ≤ g_nC g
  · rw [if_pos e, if_pos e]; exact wt_chl hg hc h1 h2 h0 ha c
  · rw [if_neg e, if_neg e, Nat.zero_div, Nat.zero_mul]
theorem lN12 : (12 : Int64) = lN 12 := rfl
theorem behindX {st : XS} {g : GT} (h : RX st g) (hg : GOK g) {code t a d : Nat} (hc : COK g code) (h1 : 1 ≤ t) (h2 : t ≤ g_nT g) (h0 : dg code t = 0) (ha : a < 3) (hd : d < 5) (hw : WA st g d code) : ∃ st1, x_P_weighBehind st (nI t) (nI a) (nI d) = some st1 ∧ xk st1 = xk st ∧ x_val st1 = x_val st ∧ x_pic st1 = x_pic st ∧ WA st1 g (d + 1) (chl code t a) ∧ (∀ e, e ≤ d → x_wei st1 e = x_wei st e) := by
  obtain ⟨s1, e1, -, e3, e4, e5, e6, e7⟩ := wloop (x_P_weighBehind_B1 (nI t) (nI a) (nI d)) (d + 1) (fun c => lN (wq g (chl code t a) c)) st (fun s => xk s = xk st ∧ x_wei s d = x_wei st d) (fun s j v hs => ⟨(xk_wei s (d + 1) j v).trans hs.1, by
      rw [← hs.2]; funext i; rw [wei_wei, if_neg (by omega)]⟩)
    (fun self j s j1 j2 hs => by
      unfold x_P_weighBehind_B1
      have hwl := wq_le hg code j
      have hol := od_le hg t j ha
      rw [if_neg (show ¬ (12 : Int32) < nI j from nI_nlt (a := 12) j2 (by decide)), ix_n (by omega) (by decide), ix_n (by omega) (by decide), iadd1, ix_n (by omega) (by decide), hs.2, hw j j1 j2, wq_chl hg hc h1 h2 h0 ha j, iadd1]
      by_cases e : wq g code j = 0
      · rw [if_pos (by rw [e]; rfl), ix_n (by omega) (by decide), e, Nat.zero_div, Nat.zero_mul]
        rfl
      · rw [if_neg (by
          intro q
          exact e ((pk_lEQ (by omega) (by decide)).mp (q.trans (show (0 : Int64) = lN 0 from rfl)))), twN (RX_xk h hs.1) hg h1 h2 j1 j2 ha, sb, ix_n (by omega) (by decide), i64od (by omega), lN12, pk_lDiv (by omega) (by decide) (by decide), lN_mul])
    (fun self s => by unfold x_P_weighBehind_B1; rw [if_pos (by decide)]) ⟨rfl, rfl⟩
  refine ⟨s1, ?_, e3, e4, e5, e6, fun e he => e7 e (by omega)⟩
  unfold x_P_weighBehind
  rw [if_neg (nI_pos (by omega)), if_pos (show nI d < (5 : Int32) from nI_lt (b := 5) hd (by decide))]
  exact e1
theorem weightAtX {st : XS} {g : GT} (hg : GOK g) {code d : Nat} (hd : d < 6) (hw : WA st g d code) : x_P_weightAt st (nI d) = some (lN (S g code)) := by
  have hn := hg.1
  have hs : ∀ k, k ≤ 12 → g_nC g ≤ k → sm (wq g code) k = S g code := by
    intro k
    induction k with
    | zero =>
      intro _ h2
      have : g_nC g = 0 := by omega
      unfold S; rw [this]; rfl
    | succ k ih =>
      intro h1 h2
      by_cases e : g_nC g = k + 1
      · have : ∀ i, i ≤ g_nC g → sm (wq g code) i = sm (fun c => wt g c code) i := by
          intro i
          induction i with
          | zero => intro _; rfl
          | succ i ih =>
            intro hi
            show sm (wq g code) i + wq g code (i + 1) = _ + wt g (i + 1) code
            rw [ih (by omega)]
            unfold wq
            rw [if_pos hi]
        rw [← e]; exact this _ (Nat.le_refl _)
      · show sm (wq g code) k + wq g code (k + 1) = _
        rw [ih (by omega) (by omega)]
        unfold wq
        rw [if_neg (by omega)]; rfl
  unfold x_P_weightAt
  have := xl2_up (x_P_weightAt_B1 st (nI d)) 13 (fun i => lN (sm (wq g code) (i - 1))) (some (lN (S g code))) 14 1 (by omega) (by omega) ?_ ?_
  · exact this
  · intro j self hj hj13
    obtain ⟨k, rfl⟩ : ∃ k, j = k + 1 := ⟨j - 1, by omega⟩
    unfold x_P_weightAt_B1
    rw [if_neg (show ¬ (12 : Int32) < nI (k + 1) from nI_nlt (a := 12) (by omega) (by decide)), if_neg (nI_pos (by omega)), if_neg (show ¬ (5 : Int32) < nI d from nI_nlt (a := 5) (by omega) (by decide)), ix_n hd (by decide), ix_n (by omega) (by decide), hw (k + 1) (by omega) (by omega), iadd1, lN_add]
    rfl
  · intro self
    unfold x_P_weightAt_B1
    rw [if_pos (by decide), ← hs 12 (Nat.le_refl _) hn]
theorem leftAtX {st : XS} {g : GT} (hg : GOK g) {code d : Nat} (hd : d < 6) (hw : WA st g d code) : x_P_leftAt st (nI d) = some (nI (bs (lf g code) (g_nC g))) := by
  have hn := hg.1
  have hq : bs (fun c => decide (0 < wq g code c)) 12 = bs (lf g code) (g_nC g) := by
    apply Nat.eq_of_testBit_eq
    intro i
    rw [bs_test, bs_test]
    unfold wq lf
    by_cases e : i ≤ g_nC g
    · rw [if_pos e, decide_eq_true e, decide_eq_true (show i ≤ 12 by omega)]
    · rw [if_neg e, decide_eq_false e, decide_eq_false (show ¬ 0 < 0 by omega)]; simp
  unfold x_P_leftAt
  have := xl2_up (x_P_leftAt_B1 st (nI d)) 13 (fun i => nI (bs (fun c => decide (0 < wq g code c)) (i - 1))) (some (nI (bs (lf g code) (g_nC g)))) 14 1 (by omega) (by omega) ?_ ?_
  · exact this
  · intro j self hj hj13
    obtain ⟨k, rfl⟩ : ∃ k, j = k + 1 := ⟨j - 1, by omega⟩
    have hwl := wq_le hg code (k + 1)
    unfold x_P_leftAt_B1
    rw [if_neg (show ¬ (12 : Int32) < nI (k + 1) from nI_nlt (a := 12) (by omega) (by decide)), if_neg (nI_pos (by omega)), if_neg (show ¬ (5 : Int32) < nI d from nI_nlt (a := 5) (by omega) (by decide)), ix_n hd (by decide), ix_n (by omega) (by decide), hw (k + 1) (by omega) (by omega), iadd1]
    show _ = self _ (nI (bs (fun c => decide (0 < wq g code c)) k ||| if decide (0 < wq g code (k + 1)) then 2 ^ (k + 1) else 0))
    simp only [Nat.add_sub_cancel]
    by_cases e : wq g code (k + 1) = 0
    · rw [if_pos ((lN_le0 (by omega)).mpr e), show (0 : Int32) = nI 0 from rfl, nI_or, Nat.or_zero, e, decide_eq_false (Nat.lt_irrefl 0), if_neg (by decide), Nat.or_zero]
    · rw [if_neg (fun q => e ((lN_le0 (by omega)).mp q)), bitN (k + 1) (by omega), sb, nI_or, decide_eq_true (by omega : 0 < wq g code (k + 1))]
      rfl
  · intro self
    unfold x_P_leftAt_B1
    rw [if_pos (by decide), ← hq]
