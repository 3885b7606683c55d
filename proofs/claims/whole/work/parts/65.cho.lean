-- PURE 65: the class's values and picks are the tree's
/-- what is valued is valued right, and so is what its pick leads to -/
def MEM (st : XS) (g : GT) : Prop := ∀ j, j < 1024 → ¬ x_val st j = -1 → COK g j ∧ x_val st j = lN (tv g j) ∧ x_pic st j = nI (tp g j) ∧ (¬ tp g j = 0 → ∀ a, a < 3 → ¬ x_val st (chl j (tp g j) a) = -1)
/-- what a choice at a depth leaves -/
def CH (g : GT) (d : Nat) (st st' : XS) : Prop := xk st' = xk st ∧ MEM st' g ∧ (∀ j, j < 1024 → ¬ x_val st j = -1 → ¬ x_val st' j = -1) ∧ (∀ e, e ≤ d → x_wei st' e = x_wei st e)
theorem CH_rf {g : GT} {d : Nat} {st : XS} (h : MEM st g) : CH g d st st := ⟨rfl, h, fun _ _ h => h, fun _ _ => rfl⟩
theorem CH_tr {g : GT} {d : Nat} {s1 s2 s3 : XS} (h1 : CH g d s1 s2) (h2 : CH g d s2 s3) : CH g d s1 s3 :=
  ⟨h2.1.trans h1.1, h2.2.1, fun j hj h => h2.2.2.1 j hj (h1.2.2.1 j hj h), fun e he => (h2.2.2.2 e he).trans (h1.2.2.2 e he)⟩
theorem WA_CH {g : GT} {d code : Nat} {s1 s2 : XS} (h : WA s1 g d code) (c : CH g d s1 s2) : WA s2 g d code := fun c0 h1 h2 => by
  rw [c.2.2.2 d (Nat.le_refl _)]; exact h c0 h1 h2
theorem lN_nm1 {n : Nat} (h : n < 2 ^ 63) : ¬ lN n = (-1 : Int64) := fun q => by
  have h1 : (lN n).toInt = (-1 : Int64).toInt := by rw [q]
  rw [pk_lT h] at h1
  have h2 : (-1 : Int64).toInt = -1 := by decide
  rw [h2] at h1
  omega
/-- what a call for a case behind keeps -/
def RF (g : GT) (d u : Nat) (rf : XS → Int32 → Int32 → Option XS) : Prop := ∀ (code : Nat) (st : XS), COK g code → RX st g → MEM st g → WA st g d code → un g code = u → ∃ st', rf st (nI code) (nI d) = some st' ∧ CH g d st st' ∧ ¬ x_val st' code = -1
theorem vbX {g : GT} (hg : GOK g) {code d t : Nat} {rf : XS → Int32 → Int32 → Option XS} (hc : COK g code) (h1 : 1 ≤ t) (h2 : t ≤ g_nT g) (h0 : dg code t = 0) (hd : d < 5) (hrf : RF g (d + 1) (un g code - 1) rf) {st : XS} (hR : RX st g) (hM : MEM st g) (hW : WA st g d code) :
    ∃ st', x_P_valuesBehind rf st (nI t) (nI code) (nI d) = some (lN (tv g (chl code t 0) + tv g (chl code t 1) + tv g (chl code t 2)), st') ∧ CH g d st st' ∧ ∀ a, a < 3 → ¬ x_val st' (chl code t a) = -1 := by
  have hn := hg.2.1
  have step : ∀ (a : Nat), a < 3 → ∀ (n v : Nat) (s : XS), CH g d st s → ∃ s', xl3 (x_P_valuesBehind_B1 (nI t) (nI code) (nI d) rf) (n + 1) (nI a) (lN v) s = xl3 (x_P_valuesBehind_B1 (nI t) (nI code) (nI d) rf) n (nI (a + 1)) (lN (v + tv g (chl code t a))) s' ∧ CH g d s s' ∧ ¬ x_val s' (chl code t a) = -1 := by
    intro a ha n v s hs
    have hck := chl_ok hg hc h1 h2 h0 ha
    have hR1 : RX s g := RX_xk hR hs.1
    have hW1 : WA s g d code := WA_CH hW hs
    show ∃ s', x_P_valuesBehind_B1 (nI t) (nI code) (nI d) rf (xl3 (x_P_valuesBehind_B1 (nI t) (nI code) (nI d) rf) n) (nI a) (lN v) s = _ ∧ _
    unfold x_P_valuesBehind_B1
    rw [if_neg (show ¬ (3 : Int32) ≤ nI a from nI_ge (b := 3) ha (by decide)), withAns code hc.1 t (by omega) a ha ⟨h1, h0⟩, sb, show nI (code + (a + 1) * p4 t) = nI (chl code t a) from rfl, if_neg (nI_pos (by have := hck.1; omega)), if_pos (show nI (chl code t a) < (1024 : Int32) from nI_lt (b := 1024) hck.1 (by decide)), ix_n hck.1 (by decide), iadd1 a]
    by_cases e : x_val s (chl code t a) = -1
    · rw [if_pos e]
      obtain ⟨s1, q1, q2, q3, q4, q5, q6⟩ := behindX hR1 hg hc h1 h2 h0 ha hd hW1
      have hM1 : MEM s1 g := by
        intro j hj hv
        rw [q3] at hv ⊢
        rw [q4]
        exact hs.2.1 j hj hv
      obtain ⟨s2, r1, r2, r3⟩ := hrf (chl code t a) s1 hck (RX_xk hR1 q2) hM1 q5 (by have := un_chl hg hc h1 h2 h0 ha; omega)
      rw [q1, sb, iadd1 d, r1, sb, ix_n hck.1 (by decide), (r2.2.1 _ hck.1 r3).2.1, lN_add]
      refine ⟨s2, rfl, ⟨r2.1.trans q2, r2.2.1, fun j hj hv => r2.2.2.1 j hj (by rw [q3]; exact hv), fun e he => ?_⟩, r3⟩
      rw [r2.2.2.2 e (by omega), q6 e he]
    · rw [if_neg e, ix_n hck.1 (by decide), (hs.2.1 _ hck.1 e).2.1, lN_add]
      exact ⟨s, rfl, CH_rf hs.2.1, e⟩
  have fin : ∀ (n v : Nat) (s : XS), xl3 (x_P_valuesBehind_B1 (nI t) (nI code) (nI d) rf) (n + 1) (nI 3) (lN v) s = some (lN v, s) := by
    intro n v s
    show x_P_valuesBehind_B1 (nI t) (nI code) (nI d) rf (xl3 (x_P_valuesBehind_B1 (nI t) (nI code) (nI d) rf) n) (nI 3) (lN v) s = _
    unfold x_P_valuesBehind_B1
    rw [if_pos (by decide)]
  obtain ⟨s1, a1, b1, c1⟩ := step 0 (by decide) 13 0 st (CH_rf hM)
  obtain ⟨s2, a2, b2, c2⟩ := step 1 (by decide) 12 (0 + tv g (chl code t 0)) s1 b1
  obtain ⟨s3, a3, b3, c3⟩ := step 2 (by decide) 11 (0 + tv g (chl code t 0) + tv g (chl code t 1)) s2 (CH_tr b1 b2)
  refine ⟨s3, ?_, CH_tr (CH_tr b1 b2) b3, fun a ha => ?_⟩
  · unfold x_P_valuesBehind
    have e := a1.trans (a2.trans (a3.trans (fin 10 _ s3)))
    rw [Nat.zero_add] at e
    exact e
  · match a, ha with
    | 0, _ => exact b3.2.2.1 _ (chl_ok hg hc h1 h2 h0 (by decide)).1 (b2.2.2.1 _ (chl_ok hg hc h1 h2 h0 (by decide)).1 c1)
    | 1, _ => exact b3.2.2.1 _ (chl_ok hg hc h1 h2 h0 (by decide)).1 c2
    | 2, _ => exact c3
theorem ff_ok (p : Nat → Bool) : ∀ d i, 1 ≤ i → ff p i d = 0 ∨ (p (ff p i d) = true ∧ i ≤ ff p i d ∧ ff p i d < i + d)
  | 0, i, _ => Or.inl rfl
  | d + 1, i, hi => by
    unfold ff
    cases h : p i
    · rcases ff_ok p d (i + 1) (by omega) with q | q
      · exact Or.inl (by simpa using q)
      · refine Or.inr ?_
        simp only [Bool.false_eq_true, if_false]
        exact ⟨q.1, by omega, by omega⟩
    · refine Or.inr ?_
      simp only [if_true]
      exact ⟨h, by omega, by omega⟩
theorem fre_ok {g : GT} {code : Nat} (h : ¬ fre g code = 0) : usb g code (fre g code) = true ∧ 1 ≤ fre g code ∧ fre g code ≤ g_nT g := by
  rcases ff_ok (fun t => usb g code t && decide (g_co g t = 0)) (g_nT g) 1 (Nat.le_refl _) with q | q
  · exact absurd q h
  · have q1 := q.1
    simp only [Bool.and_eq_true] at q1
    exact ⟨q1.1, q.2.1, by have := q.2.2; unfold fre; omega⟩
/-- the candidates as a set -/
def cset (g : GT) (code : Nat) : Nat := if fre g code = 0 then bs (usb g code) (g_nT g) else 2 ^ fre g code
theorem cset_lt {g : GT} (hg : GOK g) (code : Nat) : cset g code < 8192 := by
  have hn := hg.2.1
  unfold cset
  by_cases e : fre g code = 0
  · rw [if_pos e]; exact bs_lt13 _ (by omega)
  · rw [if_neg e]
    have := (fre_ok e).2.2
    calc 2 ^ fre g code ≤ 2 ^ 5 := Nat.pow_le_pow_right (by decide) (by omega)
      _ < 8192 := by decide
theorem cset_test {g : GT} {code t : Nat} (h1 : 1 ≤ t) : (cset g code).testBit t = (decide (t ≤ g_nT g) && cnd g code t) := by
  unfold cset cnd
  by_cases e : fre g code = 0
  · rw [if_pos e, bs_test, decide_eq_true h1, decide_eq_true e]; simp
  · rw [if_neg e, Nat.testBit_two_pow, decide_eq_false e]
    obtain ⟨f1, f2, f3⟩ := fre_ok e
    by_cases q : t = fre g code
    · rw [q, f1, decide_eq_true f3]; simp
    · rw [decide_eq_false q, decide_eq_false (fun r => q r.symm)]; simp
theorem p300 : ∀ n, n < 13 → ((300 : Int32) * (if (nI n - (1 : Int32)) < (0 : Int32) then (0 : Int32) else (nI n - (1 : Int32)))).toInt64 = lN (300 * (n - 1)) := by decide +kernel
theorem narB : ∀ n, n < 13 → vp_nar .byte (nI n).toInt8.toInt32 = nI n := by decide +kernel
theorem chl_ne {code t a : Nat} : ¬ chl code t a = code := by
  unfold chl p4
  have : 0 < 4 ^ (t - 1) := Nat.pow_pos (by decide)
  have : 0 < (a + 1) * 4 ^ (t - 1) := Nat.mul_pos (by omega) this
  omega
theorem choX {g : GT} (hg : GOK g) {code d : Nat} {rf : XS → Int32 → Int32 → Option XS} (hc : COK g code) (hd : d + un g code ≤ 5) (hrf : 0 < un g code → RF g (d + 1) (un g code - 1) rf) {st : XS} (hR : RX st g) (hM : MEM st g) (hW : WA st g d code) :
    ∃ st', x_P_choose_b rf st (nI code) (nI d) = some st' ∧ CH g d st st' ∧ ¬ x_val st' code = -1 := by
  have hn := hg.2.1
  have hcl := cset_lt hg code
  have hS := S_le hg code
  -- the loop over the tests
  have step : ∀ (k : Nat), k < 5 → ∀ (n : Nat) (s : XS), CH g d st s → ∃ s', xl4 (x_P_choose_B2 (nI code) (nI d) rf (nI (cset g code)) (lN (S g code))) (n + 1) (nI (k + 1)) (lN (bt g (tv g) code (min k (g_nT g))).1) (nI (bt g (tv g) code (min k (g_nT g))).2) s = xl4 (x_P_choose_B2 (nI code) (nI d) rf (nI (cset g code)) (lN (S g code))) n (nI (k + 1 + 1)) (lN (bt g (tv g) code (min (k + 1) (g_nT g))).1) (nI (bt g (tv g) code (min (k + 1) (g_nT g))).2) s' ∧ CH g d s s' ∧ (k + 1 ≤ g_nT g → cnd g code (k + 1) = true → ∀ a, a < 3 → ¬ x_val s' (chl code (k + 1) a) = -1) := by
    intro k hk n s hs
    have hR1 : RX s g := RX_xk hR hs.1
    have hW1 : WA s g d code := WA_CH hW hs
    show ∃ s', x_P_choose_B2 (nI code) (nI d) rf (nI (cset g code)) (lN (S g code)) (xl4 (x_P_choose_B2 (nI code) (nI d) rf (nI (cset g code)) (lN (S g code))) n) (nI (k + 1)) _ _ s = _ ∧ _
    unfold x_P_choose_B2
    rw [if_neg (show ¬ (5 : Int32) < nI (k + 1) from nI_nlt (a := 5) (by omega) (by decide)), holdsN (by omega) (by omega), sb, cset_test (by omega), iadd1]
    by_cases q : k + 1 ≤ g_nT g
    · rw [decide_eq_true q, Bool.true_and, Nat.min_eq_left q, Nat.min_eq_left (by omega : k ≤ g_nT g)]
      have hst : bt g (tv g) code (k + 1) = if cnd g code (k + 1) then (if (bt g (tv g) code k).2 = 0 then (cst g (tv g) code (k + 1), k + 1) else if (bt g (tv g) code k).1 ≤ cst g (tv g) code (k + 1) then bt g (tv g) code k else (cst g (tv g) code (k + 1), k + 1)) else bt g (tv g) code k := rfl
      rw [hst]
      cases hq : cnd g code (k + 1)
      · exact ⟨s, rfl, CH_rf hs.2.1, fun _ h => by cases h⟩
      · have h0 := cnd_dg hq
        have hu := un_chl hg hc (by omega) q h0 (a := 0) (by decide)
        obtain ⟨s', e1, e2, e3⟩ := vbX hg hc (by omega) q h0 (by omega) (hrf (by omega)) hR1 hs.2.1 hW1
        have hb := bt_b hg hc (k := k) (by omega)
        have hcb := cst_b hg hc (by omega) q h0
        have hco := hg.2.2.2.2.1 (k + 1)
        rw [if_neg (by decide), priceX hR1 hg (by omega) q, sb, e1, bd2_s, if_pos rfl, i64od (by omega), lN_mul, lN_add, show g_co g (k + 1) * S g code + (tv g (chl code (k + 1) 0) + tv g (chl code (k + 1) 1) + tv g (chl code (k + 1) 2)) = cst g (tv g) code (k + 1) from rfl]
        refine ⟨s', ?_, e2, fun _ _ => e3⟩
        by_cases z : (bt g (tv g) code k).2 = 0
        · rw [if_pos (by rw [z]; rfl), if_pos z]
        · rw [if_neg (nI_ne0 (by omega) (by omega)), if_neg z]
          by_cases z2 : (bt g (tv g) code k).1 ≤ cst g (tv g) code (k + 1)
          · rw [if_pos ((pk_lLE (by omega) (by omega)).mpr z2), if_pos z2]
          · rw [if_neg (fun r => z2 ((pk_lLE (by omega) (by omega)).mp r)), if_neg z2]
    · rw [decide_eq_false q, Bool.false_and, if_pos (show (if false = true then (1 : Int32) else 0) = 0 from rfl), Nat.min_eq_right (by omega), Nat.min_eq_right (by omega)]
      exact ⟨s, rfl, CH_rf hs.2.1, fun h => absurd h q⟩
  obtain ⟨s1, a1, b1, c1⟩ := step 0 (by decide) 13 st (CH_rf hM)
  obtain ⟨s2, a2, b2, c2⟩ := step 1 (by decide) 12 s1 b1
  have b12 := CH_tr b1 b2
  obtain ⟨s3, a3, b3, c3⟩ := step 2 (by decide) 11 s2 b12
  have b13 := CH_tr b12 b3
  obtain ⟨s4, a4, b4, c4⟩ := step 3 (by decide) 10 s3 b13
  have b14 := CH_tr b13 b4
  obtain ⟨s5, a5, b5, c5⟩ := step 4 (by decide) 9 s4 b14
  have b15 := CH_tr b14 b5
  have hb := bt_b hg hc (Nat.le_refl (g_nT g))
  have hv : (bt g (tv g) code (min 5 (g_nT g))) = bt g (tv g) code (g_nT g) := by rw [Nat.min_eq_right hn]
  have fin : xl4 (x_P_choose_B2 (nI code) (nI d) rf (nI (cset g code)) (lN (S g code))) 9 (nI 6) (lN (bt g (tv g) code (min 5 (g_nT g))).1) (nI (bt g (tv g) code (min 5 (g_nT g))).2) s5 = some (x_pic_s (x_val_s s5 code (lN (tv g code))) code (nI (tp g code))) := by
    rw [hv, ← tv_eq hg hc]
    show x_P_choose_B2 (nI code) (nI d) rf (nI (cset g code)) (lN (S g code)) (xl4 (x_P_choose_B2 (nI code) (nI d) rf (nI (cset g code)) (lN (S g code))) 8) (nI 6) _ _ s5 = _
    unfold x_P_choose_B2
    rw [if_pos (by decide), ix_n hc.1 (by decide), ix_n hc.1 (by decide), narB _ (by omega)]
    rfl
  -- the children of the pick are valued
  have hch : ¬ tp g code = 0 → ∀ a, a < 3 → ¬ x_val s5 (chl code (tp g code) a) = -1 := by
    intro h a ha
    obtain ⟨t1, t2, t3, t4⟩ := tp_ok hg hc h
    have hck := (chl_ok hg hc t1 t2 t3 ha).1
    rcases (show tp g code = 1 ∨ tp g code = 2 ∨ tp g code = 3 ∨ tp g code = 4 ∨ tp g code = 5 by omega) with e | e | e | e | e <;> rw [e] at t2 t4 hck ⊢
    · exact b5.2.2.1 _ hck (b4.2.2.1 _ hck (b3.2.2.1 _ hck (b2.2.2.1 _ hck (c1 t2 t4 a ha))))
    · exact b5.2.2.1 _ hck (b4.2.2.1 _ hck (b3.2.2.1 _ hck (c2 t2 t4 a ha)))
    · exact b5.2.2.1 _ hck (b4.2.2.1 _ hck (c3 t2 t4 a ha))
    · exact b5.2.2.1 _ hck (c4 t2 t4 a ha)
    · exact c5 t2 t4 a ha
  have hpos := lN_nm1 (n := tv g code) (by have := tv_b hg hc; omega)
  have hval : ∀ j, x_val (x_pic_s (x_val_s s5 code (lN (tv g code))) code (nI (tp g code))) j = if j = code then lN (tv g code) else x_val s5 j := fun j => rfl
  have hpic : ∀ j, x_pic (x_pic_s (x_val_s s5 code (lN (tv g code))) code (nI (tp g code))) j = if j = code then nI (tp g code) else x_pic s5 j := fun j => rfl
  have hup : ∀ j, ¬ x_val s5 j = -1 → ¬ x_val (x_pic_s (x_val_s s5 code (lN (tv g code))) code (nI (tp g code))) j = -1 := fun j h => by
    rw [hval]
    by_cases e : j = code
    · rw [if_pos e]; exact hpos
    · rw [if_neg e]; exact h
  refine ⟨x_pic_s (x_val_s s5 code (lN (tv g code))) code (nI (tp g code)), ?_, ⟨b15.1, ?_, ?_, fun e he => b15.2.2.2 e he⟩, ?_⟩
  · have hJ : x_P_choose_J1 st (nI code) (nI d) rf (nI (bs (lf g code) (g_nC g))) (nI (cset g code)) = some (x_pic_s (x_val_s s5 code (lN (tv g code))) code (nI (tp g code))) := by
      unfold x_P_choose_J1
      have hl := nL_le hg code
      rw [weightAtX hg (by omega) hW, sb, cntN _ hg.1, sb, p300 _ (show ct (lf g code) (g_nC g) < 13 from by have : nL g code ≤ 12 := hl; unfold nL at this; omega), lN_mul]
      have e0 : 300 * (ct (lf g code) (g_nC g) - 1) * S g code = (bt g (tv g) code (min 0 (g_nT g))).1 := by rw [Nat.zero_min]; rfl
      have e1 : (0 : Int32) = nI (bt g (tv g) code (min 0 (g_nT g))).2 := by rw [Nat.zero_min]; rfl
      rw [e0]
      have := a1.trans (a2.trans (a3.trans (a4.trans (a5.trans fin))))
      rw [← e1] at this
      exact this
    unfold x_P_choose_b
    rw [if_neg (show ¬ (5 : Int32) < nI d from nI_nlt (a := 5) (by omega) (by decide)), if_neg (nI_pos (by have := hc.1; omega)), if_pos (show nI code < (1024 : Int32) from nI_lt (b := 1024) hc.1 (by decide)), leftAtX hg (by omega) hW, sb, usableX hR hg hc, sb, freeX hR hg, sb]
    by_cases e : fre g code = 0
    · rw [if_pos (by rw [e]; rfl)]
      have hx : cset g code = bs (usb g code) (g_nT g) := by unfold cset; rw [if_pos e]
      rw [hx] at hJ
      exact hJ
    · obtain ⟨f1, f2, f3⟩ := fre_ok e
      rw [if_neg (nI_ne0 (by omega) (by omega)), bitN _ (by omega), sb]
      have hx : cset g code = 2 ^ fre g code := by unfold cset; rw [if_neg e]
      rw [hx] at hJ
      exact hJ
  · intro j hj hv2
    rw [hval] at hv2 ⊢
    rw [hpic]
    by_cases e : j = code
    · subst e
      rw [if_pos rfl, if_pos rfl]
      exact ⟨hc, rfl, rfl, fun h a ha => hup _ (hch h a ha)⟩
    · rw [if_neg e] at hv2 ⊢
      rw [if_neg e]
      obtain ⟨m1, m2, m3, m4⟩ := b15.2.1 j hj hv2
      exact ⟨m1, m2, m3, fun h a ha => hup _ (m4 h a ha)⟩
  · intro j hj h
    exact hup j (b15.2.2.1 j hj h)
  · rw [hval, if_pos rfl]; exact hpos
theorem chooseX {g : GT} (hg : GOK g) : ∀ (f d u : Nat), u < f → d + u ≤ 5 → RF g d u (x_P_choose f)
  | 0, _, _, h, _ => absurd h (Nat.not_lt_zero _)
  | f + 1, d, u, h, hd => fun code st hc hR hM hW hu => by
    show ∃ st', x_P_choose_b (x_P_choose f) st (nI code) (nI d) = some st' ∧ _
    exact choX hg hc (by omega) (fun h0 => chooseX hg f (d + 1) (un g code - 1) (by omega) (by omega)) hR hM hW
