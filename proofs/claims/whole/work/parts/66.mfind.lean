-- PURE 66: the reference's find: a case's value (twelve times) and pick
/-- all parts of the reference's state but its scratch arrays -/
def mq (s : MS) : Int32 × Int32 × Int32 × Int32 × Int32 × Int32 × Int64 × Int32 × (Nat → Int32) × (Nat → Int32) × (Nat → Int64) × (Nat → Int32) × (Nat → Int64) × (Nat → Int32) × (Nat → Int32) × (Nat → Int32) × (Nat → Int32) :=
  (m_code s, m_causes s, m_faults s, m_strangers s, m_tests s, m_exact s, m_cost s, m_nodes s, m_one s, m_two s, m_prior s, m_learned s, m_price s, m_needs s, m_odds s, m_given s, m_node s)
theorem mq_val (s : MS) (j : Nat) (v : Int64) : mq (m_value_s s j v) = mq s := rfl
theorem mq_best (s : MS) (j : Nat) (v : Int32) : mq (m_best_s s j v) = mq s := rfl
theorem mq_use (s : MS) (f : Nat → Int32) : mq (m_use_f s f) = mq s := rfl
theorem mq_wf (s : MS) (f : Nat → Int64) : mq (m_weight_f s f) = mq s := rfl
theorem mq_df (s : MS) (f : Nat → Int32) : mq (m_digit_f s f) = mq s := rfl
theorem mq_lk (g : GT) (s : MS) (code : Nat) : mq (lk g s code) = mq s := (mq_wf _ _).trans (mq_df _ _)
theorem RM_mq {s s' : MS} {g : GT} (h : RM s g) (e : mq s' = mq s) : RM s' g := by
  unfold mq at e
  simp only [Prod.mk.injEq] at e
  obtain ⟨-, e2, -, -, e5, -, -, -, -, -, e11, e12, e13, e14, e15, -⟩ := e
  unfold RM
  rw [e2, e5, e11, e12, e13, e14, e15]
  exact h
theorem value_lk (g : GT) (s : MS) (code : Nat) : m_value (lk g s code) = m_value s := by simp only [m_value, lk, m_weight_f, m_digit_f]
theorem best_lk (g : GT) (s : MS) (code : Nat) : m_best (lk g s code) = m_best s := by simp only [m_best, lk, m_weight_f, m_digit_f]
theorem value_vs (s : MS) (j : Nat) (v : Int64) : m_value (m_value_s s j v) = vp_updL (m_value s) j v := rfl
theorem value_bs (s : MS) (j : Nat) (v : Int32) : m_value (m_best_s s j v) = m_value s := rfl
theorem best_vs (s : MS) (j : Nat) (v : Int64) : m_best (m_value_s s j v) = m_best s := rfl
theorem best_bs (s : MS) (j : Nat) (v : Int32) : m_best (m_best_s s j v) = upd (m_best s) j v := rfl
theorem use_vs (s : MS) (j : Nat) (v : Int64) : m_use (m_value_s s j v) = m_use s := rfl
theorem use_bs (s : MS) (j : Nat) (v : Int32) : m_use (m_best_s s j v) = m_use s := rfl
theorem value_uf (s : MS) (f : Nat → Int32) : m_value (m_use_f s f) = m_value s := rfl
theorem best_uf (s : MS) (f : Nat → Int32) : m_best (m_use_f s f) = m_best s := rfl
theorem LK_vs {s : MS} {g : GT} {code : Nat} (h : LK s g code) (j : Nat) (v : Int64) : LK (m_value_s s j v) g code := h
theorem LK_bs {s : MS} {g : GT} {code : Nat} (h : LK s g code) (j : Nat) (v : Int32) : LK (m_best_s s j v) g code := h
/-- a value and a pick -/
def VP (s : MS) (g : GT) (j : Nat) : Prop := m_value s j = lN (12 * tv g j) ∧ m_best s j = nI (tp g j)
/-- a new value and pick of a case -/
def put (s : MS) (code : Nat) (v : Nat) (t : Nat) : MS := m_best_s (m_value_s s code (lN v)) code (nI t)
theorem put_value (s : MS) (code v t j : Nat) : m_value (put s code v t) j = if j = code then lN v else m_value s j := rfl
theorem put_best (s : MS) (code v t j : Nat) : m_best (put s code v t) j = if j = code then nI t else m_best s j := rfl
theorem put_use (s : MS) (code v t : Nat) : m_use (put s code v t) = m_use s := rfl
theorem put_mq (s : MS) (code v t : Nat) : mq (put s code v t) = mq s := rfl
theorem b4M {g : GT} (hg : GOK g) {code t : Nat} (hc : COK g code) (h1 : 1 ≤ t) (h2 : t ≤ g_nT g) (h0 : dg code t = 0) (s : MS) (hv : ∀ a, a < 3 → m_value s (chl code t a) = lN (12 * tv g (chl code t a))) (self2 : Int32 → MS → Option MS) :
    xl2 (m_M_find_B4 (nI code) (nI t) s self2) 14 (nI 1) (lN (12 * (g_co g t * S g code))) = if m_best s code = 0 then self2 (nI (t + 1)) (put s code (12 * cst g (tv g) code t) t) else if m_value s code ≤ lN (12 * cst g (tv g) code t) then self2 (nI (t + 1)) s else self2 (nI (t + 1)) (put s code (12 * cst g (tv g) code t) t) := by
  have hn := hg.2.1
  have hc4 : code < 4096 := by have := hc.1; omega
  have step : ∀ (a : Nat), a < 3 → ∀ (n v : Nat), xl2 (m_M_find_B4 (nI code) (nI t) s self2) (n + 1) (nI (a + 1)) (lN v) = xl2 (m_M_find_B4 (nI code) (nI t) s self2) n (nI (a + 1 + 1)) (lN (v + 12 * tv g (chl code t a))) := by
    intro a ha n v
    have hck := (chl_ok hg hc h1 h2 h0 ha).1
    show m_M_find_B4 (nI code) (nI t) s self2 (xl2 (m_M_find_B4 (nI code) (nI t) s self2) n) (nI (a + 1)) (lN v) = _
    unfold m_M_find_B4
    rw [if_neg (show ¬ (4 : Int32) ≤ nI (a + 1) from nI_ge (b := 4) (by omega) (by decide)), unitN t (by omega) h1, sb, pk_mul, nI_add, show nI (code + (a + 1) * p4 t) = nI (chl code t a) from rfl, ix_n (by omega) (by decide), hv a ha, lN_add, iadd1 (a + 1)]
  have e : 12 * (g_co g t * S g code) + 12 * tv g (chl code t 0) + 12 * tv g (chl code t 1) + 12 * tv g (chl code t 2) = 12 * cst g (tv g) code t := by
    unfold cst; omega
  rw [step 0 (by decide) 13, step 1 (by decide) 12, step 2 (by decide) 11, e]
  show m_M_find_B4 (nI code) (nI t) s self2 (xl2 (m_M_find_B4 (nI code) (nI t) s self2) 10) (nI 4) (lN (12 * cst g (tv g) code t)) = _
  unfold m_M_find_B4
  rw [if_pos (by decide), ix_n hc4 (by decide), ix_n hc4 (by decide), ix_n hc4 (by decide), ix_n hc4 (by decide), iadd1 t]
  rfl
theorem bt_none {g : GT} {v : Nat → Nat} {code : Nat} (h : ¬ 2 ≤ nL g code) : ∀ k, bt g v code k = (300 * (nL g code - 1) * S g code, 0)
  | 0 => rfl
  | k + 1 => by
    have hq : cnd g code (k + 1) = false := by
      unfold cnd usb
      rw [decide_eq_false h]; simp
    unfold bt
    rw [hq]
    exact bt_none h k
theorem m300 : ∀ n, n < 13 → ¬ n = 0 → (300 : Int64) * (nI n - (1 : Int32)).toInt64 = lN (300 * (n - 1)) := by decide +kernel
theorem findM {s : MS} {g : GT} (h : RM s g) (hg : GOK g) {code : Nat} (hc : COK g code) (hv : ∀ t a, 1 ≤ t → t ≤ g_nT g → dg code t = 0 → a < 3 → m_value s (chl code t a) = lN (12 * tv g (chl code t a))) :
    ∃ s', m_M_find s (nI code) = some s' ∧ mq s' = mq s ∧ VP s' g code ∧ ∀ j, ¬ j = code → m_value s' j = m_value s j ∧ m_best s' j = m_best s j := by
  have hn := hg.2.1
  have hc4 : code < 4096 := by have := hc.1; omega
  have hnl := nL_le hg code
  have hS := S_le hg code
  have hl0 : LK (lk g s code) g code := LK_lk g s code
  have hR0 : RM (lk g s code) g := RM_mq h (mq_lk g s code)
  have hJ : m_M_find s (nI code) = m_M_find_J1 (nI code) (lk g s code) (nI (nL g code)) (lN (12 * S g code)) (lN (12 * (300 * (nL g code - 1) * S g code))) := by
    unfold m_M_find
    rw [lookM h hg hc, sb, leftM hR0 hg hl0, sb, sumM hR0 hg hl0, sb]
    by_cases e : nL g code = 0
    · rw [if_pos (by rw [e]; rfl), e]
      simp only [Nat.zero_sub, Nat.mul_zero, Nat.zero_mul]
      rfl
    · rw [if_neg (nI_ne0 (by omega) (by omega)), m300 _ (by omega) e, lN_mul, show 300 * (nL g code - 1) * (12 * S g code) = 12 * (300 * (nL g code - 1) * S g code) from by rw [Nat.mul_left_comm]]
  rw [hJ]
  unfold m_M_find_J1
  rw [ix_n hc4 (by decide), ix_n hc4 (by decide)]
  show ∃ s', (if (2 : Int32) ≤ nI (nL g code) then (m_M_findUse (put (lk g s code) code (12 * (300 * (nL g code - 1) * S g code)) 0)).bind fun s16 => (m_M_free s16).bind fun r18 => xl2 (m_M_find_B2 (nI code) (lN (12 * S g code)) r18) 14 (nI 1) s16 else some (put (lk g s code) code (12 * (300 * (nL g code - 1) * S g code)) 0)) = some s' ∧ _
  generalize hs0 : put (lk g s code) code (12 * (300 * (nL g code - 1) * S g code)) 0 = s0
  have k1 : mq s0 = mq s := by rw [← hs0, put_mq, mq_lk]
  have k2 : ∀ j, m_value s0 j = if j = code then lN (12 * (300 * (nL g code - 1) * S g code)) else m_value s j := fun j => by rw [← hs0, put_value, value_lk]
  have k3 : ∀ j, m_best s0 j = if j = code then nI 0 else m_best s j := fun j => by rw [← hs0, put_best, best_lk]
  have k4 : LK s0 g code := by rw [← hs0]; exact LK_bs (LK_vs hl0 _ _) _ _
  have hR1 : RM s0 g := RM_mq h k1
  by_cases e : 2 ≤ nL g code
  · rw [if_pos (show (2 : Int32) ≤ nI (nL g code) from nI_le (a := 2) e (by omega)), useM hR1 hg k4, sb]
    generalize hs1 : m_use_f s0 (Uk g code s0 (g_nT g)) = s1
    have u1 : mq s1 = mq s := by rw [← hs1, mq_use, k1]
    have u2 : m_value s1 = m_value s0 := by rw [← hs1, value_uf]
    have u3 : m_best s1 = m_best s0 := by rw [← hs1, best_uf]
    have u4 : UK s1 g code := by rw [← hs1]; exact UK_use hg e
    have hR2 : RM s1 g := RM_mq h u1
    rw [freeM hR2 hg u4, sb]
    -- the loop over the tests
    have step : ∀ (k : Nat), k < g_nT g → ∀ (n : Nat) (z : MS), (mq z = mq s ∧ m_use z = m_use s1 ∧ m_value z code = lN (12 * (bt g (tv g) code k).1) ∧ m_best z code = nI (bt g (tv g) code k).2 ∧ ∀ j, ¬ j = code → m_value z j = m_value s j ∧ m_best z j = m_best s j) →
        ∃ z', xl2 (m_M_find_B2 (nI code) (lN (12 * S g code)) (nI (fre g code))) (n + 1) (nI (k + 1)) z = xl2 (m_M_find_B2 (nI code) (lN (12 * S g code)) (nI (fre g code))) n (nI (k + 1 + 1)) z' ∧ (mq z' = mq s ∧ m_use z' = m_use s1 ∧ m_value z' code = lN (12 * (bt g (tv g) code (k + 1)).1) ∧ m_best z' code = nI (bt g (tv g) code (k + 1)).2 ∧ ∀ j, ¬ j = code → m_value z' j = m_value s j ∧ m_best z' j = m_best s j) := by
      intro k hk n z ⟨z1, z2, z3, z4, z5⟩
      have hRz : RM z g := RM_mq h z1
      have hst : bt g (tv g) code (k + 1) = if cnd g code (k + 1) then (if (bt g (tv g) code k).2 = 0 then (cst g (tv g) code (k + 1), k + 1) else if (bt g (tv g) code k).1 ≤ cst g (tv g) code (k + 1) then bt g (tv g) code k else (cst g (tv g) code (k + 1), k + 1)) else bt g (tv g) code k := rfl
      have hcn : cnd g code (k + 1) = (usb g code (k + 1) && (decide (fre g code = 0) || decide (k + 1 = fre g code))) := rfl
      have hfl : fre g code < g_nT g + 2 := by
        by_cases q : fre g code = 0
        · omega
        · have := (fre_ok q).2.2; omega
      show ∃ z', m_M_find_B2 (nI code) (lN (12 * S g code)) (nI (fre g code)) (xl2 (m_M_find_B2 (nI code) (lN (12 * S g code)) (nI (fre g code))) n) (nI (k + 1)) z = _ ∧ _
      generalize xl2 (m_M_find_B2 (nI code) (lN (12 * S g code)) (nI (fre g code))) n = self2
      have hskip : cnd g code (k + 1) = false → mq z = mq s ∧ m_use z = m_use s1 ∧ m_value z code = lN (12 * (bt g (tv g) code (k + 1)).1) ∧ m_best z code = nI (bt g (tv g) code (k + 1)).2 ∧ ∀ j, ¬ j = code → m_value z j = m_value s j ∧ m_best z j = m_best s j := fun q => by
        rw [hst, q]; exact ⟨z1, z2, z3, z4, z5⟩
      have hdo : cnd g code (k + 1) = true → ∃ z', m_M_find_J3 (nI code) (lN (12 * S g code)) (nI (k + 1)) z self2 = self2 (nI (k + 1 + 1)) z' ∧ (mq z' = mq s ∧ m_use z' = m_use s1 ∧ m_value z' code = lN (12 * (bt g (tv g) code (k + 1)).1) ∧ m_best z' code = nI (bt g (tv g) code (k + 1)).2 ∧ ∀ j, ¬ j = code → m_value z' j = m_value s j ∧ m_best z' j = m_best s j) := fun q => by
        have h0 := cnd_dg q
        have hb := bt_b hg hc (k := k) (by omega)
        have hcb := cst_b hg hc (by omega) (by omega : k + 1 ≤ g_nT g) h0
        have hpz : mq (put z code (12 * cst g (tv g) code (k + 1)) (k + 1)) = mq s ∧ m_use (put z code (12 * cst g (tv g) code (k + 1)) (k + 1)) = m_use s1 ∧ m_value (put z code (12 * cst g (tv g) code (k + 1)) (k + 1)) code = lN (12 * cst g (tv g) code (k + 1)) ∧ m_best (put z code (12 * cst g (tv g) code (k + 1)) (k + 1)) code = nI (k + 1) ∧ ∀ j, ¬ j = code → m_value (put z code (12 * cst g (tv g) code (k + 1)) (k + 1)) j = m_value s j ∧ m_best (put z code (12 * cst g (tv g) code (k + 1)) (k + 1)) j = m_best s j := by
          refine ⟨(put_mq _ _ _ _).trans z1, (put_use _ _ _ _).trans z2, by rw [put_value, if_pos rfl], by rw [put_best, if_pos rfl], fun j hj => ?_⟩
          rw [put_value, put_best, if_neg hj, if_neg hj]
          exact z5 j hj
        unfold m_M_find_J3
        rw [ix_n (by omega) (by decide), hRz.2.2.2.2.1 (k + 1) (by omega) (by omega), lN_mul, Nat.mul_left_comm, show (1 : Int32) = nI 1 from rfl, b4M hg hc (by omega) (by omega) h0 z (fun a ha => by
          rw [(z5 _ chl_ne).1]; exact hv _ a (by omega) (by omega) h0 ha), z4, z3, hst, q, if_pos rfl]
        by_cases w : (bt g (tv g) code k).2 = 0
        · rw [if_pos (by rw [w]; rfl), if_pos w]
          exact ⟨_, rfl, hpz⟩
        · rw [if_neg (nI_ne0 (by omega) (by omega)), if_neg w]
          by_cases w2 : (bt g (tv g) code k).1 ≤ cst g (tv g) code (k + 1)
          · rw [if_pos ((pk_lLE (by omega) (by omega)).mpr (by omega)), if_pos w2]
            exact ⟨_, rfl, z1, z2, z3, z4, z5⟩
          · rw [if_neg (fun r => w2 (by have := (pk_lLE (by omega) (by omega)).mp r; omega)), if_neg w2]
            exact ⟨_, rfl, hpz⟩
      unfold m_M_find_B2
      rw [hRz.2.1, if_neg (nI_nlt (by omega) (by omega)), ix_n (by omega) (by decide), z2, u4 (k + 1) (by omega) (by omega)]
      cases hu : usb g code (k + 1)
      · rw [if_pos (show bI false = 0 from rfl), iadd1]
        exact ⟨z, rfl, hskip (by rw [hcn, hu]; rfl)⟩
      · rw [if_neg (show ¬ bI true = 0 from by decide)]
        by_cases f0 : fre g code = 0
        · rw [if_pos (by rw [f0]; decide)]
          exact hdo (by rw [hcn, hu, decide_eq_true f0]; rfl)
        · rw [if_neg (nI_nle (by omega) (by omega))]
          by_cases f1 : k + 1 = fre g code
          · rw [if_pos (by rw [f1])]
            exact hdo (by rw [hcn, hu, decide_eq_true f1]; simp)
          · rw [if_neg (fun r => f1 ((nI_eq (by omega) (by omega)).mp r)), iadd1]
            exact ⟨z, rfl, hskip (by rw [hcn, hu, decide_eq_false f0, decide_eq_false f1]; rfl)⟩
    have loop : ∀ (m k : Nat), k + m = g_nT g → ∀ (n : Nat) (z : MS), m < n → (mq z = mq s ∧ m_use z = m_use s1 ∧ m_value z code = lN (12 * (bt g (tv g) code k).1) ∧ m_best z code = nI (bt g (tv g) code k).2 ∧ ∀ j, ¬ j = code → m_value z j = m_value s j ∧ m_best z j = m_best s j) →
        ∃ z', xl2 (m_M_find_B2 (nI code) (lN (12 * S g code)) (nI (fre g code))) n (nI (k + 1)) z = some z' ∧ (mq z' = mq s ∧ m_use z' = m_use s1 ∧ m_value z' code = lN (12 * (bt g (tv g) code (g_nT g)).1) ∧ m_best z' code = nI (bt g (tv g) code (g_nT g)).2 ∧ ∀ j, ¬ j = code → m_value z' j = m_value s j ∧ m_best z' j = m_best s j) := by
      intro m
      induction m with
      | zero =>
        intro k hk n z hn2 hz
        obtain ⟨n', rfl⟩ : ∃ n', n = n' + 1 := ⟨n - 1, by omega⟩
        have : k = g_nT g := by omega
        subst this
        refine ⟨z, ?_, hz⟩
        show m_M_find_B2 _ _ _ _ _ z = _
        unfold m_M_find_B2
        rw [(RM_mq h hz.1).2.1, if_pos (nI_lt (by omega) (by omega))]
      | succ m ih =>
        intro k hk n z hn2 hz
        obtain ⟨n', rfl⟩ : ∃ n', n = n' + 1 := ⟨n - 1, by omega⟩
        obtain ⟨z', e1, e2⟩ := step k (by omega) n' z hz
        rw [e1]
        exact ih (k + 1) (by omega) n' z' (by omega) e2
    obtain ⟨z', e1, e2, e3, e4, e5, e6⟩ := loop (g_nT g) 0 (by omega) 14 s1 (by omega) ⟨u1, rfl, by rw [u2, k2, if_pos rfl]; rfl, by rw [u3, k3, if_pos rfl]; rfl, fun j hj => by rw [u2, u3, k2, k3, if_neg hj, if_neg hj]; exact ⟨rfl, rfl⟩⟩
    exact ⟨z', e1, e2, ⟨by rw [e4, ← tv_eq hg hc], e5⟩, e6⟩
  · rw [if_neg (show ¬ (2 : Int32) ≤ nI (nL g code) from nI_ge (b := 2) (by omega) (by decide))]
    refine ⟨s0, rfl, k1, ⟨?_, ?_⟩, fun j hj => ?_⟩
    · rw [k2, if_pos rfl, tv_eq hg hc, bt_none e]
    · rw [k3, if_pos rfl]
      unfold tp
      rw [bt_none e]
    · rw [k2, k3, if_neg hj, if_neg hj]
      exact ⟨rfl, rfl⟩
