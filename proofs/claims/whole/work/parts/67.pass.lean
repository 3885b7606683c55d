-- PURE 67: the reference values all cases behind the open one
/-- how many tests have an answer -/
def an (s : Nat) : Nat := ct (fun t => decide (0 < dg s t)) 6
set_option maxRecDepth 100000 in
theorem ansM : ∀ s, s < 1024 → m_M_answers (nI s) = some (nI (an s)) := by decide +kernel
/-- a case is behind another, by the first k tests -/
def ibk (g : GT) (s now : Nat) : Nat → Bool
  | 0 => true
  | k + 1 => ibk g s now k && (if dg now (k + 1) = 0 then decide (k + 1 ≤ g_nT g) || decide (dg s (k + 1) = 0) else decide (dg s (k + 1) = dg now (k + 1)))
def ib (g : GT) (s now : Nat) : Bool := ibk g s now 6
theorem ibk_iff {g : GT} {s now : Nat} : ∀ k, ibk g s now k = true ↔ ∀ t, 1 ≤ t → t ≤ k → (dg now t = 0 ∧ (t ≤ g_nT g ∨ dg s t = 0)) ∨ (¬ dg now t = 0 ∧ dg s t = dg now t)
  | 0 => ⟨fun _ t h1 h2 => by omega, fun _ => rfl⟩
  | k + 1 => by
    unfold ibk
    rw [Bool.and_eq_true, ibk_iff k]
    constructor
    · rintro ⟨h1, h2⟩ t t1 t2
      by_cases e : t = k + 1
      · subst e
        by_cases q : dg now (k + 1) = 0
        · rw [if_pos q] at h2
          simp only [Bool.or_eq_true, decide_eq_true_eq] at h2
          exact Or.inl ⟨q, h2⟩
        · rw [if_neg q] at h2
          simp only [decide_eq_true_eq] at h2
          exact Or.inr ⟨q, h2⟩
      · exact h1 t t1 (by omega)
    · intro h
      refine ⟨fun t t1 t2 => h t t1 (by omega), ?_⟩
      rcases h (k + 1) (by omega) (Nat.le_refl _) with ⟨q, r⟩ | ⟨q, r⟩
      · rw [if_pos q]
        simp only [Bool.or_eq_true, decide_eq_true_eq]
        exact r
      · rw [if_neg q]
        simp only [decide_eq_true_eq]
        exact r
theorem ib_self (g : GT) (now : Nat) : ib g now now = true := (ibk_iff 6).mpr fun t t1 t2 => by
  by_cases q : dg now t = 0
  · exact Or.inl ⟨q, Or.inr q⟩
  · exact Or.inr ⟨q, rfl⟩
theorem ib_COK {g : GT} {s now : Nat} (hs : s < 1024) (hc : COK g now) (h : ib g s now = true) : COK g s := by
  refine ⟨hs, fun t t1 t2 => ?_⟩
  rcases (ibk_iff 6).mp h t (by omega) (by omega) with ⟨q, r⟩ | ⟨q, r⟩
  · omega
  · exact absurd (hc.2 t t1 t2) q
theorem ib_chl {g : GT} (hg : GOK g) {s now t a : Nat} (hs : COK g s) (h : ib g s now = true) (h1 : 1 ≤ t) (h2 : t ≤ g_nT g) (h0 : dg s t = 0) (ha : a < 3) : ib g (chl s t a) now = true := (ibk_iff 6).mpr fun u u1 u2 => by
  rw [chl_dg hg hs h1 h2 h0 ha u1 (by omega)]
  have := (ibk_iff 6).mp h u u1 u2
  by_cases e : u = t
  · rw [if_pos e]
    rw [e, h0] at this
    rcases this with ⟨q, r⟩ | ⟨q, r⟩
    · exact Or.inl ⟨by rw [e]; exact q, Or.inl (by omega)⟩
    · exact absurd r.symm q
  · rw [if_neg e]; exact this
theorem an_chl {g : GT} (hg : GOK g) {s t a : Nat} (hs : COK g s) (h1 : 1 ≤ t) (h2 : t ≤ g_nT g) (h0 : dg s t = 0) (ha : a < 3) : an s + 1 = an (chl s t a) := by
  have hn := hg.2.1
  unfold an
  refine ct_flip (t := t) ?_ ?_ 6 ?_ h1 (by omega)
  · rw [chl_dg hg hs h1 h2 h0 ha h1 (by omega), if_pos rfl]
    exact decide_eq_true (by omega)
  · rw [h0]; rfl
  · intro i i1 i2 i3
    rw [chl_dg hg hs h1 h2 h0 ha i1 (by omega), if_neg i3]
theorem an_le {s : Nat} (hs : s < 1024) : an s ≤ 5 := by
  have h6 : dg s 6 = 0 := by
    unfold dg
    simp only [Nat.reduceSub, Nat.reducePow]
    omega
  show ct (fun t => decide (0 < dg s t)) 5 + (if decide (0 < dg s 6) then 1 else 0) ≤ 5
  rw [h6]
  have := ct_le (fun t => decide (0 < dg s t)) 5
  simpa using this
theorem p4_v : ∀ t, t < 7 → 1 ≤ t → 0 < p4 t ∧ p4 t < 2 ^ 31 := by decide
theorem dgI {s t : Nat} (hs : s < 2 ^ 31) (h1 : 1 ≤ t) (h2 : t < 7) : (nI s / nI (p4 t)) - (nI s / nI (p4 t)) / (4 : Int32) * (4 : Int32) = nI (dg s t) := by
  obtain ⟨a, b⟩ := p4_v t h2 h1
  rw [pk_div hs a b, show (4 : Int32) = nI 4 from rfl, pk_rem (Nat.lt_of_le_of_lt (Nat.div_le_self _ _) hs) (by decide) (by decide)]
  rfl
theorem behM {st : MS} {g : GT} (h : RM st g) (hg : GOK g) {s now : Nat} (hs : s < 1024) (hw : now < 1024) : m_M_isBehind st (nI s) (nI now) = some (bI (ib g s now)) := by
  have hn := hg.2.1
  unfold m_M_isBehind
  have := xl2_up (m_M_isBehind_B1 st (nI s) (nI now)) 7 (fun i => bI (ibk g s now (i - 1))) (some (bI (ib g s now))) 14 1 (by omega) (by omega) ?_ ?_
  · exact this
  · intro j self hj hj7
    obtain ⟨k, rfl⟩ : ∃ k, j = k + 1 := ⟨j - 1, by omega⟩
    have hdn := dg_lt now (k + 1)
    have hds := dg_lt s (k + 1)
    have hz : ¬ nI (p4 (k + 1)) = 0 := nI_ne0 (p4_v _ hj7 hj).1 (p4_v _ hj7 hj).2
    have hzi : ∀ {R : Type} (q : Option R), dzi (nI (p4 (k + 1))) q = q := fun q => if_neg hz
    unfold m_M_isBehind_B1
    rw [if_neg (show ¬ (7 : Int32) ≤ nI (k + 1) from nI_ge (b := 7) hj7 (by decide)), unitN (k + 1) hj7 hj, sb, hzi, sb, hzi, dgI (by omega) hj hj7, dgI (by omega) hj hj7, iadd1, h.2.1]
    show _ = self _ (bI (ibk g s now k && (if dg now (k + 1) = 0 then decide (k + 1 ≤ g_nT g) || decide (dg s (k + 1) = 0) else decide (dg s (k + 1) = dg now (k + 1)))))
    simp only [Nat.add_sub_cancel]
    cases ibk g s now k
    · rw [if_pos (show bI false = 0 from rfl)]; rfl
    · rw [if_neg (show ¬ bI true = 0 from by decide), Bool.true_and]
      by_cases e : dg now (k + 1) = 0
      · rw [if_pos (show nI (dg now (k + 1)) = 0 from by rw [e]; rfl), if_pos e]
        by_cases q : k + 1 ≤ g_nT g
        · rw [if_pos (nI_le q (by omega)), decide_eq_true q]; rfl
        · rw [if_neg (nI_ge (by omega) (by omega)), decide_eq_false q]
          by_cases r : dg s (k + 1) = 0
          · rw [if_pos (by rw [r]; rfl), decide_eq_true r]; rfl
          · rw [if_neg (nI_ne0 (by omega) (by omega)), decide_eq_false r]; rfl
      · rw [if_neg (nI_ne0 (by omega) (by omega)), if_neg e]
        by_cases r : dg s (k + 1) = dg now (k + 1)
        · rw [if_pos (by rw [r]), decide_eq_true r]; rfl
        · rw [if_neg (fun z => r ((nI_eq (by omega) (by omega)).mp z)), decide_eq_false r]; rfl
  · intro self
    unfold m_M_isBehind_B1
    rw [if_pos (by decide)]
    exact zb_bI _
/-- all cases behind with more than n answers, or n answers and below i, are valued -/
def PV (g : GT) (now : Nat) (st0 st : MS) (n i : Nat) : Prop := mq st = mq st0 ∧ ∀ j, j < 1024 → ib g j now = true → (n < an j ∨ (an j = n ∧ j < i)) → VP st g j
theorem passIn {g : GT} (hg : GOK g) {now : Nat} (hc : COK g now) {st0 : MS} (h : RM st0 g) (n : Nat) (hn6 : n < 6) (self4 : Int32 → MS → Option (Int32 × MS)) : ∀ (m i fuel : Nat) (st : MS), i + m = 1024 → m < fuel → PV g now st0 st n i → ∃ st', xl2 (m_M_next_B5 (nI now) (nI n) self4) fuel (nI i) st = self4 (nI n + (-1)) st' ∧ PV g now st0 st' n 1024
  | 0, i, fuel, st, hi, hf, hp => by
    obtain ⟨f, rfl⟩ : ∃ f, fuel = f + 1 := ⟨fuel - 1, by omega⟩
    have : i = 1024 := by omega
    subst this
    refine ⟨st, ?_, hp⟩
    show m_M_next_B5 _ _ _ _ _ _ = _
    unfold m_M_next_B5
    rw [if_pos (by decide)]
  | m + 1, i, fuel, st, hi, hf, hp => by
    obtain ⟨f, rfl⟩ : ∃ f, fuel = f + 1 := ⟨fuel - 1, by omega⟩
    have hi4 : i < 1024 := by omega
    have hRs : RM st g := RM_mq h hp.1
    have hal := an_le hi4
    show ∃ st', m_M_next_B5 (nI now) (nI n) self4 (xl2 (m_M_next_B5 (nI now) (nI n) self4) f) (nI i) st = _ ∧ _
    have hrec := fun s q => passIn hg hc h n hn6 self4 m (i + 1) f s (by omega) (by omega) q
    generalize xl2 (m_M_next_B5 (nI now) (nI n) self4) f = self5 at hrec
    unfold m_M_next_B5
    rw [if_neg (show ¬ (1024 : Int32) ≤ nI i from nI_ge (b := 1024) hi4 (by decide)), ansM i hi4, sb, iadd1]
    by_cases e : an i = n
    · rw [if_pos (by rw [e]), behM hRs hg hi4 hc.1, sb]
      cases hq : ib g i now
      · rw [if_pos (show bI false = 0 from rfl)]
        refine hrec st ⟨hp.1, fun j hj hb hh => hp.2 j hj hb ?_⟩
        rcases hh with q | ⟨q, r⟩
        · exact Or.inl q
        · by_cases w : j = i
          · rw [w, hq] at hb; cases hb
          · exact Or.inr ⟨q, by omega⟩
      · rw [if_neg (show ¬ bI true = 0 from by decide)]
        have hci := ib_COK hi4 hc hq
        obtain ⟨s', e1, e2, e3, e4⟩ := findM hRs hg hci (fun t a t1 t2 t3 ha => (hp.2 _ (chl_ok hg hci t1 t2 t3 ha).1 (ib_chl hg hci hq t1 t2 t3 ha) (Or.inl (by have := an_chl hg hci t1 t2 t3 ha; omega))).1)
        rw [e1, sb]
        refine hrec s' ⟨e2.trans hp.1, fun j hj hb hh => ?_⟩
        by_cases w : j = i
        · rw [w]; exact e3
        · have := hp.2 j hj hb (by
            rcases hh with q | ⟨q, r⟩
            · exact Or.inl q
            · exact Or.inr ⟨q, by omega⟩)
          exact ⟨(e4 j w).1.trans this.1, (e4 j w).2.trans this.2⟩
    · rw [if_neg (fun z => e ((nI_eq (by omega) (by omega)).mp z))]
      refine hrec st ⟨hp.1, fun j hj hb hh => hp.2 j hj hb ?_⟩
      rcases hh with q | ⟨q, r⟩
      · exact Or.inl q
      · by_cases w : j = i
        · rw [w] at q; exact absurd q e
        · exact Or.inr ⟨q, by omega⟩
theorem passM {g : GT} (hg : GOK g) {now : Nat} (hc : COK g now) {st0 : MS} (h : RM st0 g) : ∃ (st' : MS) (self : Int32 → MS → Option (Int32 × MS)), xl2 (m_M_next_B4 (nI now)) 1030 (5 : Int32) st0 = m_M_next_B4 (nI now) self (-1) st' ∧ mq st' = mq st0 ∧ ∀ j, j < 1024 → ib g j now = true → VP st' g j := by
  have key : ∀ (n fuel : Nat) (st : MS), n < 6 → n + 1 < fuel → PV g now st0 st n 0 → ∃ (st' : MS) (self : Int32 → MS → Option (Int32 × MS)), xl2 (m_M_next_B4 (nI now)) fuel (nI n) st = m_M_next_B4 (nI now) self (-1) st' ∧ mq st' = mq st0 ∧ ∀ j, j < 1024 → ib g j now = true → VP st' g j := by
    intro n
    induction n with
    | zero =>
      intro fuel st _ hf hp
      obtain ⟨f, rfl⟩ : ∃ f, fuel = f + 1 + 1 := ⟨fuel - 2, by omega⟩
      show ∃ (st' : MS) (self : Int32 → MS → Option (Int32 × MS)), m_M_next_B4 (nI now) (xl2 (m_M_next_B4 (nI now)) (f + 1)) (nI 0) st = _ ∧ _
      obtain ⟨s1, e1, e2⟩ := passIn hg hc h 0 (by decide) (xl2 (m_M_next_B4 (nI now)) (f + 1)) 1024 0 1030 st (by decide) (by decide) hp
      refine ⟨s1, xl2 (m_M_next_B4 (nI now)) f, ?_, e2.1, fun j hj hb => e2.2 j hj hb (by omega)⟩
      rw [show m_M_next_B4 (nI now) (xl2 (m_M_next_B4 (nI now)) (f + 1)) (nI 0) st = xl2 (m_M_next_B5 (nI now) (nI 0) (xl2 (m_M_next_B4 (nI now)) (f + 1))) 1030 (nI 0) st from by unfold m_M_next_B4; rw [if_neg (by decide)]; rfl, e1]
      rfl
    | succ n ih =>
      intro fuel st hn hf hp
      obtain ⟨f, rfl⟩ : ∃ f, fuel = f + 1 := ⟨fuel - 1, by omega⟩
      show ∃ (st' : MS) (self : Int32 → MS → Option (Int32 × MS)), m_M_next_B4 (nI now) (xl2 (m_M_next_B4 (nI now)) f) (nI (n + 1)) st = _ ∧ _
      obtain ⟨s1, e1, e2⟩ := passIn hg hc h (n + 1) hn (xl2 (m_M_next_B4 (nI now)) f) 1024 0 1030 st (by decide) (by decide) hp
      rw [show m_M_next_B4 (nI now) (xl2 (m_M_next_B4 (nI now)) f) (nI (n + 1)) st = xl2 (m_M_next_B5 (nI now) (nI (n + 1)) (xl2 (m_M_next_B4 (nI now)) f)) 1030 (nI 0) st from by rw [m_M_next_B4, if_neg (nI_pos (by omega))]; rfl, e1, pk_m1]
      exact ih f s1 (by omega) (by omega) ⟨e2.1, fun j hj hb hh => e2.2 j hj hb (by omega)⟩
  exact key 5 1030 st0 (by decide) (by decide) ⟨rfl, fun j hj hb hh => by have := an_le hj; omega⟩
