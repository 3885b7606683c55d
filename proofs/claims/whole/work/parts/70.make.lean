-- PURE 70: the class makes the tree
/-- a thousand times v / w -/
def th (v w : Nat) : Nat := v / w * 1000 + v % w * 1000 / w
theorem lrem {v w : Nat} (hv : v < 2 ^ 63) (h0 : 0 < w) (hw : w < 2 ^ 63) : lN v - lN v / lN w * lN w = lN (v % w) := by
  rw [pk_lDiv hv h0 hw, lN_mul, lN_sub (Nat.div_mul_le_self v w)]
  congr 1
  have := Nat.div_add_mod v w
  rw [Nat.mul_comm] at this
  omega
theorem thX {v w : Nat} (hv : v < 2 ^ 63) (h0 : 0 < w) (hw : w ≤ 113773156761600) : lN v / lN w * (1000 : Int64) + ((lN v - lN v / lN w * lN w) * (1000 : Int64)) / lN w = lN (th v w) := by
  have hr := Nat.mod_lt v h0
  rw [lrem hv h0 (by omega), pk_lDiv hv h0 (by omega), show (1000 : Int64) = lN 1000 from rfl, lN_mul, lN_mul, pk_lDiv (by omega) h0 (by omega), lN_add]
  rfl
set_option maxRecDepth 4000 in
theorem th_eq {v w : Nat} (h0 : 0 < w) : 12 * v / (12 * w) * 1000 + 12 * v % (12 * w) * 8 / (12 * w) * 125 + 12 * v % (12 * w) * 8 % (12 * w) * 125 / (12 * w) = th v w := by
  have e1 : 12 * v / (12 * w) = v / w := Nat.mul_div_mul_left v w (by decide)
  have e2 : 12 * v % (12 * w) = 12 * (v % w) := Nat.mul_mod_mul_left 12 v w
  have e3 : 12 * (v % w) * 8 / (12 * w) = v % w * 8 / w := by rw [Nat.mul_assoc, Nat.mul_div_mul_left _ _ (by decide)]
  have e4 : 12 * (v % w) * 8 % (12 * w) = 12 * (v % w * 8 % w) := by rw [Nat.mul_assoc, Nat.mul_mod_mul_left]
  have e5 : 12 * (v % w * 8 % w) * 125 / (12 * w) = v % w * 8 % w * 125 / w := by rw [Nat.mul_assoc, Nat.mul_div_mul_left _ _ (by decide)]
  rw [e1, e2, e3, e4, e5]
  unfold th
  have e6 : v % w * 1000 = v % w * 8 % w * 125 + w * (v % w * 8 / w * 125) := by
    have := Nat.div_add_mod (v % w * 8) w
    calc v % w * 1000 = v % w * 8 * 125 := by omega
      _ = (w * (v % w * 8 / w) + v % w * 8 % w) * 125 := by rw [this]
      _ = w * (v % w * 8 / w) * 125 + v % w * 8 % w * 125 := Nat.add_mul _ _ _
      _ = _ := by rw [Nat.mul_assoc, Nat.add_comm]
  rw [e6, Nat.add_mul_div_left _ _ h0]
  omega
theorem thM {v w : Nat} (hv : 12 * v < 2 ^ 63) (h0 : 0 < w) (hw : w ≤ 113773156761600) : m_M_thousandth (lN (12 * v)) (lN (12 * w)) = some (lN (th v w)) := by
  have hw0 : ¬ lN (12 * w) = 0 := fun q => by
    have := (pk_lEQ (a := 12 * w) (b := 0) (by omega) (by decide)).mp q
    omega
  have hr := Nat.mod_lt (12 * v) (show 0 < 12 * w by omega)
  have hr2 := Nat.mod_lt (12 * v % (12 * w) * 8) (show 0 < 12 * w by omega)
  unfold m_M_thousandth
  rw [dzl_n hw0, dzl_n hw0, dzl_n hw0, dzl_n hw0, dzl_n hw0, lrem hv (by omega) (by omega), show (8 : Int64) = lN 8 from rfl, lN_mul, lrem (by omega) (by omega) (by omega), pk_lDiv hv (by omega) (by omega), pk_lDiv (by omega) (by omega) (by omega), show (1000 : Int64) = lN 1000 from rfl, show (125 : Int64) = lN 125 from rfl, lN_mul, lN_mul, lN_mul, pk_lDiv (by omega) (by omega) (by omega), lN_add, lN_add, th_eq h0]
/-- the parts of the class's state that no plan changes -/
def xb (st : XS) : Int32 × Int32 × Int32 × (Nat → Int64) × (Nat → Int32) × (Nat → Int32) × Int32 × (Nat → Int32) × (Nat → Int32) × (Nat → Nat → Int32) :=
  (x_opn st, x_cN st, x_fN st, x_pri st, x_mem st, x_lea st, x_tN st, x_cst st, x_nee st, x_tab st)
theorem xb_xk {s s' : XS} (e : xk s' = xk s) : xb s' = xb s ∧ x_pla s' = x_pla s ∧ x_nod s' = x_nod s ∧ x_tho s' = x_tho s := by
  unfold xk at e
  simp only [Prod.mk.injEq] at e
  obtain ⟨a1, a2, a3, a4, a5, a6, a7, a8, a9, a10, a11, a12, a13, -⟩ := e
  unfold xb
  rw [a1, a3, a4, a5, a6, a7, a8, a9, a10, a11]
  exact ⟨rfl, a2, a12, a13⟩
theorem xb_xj {s s' : XS} (e : xj s' = xj s) : xb s' = xb s ∧ x_pla s' = x_pla s ∧ x_tho s' = x_tho s := by
  unfold xj at e
  simp only [Prod.mk.injEq] at e
  obtain ⟨a1, a2, a3, a4, a5, a6, a7, a8, a9, a10, a11, a12, -⟩ := e
  unfold xb
  rw [a1, a3, a4, a5, a6, a7, a8, a9, a10, a11]
  exact ⟨rfl, a2, a12⟩
theorem RX_xb {st st' : XS} {g : GT} (h : RX st g) (e : xb st' = xb st) : RX st' g := by
  unfold xb at e
  simp only [Prod.mk.injEq] at e
  obtain ⟨-, e3, -, e5, -, e7, e8, e9, e10, e11⟩ := e
  unfold RX
  rw [e3, e5, e7, e8, e9, e10, e11]
  exact h
theorem fillX (st : XS) (v : Int64) : ∃ s', x_JA_fill_J_val st v = some s' ∧ xk s' = xk st ∧ ∀ j, j < 1024 → x_val s' j = v := by
  have key : ∀ (m i fuel : Nat) (s : XS), i + m = 1024 → m < fuel → (xk s = xk st ∧ ∀ j, j < i → x_val s j = v) → ∃ s', xl2 (x_JA_fill_J_val_B1 v) fuel (nI i) s = some s' ∧ xk s' = xk st ∧ ∀ j, j < 1024 → x_val s' j = v := by
    intro m
    induction m with
    | zero =>
      intro i fuel s hi hf hs
      obtain ⟨f, rfl⟩ : ∃ f, fuel = f + 1 := ⟨fuel - 1, by omega⟩
      have : i = 1024 := by omega
      subst this
      refine ⟨s, ?_, hs⟩
      show x_JA_fill_J_val_B1 v (xl2 (x_JA_fill_J_val_B1 v) f) (nI 1024) s = _
      rw [x_JA_fill_J_val_B1, if_pos (by decide)]
    | succ m ih =>
      intro i fuel s hi hf hs
      obtain ⟨f, rfl⟩ : ∃ f, fuel = f + 1 := ⟨fuel - 1, by omega⟩
      show ∃ s', x_JA_fill_J_val_B1 v (xl2 (x_JA_fill_J_val_B1 v) f) (nI i) s = some s' ∧ _
      rw [x_JA_fill_J_val_B1, if_neg (show ¬ (1024 : Int32) ≤ nI i from nI_ge (b := 1024) (by omega) (by decide)), ix_n (by omega) (by decide), iadd1]
      refine ih (i + 1) f (x_val_s s i v) (by omega) (by omega) ⟨(xk_val s i v).trans hs.1, fun j hj => ?_⟩
      rw [val_val]
      by_cases e : j = i
      · rw [e]; exact pk_uLs
      · exact (if_neg e).trans (hs.2 j (by omega))
  unfold x_JA_fill_J_val
  exact key 1024 0 1026 st (by decide) (by decide) ⟨rfl, fun j hj => absurd hj (Nat.not_lt_zero _)⟩
/-- the cost that a tree tells -/
def tcost (g : GT) (code : Nat) : Int64 := if S g code = 0 then -1 else lN (th (tv g code) (S g code))
theorem RX_tho {s : XS} {g : GT} (h : RX s g) (v : Int64) : RX (x_tho_s s v) g := h
theorem MEM_tho {s : XS} {g : GT} (h : MEM s g) (v : Int64) : MEM (x_tho_s s v) g := h
theorem WA_tho {s : XS} {g : GT} {d code : Nat} (h : WA s g d code) (v : Int64) : WA (x_tho_s s v) g d code := h
theorem NX_tho {s : XS} {L : List ND} (h : NX s L) (v : Int64) : NX (x_tho_s s v) L := h
theorem val_tho (s : XS) (v : Int64) : x_val (x_tho_s s v) = x_val s := rfl
theorem xb_tho (s : XS) (v : Int64) : xb (x_tho_s s v) = xb s ∧ x_pla (x_tho_s s v) = x_pla s := ⟨rfl, rfl⟩
theorem makeX {st : XS} {g : GT} (h : RX st g) (hg : GOK g) {code : Nat} (hc : COK g code) : ∃ s', x_P_make st (nI code) = some (nI (tp g code), s') ∧ xb s' = xb st ∧ x_pla s' = x_pla st ∧ x_tho s' = tcost g code ∧ NX s' ((nd g code (-1)).take 300) := by
  have hS := S_le hg code
  have hu := un_le hg code
  unfold x_P_make x_P_drop
  rw [sb, if_neg (nI_pos (by have := hc.1; omega)), if_pos (show nI code < (1024 : Int32) from nI_lt (b := 1024) hc.1 (by decide))]
  generalize hs2 : x_tho_s (x_nod_s st (0 : Int32)) (-1 : Int64) = s2
  have d1 : xb s2 = xb st := by rw [← hs2]; rfl
  have d2 : x_pla s2 = x_pla st := by rw [← hs2]; rfl
  have d3 : x_nod s2 = nI 0 := by rw [← hs2]; rfl
  have d4 : x_tho s2 = -1 := by rw [← hs2]; rfl
  obtain ⟨s6, f1, f2, f3⟩ := fillX s2 (-1)
  have b6 := xb_xk f2
  have hR6 : RX s6 g := RX_xb h (b6.1.trans d1)
  obtain ⟨s8, g1, g2, g3, g4, g5⟩ := firstX hR6 hg hc
  have b8 := xb_xk g2
  have hM8 : MEM s8 g := fun j hj q => absurd (by rw [g3]; exact f3 j hj) q
  obtain ⟨s10, c1, c2, c3⟩ := chooseX hg 8 0 (un g code) (by omega) (by omega) code s8 hc (RX_xk hR6 g2) hM8 g5 rfl
  have b10 := xb_xk c2.1
  have hR10 : RX s10 g := RX_xk (RX_xk hR6 g2) c2.1
  have hW10 : WA s10 g 0 code := WA_CH g5 c2
  have hb10 : xb s10 = xb st := b10.1.trans (b8.1.trans (b6.1.trans d1))
  have hp10 : x_pla s10 = x_pla st := b10.2.1.trans (b8.2.1.trans (b6.2.1.trans d2))
  have hn10 : x_nod s10 = nI 0 := b10.2.2.1.trans (b8.2.2.1.trans (b6.2.2.1.trans d3))
  have ht10 : x_tho s10 = -1 := b10.2.2.2.trans (b8.2.2.2.trans (b6.2.2.2.trans d4))
  have hN10 : NX s10 [] := ⟨by decide, hn10, fun i hi => absurd hi (Nat.not_lt_zero _)⟩
  have hv10 := (c2.2.1 code hc.1 c3)
  rw [f1, sb, g1, sb]
  rw [show x_P_choose 8 s8 (nI code) (0 : Int32) = some s10 from c1, sb, show (0 : Int32) = nI 0 from rfl, weightAtX hg (by decide) hW10, sb]
  by_cases e : S g code = 0
  · rw [if_pos ((lN_le0 (by omega)).mpr e)]
    obtain ⟨s15, k1, k2, k3, k4⟩ := keepX hg 8 0 (un g code) (by omega) (by omega) code (-1) s10 [] hc (by decide) hR10 c2.2.1 c3 hW10 rfl hN10
    have b15 := xb_xj k3
    rw [k1, sb, ix_n hc.1 (by decide), (xj_vp k3).2, hv10.2.2.1]
    refine ⟨s15, rfl, b15.1.trans hb10, b15.2.1.trans hp10, ?_, k2⟩
    rw [b15.2.2, ht10]
    unfold tcost
    rw [if_pos e]
  · have hz : ¬ lN (S g code) = 0 := fun q => e ((pk_lEQ (a := S g code) (b := 0) (by omega) (by decide)).mp q)
    have htv := tv_b hg hc
    rw [if_neg (fun q => e ((lN_le0 (by omega)).mp q)), ix_n hc.1 (by decide), dzl_n hz, ix_n hc.1 (by decide), dzl_n hz, dzl_n hz, hv10.2.1, thX (by omega) (by omega) hS]
    obtain ⟨s15, k1, k2, k3, k4⟩ := keepX hg 8 0 (un g code) (by omega) (by omega) code (-1) (x_tho_s s10 (lN (th (tv g code) (S g code)))) [] hc (by decide) (RX_tho hR10 _) (MEM_tho c2.2.1 _) (by rw [val_tho]; exact c3) (WA_tho hW10 _) rfl (NX_tho hN10 _)
    have b15 := xb_xj k3
    have bt := xb_tho s10 (lN (th (tv g code) (S g code)))
    rw [k1, sb, ix_n hc.1 (by decide), (xj_vp k3).2, show x_pic (x_tho_s s10 (lN (th (tv g code) (S g code)))) = x_pic s10 from rfl, hv10.2.2.1]
    refine ⟨s15, rfl, b15.1.trans (bt.1.trans hb10), b15.2.1.trans (bt.2.trans hp10), ?_, k2⟩
    rw [b15.2.2, show x_tho (x_tho_s s10 (lN (th (tv g code) (S g code)))) = lN (th (tv g code) (S g code)) from rfl]
    unfold tcost
    rw [if_neg e]
