-- PURE 59: tests without an answer
def un (g : GT) (code : Nat) : Nat := ct (fun t => decide (dg code t = 0)) (g_nT g)
theorem unX {xs : XS} {g : GT} (h : RX xs g) (hg : GOK g) {code : Nat} (hc : COK g code) : x_T_unanswered xs (nI code) = some (nI (un g code)) := by
  have hn := hg.2.1
  unfold x_T_unanswered
  have := xl2_up (x_T_unanswered_B1 xs (nI code)) (g_nT g + 1) (fun i => nI (ct (fun t => decide (dg code t = 0)) (i - 1))) (some (nI (un g code))) 14 1 (by omega) (by omega) ?_ ?_
  · exact this
  · intro j self hj hjn
    obtain ⟨k, rfl⟩ : ∃ k, j = k + 1 := ⟨j - 1, by omega⟩
    have hd := dg_lt code (k + 1)
    unfold x_T_unanswered_B1
    rw [h.2.1, if_neg (nI_nlt (by omega) (by omega)), ansIn code hc.1 (k + 1) (by omega) hj, sb, iadd1]
    show _ = self _ (nI (ct (fun t => decide (dg code t = 0)) k + if decide (dg code (k + 1) = 0) then 1 else 0))
    simp only [Nat.add_sub_cancel]
    by_cases e : dg code (k + 1) = 0
    · rw [if_pos ((nIm1 hd).mpr e), decide_eq_true e, if_pos rfl, show (1 : Int32) = nI 1 from rfl, nI_add]
    · rw [if_neg (fun q => e ((nIm1 hd).mp q)), decide_eq_false e, if_neg (by decide), show (0 : Int32) = nI 0 from rfl, nI_add]
  · intro self
    unfold x_T_unanswered_B1
    rw [h.2.1, if_pos (nI_lt (by omega) (by omega))]
    rfl
theorem shl4 : ∀ n, n < 6 → (1 : Int64) <<< (((2 : Int32) * nI n).toInt64 &&& 63) = lN (4 ^ n) := by decide +kernel
