-- PURE 45: the class's sums, greatest weight, causes left
theorem weightS {xs : XS} {g : GT} (h : RX xs g) (hg : GOK g) {code : Nat} (hc : COK g code) : x_K_weight xs (nI code) = some (lN (S g code)) := by
  have hn := hg.1
  unfold x_K_weight
  have := xl2_up (x_K_weight_B1 xs (nI code)) (g_nC g + 1) (fun i => lN (sm (fun c => wt g c code) (i - 1))) (some (lN (S g code))) 14 1 (by omega) (by omega) ?_ ?_
  · exact this
  · intro j self hj hjn
    unfold x_K_weight_B1
    rw [h.1, if_neg (nI_nlt (by omega) (by omega)), weightX h hg hc hj (by omega), sb, iadd1]
    obtain ⟨k, rfl⟩ : ∃ k, j = k + 1 := ⟨j - 1, by omega⟩
    show self _ (lN (sm _ k) + lN _) = self _ (lN (sm _ k + wt g (k + 1) code))
    rw [lN_add]
  · intro self
    unfold x_K_weight_B1
    rw [h.1, if_pos (nI_lt (by omega) (by omega))]
    rfl
theorem mx_le {f : Nat → Nat} {b : Nat} (h : ∀ c, f c ≤ b) : ∀ k, mx f k ≤ b
  | 0 => Nat.zero_le _
  | k + 1 => Nat.max_le.mpr ⟨mx_le h k, h (k + 1)⟩
theorem greatX {xs : XS} {g : GT} (h : RX xs g) (hg : GOK g) {code : Nat} (hc : COK g code) : x_K_greatestWeight xs (nI code) = some (lN (mx (fun c => wt g c code) (g_nC g))) := by
  have hn := hg.1
  unfold x_K_greatestWeight
  have := xl2_up (x_K_greatestWeight_B1 xs (nI code)) (g_nC g + 1) (fun i => lN (mx (fun c => wt g c code) (i - 1))) (some (lN (mx (fun c => wt g c code) (g_nC g)))) 14 1 (by omega) (by omega) ?_ ?_
  · exact this
  · intro j self hj hjn
    unfold x_K_greatestWeight_B1
    rw [h.1, if_neg (nI_nlt (by omega) (by omega)), weightX h hg hc hj (by omega), sb, iadd1]
    obtain ⟨k, rfl⟩ : ∃ k, j = k + 1 := ⟨j - 1, by omega⟩
    have h1 := mx_le (f := fun c => wt g c code) (fun c => wt_le hg c code) k
    have h2 := wt_le hg (k + 1) code
    show self _ (if lN (wt g (k + 1) code) < lN (mx (fun c => wt g c code) k) then lN (mx (fun c => wt g c code) k) else lN (wt g (k + 1) code)) = self _ (lN (max (mx (fun c => wt g c code) k) (wt g (k + 1) code)))
    by_cases e : wt g (k + 1) code < mx (fun c => wt g c code) k
    · rw [if_pos ((pk_lLT (by omega) (by omega)).mpr e), Nat.max_eq_left (by omega)]
    · rw [if_neg (fun q => e ((pk_lLT (by omega) (by omega)).mp q)), Nat.max_eq_right (by omega)]
  · intro self
    unfold x_K_greatestWeight_B1
    rw [h.1, if_pos (nI_lt (by omega) (by omega))]
    rfl
theorem lN_le0 {n : Nat} (h : n < 2 ^ 63) : (lN n ≤ (0 : Int64)) ↔ n = 0 := by
  rw [show (0 : Int64) = lN 0 from rfl, pk_lLE h (by decide)]
  omega
theorem leftX {xs : XS} {g : GT} (h : RX xs g) (hg : GOK g) {code : Nat} (hc : COK g code) : x_K_left xs (nI code) = some (nI (bs (lf g code) (g_nC g))) := by
  have hn := hg.1
  unfold x_K_left
  have := xl2_up (x_K_left_B1 xs (nI code)) (g_nC g + 1) (fun i => nI (bs (lf g code) (i - 1))) (some (nI (bs (lf g code) (g_nC g)))) 14 1 (by omega) (by omega) ?_ ?_
  · exact this
  · intro j self hj hjn
    unfold x_K_left_B1
    rw [h.1, if_neg (nI_nlt (by omega) (by omega)), weightX h hg hc hj (by omega), sb, iadd1]
    obtain ⟨k, rfl⟩ : ∃ k, j = k + 1 := ⟨j - 1, by omega⟩
    have h2 := wt_le hg (k + 1) code
    show _ = self _ (nI (bs (lf g code) k ||| if lf g code (k + 1) then 2 ^ (k + 1) else 0))
    by_cases e : wt g (k + 1) code = 0
    · rw [if_pos ((lN_le0 (by omega)).mpr e), show (0 : Int32) = nI 0 from rfl]
      rw [show lf g code (k + 1) = false from decide_eq_false (by omega)]
      show self _ (nI (bs (lf g code) k) ||| nI 0) = self _ (nI (bs (lf g code) k ||| 0))
      rw [nI_or]
    · rw [if_neg (fun q => e ((lN_le0 (by omega)).mp q)), bitN (k + 1) (by omega), sb]
      rw [show lf g code (k + 1) = true from decide_eq_true (by omega), if_pos rfl]
      show self _ (nI (bs (lf g code) k) ||| nI (2 ^ (k + 1))) = _
      rw [nI_or]
  · intro self
    unfold x_K_left_B1
    rw [h.1, if_pos (nI_lt (by omega) (by omega))]
    rfl
