-- PURE 60: the reference's own answers make the same code
def GV (ms : MS) (code : Nat) : Prop := ∀ t, 1 ≤ t → t ≤ 6 → m_given ms t = nI (dg code t) - 1
theorem nowM {ms : MS} {code : Nat} (hc : code < 1024) (h : GV ms code) : m_M_stateNow ms = some (nI code) := by
  have step : ∀ (n t v : Nat), t < 6 → xl2 (m_M_stateNow_B1 ms) (n + 1) (nI (t + 1)) (nI v) = xl2 (m_M_stateNow_B1 ms) n (nI t) (nI (4 * v + dg code (t + 1))) := fun n t v ht => by
    show m_M_stateNow_B1 ms (xl2 (m_M_stateNow_B1 ms) n) (nI (t + 1)) (nI v) = _
    unfold m_M_stateNow_B1
    rw [if_neg (nI_nle (by omega) (by omega)), ix_n (by omega) (by decide), h (t + 1) (by omega) (by omega), pk_m1, show (4 : Int32) = nI 4 from rfl, pk_mul]
    have e : nI (4 * v) + (nI (dg code (t + 1)) - 1) + 1 = nI (4 * v + dg code (t + 1)) := by
      rw [Int32.add_assoc, Int32.sub_add_cancel, nI_add]
    rw [e]
  have fin : ∀ (n v : Nat), xl2 (m_M_stateNow_B1 ms) (n + 1) (nI 0) (nI v) = some (nI v) := fun n v => by
    show m_M_stateNow_B1 ms (xl2 (m_M_stateNow_B1 ms) n) (nI 0) (nI v) = _
    unfold m_M_stateNow_B1
    rw [if_pos (by decide)]
  unfold m_M_stateNow
  show xl2 (m_M_stateNow_B1 ms) (13 + 1) (nI (5 + 1)) (nI 0) = _
  rw [step 13 5 0 (by decide), step 12 4 _ (by decide), step 11 3 _ (by decide), step 10 2 _ (by decide), step 9 1 _ (by decide), step 8 0 _ (by decide), fin]
  congr 2
  unfold dg
  simp only [Nat.reduceAdd, Nat.reduceSub, Nat.reducePow]
  omega
