def m_M_init_B2 (self2 : Int32 → MS → Option (MS)) (v4 : Int32) (s5 : MS) : Option (MS) :=
  if (7 : Int32) ≤ v4 then
    some s5
  else
    ix v4 7 fun j7 =>
    self2 (v4 + 1) (m_given_s s5 j7 (-1 : Int32))
def m_M_init_B1 (self1 : Int32 → MS → Option (MS)) (v1 : Int32) (s2 : MS) : Option (MS) :=
  if (273 : Int32) ≤ v1 then
    xl2 m_M_init_B2 300 (0 : Int32) s2
  else
    if (v1 - v1 / (3 : Int32) * (3 : Int32)) = 0 then
      ix v1 273 fun j14 =>
      self1 (v1 + 1) (m_odds_s s2 j14 (12 : Int32))
    else
      ix v1 273 fun j11 =>
      self1 (v1 + 1) (m_odds_s s2 j11 (0 : Int32))
def m_M_init : Option (MS) :=
  xl2 m_M_init_B1 300 (0 : Int32) m_st0
