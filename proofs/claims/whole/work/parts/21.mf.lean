def m_M_stateNow_B1 (st : MS) (self1 : Int32 → Int32 → Option (Int32)) (v1 : Int32) (v2 : Int32) : Option (Int32) :=
  if v1 ≤ 0 then
    some v2
  else
    ix v1 7 fun j4 =>
    self1 (v1 + (-1)) ((((4 : Int32) * v2) + (m_given st j4)) + (1 : Int32))
def m_M_stateNow (st : MS) : Option (Int32) :=
  xl2 (m_M_stateNow_B1 st) 14 (6 : Int32) (0 : Int32)
def m_M_unit (p0 : Int32) : Option (Int32) :=
  some ((1 : Int32) <<< (((2 : Int32) * (p0 - (1 : Int32))) &&& 31))
def m_M_sum_B1 (st : MS) (self1 : Int32 → Int64 → Option (Int64)) (v1 : Int32) (v2 : Int64) : Option (Int64) :=
  if (m_causes st) < v1 then
    some v2
  else
    ix v1 13 fun j4 =>
    self1 (v1 + 1) (v2 + (m_weight st j4))
def m_M_sum (st : MS) : Option (Int64) :=
  xl2 (m_M_sum_B1 st) 14 (1 : Int32) (0 : Int64)
def m_M_most_B1 (st : MS) (self1 : Int32 → Int64 → Option (Int64)) (v1 : Int32) (v2 : Int64) : Option (Int64) :=
  if (m_causes st) < v1 then
    some v2
  else
    ix v1 13 fun j4 =>
    if (m_weight st j4) ≤ v2 then
      self1 (v1 + 1) v2
    else
      ix v1 13 fun j8 =>
      self1 (v1 + 1) (m_weight st j8)
def m_M_most (st : MS) : Option (Int64) :=
  xl2 (m_M_most_B1 st) 14 (1 : Int32) (0 : Int64)
def m_M_left_B1 (st : MS) (self1 : Int32 → Int32 → Option (Int32)) (v1 : Int32) (v2 : Int32) : Option (Int32) :=
  if (m_causes st) < v1 then
    some v2
  else
    ix v1 13 fun j4 =>
    if (m_weight st j4) ≤ (0 : Int64) then
      self1 (v1 + 1) v2
    else
      self1 (v1 + 1) (v2 + (1 : Int32))
def m_M_left (st : MS) : Option (Int32) :=
  xl2 (m_M_left_B1 st) 14 (1 : Int32) (0 : Int32)
def m_M_may_B2 (st : MS) (p1 : Int32) (self2 : Int32 → Int32 → Option (Int32)) (v5 : Int32) (v6 : Int32) : Option (Int32) :=
  if (m_tests st) < v5 then
    zb v6 <|
    some v6
  else
    if v6 = 0 then
      self2 (v5 + 1) (0 : Int32)
    else
      ix (((7 : Int32) * p1) + v5) 49 fun j10 =>
      if (m_needs st j10) = 0 then
        self2 (v5 + 1) (1 : Int32)
      else
        ix v5 7 fun j14 =>
        if (m_digit st j14) < 0 then
          self2 (v5 + 1) (0 : Int32)
        else
          self2 (v5 + 1) (1 : Int32)
def m_M_may_J1 (st : MS) (p1 : Int32) (v4 : Int32) : Option (Int32) :=
  xl2 (m_M_may_B2 st p1) 14 (1 : Int32) v4
def m_M_may (st : MS) (p1 : Int32) : Option (Int32) :=
  ix p1 7 fun j1 =>
  if 0 ≤ (m_digit st j1) then
    m_M_may_J1 st p1 (0 : Int32)
  else
    m_M_may_J1 st p1 (1 : Int32)
def m_M_findUse_J4 (s5 : MS) (v7 : Int32) (v8 : Int32) (self3 : Int32 → Int32 → Option (MS)) (v27 : Int32) : Option (MS) :=
  if v8 = 0 then
    ix v7 13 fun j29 =>
    if (m_weight s5 j29) ≤ (0 : Int64) then
      self3 (v7 + 1) (0 : Int32)
    else
      if v27 = 0 then
        self3 (v7 + 1) (1 : Int32)
      else
        self3 (v7 + 1) (0 : Int32)
  else
    self3 (v7 + 1) (1 : Int32)
def m_M_findUse_J5 (s5 : MS) (v7 : Int32) (v8 : Int32) (self3 : Int32 → Int32 → Option (MS)) : Option (MS) :=
  m_M_findUse_J4 s5 v7 v8 self3 (0 : Int32)
def m_M_findUse_B3 (v2 : Int32) (v4 : Int32) (s5 : MS) (self2 : Int32 → MS → Option (MS)) (self3 : Int32 → Int32 → Option (MS)) (v7 : Int32) (v8 : Int32) : Option (MS) :=
  if v2 ≤ v7 then
    if v8 = 0 then
      ix v4 7 fun j11 =>
      self2 (v4 + 1) (m_use_s s5 j11 (vp_nar .boolean (0 : Int32)))
    else
      (m_M_may s5 v4).bind fun r15 =>
      if r15 = 0 then
        ix v4 7 fun j17 =>
        self2 (v4 + 1) (m_use_s s5 j17 (vp_nar .boolean (0 : Int32)))
      else
        ix v4 7 fun j20 =>
        self2 (v4 + 1) (m_use_s s5 j20 (vp_nar .boolean (1 : Int32)))
  else
    (m_M_oddsOf s5 v4 v7 (0 : Int32)).bind fun r24 =>
    (m_M_oddsOf s5 v4 v2 (0 : Int32)).bind fun r26 =>
    if r24 = r26 then
      (m_M_oddsOf s5 v4 v7 (1 : Int32)).bind fun r36 =>
      (m_M_oddsOf s5 v4 v2 (1 : Int32)).bind fun r38 =>
      if r36 = r38 then
        (m_M_oddsOf s5 v4 v7 (2 : Int32)).bind fun r41 =>
        (m_M_oddsOf s5 v4 v2 (2 : Int32)).bind fun r43 =>
        if r41 = r43 then
          m_M_findUse_J4 s5 v7 v8 self3 (1 : Int32)
        else
          m_M_findUse_J5 s5 v7 v8 self3
      else
        m_M_findUse_J5 s5 v7 v8 self3
    else
      m_M_findUse_J5 s5 v7 v8 self3
def m_M_findUse_B2 (v2 : Int32) (self2 : Int32 → MS → Option (MS)) (v4 : Int32) (s5 : MS) : Option (MS) :=
  if (m_tests s5) < v4 then
    some s5
  else
    xl2 (m_M_findUse_B3 v2 v4 s5 self2) 14 (1 : Int32) (0 : Int32)
def m_M_findUse_B1 (st : MS) (self1 : Int32 → Int32 → Option (MS)) (v1 : Int32) (v2 : Int32) : Option (MS) :=
  if (m_causes st) < v1 then
    xl2 (m_M_findUse_B2 v2) 14 (1 : Int32) st
  else
    ix v1 13 fun j45 =>
    if (m_weight st j45) ≤ (0 : Int64) then
      self1 (v1 + 1) v2
    else
      self1 (v1 + 1) v1
def m_M_findUse (st : MS) : Option (MS) :=
  xl2 (m_M_findUse_B1 st) 14 (1 : Int32) (0 : Int32)
def m_M_free_B1 (st : MS) (self1 : Int32 → Option (Int32)) (v1 : Int32) : Option (Int32) :=
  if (m_tests st) < v1 then
    some (0 : Int32)
  else
    ix v1 7 fun j3 =>
    if (m_price st j3) = (0 : Int64) then
      ix v1 7 fun j7 =>
      if (m_use st j7) = 0 then
        self1 (v1 + 1)
      else
        some v1
    else
      self1 (v1 + 1)
def m_M_free (st : MS) : Option (Int32) :=
  xl1 (m_M_free_B1 st) 14 (1 : Int32)
def m_M_find_B4 (p1 : Int32) (v19 : Int32) (s20 : MS) (self2 : Int32 → MS → Option (MS)) (self4 : Int32 → Int64 → Option (MS)) (v29 : Int32) (v30 : Int64) : Option (MS) :=
  if (4 : Int32) ≤ v29 then
    ix p1 4096 fun j32 =>
    if (m_best s20 j32) = 0 then
      ix p1 4096 fun j36 =>
      ix p1 4096 fun j39 =>
      self2 (v19 + 1) (m_best_s (m_value_s s20 j36 v30) j39 v19)
    else
      ix p1 4096 fun j42 =>
      if (m_value s20 j42) ≤ v30 then
        self2 (v19 + 1) s20
      else
        ix p1 4096 fun j46 =>
        ix p1 4096 fun j49 =>
        self2 (v19 + 1) (m_best_s (m_value_s s20 j46 v30) j49 v19)
  else
    (m_M_unit v19).bind fun r53 =>
    ix (p1 + (v29 * r53)) 4096 fun j54 =>
    self4 (v29 + 1) (v30 + (m_value s20 j54))
def m_M_find_J3 (p1 : Int32) (r6 : Int64) (v19 : Int32) (s20 : MS) (self2 : Int32 → MS → Option (MS)) : Option (MS) :=
  ix v19 7 fun j26 =>
  xl2 (m_M_find_B4 p1 v19 s20 self2) 14 (1 : Int32) ((m_price s20 j26) * r6)
def m_M_find_B2 (p1 : Int32) (r6 : Int64) (r18 : Int32) (self2 : Int32 → MS → Option (MS)) (v19 : Int32) (s20 : MS) : Option (MS) :=
  if (m_tests s20) < v19 then
    some s20
  else
    ix v19 7 fun j22 =>
    if (m_use s20 j22) = 0 then
      self2 (v19 + 1) s20
    else
      if r18 ≤ 0 then
        m_M_find_J3 p1 r6 v19 s20 self2
      else
        if v19 = r18 then
          m_M_find_J3 p1 r6 v19 s20 self2
        else
          self2 (v19 + 1) s20
def m_M_find_J1 (p1 : Int32) (s2 : MS) (r4 : Int32) (r6 : Int64) (v7 : Int64) : Option (MS) :=
  ix p1 4096 fun j8 =>
  ix p1 4096 fun j11 =>
  if (2 : Int32) ≤ r4 then
    (m_M_findUse (m_best_s (m_value_s s2 j8 v7) j11 (0 : Int32))).bind fun s16 =>
    (m_M_free s16).bind fun r18 =>
    xl2 (m_M_find_B2 p1 r6 r18) 14 (1 : Int32) s16
  else
    some (m_best_s (m_value_s s2 j8 v7) j11 (0 : Int32))
def m_M_find (st : MS) (p1 : Int32) : Option (MS) :=
  (m_M_look st p1).bind fun s2 =>
  (m_M_left s2).bind fun r4 =>
  (m_M_sum s2).bind fun r6 =>
  if r4 = 0 then
    m_M_find_J1 p1 s2 r4 r6 (0 : Int64)
  else
    m_M_find_J1 p1 s2 r4 r6 (((300 : Int64) * (r4 - (1 : Int32)).toInt64) * r6)
def m_M_isBehind_B1 (st : MS) (p1 : Int32) (p2 : Int32) (self1 : Int32 → Int32 → Option (Int32)) (v1 : Int32) (v2 : Int32) : Option (Int32) :=
  if (7 : Int32) ≤ v1 then
    zb v2 <|
    some v2
  else
    (m_M_unit v1).bind fun r6 =>
    dzi r6 <|
    (m_M_unit v1).bind fun r9 =>
    dzi r9 <|
    if v2 = 0 then
      self1 (v1 + 1) (0 : Int32)
    else
      if ((p2 / r9) - (p2 / r9) / (4 : Int32) * (4 : Int32)) = 0 then
        if v1 ≤ (m_tests st) then
          self1 (v1 + 1) (1 : Int32)
        else
          if ((p1 / r6) - (p1 / r6) / (4 : Int32) * (4 : Int32)) = 0 then
            self1 (v1 + 1) (1 : Int32)
          else
            self1 (v1 + 1) (0 : Int32)
      else
        if ((p1 / r6) - (p1 / r6) / (4 : Int32) * (4 : Int32)) = ((p2 / r9) - (p2 / r9) / (4 : Int32) * (4 : Int32)) then
          self1 (v1 + 1) (1 : Int32)
        else
          self1 (v1 + 1) (0 : Int32)
def m_M_isBehind (st : MS) (p1 : Int32) (p2 : Int32) : Option (Int32) :=
  xl2 (m_M_isBehind_B1 st p1 p2) 14 (1 : Int32) (1 : Int32)
def m_M_answers_B1 (p0 : Int32) (self1 : Int32 → Int32 → Option (Int32)) (v1 : Int32) (v2 : Int32) : Option (Int32) :=
  if (7 : Int32) ≤ v1 then
    some v2
  else
    (m_M_unit v1).bind fun r5 =>
    dzi r5 <|
    if ((p0 / r5) - (p0 / r5) / (4 : Int32) * (4 : Int32)) ≤ 0 then
      self1 (v1 + 1) v2
    else
      self1 (v1 + 1) (v2 + (1 : Int32))
def m_M_answers (p0 : Int32) : Option (Int32) :=
  xl2 (m_M_answers_B1 p0) 14 (1 : Int32) (0 : Int32)
