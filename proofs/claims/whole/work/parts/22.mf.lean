def m_M_gain_B1 (p1 : Int32) (p2 : Int32) (self1 : Int32 → Int64 → MS → Option (Int64 × MS)) (v5 : Int32) (v6 : Int64) (s7 : MS) : Option (Int64 × MS) :=
  if (4 : Int32) ≤ v5 then
    some (v6, s7)
  else
    (m_M_unit p2).bind fun r10 =>
    (m_M_look s7 (p1 + (v5 * r10))).bind fun s12 =>
    (m_M_most s12).bind fun r14 =>
    self1 (v5 + 1) (v6 + r14) s12
def m_M_gain (st : MS) (p1 : Int32) (p2 : Int32) : Option (Int64 × MS) :=
  (m_M_look st p1).bind fun s2 =>
  (m_M_most s2).bind fun r4 =>
  xl3 (m_M_gain_B1 p1 p2) 14 (1 : Int32) (-r4) s2
def m_M_oneStep_J2 (v11 : Int32) (v12 : Int32) (self1 : Int32 → Int32 → MS → Option (Int32 × MS)) (v19 : Int32) (s20 : MS) : Option (Int32 × MS) :=
  if v19 = 0 then
    self1 (v11 + 1) v12 s20
  else
    self1 (v11 + 1) v11 s20
def m_M_oneStep_J3 (v11 : Int32) (v12 : Int32) (self1 : Int32 → Int32 → MS → Option (Int32 × MS)) (s22 : MS) : Option (Int32 × MS) :=
  m_M_oneStep_J2 v11 v12 self1 (1 : Int32) s22
def m_M_oneStep_B1 (p1 : Int32) (self1 : Int32 → Int32 → MS → Option (Int32 × MS)) (v11 : Int32) (v12 : Int32) (s13 : MS) : Option (Int32 × MS) :=
  if (m_tests s13) < v11 then
    some (v12, s13)
  else
    ix v11 7 fun j15 =>
    if (m_use s13 j15) = 0 then
      self1 (v11 + 1) v12 s13
    else
      if v12 = 0 then
        m_M_oneStep_J3 v11 v12 self1 s13
      else
        bd2 (m_M_gain s13 p1 v11) fun r26 s25 =>
        ix v12 7 fun j27 =>
        bd2 (m_M_gain s25 p1 v12) fun r32 s31 =>
        ix v11 7 fun j33 =>
        if (r26 * (m_price s25 j27)) ≤ (r32 * (m_price s31 j33)) then
          m_M_oneStep_J2 v11 v12 self1 (0 : Int32) s31
        else
          m_M_oneStep_J3 v11 v12 self1 s31
def m_M_oneStep (st : MS) (p1 : Int32) : Option (Int32 × MS) :=
  (m_M_look st p1).bind fun s2 =>
  (m_M_left s2).bind fun r4 =>
  if (2 : Int32) ≤ r4 then
    (m_M_findUse s2).bind fun s7 =>
    (m_M_free s7).bind fun r9 =>
    if r9 ≤ 0 then
      xl3 (m_M_oneStep_B1 p1) 14 (1 : Int32) r9 s7
    else
      some (r9, s7)
  else
    some ((0 : Int32), s2)
def m_M_thousandth (p0 : Int64) (p2 : Int64) : Option (Int64) :=
  dzl p2 <|
  dzl p2 <|
  dzl p2 <|
  dzl p2 <|
  dzl p2 <|
  some ((((p0 / p2) * (1000 : Int64)) + ((((p0 - p0 / p2 * p2) * (8 : Int64)) / p2) * (125 : Int64))) + (((((p0 - p0 / p2 * p2) * (8 : Int64)) - ((p0 - p0 / p2 * p2) * (8 : Int64)) / p2 * p2) * (125 : Int64)) / p2))
def m_M_write_B2 (s8 : MS) (self1 : Int32 → MS → Option (MS)) (j10 : Nat) (self2 : Int32 → Int32 → MS → Option (MS)) (v36 : Int32) (v37 : Int32) (s38 : MS) : Option (MS) :=
  if v36 < 0 then
    self1 v37 s38
  else
    ix (m_wait s8 j10) 4096 fun j40 =>
    if (m_best s38 j40) ≤ 0 then
      self1 v37 s38
    else
      ix (m_wait s8 j10) 4096 fun j44 =>
      (m_M_unit (m_best s38 j44)).bind fun r48 =>
      ix v37 64 fun j49 =>
      ix v37 64 fun j52 =>
      self2 (v36 + (-1)) (v37 + 1) (m_by_s (m_wait_s s38 j49 ((m_wait s8 j10) + ((v36 + (1 : Int32)) * r48))) j52 v36)
def m_M_write_B1 (self1 : Int32 → MS → Option (MS)) (v7 : Int32) (s8 : MS) : Option (MS) :=
  if v7 ≤ 0 then
    some s8
  else
    ix (v7 + (-1)) 64 fun j10 =>
    ix (v7 + (-1)) 64 fun j13 =>
    (m_M_look s8 (m_wait s8 j10)).bind fun s17 =>
    (m_M_sum s17).bind fun r19 =>
    if r19 = (0 : Int64) then
      self1 (v7 + (-1)) s17
    else
      if (m_nodes s17) = (300 : Int32) then
        self1 (v7 + (-1)) s17
      else
        ix (m_wait s8 j10) 4096 fun j22 =>
        ix ((3 : Int32) * (m_nodes s17)) 900 fun j25 =>
        (m_M_left (m_node_s s17 j25 (m_best s17 j22))).bind fun r29 =>
        ix (((3 : Int32) * (m_nodes (m_node_s s17 j25 (m_best s17 j22)))) + (1 : Int32)) 900 fun j30 =>
        ix (((3 : Int32) * (m_nodes (m_node_s (m_node_s s17 j25 (m_best s17 j22)) j30 r29))) + (2 : Int32)) 900 fun j33 =>
        xl3 (m_M_write_B2 s8 self1 j10) 1000 (2 : Int32) (v7 + (-1)) (m_nodes_s (m_node_s (m_node_s (m_node_s s17 j25 (m_best s17 j22)) j30 r29) j33 (m_by s8 j13)) ((m_nodes (m_node_s (m_node_s (m_node_s s17 j25 (m_best s17 j22)) j30 r29) j33 (m_by s8 j13))) + (1 : Int32)))
def m_M_write (st : MS) (p1 : Int32) : Option (MS) :=
  ix (0 : Int32) 64 fun j1 =>
  ix (0 : Int32) 64 fun j4 =>
  xl2 m_M_write_B1 1000 (1 : Int32) (m_by_s (m_wait_s st j1 p1) j4 (-1 : Int32))
def m_M_next_B3 (r3 : Int32) (v9 : Int32) (self2 : Int32 → MS → Option (Int32 × MS)) (self3 : Int32 → MS → Option (Int32 × MS)) (v34 : Int32) (s35 : MS) : Option (Int32 × MS) :=
  if (1024 : Int32) ≤ v34 then
    self2 (v9 + (-1)) s35
  else
    (m_M_answers v34).bind fun r38 =>
    if r38 = v9 then
      (m_M_isBehind s35 v34 r3).bind fun r41 =>
      if r41 = 0 then
        self3 (v34 + 1) s35
      else
        (m_M_find s35 v34).bind fun s44 =>
        self3 (v34 + 1) s44
    else
      self3 (v34 + 1) s35
def m_M_next_B2 (r3 : Int32) (self2 : Int32 → MS → Option (Int32 × MS)) (v9 : Int32) (s10 : MS) : Option (Int32 × MS) :=
  if v9 < 0 then
    (m_M_look s10 r3).bind fun s13 =>
    (m_M_sum s13).bind fun r15 =>
    if r15 ≤ (0 : Int64) then
      (m_M_write s13 r3).bind fun s18 =>
      ix r3 4096 fun j19 =>
      some ((m_best s18 j19), s18)
    else
      ix r3 4096 fun j22 =>
      (m_M_sum s13).bind fun r26 =>
      (m_M_thousandth (m_value s13 j22) r26).bind fun r28 =>
      (m_M_write (m_cost_s s13 r28) r3).bind fun s30 =>
      ix r3 4096 fun j31 =>
      some ((m_best s30 j31), s30)
  else
    xl2 (m_M_next_B3 r3 v9 self2) 1030 (0 : Int32) s10
def m_M_next_B5 (r3 : Int32) (v49 : Int32) (self4 : Int32 → MS → Option (Int32 × MS)) (self5 : Int32 → MS → Option (Int32 × MS)) (v74 : Int32) (s75 : MS) : Option (Int32 × MS) :=
  if (1024 : Int32) ≤ v74 then
    self4 (v49 + (-1)) s75
  else
    (m_M_answers v74).bind fun r78 =>
    if r78 = v49 then
      (m_M_isBehind s75 v74 r3).bind fun r81 =>
      if r81 = 0 then
        self5 (v74 + 1) s75
      else
        (m_M_find s75 v74).bind fun s84 =>
        self5 (v74 + 1) s84
    else
      self5 (v74 + 1) s75
def m_M_next_B4 (r3 : Int32) (self4 : Int32 → MS → Option (Int32 × MS)) (v49 : Int32) (s50 : MS) : Option (Int32 × MS) :=
  if v49 < 0 then
    (m_M_look s50 r3).bind fun s53 =>
    (m_M_sum s53).bind fun r55 =>
    if r55 ≤ (0 : Int64) then
      (m_M_write s53 r3).bind fun s58 =>
      ix r3 4096 fun j59 =>
      some ((m_best s58 j59), s58)
    else
      ix r3 4096 fun j62 =>
      (m_M_sum s53).bind fun r66 =>
      (m_M_thousandth (m_value s53 j62) r66).bind fun r68 =>
      (m_M_write (m_cost_s s53 r68) r3).bind fun s70 =>
      ix r3 4096 fun j71 =>
      some ((m_best s70 j71), s70)
  else
    xl2 (m_M_next_B5 r3 v49 self4) 1030 (0 : Int32) s50
def m_M_next_B1 (st : MS) (p1 : Int64) (r3 : Int32) (self1 : Int32 → Int64 → Option (Int32 × MS)) (v4 : Int32) (v5 : Int64) : Option (Int32 × MS) :=
  if (m_tests (m_code_s st (0 : Int32))) < v4 then
    if p1 < v5 then
      if (m_exact (m_exact_s (m_cost_s (m_nodes_s (m_code_s st (0 : Int32)) (0 : Int32)) (-1 : Int64)) (0 : Int32))) = 0 then
        bd2 (m_M_oneStep (m_exact_s (m_cost_s (m_nodes_s (m_code_s st (0 : Int32)) (0 : Int32)) (-1 : Int64)) (0 : Int32)) r3) fun r47 s46 =>
        some (r47, s46)
      else
        xl2 (m_M_next_B2 r3) 1030 (5 : Int32) (m_exact_s (m_cost_s (m_nodes_s (m_code_s st (0 : Int32)) (0 : Int32)) (-1 : Int64)) (0 : Int32))
    else
      if (m_exact (m_exact_s (m_cost_s (m_nodes_s (m_code_s st (0 : Int32)) (0 : Int32)) (-1 : Int64)) (1 : Int32))) = 0 then
        bd2 (m_M_oneStep (m_exact_s (m_cost_s (m_nodes_s (m_code_s st (0 : Int32)) (0 : Int32)) (-1 : Int64)) (1 : Int32)) r3) fun r87 s86 =>
        some (r87, s86)
      else
        xl2 (m_M_next_B4 r3) 1030 (5 : Int32) (m_exact_s (m_cost_s (m_nodes_s (m_code_s st (0 : Int32)) (0 : Int32)) (-1 : Int64)) (1 : Int32))
  else
    ix v4 7 fun j88 =>
    if 0 ≤ (m_given (m_code_s st (0 : Int32)) j88) then
      self1 (v4 + 1) v5
    else
      self1 (v4 + 1) ((4 : Int64) * v5)
def m_M_next (st : MS) (p1 : Int64) : Option (Int32 × MS) :=
  if (0 : Int64) ≤ p1 then
    (m_M_stateNow (m_code_s st (0 : Int32))).bind fun r3 =>
    xl2 (m_M_next_B1 st p1 r3) 1030 (1 : Int32) (1 : Int64)
  else
    some ((-2 : Int32), (m_code_s st (0 : Int32)))
def m_M_answer (st : MS) (p1 : Int32) (p2 : Int32) : Option (Int32 × MS) :=
  (m_M_noTest (m_code_s st (0 : Int32)) p1).bind fun r2 =>
  if r2 = 0 then
    if p2 < 0 then
      some ((-2 : Int32), (m_code_s st (0 : Int32)))
    else
      if p2 ≤ (2 : Int32) then
        (m_M_stateNow (m_code_s st (0 : Int32))).bind fun r7 =>
        (m_M_look (m_code_s st (0 : Int32)) r7).bind fun s9 =>
        (m_M_may s9 p1).bind fun r11 =>
        if r11 = 0 then
          some ((-3 : Int32), s9)
        else
          ix p1 7 fun j13 =>
          (m_M_stateNow (m_given_s s9 j13 p2)).bind fun r17 =>
          (m_M_look (m_given_s s9 j13 p2) r17).bind fun s19 =>
          (m_M_left s19).bind fun r21 =>
          some (r21, s19)
      else
        some ((-2 : Int32), (m_code_s st (0 : Int32)))
  else
    some ((-1 : Int32), (m_code_s st (0 : Int32)))
def m_M_common_B1 (self1 : Int64 → Int64 → Option (Int64)) (v1 : Int64) (v2 : Int64) : Option (Int64) :=
  if v1 ≤ (0 : Int64) then
    some v2
  else
    dzl v1 <|
    self1 (v2 - v2 / v1 * v1) v1
def m_M_common (p0 : Int64) (p2 : Int64) : Option (Int64) :=
  xl2 m_M_common_B1 202 p2 p0
def m_M_odd (st : MS) (p1 : Int32) (p2 : Int32) : Option (Int64 × MS) :=
  (m_M_noCause (m_code_s st (0 : Int32)) p1).bind fun r2 =>
  if r2 = 0 then
    (m_M_stateNow (m_code_s st (0 : Int32))).bind fun r5 =>
    (m_M_look (m_code_s st (0 : Int32)) r5).bind fun s7 =>
    (m_M_sum s7).bind fun r9 =>
    if r9 = (0 : Int64) then
      if (m_code (m_code_s s7 (1 : Int32))) ≤ 0 then
        ix p1 13 fun j24 =>
        (m_M_common r9 (m_weight (m_code_s s7 (1 : Int32)) j24)).bind fun r28 =>
        if p2 = 0 then
          ix p1 13 fun j31 =>
          dzl r28 <|
          some (((m_weight (m_code_s s7 (1 : Int32)) j31) / r28), (m_code_s s7 (1 : Int32)))
        else
          dzl r28 <|
          some ((r9 / r28), (m_code_s s7 (1 : Int32)))
      else
        some ((0 : Int64), (m_code_s s7 (1 : Int32)))
    else
      if (m_code (m_code_s s7 (0 : Int32))) ≤ 0 then
        ix p1 13 fun j12 =>
        (m_M_common r9 (m_weight (m_code_s s7 (0 : Int32)) j12)).bind fun r16 =>
        if p2 = 0 then
          ix p1 13 fun j19 =>
          dzl r16 <|
          some (((m_weight (m_code_s s7 (0 : Int32)) j19) / r16), (m_code_s s7 (0 : Int32)))
        else
          dzl r16 <|
          some ((r9 / r16), (m_code_s s7 (0 : Int32)))
      else
        some ((0 : Int64), (m_code_s s7 (0 : Int32)))
  else
    some ((-1 : Int64), (m_code_s st (0 : Int32)))
def m_M_exact (st : MS) : Option (Int32 × MS) :=
  zb (m_exact (m_code_s st (0 : Int32))) <|
  some ((m_exact (m_code_s st (0 : Int32))), (m_code_s st (0 : Int32)))
def m_M_cost (st : MS) : Option (Int64 × MS) :=
  some ((m_cost (m_code_s st (0 : Int32))), (m_code_s st (0 : Int32)))
def m_M_learn_J3 (p1 : Int32) (s4 : MS) : Option (Int32 × MS) :=
  if p1 = 0 then
    some ((m_strangers s4), s4)
  else
    ix p1 13 fun j6 =>
    some ((m_learned s4 j6), s4)
def m_M_learn_B2 (p1 : Int32) (self2 : Int32 → MS → Option (Int32 × MS)) (v1 : Int32) (s2 : MS) : Option (Int32 × MS) :=
  if (7 : Int32) ≤ v1 then
    if p1 = 0 then
      m_M_learn_J3 p1 (m_strangers_s s2 ((m_strangers s2) + (1 : Int32)))
    else
      ix p1 13 fun j10 =>
      ix p1 13 fun j13 =>
      m_M_learn_J3 p1 (m_learned_s s2 j13 ((m_learned s2 j10) + (1 : Int32)))
  else
    ix v1 7 fun j16 =>
    self2 (v1 + 1) (m_given_s s2 j16 (-1 : Int32))
def m_M_learn_J1 (st : MS) (p1 : Int32) : Option (Int32 × MS) :=
  xl2 (m_M_learn_B2 p1) 14 (1 : Int32) (m_code_s st (0 : Int32))
def m_M_learn (st : MS) (p1 : Int32) : Option (Int32 × MS) :=
  if p1 = 0 then
    m_M_learn_J1 st p1
  else
    (m_M_noCause (m_code_s st (0 : Int32)) p1).bind fun r21 =>
    if r21 = 0 then
      m_M_learn_J1 st p1
    else
      some ((-1 : Int32), (m_code_s st (0 : Int32)))
def m_M_tree_J1 (st : MS) (p1 : Int32) (p2 : Int32) : Option (Int32 × MS) :=
  if p1 < 0 then
    some ((-1 : Int32), (m_code_s st (0 : Int32)))
  else
    if p1 < (m_nodes (m_code_s st (0 : Int32))) then
      if p2 < 0 then
        some ((-2 : Int32), (m_code_s st (0 : Int32)))
      else
        if p2 ≤ (2 : Int32) then
          ix (((3 : Int32) * p1) + p2) 900 fun j5 =>
          some ((m_node (m_code_s st (0 : Int32)) j5), (m_code_s st (0 : Int32)))
        else
          some ((-2 : Int32), (m_code_s st (0 : Int32)))
    else
      some ((-1 : Int32), (m_code_s st (0 : Int32)))
def m_M_tree (st : MS) (p1 : Int32) (p2 : Int32) : Option (Int32 × MS) :=
  if p1 = (-1 : Int32) then
    if p2 = 0 then
      some ((m_nodes (m_code_s st (0 : Int32))), (m_code_s st (0 : Int32)))
    else
      m_M_tree_J1 st p1 p2
  else
    m_M_tree_J1 st p1 p2
def m_M_never_B2 (st : MS) (p1 : Int32) (v3 : Int32) (v4 : Int32) (self1 : Int32 → Int32 → Option (Int32 × MS)) (self2 : Int32 → Int32 → Option (Int32 × MS)) (v6 : Int32) (v7 : Int32) : Option (Int32 × MS) :=
  if (m_causes (m_code_s st (0 : Int32))) < v6 then
    if v7 = 0 then
      self1 (v3 + 1) (v4 + (1 : Int32))
    else
      self1 (v3 + 1) v4
  else
    if v7 = 0 then
      (m_M_oddsOf (m_code_s st (0 : Int32)) v3 v6 p1).bind fun r12 =>
      if r12 ≤ 0 then
        self2 (v6 + 1) (0 : Int32)
      else
        self2 (v6 + 1) (1 : Int32)
    else
      self2 (v6 + 1) (1 : Int32)
def m_M_never_B1 (st : MS) (p1 : Int32) (self1 : Int32 → Int32 → Option (Int32 × MS)) (v3 : Int32) (v4 : Int32) : Option (Int32 × MS) :=
  if (m_tests (m_code_s st (0 : Int32))) < v3 then
    some (v4, (m_code_s st (0 : Int32)))
  else
    xl2 (m_M_never_B2 st p1 v3 v4 self1) 14 (1 : Int32) (0 : Int32)
def m_M_never (st : MS) (p1 : Int32) : Option (Int32 × MS) :=
  if p1 < 0 then
    some ((-2 : Int32), (m_code_s st (0 : Int32)))
  else
    if p1 ≤ (2 : Int32) then
      xl2 (m_M_never_B1 st p1) 14 (1 : Int32) (0 : Int32)
    else
      some ((-2 : Int32), (m_code_s st (0 : Int32)))
