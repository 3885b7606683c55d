def m_M_thrown (st : MS) : Option (Int32) :=
  some (m_code st)
def m_M_noTest (st : MS) (p1 : Int32) : Option (Int32) :=
  if p1 < (1 : Int32) then
    some (1 : Int32)
  else
    if p1 ≤ (m_tests st) then
      some (0 : Int32)
    else
      some (1 : Int32)
def m_M_noCause (st : MS) (p1 : Int32) : Option (Int32) :=
  if p1 < (1 : Int32) then
    some (1 : Int32)
  else
    if p1 ≤ (m_causes st) then
      some (0 : Int32)
    else
      some (1 : Int32)
def m_M_noFault (st : MS) (p1 : Int32) : Option (Int32) :=
  (m_M_noCause st p1).bind fun r2 =>
  if r2 = 0 then
    ix p1 13 fun j4 =>
    ix p1 13 fun j7 =>
    if (m_one st j4) = (m_two st j7) then
      some (0 : Int32)
    else
      some (1 : Int32)
  else
    some (1 : Int32)
def m_M_fault (st : MS) (p1 : Int64) (p3 : Int64) : Option (Int32 × MS) :=
  if p3 < (1 : Int64) then
    some ((-2 : Int32), (m_code_s st (0 : Int32)))
  else
    if (10 : Int64) < p3 then
      some ((-2 : Int32), (m_code_s st (0 : Int32)))
    else
      if p1 < (0 : Int64) then
        some ((-2 : Int32), (m_code_s st (0 : Int32)))
      else
        if p1 ≤ p3 then
          if (m_faults (m_code_s st (0 : Int32))) = (8 : Int32) then
            some ((-4 : Int32), (m_code_s st (0 : Int32)))
          else
            if (m_causes (m_code_s st (0 : Int32))) = (12 : Int32) then
              some ((-4 : Int32), (m_code_s st (0 : Int32)))
            else
              ix (m_causes (m_causes_s (m_faults_s (m_code_s st (0 : Int32)) ((m_faults (m_code_s st (0 : Int32))) + (1 : Int32))) ((m_causes (m_faults_s (m_code_s st (0 : Int32)) ((m_faults (m_code_s st (0 : Int32))) + (1 : Int32)))) + (1 : Int32)))) 13 fun j7 =>
              ix (m_causes (m_one_s (m_causes_s (m_faults_s (m_code_s st (0 : Int32)) ((m_faults (m_code_s st (0 : Int32))) + (1 : Int32))) ((m_causes (m_faults_s (m_code_s st (0 : Int32)) ((m_faults (m_code_s st (0 : Int32))) + (1 : Int32)))) + (1 : Int32))) j7 (m_causes (m_causes_s (m_faults_s (m_code_s st (0 : Int32)) ((m_faults (m_code_s st (0 : Int32))) + (1 : Int32))) ((m_causes (m_faults_s (m_code_s st (0 : Int32)) ((m_faults (m_code_s st (0 : Int32))) + (1 : Int32)))) + (1 : Int32)))))) 13 fun j10 =>
              dzl p3 <|
              ix (m_causes (m_two_s (m_one_s (m_causes_s (m_faults_s (m_code_s st (0 : Int32)) ((m_faults (m_code_s st (0 : Int32))) + (1 : Int32))) ((m_causes (m_faults_s (m_code_s st (0 : Int32)) ((m_faults (m_code_s st (0 : Int32))) + (1 : Int32)))) + (1 : Int32))) j7 (m_causes (m_causes_s (m_faults_s (m_code_s st (0 : Int32)) ((m_faults (m_code_s st (0 : Int32))) + (1 : Int32))) ((m_causes (m_faults_s (m_code_s st (0 : Int32)) ((m_faults (m_code_s st (0 : Int32))) + (1 : Int32)))) + (1 : Int32))))) j10 (m_causes (m_one_s (m_causes_s (m_faults_s (m_code_s st (0 : Int32)) ((m_faults (m_code_s st (0 : Int32))) + (1 : Int32))) ((m_causes (m_faults_s (m_code_s st (0 : Int32)) ((m_faults (m_code_s st (0 : Int32))) + (1 : Int32)))) + (1 : Int32))) j7 (m_causes (m_causes_s (m_faults_s (m_code_s st (0 : Int32)) ((m_faults (m_code_s st (0 : Int32))) + (1 : Int32))) ((m_causes (m_faults_s (m_code_s st (0 : Int32)) ((m_faults (m_code_s st (0 : Int32))) + (1 : Int32)))) + (1 : Int32)))))))) 13 fun j14 =>
              some ((m_causes (m_prior_s (m_two_s (m_one_s (m_causes_s (m_faults_s (m_code_s st (0 : Int32)) ((m_faults (m_code_s st (0 : Int32))) + (1 : Int32))) ((m_causes (m_faults_s (m_code_s st (0 : Int32)) ((m_faults (m_code_s st (0 : Int32))) + (1 : Int32)))) + (1 : Int32))) j7 (m_causes (m_causes_s (m_faults_s (m_code_s st (0 : Int32)) ((m_faults (m_code_s st (0 : Int32))) + (1 : Int32))) ((m_causes (m_faults_s (m_code_s st (0 : Int32)) ((m_faults (m_code_s st (0 : Int32))) + (1 : Int32)))) + (1 : Int32))))) j10 (m_causes (m_one_s (m_causes_s (m_faults_s (m_code_s st (0 : Int32)) ((m_faults (m_code_s st (0 : Int32))) + (1 : Int32))) ((m_causes (m_faults_s (m_code_s st (0 : Int32)) ((m_faults (m_code_s st (0 : Int32))) + (1 : Int32)))) + (1 : Int32))) j7 (m_causes (m_causes_s (m_faults_s (m_code_s st (0 : Int32)) ((m_faults (m_code_s st (0 : Int32))) + (1 : Int32))) ((m_causes (m_faults_s (m_code_s st (0 : Int32)) ((m_faults (m_code_s st (0 : Int32))) + (1 : Int32)))) + (1 : Int32))))))) j14 (((6350400 : Int64) / p3) * p1))), (m_prior_s (m_two_s (m_one_s (m_causes_s (m_faults_s (m_code_s st (0 : Int32)) ((m_faults (m_code_s st (0 : Int32))) + (1 : Int32))) ((m_causes (m_faults_s (m_code_s st (0 : Int32)) ((m_faults (m_code_s st (0 : Int32))) + (1 : Int32)))) + (1 : Int32))) j7 (m_causes (m_causes_s (m_faults_s (m_code_s st (0 : Int32)) ((m_faults (m_code_s st (0 : Int32))) + (1 : Int32))) ((m_causes (m_faults_s (m_code_s st (0 : Int32)) ((m_faults (m_code_s st (0 : Int32))) + (1 : Int32)))) + (1 : Int32))))) j10 (m_causes (m_one_s (m_causes_s (m_faults_s (m_code_s st (0 : Int32)) ((m_faults (m_code_s st (0 : Int32))) + (1 : Int32))) ((m_causes (m_faults_s (m_code_s st (0 : Int32)) ((m_faults (m_code_s st (0 : Int32))) + (1 : Int32)))) + (1 : Int32))) j7 (m_causes (m_causes_s (m_faults_s (m_code_s st (0 : Int32)) ((m_faults (m_code_s st (0 : Int32))) + (1 : Int32))) ((m_causes (m_faults_s (m_code_s st (0 : Int32)) ((m_faults (m_code_s st (0 : Int32))) + (1 : Int32)))) + (1 : Int32))))))) j14 (((6350400 : Int64) / p3) * p1)))
        else
          some ((-2 : Int32), (m_code_s st (0 : Int32)))
def m_M_pair_B3 (st : MS) (p1 : Int32) (p2 : Int32) (v8 : Int32) (v9 : Int32) (self3 : Int32 → Option (Int32 × MS)) (v10 : Int32) : Option (Int32 × MS) :=
  if (m_causes (m_code_s st (0 : Int32))) < v10 then
    if (m_causes (m_code_s st (0 : Int32))) = (12 : Int32) then
      some ((-4 : Int32), (m_code_s st (0 : Int32)))
    else
      ix (m_causes (m_causes_s (m_code_s st (0 : Int32)) ((m_causes (m_code_s st (0 : Int32))) + (1 : Int32)))) 13 fun j13 =>
      ix (m_causes (m_one_s (m_causes_s (m_code_s st (0 : Int32)) ((m_causes (m_code_s st (0 : Int32))) + (1 : Int32))) j13 v8)) 13 fun j16 =>
      ix p1 13 fun j19 =>
      ix p2 13 fun j22 =>
      ix (m_causes (m_two_s (m_one_s (m_causes_s (m_code_s st (0 : Int32)) ((m_causes (m_code_s st (0 : Int32))) + (1 : Int32))) j13 v8) j16 v9)) 13 fun j25 =>
      some ((m_causes (m_prior_s (m_two_s (m_one_s (m_causes_s (m_code_s st (0 : Int32)) ((m_causes (m_code_s st (0 : Int32))) + (1 : Int32))) j13 v8) j16 v9) j25 (((m_prior (m_two_s (m_one_s (m_causes_s (m_code_s st (0 : Int32)) ((m_causes (m_code_s st (0 : Int32))) + (1 : Int32))) j13 v8) j16 v9) j19) / (2520 : Int64)) * ((m_prior (m_two_s (m_one_s (m_causes_s (m_code_s st (0 : Int32)) ((m_causes (m_code_s st (0 : Int32))) + (1 : Int32))) j13 v8) j16 v9) j22) / (2520 : Int64))))), (m_prior_s (m_two_s (m_one_s (m_causes_s (m_code_s st (0 : Int32)) ((m_causes (m_code_s st (0 : Int32))) + (1 : Int32))) j13 v8) j16 v9) j25 (((m_prior (m_two_s (m_one_s (m_causes_s (m_code_s st (0 : Int32)) ((m_causes (m_code_s st (0 : Int32))) + (1 : Int32))) j13 v8) j16 v9) j19) / (2520 : Int64)) * ((m_prior (m_two_s (m_one_s (m_causes_s (m_code_s st (0 : Int32)) ((m_causes (m_code_s st (0 : Int32))) + (1 : Int32))) j13 v8) j16 v9) j22) / (2520 : Int64)))))
  else
    ix v10 13 fun j28 =>
    if (m_one (m_code_s st (0 : Int32)) j28) = v8 then
      ix v10 13 fun j32 =>
      if (m_two (m_code_s st (0 : Int32)) j32) = v9 then
        some ((-3 : Int32), (m_code_s st (0 : Int32)))
      else
        self3 (v10 + 1)
    else
      self3 (v10 + 1)
def m_M_pair_J2 (st : MS) (p1 : Int32) (p2 : Int32) (v8 : Int32) (v9 : Int32) : Option (Int32 × MS) :=
  xl1 (m_M_pair_B3 st p1 p2 v8 v9) 14 (1 : Int32)
def m_M_pair_J1 (st : MS) (p1 : Int32) (p2 : Int32) (v8 : Int32) : Option (Int32 × MS) :=
  if p2 ≤ p1 then
    m_M_pair_J2 st p1 p2 v8 p1
  else
    m_M_pair_J2 st p1 p2 v8 p2
def m_M_pair (st : MS) (p1 : Int32) (p2 : Int32) : Option (Int32 × MS) :=
  (m_M_noFault (m_code_s st (0 : Int32)) p1).bind fun r2 =>
  if r2 = 0 then
    (m_M_noFault (m_code_s st (0 : Int32)) p2).bind fun r5 =>
    if r5 = 0 then
      if p1 = p2 then
        some ((-2 : Int32), (m_code_s st (0 : Int32)))
      else
        if p2 ≤ p1 then
          m_M_pair_J1 st p1 p2 p2
        else
          m_M_pair_J1 st p1 p2 p1
    else
      some ((-1 : Int32), (m_code_s st (0 : Int32)))
  else
    some ((-1 : Int32), (m_code_s st (0 : Int32)))
def m_M_test (st : MS) (p1 : Int64) : Option (Int32 × MS) :=
  if p1 < (0 : Int64) then
    some ((-2 : Int32), (m_code_s st (0 : Int32)))
  else
    if p1 ≤ (400 : Int64) then
      if (m_tests (m_code_s st (0 : Int32))) = (5 : Int32) then
        some ((-4 : Int32), (m_code_s st (0 : Int32)))
      else
        ix (m_tests (m_tests_s (m_code_s st (0 : Int32)) ((m_tests (m_code_s st (0 : Int32))) + (1 : Int32)))) 7 fun j4 =>
        some ((m_tests (m_price_s (m_tests_s (m_code_s st (0 : Int32)) ((m_tests (m_code_s st (0 : Int32))) + (1 : Int32))) j4 p1)), (m_price_s (m_tests_s (m_code_s st (0 : Int32)) ((m_tests (m_code_s st (0 : Int32))) + (1 : Int32))) j4 p1))
    else
      some ((-2 : Int32), (m_code_s st (0 : Int32)))
def m_M_oddsOf (st : MS) (p1 : Int32) (p2 : Int32) (p3 : Int32) : Option (Int32) :=
  ix ((((39 : Int32) * p1) + ((3 : Int32) * p2)) + p3) 273 fun j1 =>
  some (m_odds st j1)
def m_M_odds_B1 (st : MS) (p1 : Int32) (p2 : Int32) (p3 : Int32) (p4 : Int64) (p6 : Int64) (self1 : Int32 → Int32 → Option (Int32 × MS)) (v16 : Int32) (v17 : Int32) : Option (Int32 × MS) :=
  if (3 : Int32) ≤ v16 then
    if v17 ≤ (12 : Int32) then
      ix p1 7 fun j20 =>
      if (m_given (m_code_s st (0 : Int32)) j20) < 0 then
        ix ((((39 : Int32) * p1) + ((3 : Int32) * p2)) + p3) 273 fun j24 =>
        some (v17, (m_odds_s (m_code_s st (0 : Int32)) j24 (((12 : Int64) * p4) / p6).toInt32))
      else
        some ((-3 : Int32), (m_code_s st (0 : Int32)))
    else
      some ((-2 : Int32), (m_code_s st (0 : Int32)))
  else
    if v16 = p3 then
      self1 (v16 + 1) v17
    else
      (m_M_oddsOf (m_code_s st (0 : Int32)) p1 p2 v16).bind fun r29 =>
      self1 (v16 + 1) (v17 + r29)
def m_M_odds (st : MS) (p1 : Int32) (p2 : Int32) (p3 : Int32) (p4 : Int64) (p6 : Int64) : Option (Int32 × MS) :=
  (m_M_noTest (m_code_s st (0 : Int32)) p1).bind fun r2 =>
  if r2 = 0 then
    (m_M_noCause (m_code_s st (0 : Int32)) p2).bind fun r5 =>
    if r5 = 0 then
      if p3 < 0 then
        some ((-2 : Int32), (m_code_s st (0 : Int32)))
      else
        if (2 : Int32) < p3 then
          some ((-2 : Int32), (m_code_s st (0 : Int32)))
        else
          if p6 < (1 : Int64) then
            some ((-2 : Int32), (m_code_s st (0 : Int32)))
          else
            if (12 : Int64) < p6 then
              some ((-2 : Int32), (m_code_s st (0 : Int32)))
            else
              dzl p6 <|
              if (0 : Int64) < ((12 : Int64) - (12 : Int64) / p6 * p6) then
                some ((-2 : Int32), (m_code_s st (0 : Int32)))
              else
                if p4 < (0 : Int64) then
                  some ((-2 : Int32), (m_code_s st (0 : Int32)))
                else
                  if p4 ≤ p6 then
                    dzl p6 <|
                    xl2 (m_M_odds_B1 st p1 p2 p3 p4 p6) 14 (0 : Int32) (((12 : Int64) * p4) / p6).toInt32
                  else
                    some ((-2 : Int32), (m_code_s st (0 : Int32)))
    else
      some ((-1 : Int32), (m_code_s st (0 : Int32)))
  else
    some ((-1 : Int32), (m_code_s st (0 : Int32)))
def m_M_needs_B3 (p1 : Int32) (s12 : MS) (j18 : Nat) (self3 : Int32 → Int32 → Option (Int32 × MS)) (v21 : Int32) (v22 : Int32) : Option (Int32 × MS) :=
  if (7 : Int32) ≤ v21 then
    some (v22, (m_needs_s s12 j18 (vp_nar .boolean (1 : Int32))))
  else
    ix (((7 : Int32) * p1) + v21) 49 fun j24 =>
    if (m_needs (m_needs_s s12 j18 (vp_nar .boolean (1 : Int32))) j24) = 0 then
      self3 (v21 + 1) v22
    else
      self3 (v21 + 1) (v22 + (1 : Int32))
def m_M_needs_B5 (v28 : Int32) (self4 : Int32 → MS → Option (Int32 × MS)) (self5 : Int32 → MS → Option (Int32 × MS)) (v31 : Int32) (s32 : MS) : Option (Int32 × MS) :=
  if (7 : Int32) ≤ v31 then
    self4 (v28 + 1) s32
  else
    ix v31 7 fun j34 =>
    if (m_found s32 j34) = 0 then
      ix v28 7 fun j41 =>
      if (m_found s32 j41) = 0 then
        ix v31 7 fun j45 =>
        self5 (v31 + 1) (m_found_s s32 j45 (vp_nar .boolean (0 : Int32)))
      else
        ix (((7 : Int32) * v28) + v31) 49 fun j48 =>
        if (m_needs s32 j48) = 0 then
          ix v31 7 fun j52 =>
          self5 (v31 + 1) (m_found_s s32 j52 (vp_nar .boolean (0 : Int32)))
        else
          ix v31 7 fun j55 =>
          self5 (v31 + 1) (m_found_s s32 j55 (vp_nar .boolean (1 : Int32)))
    else
      ix v31 7 fun j38 =>
      self5 (v31 + 1) (m_found_s s32 j38 (vp_nar .boolean (1 : Int32)))
def m_M_needs_B4 (v11 : Int32) (self2 : Int32 → MS → Option (Int32 × MS)) (self4 : Int32 → MS → Option (Int32 × MS)) (v28 : Int32) (s29 : MS) : Option (Int32 × MS) :=
  if (7 : Int32) ≤ v28 then
    self2 (v11 + 1) s29
  else
    xl2 (m_M_needs_B5 v28 self4) 14 (1 : Int32) s29
def m_M_needs_B2 (p1 : Int32) (p2 : Int32) (self2 : Int32 → MS → Option (Int32 × MS)) (v11 : Int32) (s12 : MS) : Option (Int32 × MS) :=
  if (6 : Int32) ≤ v11 then
    ix p1 7 fun j14 =>
    if (m_found s12 j14) = 0 then
      ix (((7 : Int32) * p1) + p2) 49 fun j18 =>
      xl2 (m_M_needs_B3 p1 s12 j18) 14 (1 : Int32) (0 : Int32)
    else
      some ((-3 : Int32), s12)
  else
    xl2 (m_M_needs_B4 v11 self2) 14 (1 : Int32) s12
def m_M_needs_B1 (p1 : Int32) (p2 : Int32) (self1 : Int32 → MS → Option (Int32 × MS)) (v8 : Int32) (s9 : MS) : Option (Int32 × MS) :=
  if (7 : Int32) ≤ v8 then
    xl2 (m_M_needs_B2 p1 p2) 14 (0 : Int32) s9
  else
    if v8 = p2 then
      ix v8 7 fun j62 =>
      self1 (v8 + 1) (m_found_s s9 j62 (vp_nar .boolean (1 : Int32)))
    else
      ix v8 7 fun j59 =>
      self1 (v8 + 1) (m_found_s s9 j59 (vp_nar .boolean (0 : Int32)))
def m_M_needs (st : MS) (p1 : Int32) (p2 : Int32) : Option (Int32 × MS) :=
  (m_M_noTest (m_code_s st (0 : Int32)) p1).bind fun r2 =>
  if r2 = 0 then
    (m_M_noTest (m_code_s st (0 : Int32)) p2).bind fun r5 =>
    if r5 = 0 then
      if p1 = p2 then
        some ((-2 : Int32), (m_code_s st (0 : Int32)))
      else
        xl2 (m_M_needs_B1 p1 p2) 14 (0 : Int32) (m_code_s st (0 : Int32))
    else
      some ((-1 : Int32), (m_code_s st (0 : Int32)))
  else
    some ((-1 : Int32), (m_code_s st (0 : Int32)))
def m_M_look_B4 (v5 : Int32) (self2 : Int32 → MS → Option (MS)) (self4 : Int32 → MS → Option (MS)) (v18 : Int32) (s19 : MS) : Option (MS) :=
  if (7 : Int32) ≤ v18 then
    self2 (v5 + 1) s19
  else
    ix v5 13 fun j21 =>
    ix v18 7 fun j24 =>
    if 0 ≤ (m_digit s19 j24) then
      ix v18 7 fun j28 =>
      (m_M_oddsOf s19 v18 v5 (m_digit s19 j28)).bind fun r32 =>
      ix v5 13 fun j33 =>
      self4 (v18 + 1) (m_weight_s s19 j33 ((m_weight s19 j21) * r32.toInt64))
    else
      ix v5 13 fun j36 =>
      self4 (v18 + 1) (m_weight_s s19 j36 ((m_weight s19 j21) * (12 : Int32).toInt64))
def m_M_look_J3 (v5 : Int32) (s6 : MS) (self2 : Int32 → MS → Option (MS)) (v11 : Int32) : Option (MS) :=
  ix v5 13 fun j12 =>
  ix v5 13 fun j15 =>
  xl2 (m_M_look_B4 v5 self2) 14 (1 : Int32) (m_weight_s s6 j15 ((m_prior s6 j12) * v11.toInt64))
def m_M_look_B2 (self2 : Int32 → MS → Option (MS)) (v5 : Int32) (s6 : MS) : Option (MS) :=
  if (m_causes s6) < v5 then
    some s6
  else
    ix v5 13 fun j8 =>
    if (m_learned s6 j8) ≤ (5 : Int32) then
      ix v5 13 fun j40 =>
      m_M_look_J3 v5 s6 self2 ((m_learned s6 j40) + (1 : Int32))
    else
      m_M_look_J3 v5 s6 self2 (6 : Int32)
def m_M_look_B1 (self1 : Int32 → Int32 → MS → Option (MS)) (v1 : Int32) (v2 : Int32) (s3 : MS) : Option (MS) :=
  if (7 : Int32) ≤ v1 then
    xl2 m_M_look_B2 14 (1 : Int32) s3
  else
    ix v1 7 fun j43 =>
    self1 (v1 + 1) (v2 / (4 : Int32)) (m_digit_s s3 j43 ((v2 - v2 / (4 : Int32) * (4 : Int32)) - (1 : Int32)))
def m_M_look (st : MS) (p1 : Int32) : Option (MS) :=
  xl3 m_M_look_B1 14 (1 : Int32) p1 st
