def x_G_fault (st : XS) (p1 : Int64) (p3 : Int64) : Option (Int32 × XS) :=
  if p3 < (1 : Int64) then
    some ((-2 : Int32), st)
  else
    if (10 : Int64) < p3 then
      some ((-2 : Int32), st)
    else
      if p1 < (0 : Int64) then
        some ((-2 : Int32), st)
      else
        if p1 ≤ p3 then
          if (8 : Int32) ≤ (x_fN st) then
            some ((-4 : Int32), st)
          else
            if (x_cN st) < (12 : Int32) then
              dzl p3 <|
              bd2 (x_C_addFault st (((2520 : Int64) / p3) * p1)) fun r10 s9 =>
              some (r10, s9)
            else
              some ((-4 : Int32), st)
        else
          some ((-2 : Int32), st)
def x_G_test (st : XS) (p1 : Int64) : Option (Int32 × XS) :=
  if p1 < (0 : Int64) then
    some ((-2 : Int32), st)
  else
    if p1 ≤ (400 : Int64) then
      if (x_tN st) < (5 : Int32) then
        bd2 (x_T_add st p1.toInt32) fun r6 s5 =>
        some (r6, s5)
      else
        some ((-4 : Int32), st)
    else
      some ((-2 : Int32), st)
def x_G_odds (st : XS) (p1 : Int32) (p2 : Int32) (p3 : Int32) (p4 : Int64) (p6 : Int64) : Option (Int32 × XS) :=
  (x_T_knows st p1).bind fun r2 =>
  if r2 = 0 then
    some ((-1 : Int32), st)
  else
    (x_C_knows st p2).bind fun r5 =>
    if r5 = 0 then
      some ((-1 : Int32), st)
    else
      (x_G_isAnswer p3).bind fun r8 =>
      if r8 = 0 then
        some ((-2 : Int32), st)
      else
        (x_G_isPartOfTwelve p4 p6).bind fun r11 =>
        if r11 = 0 then
          some ((-2 : Int32), st)
        else
          dzl p6 <|
          (x_T_together st p1 p2).bind fun r15 =>
          (x_T_twelfths st p1 p2 p3).bind fun r17 =>
          if ((r15 - r17) + (((12 : Int64) / p6) * p4).toInt32) ≤ (12 : Int32) then
            (x_G_answerIn (x_opn st) p1).bind fun r20 =>
            if r20 = (-1 : Int32) then
              (x_T_setTwelfths st p1 p2 p3 (((12 : Int64) / p6) * p4).toInt32).bind fun s23 =>
              some (((r15 - r17) + (((12 : Int64) / p6) * p4).toInt32), s23)
            else
              some ((-3 : Int32), st)
          else
            some ((-2 : Int32), st)
def x_G_needs (st : XS) (p1 : Int32) (p2 : Int32) : Option (Int32 × XS) :=
  (x_T_knows st p1).bind fun r2 =>
  if r2 = 0 then
    some ((-1 : Int32), st)
  else
    (x_T_knows st p2).bind fun r5 =>
    if r5 = 0 then
      some ((-1 : Int32), st)
    else
      if p1 = p2 then
        some ((-2 : Int32), st)
      else
        (x_T_allNeededBy st p2).bind fun r9 =>
        (x_G_bit p1).bind fun r11 =>
        if (r9 &&& r11) = 0 then
          bd2 (x_T_addNeed st p1 p2) fun r15 s14 =>
          some (r15, s14)
        else
          some ((-3 : Int32), st)
def x_G_answer (st : XS) (p1 : Int32) (p2 : Int32) : Option (Int32 × XS) :=
  (x_T_knows st p1).bind fun r2 =>
  if r2 = 0 then
    some ((-1 : Int32), st)
  else
    (x_G_isAnswer p2).bind fun r5 =>
    if r5 = 0 then
      some ((-2 : Int32), st)
    else
      (x_T_isOpen st p1 (x_opn st)).bind fun r8 =>
      if r8 = 0 then
        some ((-3 : Int32), st)
      else
        (x_G_withAnswer (x_opn st) p1 p2).bind fun r11 =>
        (x_K_left (x_opn_s st r11) (x_opn (x_opn_s st r11))).bind fun r13 =>
        (x_JI_bitCount r13).bind fun r15 =>
        some (r15, (x_opn_s st r11))
def x_G_exact (st : XS) : Option (Int32) :=
  zb (x_pla st) <|
  some (x_pla st)
def x_G_cost (st : XS) : Option (Int64) :=
  some (x_tho st)
def x_G_pair (st : XS) (p1 : Int32) (p2 : Int32) : Option (Int32 × XS) :=
  (x_C_isFault st p1).bind fun r2 =>
  if r2 = 0 then
    some ((-1 : Int32), st)
  else
    (x_C_isFault st p2).bind fun r5 =>
    if r5 = 0 then
      some ((-1 : Int32), st)
    else
      if p1 = p2 then
        some ((-2 : Int32), st)
      else
        (x_G_bit p1).bind fun r9 =>
        (x_G_bit p2).bind fun r11 =>
        (x_C_hasPair st (r9 ||| r11)).bind fun r13 =>
        if r13 = 0 then
          if (x_cN st) < (12 : Int32) then
            bd2 (x_C_addPair st p1 p2) fun r18 s17 =>
            some (r18, s17)
          else
            some ((-4 : Int32), st)
        else
          some ((-3 : Int32), st)
def x_G_learn (st : XS) (p1 : Int32) : Option (Int32 × XS) :=
  if p1 = 0 then
    bd2 (x_C_countLearned (x_opn_s st (0 : Int32)) p1) fun r4 s3 =>
    some (r4, s3)
  else
    (x_C_knows st p1).bind fun r6 =>
    if r6 = 0 then
      some ((-1 : Int32), st)
    else
      bd2 (x_C_countLearned (x_opn_s st (0 : Int32)) p1) fun r10 s9 =>
      some (r10, s9)
def x_G_tree_J1 (st : XS) (p1 : Int32) (p2 : Int32) : Option (Int32) :=
  if p1 < 0 then
    some (-1 : Int32)
  else
    if p1 < (x_nod st) then
      (x_P_tell st p1 p2).bind fun r4 =>
      some r4
    else
      some (-1 : Int32)
def x_G_tree (st : XS) (p1 : Int32) (p2 : Int32) : Option (Int32) :=
  if p1 = (-1 : Int32) then
    if p2 = 0 then
      some (x_nod st)
    else
      x_G_tree_J1 st p1 p2
  else
    x_G_tree_J1 st p1 p2
def x_G_never_B1 (st : XS) (p1 : Int32) (self1 : Int32 → Int32 → Option (Int32)) (v4 : Int32) (v5 : Int32) : Option (Int32) :=
  if (x_tN st) < v4 then
    some v5
  else
    (x_T_canAnswer st v4 p1 (x_cN st)).bind fun r8 =>
    if r8 = 0 then
      self1 (v4 + 1) (v5 + 1)
    else
      self1 (v4 + 1) v5
def x_G_never (st : XS) (p1 : Int32) : Option (Int32) :=
  (x_G_isAnswer p1).bind fun r2 =>
  if r2 = 0 then
    some (-2 : Int32)
  else
    xl2 (x_G_never_B1 st p1) 14 (1 : Int32) (0 : Int32)
