def x_T_add (st : XS) (p1 : Int32) : Option (Int32 × XS) :=
  if (x_tN st) < (5 : Int32) then
    ix (x_tN (x_tN_s st ((x_tN st) + (1 : Int32)))) 6 fun j2 =>
    some ((x_tN (x_cst_s (x_tN_s st ((x_tN st) + (1 : Int32))) j2 p1)), (x_cst_s (x_tN_s st ((x_tN st) + (1 : Int32))) j2 p1))
  else
    some ((-4 : Int32), st)
def x_T_knows (st : XS) (p1 : Int32) : Option (Int32) :=
  if p1 < (1 : Int32) then
    some (0 : Int32)
  else
    if (x_tN st) < p1 then
      some (0 : Int32)
    else
      if (5 : Int32) < p1 then
        some (0 : Int32)
      else
        some (1 : Int32)
def x_T_hasPlace (st : XS) (p1 : Int32) (p2 : Int32) : Option (Int32) :=
  (x_T_knows st p1).bind fun r2 =>
  if r2 = 0 then
    some (0 : Int32)
  else
    if p2 < (1 : Int32) then
      some (0 : Int32)
    else
      if (12 : Int32) < p2 then
        some (0 : Int32)
      else
        some (1 : Int32)
def x_T_twelfths (st : XS) (p1 : Int32) (p2 : Int32) (p3 : Int32) : Option (Int32) :=
  (x_T_hasPlace st p1 p2).bind fun r2 =>
  if r2 = 0 then
    some (0 : Int32)
  else
    ix p1 6 fun j4 =>
    ix p2 13 fun j8 =>
    some (((x_tab st j4 j8) >>> (((4 : Int32) * p3) &&& 31)) &&& (15 : Int32))
def x_T_together_B1 (st : XS) (p1 : Int32) (p2 : Int32) (self1 : Int32 → Int32 → Option (Int32)) (v1 : Int32) (v2 : Int32) : Option (Int32) :=
  if (3 : Int32) ≤ v1 then
    some v2
  else
    (x_T_twelfths st p1 p2 v1).bind fun r5 =>
    self1 (v1 + 1) (v2 + r5)
def x_T_together (st : XS) (p1 : Int32) (p2 : Int32) : Option (Int32) :=
  xl2 (x_T_together_B1 st p1 p2) 14 (0 : Int32) (0 : Int32)
def x_T_setTwelfths (st : XS) (p1 : Int32) (p2 : Int32) (p3 : Int32) (p4 : Int32) : Option (XS) :=
  (x_T_hasPlace st p1 p2).bind fun r2 =>
  if r2 = 0 then
    some st
  else
    ix p1 6 fun j4 =>
    ix p2 13 fun j8 =>
    ix p1 6 fun j11 =>
    ix p2 13 fun j15 =>
    some (x_tab_s st j11 j15 (((x_tab st j4 j8) &&& (((15 : Int32) <<< (((4 : Int32) * p3) &&& 31)) ^^^ (-1 : Int32))) ||| (p4 <<< (((4 : Int32) * p3) &&& 31))))
def x_T_allNeededBy_B3 (st : XS) (v4 : Int32) (self2 : Int32 → Int32 → Option (Int32)) (self3 : Int32 → Int32 → Option (Int32)) (v7 : Int32) (v8 : Int32) : Option (Int32) :=
  if (5 : Int32) < v7 then
    self2 (v4 + 1) v8
  else
    (x_G_holds v8 v7).bind fun r11 =>
    if r11 = 0 then
      self3 (v7 + 1) (v8 ||| (0 : Int32))
    else
      ix v7 6 fun j13 =>
      self3 (v7 + 1) (v8 ||| (x_nee st j13))
def x_T_allNeededBy_B2 (st : XS) (self2 : Int32 → Int32 → Option (Int32)) (v4 : Int32) (v5 : Int32) : Option (Int32) :=
  if (5 : Int32) ≤ v4 then
    some v5
  else
    xl2 (x_T_allNeededBy_B3 st v4 self2) 14 (1 : Int32) v5
def x_T_allNeededBy_J1 (st : XS) (v3 : Int32) : Option (Int32) :=
  xl2 (x_T_allNeededBy_B2 st) 14 (0 : Int32) v3
def x_T_allNeededBy (st : XS) (p1 : Int32) : Option (Int32) :=
  (x_T_knows st p1).bind fun r2 =>
  if r2 = 0 then
    x_T_allNeededBy_J1 st (0 : Int32)
  else
    ix p1 6 fun j17 =>
    x_T_allNeededBy_J1 st (x_nee st j17)
def x_T_addNeed (st : XS) (p1 : Int32) (p2 : Int32) : Option (Int32 × XS) :=
  (x_T_knows st p1).bind fun r2 =>
  if r2 = 0 then
    some ((-1 : Int32), st)
  else
    ix p1 6 fun j4 =>
    (x_G_bit p2).bind fun r8 =>
    ix p1 6 fun j9 =>
    ix p1 6 fun j12 =>
    (x_JI_bitCount (x_nee (x_nee_s st j9 ((x_nee st j4) ||| r8)) j12)).bind fun r16 =>
    some (r16, (x_nee_s st j9 ((x_nee st j4) ||| r8)))
def x_T_isOpen_B1 (st : XS) (p1 : Int32) (p2 : Int32) (self1 : Int32 → Option (Int32)) (v7 : Int32) : Option (Int32) :=
  if (5 : Int32) < v7 then
    some (1 : Int32)
  else
    ix p1 6 fun j9 =>
    (x_G_holds (x_nee st j9) v7).bind fun r13 =>
    if r13 = 0 then
      self1 (v7 + 1)
    else
      (x_G_answerIn p2 v7).bind fun r16 =>
      if r16 = (-1 : Int32) then
        some (0 : Int32)
      else
        self1 (v7 + 1)
def x_T_isOpen (st : XS) (p1 : Int32) (p2 : Int32) : Option (Int32) :=
  (x_T_knows st p1).bind fun r2 =>
  if r2 = 0 then
    some (0 : Int32)
  else
    (x_G_answerIn p2 p1).bind fun r5 =>
    if r5 = (-1 : Int32) then
      xl1 (x_T_isOpen_B1 st p1 p2) 14 (1 : Int32)
    else
      some (0 : Int32)
def x_T_canAnswer_B1 (st : XS) (p1 : Int32) (p2 : Int32) (p3 : Int32) (self1 : Int32 → Option (Int32)) (v1 : Int32) : Option (Int32) :=
  if p3 < v1 then
    some (0 : Int32)
  else
    (x_T_twelfths st p1 v1 p2).bind fun r4 =>
    if r4 ≤ 0 then
      self1 (v1 + 1)
    else
      some (1 : Int32)
def x_T_canAnswer (st : XS) (p1 : Int32) (p2 : Int32) (p3 : Int32) : Option (Int32) :=
  xl1 (x_T_canAnswer_B1 st p1 p2 p3) 14 (1 : Int32)
def x_T_price (st : XS) (p1 : Int32) : Option (Int32) :=
  (x_T_knows st p1).bind fun r2 =>
  if r2 = 0 then
    some (0 : Int32)
  else
    ix p1 6 fun j4 =>
    some (x_cst st j4)
def x_T_unanswered_B1 (st : XS) (p1 : Int32) (self1 : Int32 → Int32 → Option (Int32)) (v1 : Int32) (v2 : Int32) : Option (Int32) :=
  if (x_tN st) < v1 then
    some v2
  else
    (x_G_answerIn p1 v1).bind fun r5 =>
    if r5 = (-1 : Int32) then
      self1 (v1 + 1) (v2 + (1 : Int32))
    else
      self1 (v1 + 1) (v2 + (0 : Int32))
def x_T_unanswered (st : XS) (p1 : Int32) : Option (Int32) :=
  xl2 (x_T_unanswered_B1 st p1) 14 (1 : Int32) (0 : Int32)
def x_T_tellsApart_B1 (st : XS) (p1 : Int32) (p2 : Int32) (self1 : Int32 → Int32 → Option (Int32)) (v4 : Int32) (v5 : Int32) : Option (Int32) :=
  if (12 : Int32) < v4 then
    some (0 : Int32)
  else
    (x_G_holds p2 v4).bind fun r8 =>
    if r8 = 0 then
      self1 (v4 + 1) v5
    else
      if v5 = 0 then
        self1 (v4 + 1) v4
      else
        ix p1 6 fun j11 =>
        ix v4 13 fun j15 =>
        ix p1 6 fun j18 =>
        ix v5 13 fun j22 =>
        if (x_tab st j11 j15) = (x_tab st j18 j22) then
          self1 (v4 + 1) v5
        else
          some (1 : Int32)
def x_T_tellsApart (st : XS) (p1 : Int32) (p2 : Int32) : Option (Int32) :=
  (x_T_knows st p1).bind fun r2 =>
  if r2 = 0 then
    some (0 : Int32)
  else
    xl2 (x_T_tellsApart_B1 st p1 p2) 14 (1 : Int32) (0 : Int32)
