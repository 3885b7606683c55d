def x_K_weightOf_B1 (st : XS) (p1 : Int32) (p2 : Int32) (self1 : Int32 → Int64 → Option (Int64)) (v3 : Int32) (v4 : Int64) : Option (Int64) :=
  if (x_tN st) < v3 then
    some v4
  else
    (x_G_answerIn p2 v3).bind fun r7 =>
    if r7 = (-1 : Int32) then
      self1 (v3 + 1) v4
    else
      (x_T_twelfths st v3 p1 r7).bind fun r10 =>
      self1 (v3 + 1) ((v4 / (12 : Int64)) * r10.toInt64)
def x_K_weightOf (st : XS) (p1 : Int32) (p2 : Int32) : Option (Int64) :=
  (x_C_prior st p1).bind fun r2 =>
  xl2 (x_K_weightOf_B1 st p1 p2) 14 (1 : Int32) (r2 * (248832 : Int64))
def x_K_left_B1 (st : XS) (p1 : Int32) (self1 : Int32 → Int32 → Option (Int32)) (v1 : Int32) (v2 : Int32) : Option (Int32) :=
  if (x_cN st) < v1 then
    some v2
  else
    (x_K_weightOf st v1 p1).bind fun r5 =>
    if r5 ≤ (0 : Int64) then
      self1 (v1 + 1) (v2 ||| (0 : Int32))
    else
      (x_G_bit v1).bind fun r8 =>
      self1 (v1 + 1) (v2 ||| r8)
def x_K_left (st : XS) (p1 : Int32) : Option (Int32) :=
  xl2 (x_K_left_B1 st p1) 14 (1 : Int32) (0 : Int32)
def x_K_weight_B1 (st : XS) (p1 : Int32) (self1 : Int32 → Int64 → Option (Int64)) (v1 : Int32) (v2 : Int64) : Option (Int64) :=
  if (x_cN st) < v1 then
    some v2
  else
    (x_K_weightOf st v1 p1).bind fun r5 =>
    self1 (v1 + 1) (v2 + r5)
def x_K_weight (st : XS) (p1 : Int32) : Option (Int64) :=
  xl2 (x_K_weight_B1 st p1) 14 (1 : Int32) (0 : Int64)
def x_K_greatestWeight_B1 (st : XS) (p1 : Int32) (self1 : Int32 → Int64 → Option (Int64)) (v1 : Int32) (v2 : Int64) : Option (Int64) :=
  if (x_cN st) < v1 then
    some v2
  else
    (x_K_weightOf st v1 p1).bind fun r5 =>
    self1 (v1 + 1) (if r5 < v2 then v2 else r5)
def x_K_greatestWeight (st : XS) (p1 : Int32) : Option (Int64) :=
  xl2 (x_K_greatestWeight_B1 st p1) 14 (1 : Int32) (0 : Int64)
def x_K_usable_B1 (st : XS) (p1 : Int32) (p2 : Int32) (self1 : Int32 → Int32 → Option (Int32)) (v4 : Int32) (v5 : Int32) : Option (Int32) :=
  if (x_tN st) < v4 then
    some v5
  else
    (x_T_isOpen st v4 p1).bind fun r8 =>
    if r8 = 0 then
      self1 (v4 + 1) v5
    else
      (x_T_tellsApart st v4 p2).bind fun r11 =>
      if r11 = 0 then
        self1 (v4 + 1) v5
      else
        (x_G_bit v4).bind fun r14 =>
        self1 (v4 + 1) (v5 ||| r14)
def x_K_usable (st : XS) (p1 : Int32) (p2 : Int32) : Option (Int32) :=
  (x_JI_bitCount p2).bind fun r2 =>
  if (2 : Int32) ≤ r2 then
    xl2 (x_K_usable_B1 st p1 p2) 14 (1 : Int32) (0 : Int32)
  else
    some (0 : Int32)
def x_K_firstFree_B1 (st : XS) (p1 : Int32) (self1 : Int32 → Option (Int32)) (v1 : Int32) : Option (Int32) :=
  if (x_tN st) < v1 then
    some (0 : Int32)
  else
    (x_G_holds p1 v1).bind fun r4 =>
    if r4 = 0 then
      self1 (v1 + 1)
    else
      (x_T_price st v1).bind fun r7 =>
      if r7 = 0 then
        some v1
      else
        self1 (v1 + 1)
def x_K_firstFree (st : XS) (p1 : Int32) : Option (Int32) :=
  xl1 (x_K_firstFree_B1 st p1) 14 (1 : Int32)
def x_K_gain_B1 (st : XS) (p1 : Int32) (p2 : Int32) (self1 : Int32 → Int64 → Option (Int64)) (v3 : Int32) (v4 : Int64) : Option (Int64) :=
  if (3 : Int32) ≤ v3 then
    some v4
  else
    (x_G_withAnswer p1 p2 v3).bind fun r7 =>
    (x_K_greatestWeight st r7).bind fun r9 =>
    self1 (v3 + 1) (v4 + r9)
def x_K_gain (st : XS) (p1 : Int32) (p2 : Int32) : Option (Int64) :=
  (x_K_greatestWeight st p1).bind fun r2 =>
  xl2 (x_K_gain_B1 st p1 p2) 14 (0 : Int32) (-r2)
def x_K_bestGain_B1 (st : XS) (p1 : Int32) (p2 : Int32) (self1 : Int32 → Int64 → Int32 → Option (Int32)) (v1 : Int32) (v2 : Int64) (v3 : Int32) : Option (Int32) :=
  if (x_tN st) < v1 then
    some v3
  else
    (x_G_holds p2 v1).bind fun r6 =>
    if r6 = 0 then
      self1 (v1 + 1) v2 v3
    else
      (x_K_gain st p1 v1).bind fun r9 =>
      if v3 = 0 then
        self1 (v1 + 1) r9 v1
      else
        (x_T_price st v3).bind fun r12 =>
        (x_T_price st v1).bind fun r14 =>
        if (r9 * r12.toInt64) ≤ (v2 * r14.toInt64) then
          self1 (v1 + 1) v2 v3
        else
          self1 (v1 + 1) r9 v1
def x_K_bestGain (st : XS) (p1 : Int32) (p2 : Int32) : Option (Int32) :=
  xl3 (x_K_bestGain_B1 st p1 p2) 14 (1 : Int32) (0 : Int64) (0 : Int32)
def x_K_oneStep (st : XS) (p1 : Int32) : Option (Int32) :=
  (x_K_left st p1).bind fun r2 =>
  (x_K_usable st p1 r2).bind fun r4 =>
  (x_K_firstFree st r4).bind fun r6 =>
  if r6 = 0 then
    (x_K_bestGain st p1 r4).bind fun r9 =>
    some r9
  else
    some r6
