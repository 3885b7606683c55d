def x_P_tell (st : XS) (p1 : Int32) (p2 : Int32) : Option (Int32) :=
  if p1 < 0 then
    some (-1 : Int32)
  else
    if p1 < (300 : Int32) then
      if p2 = (0 : Int32) then
        ix p1 300 fun j4 =>
        some (x_nT st j4)
      else
        if p2 = (1 : Int32) then
          ix p1 300 fun j8 =>
          some (x_nL st j8)
        else
          if p2 = (2 : Int32) then
            ix p1 300 fun j12 =>
            some (x_nA st j12)
          else
            some (-2 : Int32)
    else
      some (-1 : Int32)
def x_P_drop (st : XS) : Option (XS) :=
  some (x_tho_s (x_nod_s st (0 : Int32)) (-1 : Int64))
def x_P_weighFirst_B1 (p1 : Int32) (self1 : Int32 → XS → Option (XS)) (v1 : Int32) (s2 : XS) : Option (XS) :=
  if (12 : Int32) < v1 then
    some s2
  else
    ix (0 : Int32) 6 fun j4 =>
    (x_K_weightOf s2 v1 p1).bind fun r9 =>
    ix v1 13 fun j10 =>
    self1 (v1 + 1) (x_wei_s s2 j4 j10 r9)
def x_P_weighFirst (st : XS) (p1 : Int32) : Option (XS) :=
  xl2 (x_P_weighFirst_B1 p1) 14 (1 : Int32) st
def x_P_weighBehind_B1 (p1 : Int32) (p2 : Int32) (p3 : Int32) (self1 : Int32 → XS → Option (XS)) (v3 : Int32) (s4 : XS) : Option (XS) :=
  if (12 : Int32) < v3 then
    some s4
  else
    ix p3 6 fun j6 =>
    ix v3 13 fun j10 =>
    ix (p3 + (1 : Int32)) 6 fun j13 =>
    if (x_wei s4 j6 j10) = (0 : Int64) then
      ix v3 13 fun j23 =>
      self1 (v3 + 1) (x_wei_s s4 j13 j23 (0 : Int64))
    else
      (x_T_twelfths s4 p1 v3 p2).bind fun r19 =>
      ix v3 13 fun j20 =>
      self1 (v3 + 1) (x_wei_s s4 j13 j20 (((x_wei s4 j6 j10) / (12 : Int64)) * r19.toInt64))
def x_P_weighBehind (st : XS) (p1 : Int32) (p2 : Int32) (p3 : Int32) : Option (XS) :=
  if p3 < 0 then
    some st
  else
    if p3 < (5 : Int32) then
      xl2 (x_P_weighBehind_B1 p1 p2 p3) 14 (1 : Int32) st
    else
      some st
def x_P_weightAt_B1 (st : XS) (p1 : Int32) (self1 : Int32 → Int64 → Option (Int64)) (v1 : Int32) (v2 : Int64) : Option (Int64) :=
  if (12 : Int32) < v1 then
    some v2
  else
    if p1 < 0 then
      some v2
    else
      if (5 : Int32) < p1 then
        some v2
      else
        ix p1 6 fun j6 =>
        ix v1 13 fun j10 =>
        self1 (v1 + 1) (v2 + (x_wei st j6 j10))
def x_P_weightAt (st : XS) (p1 : Int32) : Option (Int64) :=
  xl2 (x_P_weightAt_B1 st p1) 14 (1 : Int32) (0 : Int64)
def x_P_leftAt_B1 (st : XS) (p1 : Int32) (self1 : Int32 → Int32 → Option (Int32)) (v1 : Int32) (v2 : Int32) : Option (Int32) :=
  if (12 : Int32) < v1 then
    some v2
  else
    if p1 < 0 then
      some v2
    else
      if (5 : Int32) < p1 then
        some v2
      else
        ix p1 6 fun j6 =>
        ix v1 13 fun j10 =>
        if (x_wei st j6 j10) ≤ (0 : Int64) then
          self1 (v1 + 1) (v2 ||| (0 : Int32))
        else
          (x_G_bit v1).bind fun r15 =>
          self1 (v1 + 1) (v2 ||| r15)
def x_P_leftAt (st : XS) (p1 : Int32) : Option (Int32) :=
  xl2 (x_P_leftAt_B1 st p1) 14 (1 : Int32) (0 : Int32)
