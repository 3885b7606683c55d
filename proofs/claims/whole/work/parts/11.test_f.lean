def x_C_addFault (st : XS) (p1 : Int64) : Option (Int32 × XS) :=
  if (x_cN st) < (12 : Int32) then
    ix (x_cN (x_fN_s (x_cN_s st ((x_cN st) + (1 : Int32))) ((x_fN (x_cN_s st ((x_cN st) + (1 : Int32)))) + (1 : Int32)))) 13 fun j2 =>
    some ((x_cN (x_pri_s (x_fN_s (x_cN_s st ((x_cN st) + (1 : Int32))) ((x_fN (x_cN_s st ((x_cN st) + (1 : Int32)))) + (1 : Int32))) j2 (p1 * (2520 : Int64)))), (x_pri_s (x_fN_s (x_cN_s st ((x_cN st) + (1 : Int32))) ((x_fN (x_cN_s st ((x_cN st) + (1 : Int32)))) + (1 : Int32))) j2 (p1 * (2520 : Int64))))
  else
    some ((-4 : Int32), st)
def x_T_knows (st : XS) (p1 : Int32) : Option (Int32) :=
  if p1 < (1 : Int32) then
    some (0 : Int32)
  else
    if (x_tN st) < p1 then
      some (0 : Int32)
    else
      if (5 : Int32) < p1 then
        some (0 : Int32)
      else
        some (1 : Int32)
def x_C_knows (st : XS) (p1 : Int32) : Option (Int32) :=
  if p1 < (1 : Int32) then
    some (0 : Int32)
  else
    if (x_cN st) < p1 then
      some (0 : Int32)
    else
      if (12 : Int32) < p1 then
        some (0 : Int32)
      else
        some (1 : Int32)
def x_G_isAnswer (p0 : Int32) : Option (Int32) :=
  if p0 < 0 then
    some (0 : Int32)
  else
    if (3 : Int32) ≤ p0 then
      some (0 : Int32)
    else
      some (1 : Int32)
def x_T_hasPlace (st : XS) (p1 : Int32) (p2 : Int32) : Option (Int32) :=
  (x_T_knows st p1).bind fun r2 =>
  if r2 = 0 then
    some (0 : Int32)
  else
    if p2 < (1 : Int32) then
      some (0 : Int32)
    else
      if (12 : Int32) < p2 then
        some (0 : Int32)
      else
        some (1 : Int32)
def x_T_twelfths (st : XS) (p1 : Int32) (p2 : Int32) (p3 : Int32) : Option (Int32) :=
  (x_T_hasPlace st p1 p2).bind fun r2 =>
  if r2 = 0 then
    some (0 : Int32)
  else
    ix p1 6 fun j4 =>
    ix p2 13 fun j8 =>
    some (((x_tab st j4 j8) >>> (((4 : Int32) * p3) &&& 31)) &&& (15 : Int32))
def x_G_bit (p0 : Int32) : Option (Int32) :=
  some ((1 : Int32) <<< (p0 &&& 31))
def x_G_holds (p0 : Int32) (p1 : Int32) : Option (Int32) :=
  (x_G_bit p1).bind fun r2 =>
  if (p0 &&& r2) = 0 then
    some (0 : Int32)
  else
    some (1 : Int32)
def x_C_isFault (st : XS) (p1 : Int32) : Option (Int32) :=
  (x_C_knows st p1).bind fun r2 =>
  if r2 = 0 then
    some (0 : Int32)
  else
    ix p1 13 fun j4 =>
    if (x_mem st j4) = 0 then
      some (1 : Int32)
    else
      some (0 : Int32)
def x_C_hasPair_B1 (st : XS) (p1 : Int32) (self1 : Int32 → Option (Int32)) (v1 : Int32) : Option (Int32) :=
  if (12 : Int32) < v1 then
    some (0 : Int32)
  else
    ix v1 13 fun j3 =>
    if (x_mem st j3) = p1 then
      some (1 : Int32)
    else
      self1 (v1 + 1)
def x_C_hasPair (st : XS) (p1 : Int32) : Option (Int32) :=
  xl1 (x_C_hasPair_B1 st p1) 14 (1 : Int32)
