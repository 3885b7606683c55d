def x_C_addFault (st : XS) (p1 : Int64) : Option (Int32 × XS) :=
  if (x_cN st) < (12 : Int32) then
    ix (x_cN (x_fN_s (x_cN_s st ((x_cN st) + (1 : Int32))) ((x_fN (x_cN_s st ((x_cN st) + (1 : Int32)))) + (1 : Int32)))) 13 fun j2 =>
    some ((x_cN (x_pri_s (x_fN_s (x_cN_s st ((x_cN st) + (1 : Int32))) ((x_fN (x_cN_s st ((x_cN st) + (1 : Int32)))) + (1 : Int32))) j2 (p1 * (2520 : Int64)))), (x_pri_s (x_fN_s (x_cN_s st ((x_cN st) + (1 : Int32))) ((x_fN (x_cN_s st ((x_cN st) + (1 : Int32)))) + (1 : Int32))) j2 (p1 * (2520 : Int64))))
  else
    some ((-4 : Int32), st)
def x_C_knows (st : XS) (p1 : Int32) : Option (Int32) :=
  if p1 < (1 : Int32) then
    some (0 : Int32)
  else
    if (x_cN st) < p1 then
      some (0 : Int32)
    else
      if (12 : Int32) < p1 then
        some (0 : Int32)
      else
        some (1 : Int32)
def x_C_prior (st : XS) (p1 : Int32) : Option (Int64) :=
  (x_C_knows st p1).bind fun r2 =>
  if r2 = 0 then
    some (0 : Int64)
  else
    ix p1 13 fun j4 =>
    ix p1 13 fun j7 =>
    some ((x_pri st j4) * ((if (5 : Int32) < (x_lea st j7) then (5 : Int32) else (x_lea st j7)) + (1 : Int32)).toInt64)
def x_C_isFault (st : XS) (p1 : Int32) : Option (Int32) :=
  (x_C_knows st p1).bind fun r2 =>
  if r2 = 0 then
    some (0 : Int32)
  else
    ix p1 13 fun j4 =>
    if (x_mem st j4) = 0 then
      some (1 : Int32)
    else
      some (0 : Int32)
def x_C_hasPair_B1 (st : XS) (p1 : Int32) (self1 : Int32 → Option (Int32)) (v1 : Int32) : Option (Int32) :=
  if (12 : Int32) < v1 then
    some (0 : Int32)
  else
    ix v1 13 fun j3 =>
    if (x_mem st j3) = p1 then
      some (1 : Int32)
    else
      self1 (v1 + 1)
def x_C_hasPair (st : XS) (p1 : Int32) : Option (Int32) :=
  xl1 (x_C_hasPair_B1 st p1) 14 (1 : Int32)
def x_C_addPair (st : XS) (p1 : Int32) (p2 : Int32) : Option (Int32 × XS) :=
  if (12 : Int32) ≤ (x_cN st) then
    some ((-4 : Int32), st)
  else
    (x_C_knows st p1).bind fun r3 =>
    if r3 = 0 then
      some ((-4 : Int32), st)
    else
      (x_C_knows st p2).bind fun r6 =>
      if r6 = 0 then
        some ((-4 : Int32), st)
      else
        ix p1 13 fun j8 =>
        ix p2 13 fun j11 =>
        ix (x_cN (x_cN_s st ((x_cN st) + (1 : Int32)))) 13 fun j14 =>
        (x_G_bit p1).bind fun r18 =>
        (x_G_bit p2).bind fun r20 =>
        ix (x_cN (x_pri_s (x_cN_s st ((x_cN st) + (1 : Int32))) j14 (((x_pri (x_cN_s st ((x_cN st) + (1 : Int32))) j8) / (2520 : Int64)) * ((x_pri (x_cN_s st ((x_cN st) + (1 : Int32))) j11) / (2520 : Int64))))) 13 fun j21 =>
        some ((x_cN (x_mem_s (x_pri_s (x_cN_s st ((x_cN st) + (1 : Int32))) j14 (((x_pri (x_cN_s st ((x_cN st) + (1 : Int32))) j8) / (2520 : Int64)) * ((x_pri (x_cN_s st ((x_cN st) + (1 : Int32))) j11) / (2520 : Int64)))) j21 (r18 ||| r20))), (x_mem_s (x_pri_s (x_cN_s st ((x_cN st) + (1 : Int32))) j14 (((x_pri (x_cN_s st ((x_cN st) + (1 : Int32))) j8) / (2520 : Int64)) * ((x_pri (x_cN_s st ((x_cN st) + (1 : Int32))) j11) / (2520 : Int64)))) j21 (r18 ||| r20)))
def x_C_countLearned (st : XS) (p1 : Int32) : Option (Int32 × XS) :=
  if p1 < 0 then
    some ((-1 : Int32), st)
  else
    if p1 ≤ (12 : Int32) then
      ix p1 13 fun j3 =>
      ix p1 13 fun j6 =>
      ix p1 13 fun j9 =>
      some ((x_lea (x_lea_s st j6 ((x_lea st j3) + (1 : Int32))) j9), (x_lea_s st j6 ((x_lea st j3) + (1 : Int32))))
    else
      some ((-1 : Int32), st)
