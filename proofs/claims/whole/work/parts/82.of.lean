def x_G_odd (st : XS) (p1 : Int32) (p2 : Int32) : Option (Int64) :=
  (x_C_knows st p1).bind fun r2 =>
  if r2 = 0 then
    some (-1 : Int64)
  else
    (x_K_weight st (x_opn st)).bind fun r5 =>
    if (0 : Int64) < r5 then
      (x_K_weightOf st p1 (x_opn st)).bind fun r8 =>
      (x_G_commonDivisor r5 r8).bind fun r10 =>
      if (0 : Int64) < r10 then
        if p2 = 0 then
          dzl r10 <|
          some (r8 / r10)
        else
          dzl r10 <|
          some (r5 / r10)
      else
        some (-1 : Int64)
    else
      none
