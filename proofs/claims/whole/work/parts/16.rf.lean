def x_JA_fill_J_val_B1 (p1 : Int64) (self1 : Int32 → XS → Option (XS)) (v1 : Int32) (s2 : XS) : Option (XS) :=
  if (1024 : Int32) ≤ v1 then
    some s2
  else
    ix v1 1024 fun j4 =>
    self1 (v1 + 1) (x_val_s s2 j4 p1)
def x_JA_fill_J_val (st : XS) (p1 : Int64) : Option (XS) :=
  xl2 (x_JA_fill_J_val_B1 p1) 1026 (0 : Int32) st
def x_P_valuesBehind_B1 (p1 : Int32) (p2 : Int32) (p3 : Int32) (rf : XS → Int32 → Int32 → Option (XS)) (self1 : Int32 → Int64 → XS → Option (Int64 × XS)) (v1 : Int32) (v2 : Int64) (s3 : XS) : Option (Int64 × XS) :=
  if (3 : Int32) ≤ v1 then
    some (v2, s3)
  else
    (x_G_withAnswer p2 p1 v1).bind fun r6 =>
    if r6 < 0 then
      self1 (v1 + 1) v2 s3
    else
      if r6 < (1024 : Int32) then
        ix r6 1024 fun j9 =>
        if (x_val s3 j9) = (-1 : Int64) then
          (x_P_weighBehind s3 p1 v1 p3).bind fun s17 =>
          (rf s17 r6 (p3 + (1 : Int32))).bind fun s19 =>
          ix r6 1024 fun j20 =>
          self1 (v1 + 1) (v2 + (x_val s19 j20)) s19
        else
          ix r6 1024 fun j13 =>
          self1 (v1 + 1) (v2 + (x_val s3 j13)) s3
      else
        self1 (v1 + 1) v2 s3
def x_P_valuesBehind (rf : XS → Int32 → Int32 → Option (XS)) (st : XS) (p1 : Int32) (p2 : Int32) (p3 : Int32) : Option (Int64 × XS) :=
  xl3 (x_P_valuesBehind_B1 p1 p2 p3 rf) 14 (0 : Int32) (0 : Int64) st
def x_P_choose_B2 (p1 : Int32) (p2 : Int32) (rf : XS → Int32 → Int32 → Option (XS)) (v10 : Int32) (r12 : Int64) (self2 : Int32 → Int64 → Int32 → XS → Option (XS)) (v15 : Int32) (v16 : Int64) (v17 : Int32) (s18 : XS) : Option (XS) :=
  if (5 : Int32) < v15 then
    ix p1 1024 fun j20 =>
    ix p1 1024 fun j23 =>
    some (x_pic_s (x_val_s s18 j20 v16) j23 (vp_nar .byte v17.toInt8.toInt32))
  else
    (x_G_holds v10 v15).bind fun r27 =>
    if r27 = 0 then
      self2 (v15 + 1) v16 v17 s18
    else
      (x_T_price s18 v15).bind fun r30 =>
      bd2 (x_P_valuesBehind rf s18 v15 p1 p2) fun r33 s32 =>
      if v17 = 0 then
        self2 (v15 + 1) ((r30.toInt64 * r12) + r33) v15 s32
      else
        if v16 ≤ ((r30.toInt64 * r12) + r33) then
          self2 (v15 + 1) v16 v17 s32
        else
          self2 (v15 + 1) ((r30.toInt64 * r12) + r33) v15 s32
def x_P_choose_J1 (st : XS) (p1 : Int32) (p2 : Int32) (rf : XS → Int32 → Int32 → Option (XS)) (r5 : Int32) (v10 : Int32) : Option (XS) :=
  (x_P_weightAt st p2).bind fun r12 =>
  (x_JI_bitCount r5).bind fun r14 =>
  xl4 (x_P_choose_B2 p1 p2 rf v10 r12) 14 (1 : Int32) (((300 : Int32) * (if (r14 - (1 : Int32)) < (0 : Int32) then (0 : Int32) else (r14 - (1 : Int32)))).toInt64 * r12) (0 : Int32) st
def x_P_choose_b (rf : XS → Int32 → Int32 → Option (XS)) (st : XS) (p1 : Int32) (p2 : Int32) : Option (XS) :=
  if (5 : Int32) < p2 then
    some st
  else
    if p1 < 0 then
      some st
    else
      if p1 < (1024 : Int32) then
        (x_P_leftAt st p2).bind fun r5 =>
        (x_K_usable st p1 r5).bind fun r7 =>
        (x_K_firstFree st r7).bind fun r9 =>
        if r9 = 0 then
          x_P_choose_J1 st p1 p2 rf r5 r7
        else
          (x_G_bit r9).bind fun r38 =>
          x_P_choose_J1 st p1 p2 rf r5 r38
      else
        some st
def x_P_choose : Nat → XS → Int32 → Int32 → Option (XS)
  | 0 => fun _ _ _  => none
  | d + 1 => x_P_choose_b (x_P_choose d)
def x_P_keep_B1 (st : XS) (p1 : Int32) (p3 : Int32) (rf : XS → Int32 → Int32 → Int32 → Option (XS)) (j9 : Nat) (self1 : Int32 → XS → Option (XS)) (v21 : Int32) (s22 : XS) : Option (XS) :=
  if (3 : Int32) ≤ v21 then
    some s22
  else
    if (x_pic st j9) = 0 then
      some s22
    else
      if (5 : Int32) ≤ p3 then
        some s22
      else
        (x_P_weighBehind s22 (x_pic st j9) v21 p3).bind fun s27 =>
        (x_G_withAnswer p1 (x_pic st j9) v21).bind fun r29 =>
        (rf s27 r29 v21 (p3 + (1 : Int32))).bind fun s31 =>
        self1 (v21 + 1) s31
def x_P_keep_b (rf : XS → Int32 → Int32 → Int32 → Option (XS)) (st : XS) (p1 : Int32) (p2 : Int32) (p3 : Int32) : Option (XS) :=
  (x_P_leftAt st p3).bind fun r2 =>
  (x_JI_bitCount r2).bind fun r4 =>
  if r4 = 0 then
    some st
  else
    if (300 : Int32) ≤ (x_nod st) then
      some st
    else
      if p1 < 0 then
        some st
      else
        if p1 < (1024 : Int32) then
          ix p1 1024 fun j9 =>
          ix (x_nod st) 300 fun j12 =>
          ix (x_nod (x_nT_s st j12 (vp_nar .byte (x_pic st j9).toInt8.toInt32))) 300 fun j15 =>
          ix (x_nod (x_nL_s (x_nT_s st j12 (vp_nar .byte (x_pic st j9).toInt8.toInt32)) j15 (vp_nar .byte r4.toInt8.toInt32))) 300 fun j18 =>
          xl2 (x_P_keep_B1 st p1 p3 rf j9) 14 (0 : Int32) (x_nod_s (x_nA_s (x_nL_s (x_nT_s st j12 (vp_nar .byte (x_pic st j9).toInt8.toInt32)) j15 (vp_nar .byte r4.toInt8.toInt32)) j18 (vp_nar .byte p2.toInt8.toInt32)) ((x_nod (x_nA_s (x_nL_s (x_nT_s st j12 (vp_nar .byte (x_pic st j9).toInt8.toInt32)) j15 (vp_nar .byte r4.toInt8.toInt32)) j18 (vp_nar .byte p2.toInt8.toInt32))) + (1 : Int32)))
        else
          some st
def x_P_keep : Nat → XS → Int32 → Int32 → Int32 → Option (XS)
  | 0 => fun _ _ _ _  => none
  | d + 1 => x_P_keep_b (x_P_keep d)
def x_P_make (st : XS) (p1 : Int32) : Option (Int32 × XS) :=
  (x_P_drop st).bind fun s2 =>
  if p1 < 0 then
    some ((0 : Int32), s2)
  else
    if p1 < (1024 : Int32) then
      (x_JA_fill_J_val s2 (-1 : Int64)).bind fun s6 =>
      (x_P_weighFirst s6 p1).bind fun s8 =>
      (x_P_choose 8 s8 p1 (0 : Int32)).bind fun s10 =>
      (x_P_weightAt s10 (0 : Int32)).bind fun r12 =>
      if r12 ≤ (0 : Int64) then
        (x_P_keep 8 s10 p1 (-1 : Int32) (0 : Int32)).bind fun s15 =>
        ix p1 1024 fun j16 =>
        some ((x_pic s15 j16), s15)
      else
        ix p1 1024 fun j19 =>
        dzl r12 <|
        ix p1 1024 fun j23 =>
        dzl r12 <|
        dzl r12 <|
        (x_P_keep 8 (x_tho_s s10 ((((x_val s10 j19) / r12) * (1000 : Int64)) + ((((x_val s10 j23) - (x_val s10 j23) / r12 * r12) * (1000 : Int64)) / r12))) p1 (-1 : Int32) (0 : Int32)).bind fun s29 =>
        ix p1 1024 fun j30 =>
        some ((x_pic s29 j30), s29)
    else
      some ((0 : Int32), s2)
def x_G_next (st : XS) (p1 : Int64) : Option (Int32 × XS) :=
  if (0 : Int64) ≤ p1 then
    (x_T_unanswered st (x_opn st)).bind fun r3 =>
    if p1 < ((1 : Int64) <<< (((2 : Int32) * r3).toInt64 &&& 63)) then
      if (x_pla (x_pla_s st (0 : Int32))) = 0 then
        (x_P_drop (x_pla_s st (0 : Int32))).bind fun s7 =>
        (x_K_oneStep s7 (x_opn s7)).bind fun r9 =>
        some (r9, s7)
      else
        bd2 (x_P_make (x_pla_s st (0 : Int32)) (x_opn (x_pla_s st (0 : Int32)))) fun r12 s11 =>
        some (r12, s11)
    else
      if (x_pla (x_pla_s st (1 : Int32))) = 0 then
        (x_P_drop (x_pla_s st (1 : Int32))).bind fun s15 =>
        (x_K_oneStep s15 (x_opn s15)).bind fun r17 =>
        some (r17, s15)
      else
        bd2 (x_P_make (x_pla_s st (1 : Int32)) (x_opn (x_pla_s st (1 : Int32)))) fun r20 s19 =>
        some (r20, s19)
  else
    some ((-2 : Int32), st)
