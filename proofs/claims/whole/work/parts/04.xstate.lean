abbrev XS : Type := Int32 × Int32 × Int32 × Int32 × (Nat → Int64) × (Nat → Int32) × (Nat → Int32) × Int32 × (Nat → Int32) × (Nat → Int32) × (Nat → Nat → Int32) × Int32 × Int64 × (Nat → Int64) × (Nat → Int32) × (Nat → Nat → Int64) × (Nat → Int32) × (Nat → Int32) × (Nat → Int32)
def x_opn (st : XS) : Int32 := st.1
def x_pla (st : XS) : Int32 := st.2.1
def x_cN (st : XS) : Int32 := st.2.2.1
def x_fN (st : XS) : Int32 := st.2.2.2.1
def x_pri (st : XS) : Nat → Int64 := st.2.2.2.2.1
def x_mem (st : XS) : Nat → Int32 := st.2.2.2.2.2.1
def x_lea (st : XS) : Nat → Int32 := st.2.2.2.2.2.2.1
def x_tN (st : XS) : Int32 := st.2.2.2.2.2.2.2.1
def x_cst (st : XS) : Nat → Int32 := st.2.2.2.2.2.2.2.2.1
def x_nee (st : XS) : Nat → Int32 := st.2.2.2.2.2.2.2.2.2.1
def x_tab (st : XS) : Nat → Nat → Int32 := st.2.2.2.2.2.2.2.2.2.2.1
def x_nod (st : XS) : Int32 := st.2.2.2.2.2.2.2.2.2.2.2.1
def x_tho (st : XS) : Int64 := st.2.2.2.2.2.2.2.2.2.2.2.2.1
def x_val (st : XS) : Nat → Int64 := st.2.2.2.2.2.2.2.2.2.2.2.2.2.1
def x_pic (st : XS) : Nat → Int32 := st.2.2.2.2.2.2.2.2.2.2.2.2.2.2.1
def x_wei (st : XS) : Nat → Nat → Int64 := st.2.2.2.2.2.2.2.2.2.2.2.2.2.2.2.1
def x_nT (st : XS) : Nat → Int32 := st.2.2.2.2.2.2.2.2.2.2.2.2.2.2.2.2.1
def x_nL (st : XS) : Nat → Int32 := st.2.2.2.2.2.2.2.2.2.2.2.2.2.2.2.2.2.1
def x_nA (st : XS) : Nat → Int32 := st.2.2.2.2.2.2.2.2.2.2.2.2.2.2.2.2.2.2
def x_opn_s (st : XS) (v : Int32) : XS := (v, st.2)
def x_pla_s (st : XS) (v : Int32) : XS := (st.1, v, st.2.2)
def x_cN_s (st : XS) (v : Int32) : XS := (st.1, st.2.1, v, st.2.2.2)
def x_fN_s (st : XS) (v : Int32) : XS := (st.1, st.2.1, st.2.2.1, v, st.2.2.2.2)
def x_pri_s (st : XS) (j : Nat) (v : Int64) : XS := (st.1, st.2.1, st.2.2.1, st.2.2.2.1, vp_updL (st.2.2.2.2.1) j v, st.2.2.2.2.2)
def x_pri_f (st : XS) (f : Nat → Int64) : XS := (st.1, st.2.1, st.2.2.1, st.2.2.2.1, f, st.2.2.2.2.2)
def x_mem_s (st : XS) (j : Nat) (v : Int32) : XS := (st.1, st.2.1, st.2.2.1, st.2.2.2.1, st.2.2.2.2.1, upd (st.2.2.2.2.2.1) j v, st.2.2.2.2.2.2)
def x_mem_f (st : XS) (f : Nat → Int32) : XS := (st.1, st.2.1, st.2.2.1, st.2.2.2.1, st.2.2.2.2.1, f, st.2.2.2.2.2.2)
def x_lea_s (st : XS) (j : Nat) (v : Int32) : XS := (st.1, st.2.1, st.2.2.1, st.2.2.2.1, st.2.2.2.2.1, st.2.2.2.2.2.1, upd (st.2.2.2.2.2.2.1) j v, st.2.2.2.2.2.2.2)
def x_lea_f (st : XS) (f : Nat → Int32) : XS := (st.1, st.2.1, st.2.2.1, st.2.2.2.1, st.2.2.2.2.1, st.2.2.2.2.2.1, f, st.2.2.2.2.2.2.2)
def x_tN_s (st : XS) (v : Int32) : XS := (st.1, st.2.1, st.2.2.1, st.2.2.2.1, st.2.2.2.2.1, st.2.2.2.2.2.1, st.2.2.2.2.2.2.1, v, st.2.2.2.2.2.2.2.2)
def x_cst_s (st : XS) (j : Nat) (v : Int32) : XS := (st.1, st.2.1, st.2.2.1, st.2.2.2.1, st.2.2.2.2.1, st.2.2.2.2.2.1, st.2.2.2.2.2.2.1, st.2.2.2.2.2.2.2.1, upd (st.2.2.2.2.2.2.2.2.1) j v, st.2.2.2.2.2.2.2.2.2)
def x_cst_f (st : XS) (f : Nat → Int32) : XS := (st.1, st.2.1, st.2.2.1, st.2.2.2.1, st.2.2.2.2.1, st.2.2.2.2.2.1, st.2.2.2.2.2.2.1, st.2.2.2.2.2.2.2.1, f, st.2.2.2.2.2.2.2.2.2)
def x_nee_s (st : XS) (j : Nat) (v : Int32) : XS := (st.1, st.2.1, st.2.2.1, st.2.2.2.1, st.2.2.2.2.1, st.2.2.2.2.2.1, st.2.2.2.2.2.2.1, st.2.2.2.2.2.2.2.1, st.2.2.2.2.2.2.2.2.1, upd (st.2.2.2.2.2.2.2.2.2.1) j v, st.2.2.2.2.2.2.2.2.2.2)
def x_nee_f (st : XS) (f : Nat → Int32) : XS := (st.1, st.2.1, st.2.2.1, st.2.2.2.1, st.2.2.2.2.1, st.2.2.2.2.2.1, st.2.2.2.2.2.2.1, st.2.2.2.2.2.2.2.1, st.2.2.2.2.2.2.2.2.1, f, st.2.2.2.2.2.2.2.2.2.2)
def x_tab_s (st : XS) (d j : Nat) (v : Int32) : XS := (st.1, st.2.1, st.2.2.1, st.2.2.2.1, st.2.2.2.2.1, st.2.2.2.2.2.1, st.2.2.2.2.2.2.1, st.2.2.2.2.2.2.2.1, st.2.2.2.2.2.2.2.2.1, st.2.2.2.2.2.2.2.2.2.1, fun i => if i = d then upd (st.2.2.2.2.2.2.2.2.2.2.1 d) j v else st.2.2.2.2.2.2.2.2.2.2.1 i, st.2.2.2.2.2.2.2.2.2.2.2)
def x_tab_f (st : XS) (d : Nat) (f : Nat → Int32) : XS := (st.1, st.2.1, st.2.2.1, st.2.2.2.1, st.2.2.2.2.1, st.2.2.2.2.2.1, st.2.2.2.2.2.2.1, st.2.2.2.2.2.2.2.1, st.2.2.2.2.2.2.2.2.1, st.2.2.2.2.2.2.2.2.2.1, fun i => if i = d then f else st.2.2.2.2.2.2.2.2.2.2.1 i, st.2.2.2.2.2.2.2.2.2.2.2)
def x_nod_s (st : XS) (v : Int32) : XS := (st.1, st.2.1, st.2.2.1, st.2.2.2.1, st.2.2.2.2.1, st.2.2.2.2.2.1, st.2.2.2.2.2.2.1, st.2.2.2.2.2.2.2.1, st.2.2.2.2.2.2.2.2.1, st.2.2.2.2.2.2.2.2.2.1, st.2.2.2.2.2.2.2.2.2.2.1, v, st.2.2.2.2.2.2.2.2.2.2.2.2)
def x_tho_s (st : XS) (v : Int64) : XS := (st.1, st.2.1, st.2.2.1, st.2.2.2.1, st.2.2.2.2.1, st.2.2.2.2.2.1, st.2.2.2.2.2.2.1, st.2.2.2.2.2.2.2.1, st.2.2.2.2.2.2.2.2.1, st.2.2.2.2.2.2.2.2.2.1, st.2.2.2.2.2.2.2.2.2.2.1, st.2.2.2.2.2.2.2.2.2.2.2.1, v, st.2.2.2.2.2.2.2.2.2.2.2.2.2)
def x_val_s (st : XS) (j : Nat) (v : Int64) : XS := (st.1, st.2.1, st.2.2.1, st.2.2.2.1, st.2.2.2.2.1, st.2.2.2.2.2.1, st.2.2.2.2.2.2.1, st.2.2.2.2.2.2.2.1, st.2.2.2.2.2.2.2.2.1, st.2.2.2.2.2.2.2.2.2.1, st.2.2.2.2.2.2.2.2.2.2.1, st.2.2.2.2.2.2.2.2.2.2.2.1, st.2.2.2.2.2.2.2.2.2.2.2.2.1, vp_updL (st.2.2.2.2.2.2.2.2.2.2.2.2.2.1) j v, st.2.2.2.2.2.2.2.2.2.2.2.2.2.2)
def x_val_f (st : XS) (f : Nat → Int64) : XS := (st.1, st.2.1, st.2.2.1, st.2.2.2.1, st.2.2.2.2.1, st.2.2.2.2.2.1, st.2.2.2.2.2.2.1, st.2.2.2.2.2.2.2.1, st.2.2.2.2.2.2.2.2.1, st.2.2.2.2.2.2.2.2.2.1, st.2.2.2.2.2.2.2.2.2.2.1, st.2.2.2.2.2.2.2.2.2.2.2.1, st.2.2.2.2.2.2.2.2.2.2.2.2.1, f, st.2.2.2.2.2.2.2.2.2.2.2.2.2.2)
def x_pic_s (st : XS) (j : Nat) (v : Int32) : XS := (st.1, st.2.1, st.2.2.1, st.2.2.2.1, st.2.2.2.2.1, st.2.2.2.2.2.1, st.2.2.2.2.2.2.1, st.2.2.2.2.2.2.2.1, st.2.2.2.2.2.2.2.2.1, st.2.2.2.2.2.2.2.2.2.1, st.2.2.2.2.2.2.2.2.2.2.1, st.2.2.2.2.2.2.2.2.2.2.2.1, st.2.2.2.2.2.2.2.2.2.2.2.2.1, st.2.2.2.2.2.2.2.2.2.2.2.2.2.1, upd (st.2.2.2.2.2.2.2.2.2.2.2.2.2.2.1) j v, st.2.2.2.2.2.2.2.2.2.2.2.2.2.2.2)
def x_pic_f (st : XS) (f : Nat → Int32) : XS := (st.1, st.2.1, st.2.2.1, st.2.2.2.1, st.2.2.2.2.1, st.2.2.2.2.2.1, st.2.2.2.2.2.2.1, st.2.2.2.2.2.2.2.1, st.2.2.2.2.2.2.2.2.1, st.2.2.2.2.2.2.2.2.2.1, st.2.2.2.2.2.2.2.2.2.2.1, st.2.2.2.2.2.2.2.2.2.2.2.1, st.2.2.2.2.2.2.2.2.2.2.2.2.1, st.2.2.2.2.2.2.2.2.2.2.2.2.2.1, f, st.2.2.2.2.2.2.2.2.2.2.2.2.2.2.2)
def x_wei_s (st : XS) (d j : Nat) (v : Int64) : XS := (st.1, st.2.1, st.2.2.1, st.2.2.2.1, st.2.2.2.2.1, st.2.2.2.2.2.1, st.2.2.2.2.2.2.1, st.2.2.2.2.2.2.2.1, st.2.2.2.2.2.2.2.2.1, st.2.2.2.2.2.2.2.2.2.1, st.2.2.2.2.2.2.2.2.2.2.1, st.2.2.2.2.2.2.2.2.2.2.2.1, st.2.2.2.2.2.2.2.2.2.2.2.2.1, st.2.2.2.2.2.2.2.2.2.2.2.2.2.1, st.2.2.2.2.2.2.2.2.2.2.2.2.2.2.1, fun i => if i = d then vp_updL (st.2.2.2.2.2.2.2.2.2.2.2.2.2.2.2.1 d) j v else st.2.2.2.2.2.2.2.2.2.2.2.2.2.2.2.1 i, st.2.2.2.2.2.2.2.2.2.2.2.2.2.2.2.2)
def x_wei_f (st : XS) (d : Nat) (f : Nat → Int64) : XS := (st.1, st.2.1, st.2.2.1, st.2.2.2.1, st.2.2.2.2.1, st.2.2.2.2.2.1, st.2.2.2.2.2.2.1, st.2.2.2.2.2.2.2.1, st.2.2.2.2.2.2.2.2.1, st.2.2.2.2.2.2.2.2.2.1, st.2.2.2.2.2.2.2.2.2.2.1, st.2.2.2.2.2.2.2.2.2.2.2.1, st.2.2.2.2.2.2.2.2.2.2.2.2.1, st.2.2.2.2.2.2.2.2.2.2.2.2.2.1, st.2.2.2.2.2.2.2.2.2.2.2.2.2.2.1, fun i => if i = d then f else st.2.2.2.2.2.2.2.2.2.2.2.2.2.2.2.1 i, st.2.2.2.2.2.2.2.2.2.2.2.2.2.2.2.2)
def x_nT_s (st : XS) (j : Nat) (v : Int32) : XS := (st.1, st.2.1, st.2.2.1, st.2.2.2.1, st.2.2.2.2.1, st.2.2.2.2.2.1, st.2.2.2.2.2.2.1, st.2.2.2.2.2.2.2.1, st.2.2.2.2.2.2.2.2.1, st.2.2.2.2.2.2.2.2.2.1, st.2.2.2.2.2.2.2.2.2.2.1, st.2.2.2.2.2.2.2.2.2.2.2.1, st.2.2.2.2.2.2.2.2.2.2.2.2.1, st.2.2.2.2.2.2.2.2.2.2.2.2.2.1, st.2.2.2.2.2.2.2.2.2.2.2.2.2.2.1, st.2.2.2.2.2.2.2.2.2.2.2.2.2.2.2.1, upd (st.2.2.2.2.2.2.2.2.2.2.2.2.2.2.2.2.1) j v, st.2.2.2.2.2.2.2.2.2.2.2.2.2.2.2.2.2)
def x_nT_f (st : XS) (f : Nat → Int32) : XS := (st.1, st.2.1, st.2.2.1, st.2.2.2.1, st.2.2.2.2.1, st.2.2.2.2.2.1, st.2.2.2.2.2.2.1, st.2.2.2.2.2.2.2.1, st.2.2.2.2.2.2.2.2.1, st.2.2.2.2.2.2.2.2.2.1, st.2.2.2.2.2.2.2.2.2.2.1, st.2.2.2.2.2.2.2.2.2.2.2.1, st.2.2.2.2.2.2.2.2.2.2.2.2.1, st.2.2.2.2.2.2.2.2.2.2.2.2.2.1, st.2.2.2.2.2.2.2.2.2.2.2.2.2.2.1, st.2.2.2.2.2.2.2.2.2.2.2.2.2.2.2.1, f, st.2.2.2.2.2.2.2.2.2.2.2.2.2.2.2.2.2)
def x_nL_s (st : XS) (j : Nat) (v : Int32) : XS := (st.1, st.2.1, st.2.2.1, st.2.2.2.1, st.2.2.2.2.1, st.2.2.2.2.2.1, st.2.2.2.2.2.2.1, st.2.2.2.2.2.2.2.1, st.2.2.2.2.2.2.2.2.1, st.2.2.2.2.2.2.2.2.2.1, st.2.2.2.2.2.2.2.2.2.2.1, st.2.2.2.2.2.2.2.2.2.2.2.1, st.2.2.2.2.2.2.2.2.2.2.2.2.1, st.2.2.2.2.2.2.2.2.2.2.2.2.2.1, st.2.2.2.2.2.2.2.2.2.2.2.2.2.2.1, st.2.2.2.2.2.2.2.2.2.2.2.2.2.2.2.1, st.2.2.2.2.2.2.2.2.2.2.2.2.2.2.2.2.1, upd (st.2.2.2.2.2.2.2.2.2.2.2.2.2.2.2.2.2.1) j v, st.2.2.2.2.2.2.2.2.2.2.2.2.2.2.2.2.2.2)
def x_nL_f (st : XS) (f : Nat → Int32) : XS := (st.1, st.2.1, st.2.2.1, st.2.2.2.1, st.2.2.2.2.1, st.2.2.2.2.2.1, st.2.2.2.2.2.2.1, st.2.2.2.2.2.2.2.1, st.2.2.2.2.2.2.2.2.1, st.2.2.2.2.2.2.2.2.2.1, st.2.2.2.2.2.2.2.2.2.2.1, st.2.2.2.2.2.2.2.2.2.2.2.1, st.2.2.2.2.2.2.2.2.2.2.2.2.1, st.2.2.2.2.2.2.2.2.2.2.2.2.2.1, st.2.2.2.2.2.2.2.2.2.2.2.2.2.2.1, st.2.2.2.2.2.2.2.2.2.2.2.2.2.2.2.1, st.2.2.2.2.2.2.2.2.2.2.2.2.2.2.2.2.1, f, st.2.2.2.2.2.2.2.2.2.2.2.2.2.2.2.2.2.2)
def x_nA_s (st : XS) (j : Nat) (v : Int32) : XS := (st.1, st.2.1, st.2.2.1, st.2.2.2.1, st.2.2.2.2.1, st.2.2.2.2.2.1, st.2.2.2.2.2.2.1, st.2.2.2.2.2.2.2.1, st.2.2.2.2.2.2.2.2.1, st.2.2.2.2.2.2.2.2.2.1, st.2.2.2.2.2.2.2.2.2.2.1, st.2.2.2.2.2.2.2.2.2.2.2.1, st.2.2.2.2.2.2.2.2.2.2.2.2.1, st.2.2.2.2.2.2.2.2.2.2.2.2.2.1, st.2.2.2.2.2.2.2.2.2.2.2.2.2.2.1, st.2.2.2.2.2.2.2.2.2.2.2.2.2.2.2.1, st.2.2.2.2.2.2.2.2.2.2.2.2.2.2.2.2.1, st.2.2.2.2.2.2.2.2.2.2.2.2.2.2.2.2.2.1, upd (st.2.2.2.2.2.2.2.2.2.2.2.2.2.2.2.2.2.2) j v)
def x_nA_f (st : XS) (f : Nat → Int32) : XS := (st.1, st.2.1, st.2.2.1, st.2.2.2.1, st.2.2.2.2.1, st.2.2.2.2.2.1, st.2.2.2.2.2.2.1, st.2.2.2.2.2.2.2.1, st.2.2.2.2.2.2.2.2.1, st.2.2.2.2.2.2.2.2.2.1, st.2.2.2.2.2.2.2.2.2.2.1, st.2.2.2.2.2.2.2.2.2.2.2.1, st.2.2.2.2.2.2.2.2.2.2.2.2.1, st.2.2.2.2.2.2.2.2.2.2.2.2.2.1, st.2.2.2.2.2.2.2.2.2.2.2.2.2.2.1, st.2.2.2.2.2.2.2.2.2.2.2.2.2.2.2.1, st.2.2.2.2.2.2.2.2.2.2.2.2.2.2.2.2.1, st.2.2.2.2.2.2.2.2.2.2.2.2.2.2.2.2.2.1, f)
def x_W (cs : Nat → ClassId) (a : Nat → Nat) (st : XS) : va_W := [
  (a 0, .inr (0, [.ref (a 1), .ref (a 5), .ref (a 15), .ref (a 16), .int (x_opn st), .int (x_pla st)])),
  (a 1, .inr (1, [.ref (a 2), .ref (a 3), .ref (a 4), .int (x_cN st), .int (x_fN st)])),
  (a 2, .inl (cs 0, 13, .inr (.inl (x_pri st)))),
  (a 3, .inl (cs 1, 13, .inl (x_mem st))),
  (a 4, .inl (cs 1, 13, .inl (x_lea st))),
  (a 5, .inr (2, [.ref (a 6), .ref (a 7), .ref (a 8), .int (x_tN st)])),
  (a 6, .inl (cs 1, 6, .inl (x_cst st))),
  (a 7, .inl (cs 1, 6, .inl (x_nee st))),
  (a 8, .inl (cs 3, 6, .inr (.inr (.inr (.inr (fun i => if i < 6 then some (a (9 + i)) else none)))))),
  (a 9, .inl (cs 1, 13, .inl (x_tab st 0))),
  (a 10, .inl (cs 1, 13, .inl (x_tab st 1))),
  (a 11, .inl (cs 1, 13, .inl (x_tab st 2))),
  (a 12, .inl (cs 1, 13, .inl (x_tab st 3))),
  (a 13, .inl (cs 1, 13, .inl (x_tab st 4))),
  (a 14, .inl (cs 1, 13, .inl (x_tab st 5))),
  (a 15, .inr (3, [.ref (a 1), .ref (a 5)])),
  (a 16, .inr (4, [.ref (a 15), .ref (a 17), .ref (a 18), .ref (a 19), .ref (a 26), .ref (a 27), .ref (a 28), .int (x_nod st), .long (x_tho st)])),
  (a 17, .inl (cs 0, 1024, .inr (.inl (x_val st)))),
  (a 18, .inl (cs 2, 1024, .inl (x_pic st))),
  (a 19, .inl (cs 4, 6, .inr (.inr (.inr (.inr (fun i => if i < 6 then some (a (20 + i)) else none)))))),
  (a 20, .inl (cs 0, 13, .inr (.inl (x_wei st 0)))),
  (a 21, .inl (cs 0, 13, .inr (.inl (x_wei st 1)))),
  (a 22, .inl (cs 0, 13, .inr (.inl (x_wei st 2)))),
  (a 23, .inl (cs 0, 13, .inr (.inl (x_wei st 3)))),
  (a 24, .inl (cs 0, 13, .inr (.inl (x_wei st 4)))),
  (a 25, .inl (cs 0, 13, .inr (.inl (x_wei st 5)))),
  (a 26, .inl (cs 2, 300, .inl (x_nT st))),
  (a 27, .inl (cs 2, 300, .inl (x_nL st))),
  (a 28, .inl (cs 2, 300, .inl (x_nA st)))]
def x_A (a : Nat → Nat) : Nat → Prop := fun q => ∃ k : Nat, k < 29 ∧ q = a k
theorem x_W_len (cs : Nat → ClassId) (a : Nat → Nat) (st : XS) : (x_W cs a st).length = 29 := rfl
theorem x_W_at (cs : Nat → ClassId) (a : Nat → Nat) (st : XS) : ∀ (k : Nat) (q : Nat × va_E), (x_W cs a st)[k]? = some q → k < 29 ∧ q.1 = a k := by
  intro k q h
  have hk : k < 29 := (List.getElem?_eq_some_iff.mp h).1
  refine ⟨hk, ?_⟩
  match k, hk with
  | 0, _ => cases h; rfl
  | 1, _ => cases h; rfl
  | 2, _ => cases h; rfl
  | 3, _ => cases h; rfl
  | 4, _ => cases h; rfl
  | 5, _ => cases h; rfl
  | 6, _ => cases h; rfl
  | 7, _ => cases h; rfl
  | 8, _ => cases h; rfl
  | 9, _ => cases h; rfl
  | 10, _ => cases h; rfl
  | 11, _ => cases h; rfl
  | 12, _ => cases h; rfl
  | 13, _ => cases h; rfl
  | 14, _ => cases h; rfl
  | 15, _ => cases h; rfl
  | 16, _ => cases h; rfl
  | 17, _ => cases h; rfl
  | 18, _ => cases h; rfl
  | 19, _ => cases h; rfl
  | 20, _ => cases h; rfl
  | 21, _ => cases h; rfl
  | 22, _ => cases h; rfl
  | 23, _ => cases h; rfl
  | 24, _ => cases h; rfl
  | 25, _ => cases h; rfl
  | 26, _ => cases h; rfl
  | 27, _ => cases h; rfl
  | 28, _ => cases h; rfl
theorem x_D {a : Nat → Nat} (hi : ∀ i j : Nat, i < 29 → j < 29 → a i = a j → i = j) (cs : Nat → ClassId) (st : XS) : va_D (x_A a) (x_W cs a st) :=
  ⟨fun i j p q hp hq e => by
    obtain ⟨h1, e1⟩ := x_W_at cs a st i p hp
    obtain ⟨h2, e2⟩ := x_W_at cs a st j q hq
    exact hi i j h1 h2 (by rw [← e1, ← e2, e]), fun k q h => ⟨k, x_W_at cs a st k q h⟩⟩
theorem x_fin {D : va_G} {cl : List vw_C} {cs : Nat → ClassId} {a : Nat → Nat} {st st2 : XS} {t : State} {H : Heap} (ht : t.heap = H) (e : st = st2) (hP : va_P D cl (x_W cs a st) H) : va_P D cl (x_W cs a st2) t.heap := by rw [ht, ← e]; exact hP
theorem x_opn_put (cs : Nat → ClassId) (a : Nat → Nat) (st : XS) (v : Int32) : (x_W cs a st).set 0 (a 0, .inr (0, ([.ref (a 1), .ref (a 5), .ref (a 15), .ref (a 16), .int (x_opn st), .int (x_pla st)] : List Value).set 4 (.int v))) = x_W cs a (x_opn_s st v) := by
  simp only [x_W, x_opn, x_pla, x_cN, x_fN, x_pri, x_mem, x_lea, x_tN, x_cst, x_nee, x_tab, x_nod, x_tho, x_val, x_pic, x_wei, x_nT, x_nL, x_nA, x_opn_s, List.set]
theorem x_pla_put (cs : Nat → ClassId) (a : Nat → Nat) (st : XS) (v : Int32) : (x_W cs a st).set 0 (a 0, .inr (0, ([.ref (a 1), .ref (a 5), .ref (a 15), .ref (a 16), .int (x_opn st), .int (x_pla st)] : List Value).set 5 (.int v))) = x_W cs a (x_pla_s st v) := by
  simp only [x_W, x_opn, x_pla, x_cN, x_fN, x_pri, x_mem, x_lea, x_tN, x_cst, x_nee, x_tab, x_nod, x_tho, x_val, x_pic, x_wei, x_nT, x_nL, x_nA, x_pla_s, List.set]
theorem x_cN_put (cs : Nat → ClassId) (a : Nat → Nat) (st : XS) (v : Int32) : (x_W cs a st).set 1 (a 1, .inr (1, ([.ref (a 2), .ref (a 3), .ref (a 4), .int (x_cN st), .int (x_fN st)] : List Value).set 3 (.int v))) = x_W cs a (x_cN_s st v) := by
  simp only [x_W, x_opn, x_pla, x_cN, x_fN, x_pri, x_mem, x_lea, x_tN, x_cst, x_nee, x_tab, x_nod, x_tho, x_val, x_pic, x_wei, x_nT, x_nL, x_nA, x_cN_s, List.set]
theorem x_fN_put (cs : Nat → ClassId) (a : Nat → Nat) (st : XS) (v : Int32) : (x_W cs a st).set 1 (a 1, .inr (1, ([.ref (a 2), .ref (a 3), .ref (a 4), .int (x_cN st), .int (x_fN st)] : List Value).set 4 (.int v))) = x_W cs a (x_fN_s st v) := by
  simp only [x_W, x_opn, x_pla, x_cN, x_fN, x_pri, x_mem, x_lea, x_tN, x_cst, x_nee, x_tab, x_nod, x_tho, x_val, x_pic, x_wei, x_nT, x_nL, x_nA, x_fN_s, List.set]
theorem x_pri_put (cs : Nat → ClassId) (a : Nat → Nat) (st : XS) (j : Nat) (v : Int64) : (x_W cs a st).set 2 (a 2, .inl (cs 0, 13, .inr (.inl (vp_updL (x_pri st) j v)))) = x_W cs a (x_pri_s st j v) := by
  simp only [x_W, x_opn, x_pla, x_cN, x_fN, x_pri, x_mem, x_lea, x_tN, x_cst, x_nee, x_tab, x_nod, x_tho, x_val, x_pic, x_wei, x_nT, x_nL, x_nA, x_pri_s, List.set]
theorem x_pri_all (cs : Nat → ClassId) (a : Nat → Nat) (st : XS) (f : Nat → Int64) : (x_W cs a st).set 2 (a 2, .inl (cs 0, 13, .inr (.inl (f)))) = x_W cs a (x_pri_f st f) := by
  simp only [x_W, x_opn, x_pla, x_cN, x_fN, x_pri, x_mem, x_lea, x_tN, x_cst, x_nee, x_tab, x_nod, x_tho, x_val, x_pic, x_wei, x_nT, x_nL, x_nA, x_pri_f, List.set]
theorem x_mem_put (cs : Nat → ClassId) (a : Nat → Nat) (st : XS) (j : Nat) (v : Int32) : (x_W cs a st).set 3 (a 3, .inl (cs 1, 13, .inl (upd (x_mem st) j v))) = x_W cs a (x_mem_s st j v) := by
  simp only [x_W, x_opn, x_pla, x_cN, x_fN, x_pri, x_mem, x_lea, x_tN, x_cst, x_nee, x_tab, x_nod, x_tho, x_val, x_pic, x_wei, x_nT, x_nL, x_nA, x_mem_s, List.set]
theorem x_mem_all (cs : Nat → ClassId) (a : Nat → Nat) (st : XS) (f : Nat → Int32) : (x_W cs a st).set 3 (a 3, .inl (cs 1, 13, .inl (f))) = x_W cs a (x_mem_f st f) := by
  simp only [x_W, x_opn, x_pla, x_cN, x_fN, x_pri, x_mem, x_lea, x_tN, x_cst, x_nee, x_tab, x_nod, x_tho, x_val, x_pic, x_wei, x_nT, x_nL, x_nA, x_mem_f, List.set]
theorem x_lea_put (cs : Nat → ClassId) (a : Nat → Nat) (st : XS) (j : Nat) (v : Int32) : (x_W cs a st).set 4 (a 4, .inl (cs 1, 13, .inl (upd (x_lea st) j v))) = x_W cs a (x_lea_s st j v) := by
  simp only [x_W, x_opn, x_pla, x_cN, x_fN, x_pri, x_mem, x_lea, x_tN, x_cst, x_nee, x_tab, x_nod, x_tho, x_val, x_pic, x_wei, x_nT, x_nL, x_nA, x_lea_s, List.set]
theorem x_lea_all (cs : Nat → ClassId) (a : Nat → Nat) (st : XS) (f : Nat → Int32) : (x_W cs a st).set 4 (a 4, .inl (cs 1, 13, .inl (f))) = x_W cs a (x_lea_f st f) := by
  simp only [x_W, x_opn, x_pla, x_cN, x_fN, x_pri, x_mem, x_lea, x_tN, x_cst, x_nee, x_tab, x_nod, x_tho, x_val, x_pic, x_wei, x_nT, x_nL, x_nA, x_lea_f, List.set]
theorem x_tN_put (cs : Nat → ClassId) (a : Nat → Nat) (st : XS) (v : Int32) : (x_W cs a st).set 5 (a 5, .inr (2, ([.ref (a 6), .ref (a 7), .ref (a 8), .int (x_tN st)] : List Value).set 3 (.int v))) = x_W cs a (x_tN_s st v) := by
  simp only [x_W, x_opn, x_pla, x_cN, x_fN, x_pri, x_mem, x_lea, x_tN, x_cst, x_nee, x_tab, x_nod, x_tho, x_val, x_pic, x_wei, x_nT, x_nL, x_nA, x_tN_s, List.set]
theorem x_cst_put (cs : Nat → ClassId) (a : Nat → Nat) (st : XS) (j : Nat) (v : Int32) : (x_W cs a st).set 6 (a 6, .inl (cs 1, 6, .inl (upd (x_cst st) j v))) = x_W cs a (x_cst_s st j v) := by
  simp only [x_W, x_opn, x_pla, x_cN, x_fN, x_pri, x_mem, x_lea, x_tN, x_cst, x_nee, x_tab, x_nod, x_tho, x_val, x_pic, x_wei, x_nT, x_nL, x_nA, x_cst_s, List.set]
theorem x_cst_all (cs : Nat → ClassId) (a : Nat → Nat) (st : XS) (f : Nat → Int32) : (x_W cs a st).set 6 (a 6, .inl (cs 1, 6, .inl (f))) = x_W cs a (x_cst_f st f) := by
  simp only [x_W, x_opn, x_pla, x_cN, x_fN, x_pri, x_mem, x_lea, x_tN, x_cst, x_nee, x_tab, x_nod, x_tho, x_val, x_pic, x_wei, x_nT, x_nL, x_nA, x_cst_f, List.set]
theorem x_nee_put (cs : Nat → ClassId) (a : Nat → Nat) (st : XS) (j : Nat) (v : Int32) : (x_W cs a st).set 7 (a 7, .inl (cs 1, 6, .inl (upd (x_nee st) j v))) = x_W cs a (x_nee_s st j v) := by
  simp only [x_W, x_opn, x_pla, x_cN, x_fN, x_pri, x_mem, x_lea, x_tN, x_cst, x_nee, x_tab, x_nod, x_tho, x_val, x_pic, x_wei, x_nT, x_nL, x_nA, x_nee_s, List.set]
theorem x_nee_all (cs : Nat → ClassId) (a : Nat → Nat) (st : XS) (f : Nat → Int32) : (x_W cs a st).set 7 (a 7, .inl (cs 1, 6, .inl (f))) = x_W cs a (x_nee_f st f) := by
  simp only [x_W, x_opn, x_pla, x_cN, x_fN, x_pri, x_mem, x_lea, x_tN, x_cst, x_nee, x_tab, x_nod, x_tho, x_val, x_pic, x_wei, x_nT, x_nL, x_nA, x_nee_f, List.set]
theorem x_nod_put (cs : Nat → ClassId) (a : Nat → Nat) (st : XS) (v : Int32) : (x_W cs a st).set 16 (a 16, .inr (4, ([.ref (a 15), .ref (a 17), .ref (a 18), .ref (a 19), .ref (a 26), .ref (a 27), .ref (a 28), .int (x_nod st), .long (x_tho st)] : List Value).set 7 (.int v))) = x_W cs a (x_nod_s st v) := by
  simp only [x_W, x_opn, x_pla, x_cN, x_fN, x_pri, x_mem, x_lea, x_tN, x_cst, x_nee, x_tab, x_nod, x_tho, x_val, x_pic, x_wei, x_nT, x_nL, x_nA, x_nod_s, List.set]
theorem x_tho_put (cs : Nat → ClassId) (a : Nat → Nat) (st : XS) (v : Int64) : (x_W cs a st).set 16 (a 16, .inr (4, ([.ref (a 15), .ref (a 17), .ref (a 18), .ref (a 19), .ref (a 26), .ref (a 27), .ref (a 28), .int (x_nod st), .long (x_tho st)] : List Value).set 8 (.long v))) = x_W cs a (x_tho_s st v) := by
  simp only [x_W, x_opn, x_pla, x_cN, x_fN, x_pri, x_mem, x_lea, x_tN, x_cst, x_nee, x_tab, x_nod, x_tho, x_val, x_pic, x_wei, x_nT, x_nL, x_nA, x_tho_s, List.set]
theorem x_val_put (cs : Nat → ClassId) (a : Nat → Nat) (st : XS) (j : Nat) (v : Int64) : (x_W cs a st).set 17 (a 17, .inl (cs 0, 1024, .inr (.inl (vp_updL (x_val st) j v)))) = x_W cs a (x_val_s st j v) := by
  simp only [x_W, x_opn, x_pla, x_cN, x_fN, x_pri, x_mem, x_lea, x_tN, x_cst, x_nee, x_tab, x_nod, x_tho, x_val, x_pic, x_wei, x_nT, x_nL, x_nA, x_val_s, List.set]
theorem x_val_all (cs : Nat → ClassId) (a : Nat → Nat) (st : XS) (f : Nat → Int64) : (x_W cs a st).set 17 (a 17, .inl (cs 0, 1024, .inr (.inl (f)))) = x_W cs a (x_val_f st f) := by
  simp only [x_W, x_opn, x_pla, x_cN, x_fN, x_pri, x_mem, x_lea, x_tN, x_cst, x_nee, x_tab, x_nod, x_tho, x_val, x_pic, x_wei, x_nT, x_nL, x_nA, x_val_f, List.set]
theorem x_pic_put (cs : Nat → ClassId) (a : Nat → Nat) (st : XS) (j : Nat) (v : Int32) : (x_W cs a st).set 18 (a 18, .inl (cs 2, 1024, .inl (upd (x_pic st) j v))) = x_W cs a (x_pic_s st j v) := by
  simp only [x_W, x_opn, x_pla, x_cN, x_fN, x_pri, x_mem, x_lea, x_tN, x_cst, x_nee, x_tab, x_nod, x_tho, x_val, x_pic, x_wei, x_nT, x_nL, x_nA, x_pic_s, List.set]
theorem x_pic_all (cs : Nat → ClassId) (a : Nat → Nat) (st : XS) (f : Nat → Int32) : (x_W cs a st).set 18 (a 18, .inl (cs 2, 1024, .inl (f))) = x_W cs a (x_pic_f st f) := by
  simp only [x_W, x_opn, x_pla, x_cN, x_fN, x_pri, x_mem, x_lea, x_tN, x_cst, x_nee, x_tab, x_nod, x_tho, x_val, x_pic, x_wei, x_nT, x_nL, x_nA, x_pic_f, List.set]
theorem x_nT_put (cs : Nat → ClassId) (a : Nat → Nat) (st : XS) (j : Nat) (v : Int32) : (x_W cs a st).set 26 (a 26, .inl (cs 2, 300, .inl (upd (x_nT st) j v))) = x_W cs a (x_nT_s st j v) := by
  simp only [x_W, x_opn, x_pla, x_cN, x_fN, x_pri, x_mem, x_lea, x_tN, x_cst, x_nee, x_tab, x_nod, x_tho, x_val, x_pic, x_wei, x_nT, x_nL, x_nA, x_nT_s, List.set]
theorem x_nT_all (cs : Nat → ClassId) (a : Nat → Nat) (st : XS) (f : Nat → Int32) : (x_W cs a st).set 26 (a 26, .inl (cs 2, 300, .inl (f))) = x_W cs a (x_nT_f st f) := by
  simp only [x_W, x_opn, x_pla, x_cN, x_fN, x_pri, x_mem, x_lea, x_tN, x_cst, x_nee, x_tab, x_nod, x_tho, x_val, x_pic, x_wei, x_nT, x_nL, x_nA, x_nT_f, List.set]
theorem x_nL_put (cs : Nat → ClassId) (a : Nat → Nat) (st : XS) (j : Nat) (v : Int32) : (x_W cs a st).set 27 (a 27, .inl (cs 2, 300, .inl (upd (x_nL st) j v))) = x_W cs a (x_nL_s st j v) := by
  simp only [x_W, x_opn, x_pla, x_cN, x_fN, x_pri, x_mem, x_lea, x_tN, x_cst, x_nee, x_tab, x_nod, x_tho, x_val, x_pic, x_wei, x_nT, x_nL, x_nA, x_nL_s, List.set]
theorem x_nL_all (cs : Nat → ClassId) (a : Nat → Nat) (st : XS) (f : Nat → Int32) : (x_W cs a st).set 27 (a 27, .inl (cs 2, 300, .inl (f))) = x_W cs a (x_nL_f st f) := by
  simp only [x_W, x_opn, x_pla, x_cN, x_fN, x_pri, x_mem, x_lea, x_tN, x_cst, x_nee, x_tab, x_nod, x_tho, x_val, x_pic, x_wei, x_nT, x_nL, x_nA, x_nL_f, List.set]
theorem x_nA_put (cs : Nat → ClassId) (a : Nat → Nat) (st : XS) (j : Nat) (v : Int32) : (x_W cs a st).set 28 (a 28, .inl (cs 2, 300, .inl (upd (x_nA st) j v))) = x_W cs a (x_nA_s st j v) := by
  simp only [x_W, x_opn, x_pla, x_cN, x_fN, x_pri, x_mem, x_lea, x_tN, x_cst, x_nee, x_tab, x_nod, x_tho, x_val, x_pic, x_wei, x_nT, x_nL, x_nA, x_nA_s, List.set]
theorem x_nA_all (cs : Nat → ClassId) (a : Nat → Nat) (st : XS) (f : Nat → Int32) : (x_W cs a st).set 28 (a 28, .inl (cs 2, 300, .inl (f))) = x_W cs a (x_nA_f st f) := by
  simp only [x_W, x_opn, x_pla, x_cN, x_fN, x_pri, x_mem, x_lea, x_tN, x_cst, x_nee, x_tab, x_nod, x_tho, x_val, x_pic, x_wei, x_nT, x_nL, x_nA, x_nA_f, List.set]
theorem x_tab_row (cs : Nat → ClassId) (a : Nat → Nat) (st : XS) {d : Nat} (h : d < 6) : (x_W cs a st)[9 + d]? = some (a (9 + d), .inl (cs 1, 13, .inl (x_tab st d))) := by
  match d, h with
  | 0, _ => rfl
  | 1, _ => rfl
  | 2, _ => rfl
  | 3, _ => rfl
  | 4, _ => rfl
  | 5, _ => rfl
theorem x_tab_set (cs : Nat → ClassId) (a : Nat → Nat) (st : XS) {d : Nat} (h : d < 6) (f : Nat → Int32) : (x_W cs a st).set (9 + d) (a (9 + d), .inl (cs 1, 13, .inl (f))) = x_W cs a (x_tab_f st d f) := by
  match d, h with
  | 0, _ => rfl
  | 1, _ => rfl
  | 2, _ => rfl
  | 3, _ => rfl
  | 4, _ => rfl
  | 5, _ => rfl
theorem x_tab_put (cs : Nat → ClassId) (a : Nat → Nat) (st : XS) {d : Nat} (h : d < 6) (j : Nat) (v : Int32) : (x_W cs a st).set (9 + d) (a (9 + d), .inl (cs 1, 13, .inl (upd (x_tab st d) j v))) = x_W cs a (x_tab_s st d j v) := x_tab_set cs a st h _
theorem x_wei_row (cs : Nat → ClassId) (a : Nat → Nat) (st : XS) {d : Nat} (h : d < 6) : (x_W cs a st)[20 + d]? = some (a (20 + d), .inl (cs 0, 13, .inr (.inl (x_wei st d)))) := by
  match d, h with
  | 0, _ => rfl
  | 1, _ => rfl
  | 2, _ => rfl
  | 3, _ => rfl
  | 4, _ => rfl
  | 5, _ => rfl
theorem x_wei_set (cs : Nat → ClassId) (a : Nat → Nat) (st : XS) {d : Nat} (h : d < 6) (f : Nat → Int64) : (x_W cs a st).set (20 + d) (a (20 + d), .inl (cs 0, 13, .inr (.inl (f)))) = x_W cs a (x_wei_f st d f) := by
  match d, h with
  | 0, _ => rfl
  | 1, _ => rfl
  | 2, _ => rfl
  | 3, _ => rfl
  | 4, _ => rfl
  | 5, _ => rfl
theorem x_wei_put (cs : Nat → ClassId) (a : Nat → Nat) (st : XS) {d : Nat} (h : d < 6) (j : Nat) (v : Int64) : (x_W cs a st).set (20 + d) (a (20 + d), .inl (cs 0, 13, .inr (.inl (vp_updL (x_wei st d) j v)))) = x_W cs a (x_wei_s st d j v) := x_wei_set cs a st h _
abbrev g_ty (cs : Nat → ClassId) : List (ClassId × FieldType) := [(cs 0, .long), (cs 1, .int), (cs 2, .byte), (cs 3, .array .int), (cs 4, .array .long), (cs 5, .boolean)]
abbrev x_pre (dC : Nat → ClassId) (dI : Nat → Nat → Nat) (cs : Nat → ClassId) (a : Nat → Nat) (st : XS) : State → Prop := fun U => va_P (dC, dI) vwCl (x_W cs a st) U.heap ∧ va_K (dC, dI) vwCl (g_ty cs) U ∧ NW U
