section
-- ===== PART A: goes FIRST, ahead of the names: the tables' words, and 'selects' of the private methods out of them =====
/-- a private method of a class that the tables say can be made, by its rows of tables_1 -/
def lw_okq (q : MethodName × Nat) : Prop := (q.1.cls ≠ "java/lang/invoke/MethodHandle" ∧ q.1.cls ≠ "java/lang/invoke/VarHandle") ∧ Cond.instantiable q.1.cls q.2 ∈ tables_1 ∧ Cond.privateMethod q.1 ∈ tables_1 ∧ Cond.instanceMethod q.1 ∈ tables_1
theorem lw_p0 : lw_okq (⟨"GuideSearch$Tests", "hasPlace", "(II)Z"⟩, 4) := ⟨⟨by decide +kernel, by decide +kernel⟩, List.mem_of_getElem? (i := 50) (by decide +kernel), List.mem_of_getElem? (i := 196) (by decide +kernel), List.mem_of_getElem? (i := 197) (by decide +kernel)⟩
theorem lw_p1 : lw_okq (⟨"GuideSearch$Plan", "weighFirst", "(I)V"⟩, 9) := ⟨⟨by decide +kernel, by decide +kernel⟩, List.mem_of_getElem? (i := 90) (by decide +kernel), List.mem_of_getElem? (i := 254) (by decide +kernel), List.mem_of_getElem? (i := 255) (by decide +kernel)⟩
theorem lw_p2 : lw_okq (⟨"GuideSearch$Plan", "choose", "(II)V"⟩, 9) := ⟨⟨by decide +kernel, by decide +kernel⟩, List.mem_of_getElem? (i := 90) (by decide +kernel), List.mem_of_getElem? (i := 274) (by decide +kernel), List.mem_of_getElem? (i := 275) (by decide +kernel)⟩
theorem lw_p3 : lw_okq (⟨"GuideSearch$Plan", "leftAt", "(I)I"⟩, 9) := ⟨⟨by decide +kernel, by decide +kernel⟩, List.mem_of_getElem? (i := 90) (by decide +kernel), List.mem_of_getElem? (i := 278) (by decide +kernel), List.mem_of_getElem? (i := 279) (by decide +kernel)⟩
theorem lw_p4 : lw_okq (⟨"GuideSearch$Plan", "weightAt", "(I)J"⟩, 9) := ⟨⟨by decide +kernel, by decide +kernel⟩, List.mem_of_getElem? (i := 90) (by decide +kernel), List.mem_of_getElem? (i := 306) (by decide +kernel), List.mem_of_getElem? (i := 307) (by decide +kernel)⟩
theorem lw_p5 : lw_okq (⟨"GuideSearch$Plan", "valuesBehind", "(III)J"⟩, 9) := ⟨⟨by decide +kernel, by decide +kernel⟩, List.mem_of_getElem? (i := 90) (by decide +kernel), List.mem_of_getElem? (i := 316) (by decide +kernel), List.mem_of_getElem? (i := 317) (by decide +kernel)⟩
theorem lw_p6 : lw_okq (⟨"GuideSearch$Plan", "weighBehind", "(III)V"⟩, 9) := ⟨⟨by decide +kernel, by decide +kernel⟩, List.mem_of_getElem? (i := 90) (by decide +kernel), List.mem_of_getElem? (i := 323) (by decide +kernel), List.mem_of_getElem? (i := 324) (by decide +kernel)⟩
theorem lw_p7 : lw_okq (⟨"GuideSearch$Plan", "keep", "(III)V"⟩, 9) := ⟨⟨by decide +kernel, by decide +kernel⟩, List.mem_of_getElem? (i := 90) (by decide +kernel), List.mem_of_getElem? (i := 330) (by decide +kernel), List.mem_of_getElem? (i := 331) (by decide +kernel)⟩
theorem lw_p8 : lw_okq (⟨"GuideSearch$Cases", "bestGain", "(II)I"⟩, 2) := ⟨⟨by decide +kernel, by decide +kernel⟩, List.mem_of_getElem? (i := 76) (by decide +kernel), List.mem_of_getElem? (i := 346) (by decide +kernel), List.mem_of_getElem? (i := 347) (by decide +kernel)⟩
theorem lw_p9 : lw_okq (⟨"GuideSearch$Cases", "gain", "(II)J"⟩, 2) := ⟨⟨by decide +kernel, by decide +kernel⟩, List.mem_of_getElem? (i := 76) (by decide +kernel), List.mem_of_getElem? (i := 350) (by decide +kernel), List.mem_of_getElem? (i := 351) (by decide +kernel)⟩
theorem lw_p10 : lw_okq (⟨"GuideSearch$Cases", "greatestWeight", "(I)J"⟩, 2) := ⟨⟨by decide +kernel, by decide +kernel⟩, List.mem_of_getElem? (i := 76) (by decide +kernel), List.mem_of_getElem? (i := 354) (by decide +kernel), List.mem_of_getElem? (i := 355) (by decide +kernel)⟩
theorem lw_p11 : lw_okq (⟨"java/lang/Throwable", "fillInStackTrace", "(I)Ljava/lang/Throwable;"⟩, 6) := ⟨⟨by decide +kernel, by decide +kernel⟩, List.mem_of_getElem? (i := 468) (by decide +kernel), List.mem_of_getElem? (i := 466) (by decide +kernel), List.mem_of_getElem? (i := 467) (by decide +kernel)⟩
theorem lw_p12 : lw_okq (⟨"GuideSearchModel", "noFault", "(I)Z"⟩, 25) := ⟨⟨by decide +kernel, by decide +kernel⟩, List.mem_of_getElem? (i := 501) (by decide +kernel), List.mem_of_getElem? (i := 599) (by decide +kernel), List.mem_of_getElem? (i := 600) (by decide +kernel)⟩
theorem lw_p13 : lw_okq (⟨"GuideSearchModel", "noCause", "(I)Z"⟩, 25) := ⟨⟨by decide +kernel, by decide +kernel⟩, List.mem_of_getElem? (i := 501) (by decide +kernel), List.mem_of_getElem? (i := 603) (by decide +kernel), List.mem_of_getElem? (i := 604) (by decide +kernel)⟩
theorem lw_p14 : lw_okq (⟨"GuideSearchModel", "noTest", "(I)Z"⟩, 25) := ⟨⟨by decide +kernel, by decide +kernel⟩, List.mem_of_getElem? (i := 501) (by decide +kernel), List.mem_of_getElem? (i := 617) (by decide +kernel), List.mem_of_getElem? (i := 618) (by decide +kernel)⟩
theorem lw_p15 : lw_okq (⟨"GuideSearchModel", "oddsOf", "(III)I"⟩, 25) := ⟨⟨by decide +kernel, by decide +kernel⟩, List.mem_of_getElem? (i := 501) (by decide +kernel), List.mem_of_getElem? (i := 622) (by decide +kernel), List.mem_of_getElem? (i := 623) (by decide +kernel)⟩
def lw_privs_1 : List (MethodName × Nat) := [(⟨"GuideSearch$Tests", "hasPlace", "(II)Z"⟩, 4), (⟨"GuideSearch$Plan", "weighFirst", "(I)V"⟩, 9), (⟨"GuideSearch$Plan", "choose", "(II)V"⟩, 9), (⟨"GuideSearch$Plan", "leftAt", "(I)I"⟩, 9), (⟨"GuideSearch$Plan", "weightAt", "(I)J"⟩, 9), (⟨"GuideSearch$Plan", "valuesBehind", "(III)J"⟩, 9), (⟨"GuideSearch$Plan", "weighBehind", "(III)V"⟩, 9), (⟨"GuideSearch$Plan", "keep", "(III)V"⟩, 9), (⟨"GuideSearch$Cases", "bestGain", "(II)I"⟩, 2), (⟨"GuideSearch$Cases", "gain", "(II)J"⟩, 2), (⟨"GuideSearch$Cases", "greatestWeight", "(I)J"⟩, 2), (⟨"java/lang/Throwable", "fillInStackTrace", "(I)Ljava/lang/Throwable;"⟩, 6), (⟨"GuideSearchModel", "noFault", "(I)Z"⟩, 25), (⟨"GuideSearchModel", "noCause", "(I)Z"⟩, 25), (⟨"GuideSearchModel", "noTest", "(I)Z"⟩, 25), (⟨"GuideSearchModel", "oddsOf", "(III)I"⟩, 25)]
theorem lw_r1 : ∀ q ∈ lw_privs_1, lw_okq q := List.forall_mem_cons.mpr ⟨lw_p0, List.forall_mem_cons.mpr ⟨lw_p1, List.forall_mem_cons.mpr ⟨lw_p2, List.forall_mem_cons.mpr ⟨lw_p3, List.forall_mem_cons.mpr ⟨lw_p4, List.forall_mem_cons.mpr ⟨lw_p5, List.forall_mem_cons.mpr ⟨lw_p6, List.forall_mem_cons.mpr ⟨lw_p7, List.forall_mem_cons.mpr ⟨lw_p8, List.forall_mem_cons.mpr ⟨lw_p9, List.forall_mem_cons.mpr ⟨lw_p10, List.forall_mem_cons.mpr ⟨lw_p11, List.forall_mem_cons.mpr ⟨lw_p12, List.forall_mem_cons.mpr ⟨lw_p13, List.forall_mem_cons.mpr ⟨lw_p14, List.forall_mem_cons.mpr ⟨lw_p15, fun _ h => absurd h List.not_mem_nil⟩⟩⟩⟩⟩⟩⟩⟩⟩⟩⟩⟩⟩⟩⟩⟩
theorem lw_p16 : lw_okq (⟨"GuideSearchModel", "stateNow", "()I"⟩, 25) := ⟨⟨by decide +kernel, by decide +kernel⟩, List.mem_of_getElem? (i := 501) (by decide +kernel), List.mem_of_getElem? (i := 634) (by decide +kernel), List.mem_of_getElem? (i := 635) (by decide +kernel)⟩
theorem lw_p17 : lw_okq (⟨"GuideSearchModel", "oneStep", "(I)I"⟩, 25) := ⟨⟨by decide +kernel, by decide +kernel⟩, List.mem_of_getElem? (i := 501) (by decide +kernel), List.mem_of_getElem? (i := 639) (by decide +kernel), List.mem_of_getElem? (i := 640) (by decide +kernel)⟩
theorem lw_p18 : lw_okq (⟨"GuideSearchModel", "look", "(I)V"⟩, 25) := ⟨⟨by decide +kernel, by decide +kernel⟩, List.mem_of_getElem? (i := 501) (by decide +kernel), List.mem_of_getElem? (i := 643) (by decide +kernel), List.mem_of_getElem? (i := 644) (by decide +kernel)⟩
theorem lw_p19 : lw_okq (⟨"GuideSearchModel", "left", "()I"⟩, 25) := ⟨⟨by decide +kernel, by decide +kernel⟩, List.mem_of_getElem? (i := 501) (by decide +kernel), List.mem_of_getElem? (i := 647) (by decide +kernel), List.mem_of_getElem? (i := 648) (by decide +kernel)⟩
theorem lw_p20 : lw_okq (⟨"GuideSearchModel", "findUse", "()V"⟩, 25) := ⟨⟨by decide +kernel, by decide +kernel⟩, List.mem_of_getElem? (i := 501) (by decide +kernel), List.mem_of_getElem? (i := 651) (by decide +kernel), List.mem_of_getElem? (i := 652) (by decide +kernel)⟩
theorem lw_p21 : lw_okq (⟨"GuideSearchModel", "may", "(I)Z"⟩, 25) := ⟨⟨by decide +kernel, by decide +kernel⟩, List.mem_of_getElem? (i := 501) (by decide +kernel), List.mem_of_getElem? (i := 655) (by decide +kernel), List.mem_of_getElem? (i := 656) (by decide +kernel)⟩
theorem lw_p22 : lw_okq (⟨"GuideSearchModel", "free", "()I"⟩, 25) := ⟨⟨by decide +kernel, by decide +kernel⟩, List.mem_of_getElem? (i := 501) (by decide +kernel), List.mem_of_getElem? (i := 659) (by decide +kernel), List.mem_of_getElem? (i := 660) (by decide +kernel)⟩
theorem lw_p23 : lw_okq (⟨"GuideSearchModel", "gain", "(II)J"⟩, 25) := ⟨⟨by decide +kernel, by decide +kernel⟩, List.mem_of_getElem? (i := 501) (by decide +kernel), List.mem_of_getElem? (i := 663) (by decide +kernel), List.mem_of_getElem? (i := 664) (by decide +kernel)⟩
theorem lw_p24 : lw_okq (⟨"GuideSearchModel", "most", "()J"⟩, 25) := ⟨⟨by decide +kernel, by decide +kernel⟩, List.mem_of_getElem? (i := 501) (by decide +kernel), List.mem_of_getElem? (i := 667) (by decide +kernel), List.mem_of_getElem? (i := 668) (by decide +kernel)⟩
theorem lw_p25 : lw_okq (⟨"GuideSearchModel", "isBehind", "(II)Z"⟩, 25) := ⟨⟨by decide +kernel, by decide +kernel⟩, List.mem_of_getElem? (i := 501) (by decide +kernel), List.mem_of_getElem? (i := 677) (by decide +kernel), List.mem_of_getElem? (i := 678) (by decide +kernel)⟩
theorem lw_p26 : lw_okq (⟨"GuideSearchModel", "find", "(I)V"⟩, 25) := ⟨⟨by decide +kernel, by decide +kernel⟩, List.mem_of_getElem? (i := 501) (by decide +kernel), List.mem_of_getElem? (i := 681) (by decide +kernel), List.mem_of_getElem? (i := 682) (by decide +kernel)⟩
theorem lw_p27 : lw_okq (⟨"GuideSearchModel", "sum", "()J"⟩, 25) := ⟨⟨by decide +kernel, by decide +kernel⟩, List.mem_of_getElem? (i := 501) (by decide +kernel), List.mem_of_getElem? (i := 685) (by decide +kernel), List.mem_of_getElem? (i := 686) (by decide +kernel)⟩
theorem lw_p28 : lw_okq (⟨"GuideSearchModel", "write", "(I)V"⟩, 25) := ⟨⟨by decide +kernel, by decide +kernel⟩, List.mem_of_getElem? (i := 501) (by decide +kernel), List.mem_of_getElem? (i := 696) (by decide +kernel), List.mem_of_getElem? (i := 697) (by decide +kernel)⟩
def lw_privs_2 : List (MethodName × Nat) := [(⟨"GuideSearchModel", "stateNow", "()I"⟩, 25), (⟨"GuideSearchModel", "oneStep", "(I)I"⟩, 25), (⟨"GuideSearchModel", "look", "(I)V"⟩, 25), (⟨"GuideSearchModel", "left", "()I"⟩, 25), (⟨"GuideSearchModel", "findUse", "()V"⟩, 25), (⟨"GuideSearchModel", "may", "(I)Z"⟩, 25), (⟨"GuideSearchModel", "free", "()I"⟩, 25), (⟨"GuideSearchModel", "gain", "(II)J"⟩, 25), (⟨"GuideSearchModel", "most", "()J"⟩, 25), (⟨"GuideSearchModel", "isBehind", "(II)Z"⟩, 25), (⟨"GuideSearchModel", "find", "(I)V"⟩, 25), (⟨"GuideSearchModel", "sum", "()J"⟩, 25), (⟨"GuideSearchModel", "write", "(I)V"⟩, 25)]
theorem lw_r2 : ∀ q ∈ lw_privs_2, lw_okq q := List.forall_mem_cons.mpr ⟨lw_p16, List.forall_mem_cons.mpr ⟨lw_p17, List.forall_mem_cons.mpr ⟨lw_p18, List.forall_mem_cons.mpr ⟨lw_p19, List.forall_mem_cons.mpr ⟨lw_p20, List.forall_mem_cons.mpr ⟨lw_p21, List.forall_mem_cons.mpr ⟨lw_p22, List.forall_mem_cons.mpr ⟨lw_p23, List.forall_mem_cons.mpr ⟨lw_p24, List.forall_mem_cons.mpr ⟨lw_p25, List.forall_mem_cons.mpr ⟨lw_p26, List.forall_mem_cons.mpr ⟨lw_p27, List.forall_mem_cons.mpr ⟨lw_p28, fun _ h => absurd h List.not_mem_nil⟩⟩⟩⟩⟩⟩⟩⟩⟩⟩⟩⟩⟩
def lw_privs : List (MethodName × Nat) := lw_privs_1 ++ (lw_privs_2)
def lw_tbl : List Cond := k2_sels lw_privs ++ tables_1
theorem lw_privs_ok : ∀ q ∈ lw_privs, lw_okq q := by
  show ∀ q ∈ lw_privs_1 ++ (lw_privs_2), lw_okq q
  exact List.forall_mem_append.mpr ⟨lw_r1, lw_r2⟩
-- ===== end of PART A =====
/-- the tables' words that a callee may take over -/
def wg : List Cond := lw_tbl.filter goodWord
theorem wgm {w : Cond} {i : Nat} (h : lw_tbl[i]? = some w) (hg : goodWord w = true) : w ∈ wg := List.mem_filter.mpr ⟨List.mem_of_getElem? h, hg⟩
theorem gin {ws : List Cond} (h : ∀ w ∈ ws, w ∈ wg) : GoodIn wg ws := fun w hw => ⟨h w hw, good_of_word (List.mem_filter.mp (h w hw)).2⟩
theorem gcode {w : Cond} (h : w ∈ wg) : GoodIn wg (w :: wg) := gin (fun v hv => (List.mem_cons.mp hv).elim (fun e => e ▸ h) id)
theorem gV {own C : String} {idx n : Nat} {y : MethodName} {b : ByteArray} {r : Option FieldType} (h1 : Cond.methodLink own idx y ∈ wg) (h2 : Cond.instanceMethod y ∈ wg) (h3 : Cond.selects C y y ∈ wg) (h4 : Cond.initialized C ∈ wg) (h5 : Cond.code y b n r ∈ wg) : GoodIn wg (wsV own idx C y (Cond.code y b n r :: wg)) := gin (fun v hv => by
  rcases List.mem_append.mp hv with hv | hv
  · rcases List.mem_cons.mp hv with rfl | hv
    · exact h1
    rcases List.mem_cons.mp hv with rfl | hv
    · exact h2
    rcases List.mem_cons.mp hv with rfl | hv
    · exact h3
    rcases List.mem_cons.mp hv with rfl | hv
    · exact h4
    exact absurd hv List.not_mem_nil
  · exact (gcode h5 v hv).1)
theorem gS {own : String} {idx n : Nat} {y : MethodName} {b : ByteArray} {r : Option FieldType} (h1 : Cond.methodLink own idx y ∈ wg) (h2 : Cond.static y ∈ wg) (h4 : Cond.initialized y.cls ∈ wg) (h5 : Cond.code y b n r ∈ wg) : GoodIn wg (va_wsS own idx y (Cond.code y b n r :: wg)) := gin (fun v hv => by
  rcases List.mem_append.mp hv with hv | hv
  · rcases List.mem_cons.mp hv with rfl | hv
    · exact h1
    rcases List.mem_cons.mp hv with rfl | hv
    · exact h2
    rcases List.mem_cons.mp hv with rfl | hv
    · exact h4
    exact absurd hv List.not_mem_nil
  · exact (gcode h5 v hv).1)
def isNest : Cond → Bool
  | .fieldLinkNest .. => true
  | .methodLinkNest .. => true
  | _ => false
/-- links between nest mates: a caller hands them on -/
def nw : List Cond := lw_tbl.filter isNest
def NW (U : State) : Prop := ∀ w ∈ nw, va_Nw w U
theorem nwm {w : Cond} {i : Nat} (h : lw_tbl[i]? = some w) (hg : isNest w = true) : w ∈ nw := List.mem_filter.mpr ⟨List.mem_of_getElem? h, hg⟩
theorem NW.warm {s U : State} (hW : s.WarmedH U.vm) (h : NW s) : NW U := fun w hw => by
  have h2 := h w hw
  have hn := (List.mem_filter.mp hw).2
  cases w <;> first | exact va_Nw.warmF hW h2 | exact va_Nw.warmM hW h2 | cases hn
theorem NW.same {s U : State} (hv : s.vm = U.vm) (h : NW s) : NW U := fun w hw => by
  have h2 := h w hw
  have hn := (List.mem_filter.mp hw).2
  cases w <;> first | exact va_Nw.same rfl hv h2 | cases hn
theorem NW.of {s : State} {args : Array Value} (hts : ∀ w ∈ lw_tbl, w.before args s = true) : NW s := fun w hw => by
  have h2 := hts w (List.mem_filter.mp hw).1
  have hn := (List.mem_filter.mp hw).2
  cases w <;> first | exact va_Nw.of rfl h2 | cases hn
end
section
-- BASE: functions in Option, and the machine's rows over them
section BaseDefs
def xl1 {A R : Type} (f : (A → Option R) → A → Option R) : Nat → A → Option R
  | 0, _ => none
  | n + 1, a => f (xl1 f n) a
def xl2 {A B R : Type} (f : (A → B → Option R) → A → B → Option R) : Nat → A → B → Option R
  | 0, _, _ => none
  | n + 1, a, b => f (xl2 f n) a b
def xl3 {A B C R : Type} (f : (A → B → C → Option R) → A → B → C → Option R) : Nat → A → B → C → Option R
  | 0, _, _, _ => none
  | n + 1, a, b, c => f (xl3 f n) a b c
def xl4 {A B C D R : Type} (f : (A → B → C → D → Option R) → A → B → C → D → Option R) : Nat → A → B → C → D → Option R
  | 0, _, _, _, _ => none
  | n + 1, a, b, c, d => f (xl4 f n) a b c d
def xl5 {A B C D E R : Type} (f : (A → B → C → D → E → Option R) → A → B → C → D → E → Option R) : Nat → A → B → C → D → E → Option R
  | 0, _, _, _, _, _ => none
  | n + 1, a, b, c, d, e => f (xl5 f n) a b c d e
def xl6 {A B C D E F R : Type} (f : (A → B → C → D → E → F → Option R) → A → B → C → D → E → F → Option R) : Nat → A → B → C → D → E → F → Option R
  | 0, _, _, _, _, _, _ => none
  | n + 1, a, b, c, d, e, g => f (xl6 f n) a b c d e g
/-- an index into an array of n places: none where the machine would throw -/
def ix {R : Type} (i : Int32) (n : Nat) (k : Nat → Option R) : Option R := if i < 0 ∨ n ≤ i.toNatClampNeg then none else k i.toNatClampNeg
/-- a divisor: none where it is 0 -/
def dzl {R : Type} (y : Int64) (k : Option R) : Option R := if y = 0 then none else k
def dzi {R : Type} (y : Int32) (k : Option R) : Option R := if y = 0 then none else k
/-- an answer that is a boolean -/
def zb {R : Type} (v : Int32) (k : Option R) : Option R := if v = 0 ∨ v = 1 then k else none
def bd2 {A B R : Type} (o : Option (A × B)) (f : A → B → Option R) : Option R := o.bind fun q => f q.1 q.2
theorem ix_some {R : Type} {i : Int32} {n : Nat} {k : Nat → Option R} {y : R} (h : ix i n k = some y) : ∃ j : Nat, i.toNatClampNeg = j ∧ vp_in i n ∧ k j = some y := by
  unfold ix at h
  by_cases hc : i < 0 ∨ n ≤ i.toNatClampNeg
  · rw [if_pos hc] at h
    cases h
  · rw [if_neg hc] at h
    exact ⟨_, rfl, hc, h⟩
theorem ix_lt {i : Int32} {n j : Nat} (e : i.toNatClampNeg = j) (h : vp_in i n) : j < n := by
  subst e
  exact Nat.not_le.mp fun q => h (Or.inr q)
theorem dzl_some {R : Type} {y : Int64} {k : Option R} {r : R} (h : dzl y k = some r) : ¬ y = 0 ∧ k = some r := by
  unfold dzl at h
  by_cases hc : y = 0
  · rw [if_pos hc] at h
    cases h
  · rw [if_neg hc] at h
    exact ⟨hc, h⟩
theorem dzi_some {R : Type} {y : Int32} {k : Option R} {r : R} (h : dzi y k = some r) : ¬ y = 0 ∧ k = some r := by
  unfold dzi at h
  by_cases hc : y = 0
  · rw [if_pos hc] at h
    cases h
  · rw [if_neg hc] at h
    exact ⟨hc, h⟩
theorem zb_some {R : Type} {v : Int32} {k : Option R} {r : R} (h : zb v k = some r) : (v = 0 ∨ v = 1) ∧ k = some r := by
  unfold zb at h
  by_cases hc : v = 0 ∨ v = 1
  · rw [if_pos hc] at h
    exact ⟨hc, h⟩
  · rw [if_neg hc] at h
    cases h
theorem zb_nar {v : Int32} (h : v = 0 ∨ v = 1) : narrow .boolean (.int v) = .int v := by
  rcases h with rfl | rfl <;> rfl
theorem ob {A R : Type} {o : Option A} {f : A → Option R} {y : R} (h : o.bind f = some y) : ∃ r, o = some r ∧ f r = some y := by
  cases o with
  | none => cases h
  | some r => exact ⟨r, rfl, h⟩
theorem bd2_some {A B R : Type} {o : Option (A × B)} {f : A → B → Option R} {y : R} (h : bd2 o f = some y) : ∃ (r : A) (s : B), o = some (r, s) ∧ f r s = some y := by
  cases o with
  | none => cases h
  | some r => exact ⟨r.1, r.2, rfl, h⟩
end BaseDefs
section BaseRows
variable {p : Program} {l : Launch} {e : Env} {R : Room} {s : State} {m : MethodId} {args : Array Value} {below : List Frame} {meth : Method} {c : Code} {H : Heap} {locs : List Loc} {cells slots : Nat} {Q : State → Prop}
variable {pc : Nat} {ls : Array Slot} {rest st0 : List Value} {a0 : Array Value}
/-- a call that leaves the heap as it is -/
theorem ro_calli {v : Int32} (hr : va_Run p l e R s m args below meth c H locs cells slots 0 0 (F0 m pc ls st0) rest (vp_Si (fun r => r = v) a0) (fun _ => False)) (k : W p l e R s m args below meth c H locs cells slots Q (F0 m (pc + 3) ls (.int v :: rest))) : W p l e R s m args below meth c H locs cells slots Q (F0 m pc ls st0) := by
  intro T hT X
  obtain ⟨w, st₀, t, T', L, h0, X', hL, e1, e2, ⟨r, hv, hp, hh⟩, st⟩ := hr T hT X
  cases hv
  subst hp
  have hL0 : L = [] := by
    cases L with
    | nil => rfl
    | cons q L => exact absurd (hL q List.mem_cons_self) id
  subst hL0
  rw [List.append_nil] at X'
  obtain ⟨t2, a1, b1⟩ := k T' (by rw [e1, hh, h0]) X'
  exact ⟨t2, st t2 a1, b1⟩
theorem ro_calll {v : Int64} (hr : va_Run p l e R s m args below meth c H locs cells slots 0 0 (F0 m pc ls st0) rest (vp_Sl (fun r => r = v) a0) (fun _ => False)) (k : W p l e R s m args below meth c H locs cells slots Q (F0 m (pc + 3) ls (.long v :: rest))) : W p l e R s m args below meth c H locs cells slots Q (F0 m pc ls st0) := by
  intro T hT X
  obtain ⟨w, st₀, t, T', L, h0, X', hL, e1, e2, ⟨r, hv, hp, hh⟩, st⟩ := hr T hT X
  cases hv
  subst hp
  have hL0 : L = [] := by
    cases L with
    | nil => rfl
    | cons q L => exact absurd (hL q List.mem_cons_self) id
  subst hL0
  rw [List.append_nil] at X'
  obtain ⟨t2, a1, b1⟩ := k T' (by rw [e1, hh, h0]) X'
  exact ⟨t2, st t2 a1, b1⟩
variable {D : va_G} {cl : List vw_C} {w2 : va_W} {A : Nat → Prop} {H0 : Heap}
/-- a call that writes within A and leaves the cells w2 -/
theorem rw_calli {v : Int32} (hr : va_Run p l e R s m args below meth c H locs cells slots 0 0 (F0 m pc ls st0) rest (va_Qi (fun r (_ : Unit) => r = v) (fun _ t => va_P D cl w2 t.heap) A a0) A) (hS : va_S A H0 H locs) (k : ∀ (H1 : Heap) (locs1 : List Loc), va_P D cl w2 H1 → va_S A H0 H1 locs1 → W p l e R s m args below meth c H1 locs1 cells slots Q (F0 m (pc + 3) ls (.int v :: rest))) : W p l e R s m args below meth c H locs cells slots Q (F0 m pc ls st0) :=
  va_calli hr hS (fun _ _ h => h) (fun _ h => h) (fun r u t H1 locs1 ht _ hp hB _ _ hS1 => by
    subst hp
    subst ht
    exact k _ _ hB hS1)
theorem rw_calll {v : Int64} (hr : va_Run p l e R s m args below meth c H locs cells slots 0 0 (F0 m pc ls st0) rest (va_Ql (fun r (_ : Unit) => r = v) (fun _ t => va_P D cl w2 t.heap) A a0) A) (hS : va_S A H0 H locs) (k : ∀ (H1 : Heap) (locs1 : List Loc), va_P D cl w2 H1 → va_S A H0 H1 locs1 → W p l e R s m args below meth c H1 locs1 cells slots Q (F0 m (pc + 3) ls (.long v :: rest))) : W p l e R s m args below meth c H locs cells slots Q (F0 m pc ls st0) :=
  va_calll hr hS (fun _ _ h => h) (fun _ h => h) (fun r u t H1 locs1 ht _ hp hB _ _ hS1 => by
    subst hp
    subst ht
    exact k _ _ hB hS1)
theorem rw_callv (hr : va_Run p l e R s m args below meth c H locs cells slots 0 0 (F0 m pc ls st0) rest (va_Qv (fun _ : Unit => True) (fun _ t => va_P D cl w2 t.heap) A a0) A) (hS : va_S A H0 H locs) (k : ∀ (H1 : Heap) (locs1 : List Loc), va_P D cl w2 H1 → va_S A H0 H1 locs1 → W p l e R s m args below meth c H1 locs1 cells slots Q (F0 m (pc + 3) ls rest)) : W p l e R s m args below meth c H locs cells slots Q (F0 m pc ls st0) :=
  va_callv hr hS (fun _ _ h => h) (fun _ h => h) (fun u t H1 locs1 ht _ hp hB _ _ hS1 => by
    subst ht
    exact k _ _ hB hS1)
variable {cc : ByteArray} {tys : List (ClassId × FieldType)} {ws : va_W} {a : Nat}
-- array reads, the place by its own name
theorem xa_iald (hexec : p.tables.exec = Jvm.exec) (hb : c.code = cc) (hK : va_K D cl tys s) (hP : va_P D cl ws H) (q0 t0 : Nat) {cA : ClassId} {n : Nat} {f : Nat → Int32} (ha : ws[q0]? = some (a, .inl (cA, n, .inl f))) (ht : tys[t0]? = some (cA, .int)) {i : Int32} {j : Nat} (ej : i.toNatClampNeg = j) (hin : vp_in i n) (hdg : decode cc pc = .ok (.iaload, 1))
    (k : W p l e R s m args below meth c H locs cells slots Q (F0 m (pc + 1) ls (.int (f j) :: rest))) : W p l e R s m args below meth c H locs cells slots Q (F0 m pc ls (.int i :: .ref a :: rest)) := by
  subst ej
  exact va_iald hexec hb hK hP q0 t0 ha ht hin hdg k
theorem xa_bald (hexec : p.tables.exec = Jvm.exec) (hb : c.code = cc) (hK : va_K D cl tys s) (hP : va_P D cl ws H) (q0 t0 : Nat) {cA : ClassId} {n : Nat} {f : Nat → Int32} (ha : ws[q0]? = some (a, .inl (cA, n, .inl f))) (ht : tys[t0]? = some (cA, .byte)) {i : Int32} {j : Nat} (ej : i.toNatClampNeg = j) (hin : vp_in i n) (hdg : decode cc pc = .ok (.baload, 1))
    (k : W p l e R s m args below meth c H locs cells slots Q (F0 m (pc + 1) ls (.int (f j) :: rest))) : W p l e R s m args below meth c H locs cells slots Q (F0 m pc ls (.int i :: .ref a :: rest)) := by
  subst ej
  exact va_bald hexec hb hK hP q0 t0 ha ht hin hdg k
theorem xa_lald (hexec : p.tables.exec = Jvm.exec) (hb : c.code = cc) (hK : va_K D cl tys s) (hP : va_P D cl ws H) (q0 t0 : Nat) {cA : ClassId} {n : Nat} {f : Nat → Int64} (ha : ws[q0]? = some (a, .inl (cA, n, .inr (.inl f)))) (ht : tys[t0]? = some (cA, .long)) {i : Int32} {j : Nat} (ej : i.toNatClampNeg = j) (hin : vp_in i n) (hdg : decode cc pc = .ok (.laload, 1))
    (k : W p l e R s m args below meth c H locs cells slots Q (F0 m (pc + 1) ls (.long (f j) :: rest))) : W p l e R s m args below meth c H locs cells slots Q (F0 m pc ls (.int i :: .ref a :: rest)) := by
  subst ej
  exact va_lald hexec hb hK hP q0 t0 ha ht hin hdg k
/-- a row of an array of arrays -/
theorem xa_aald (hexec : p.tables.exec = Jvm.exec) (hb : c.code = cc) (hK : va_K D cl tys s) (hP : va_P D cl ws H) (q0 t0 : Nat) {cA : ClassId} {ty : FieldType} {n : Nat} {f : Nat → Option Nat} {r : Nat} (ha : ws[q0]? = some (a, .inl (cA, n, .inr (.inr (.inr (.inr f)))))) (ht : tys[t0]? = some (cA, .array ty)) {i : Int32} {j : Nat} (ej : i.toNatClampNeg = j) (hin : vp_in i n) (hf : f j = some r) (hdg : decode cc pc = .ok (.aaload, 1))
    (k : W p l e R s m args below meth c H locs cells slots Q (F0 m (pc + 1) ls (.ref r :: rest))) : W p l e R s m args below meth c H locs cells slots Q (F0 m pc ls (.int i :: .ref a :: rest)) := by
  subst ej
  have hlt : i.toNatClampNeg < n := Nat.not_le.mp fun q => hin (Or.inr q)
  have e : Value.ref r = va_rf (f i.toNatClampNeg) := by rw [hf]; rfl
  rw [e] at k
  exact W.aald (v := va_rf (f i.toNatClampNeg)) (ty := .array ty) hexec hb (hP q0 _ ha) ((hK.2 t0 _ ht).1 n (fun j => va_rf (f j))) rfl (fun q => by cases q) (by show ¬ (i < 0 ∨ (arrV _ _ _).slots.size ≤ _); rw [arrV_size]; exact hin) (by show (arrV _ _ _).slots[_]? = _; rw [arrV_read _ _ hlt]) rfl rfl hdg k
-- array writes
theorem xa_iast (hexec : p.tables.exec = Jvm.exec) (hb : c.code = cc) (hK : va_K D cl tys s) (hP : va_P D cl ws H) (hD : va_D A ws) (hS : va_S A H0 H locs) (q0 t0 : Nat) {cA : ClassId} {n : Nat} {f : Nat → Int32} (ha : ws[q0]? = some (a, .inl (cA, n, .inl f))) (ht : tys[t0]? = some (cA, .int)) {i x : Int32} {j : Nat} (ej : i.toNatClampNeg = j) (hin : vp_in i n) (hdg : decode cc pc = .ok (.iastore, 1))
    (k : ∀ (H1 : Heap) (locs1 : List Loc), va_P D cl (ws.set q0 (a, .inl (cA, n, .inl (upd f j x)))) H1 → va_S A H0 H1 locs1 → W p l e R s m args below meth c H1 locs1 cells slots Q (F0 m (pc + 1) ls rest)) : W p l e R s m args below meth c H locs cells slots Q (F0 m pc ls (.int x :: .int i :: .ref a :: rest)) := by
  subst ej
  exact va_iast hexec hb hK hP hD hS q0 t0 ha ht hin hdg (fun H1 l1 h1 _ h3 => k H1 l1 h1 h3)
theorem xa_bast (hexec : p.tables.exec = Jvm.exec) (hb : c.code = cc) (hK : va_K D cl tys s) (hP : va_P D cl ws H) (hD : va_D A ws) (hS : va_S A H0 H locs) (q0 t0 : Nat) {cA : ClassId} {n : Nat} {f : Nat → Int32} (ha : ws[q0]? = some (a, .inl (cA, n, .inl f))) (ht : tys[t0]? = some (cA, .byte)) {i x : Int32} {j : Nat} (ej : i.toNatClampNeg = j) (hin : vp_in i n) (hdg : decode cc pc = .ok (.bastore, 1))
    (k : ∀ (H1 : Heap) (locs1 : List Loc), va_P D cl (ws.set q0 (a, .inl (cA, n, .inl (upd f j (vp_nar .byte x))))) H1 → va_S A H0 H1 locs1 → W p l e R s m args below meth c H1 locs1 cells slots Q (F0 m (pc + 1) ls rest)) : W p l e R s m args below meth c H locs cells slots Q (F0 m pc ls (.int x :: .int i :: .ref a :: rest)) := by
  subst ej
  exact va_bast hexec hb hK hP hD hS q0 t0 ha ht hin hdg (fun H1 l1 h1 _ h3 => k H1 l1 h1 h3)
theorem xa_last (hexec : p.tables.exec = Jvm.exec) (hb : c.code = cc) (hK : va_K D cl tys s) (hP : va_P D cl ws H) (hD : va_D A ws) (hS : va_S A H0 H locs) (q0 t0 : Nat) {cA : ClassId} {n : Nat} {f : Nat → Int64} (ha : ws[q0]? = some (a, .inl (cA, n, .inr (.inl f)))) (ht : tys[t0]? = some (cA, .long)) {i : Int32} {x : Int64} {j : Nat} (ej : i.toNatClampNeg = j) (hin : vp_in i n) (hdg : decode cc pc = .ok (.lastore, 1))
    (k : ∀ (H1 : Heap) (locs1 : List Loc), va_P D cl (ws.set q0 (a, .inl (cA, n, .inr (.inl (vp_updL f j x))))) H1 → va_S A H0 H1 locs1 → W p l e R s m args below meth c H1 locs1 cells slots Q (F0 m (pc + 1) ls rest)) : W p l e R s m args below meth c H locs cells slots Q (F0 m pc ls (.long x :: .int i :: .ref a :: rest)) := by
  subst ej
  exact va_last hexec hb hK hP hD hS q0 t0 ha ht hin hdg (fun H1 l1 h1 _ h3 => k H1 l1 h1 h3)
end BaseRows
/-- a method begins: what its walk may use -/
theorem ro_start {l : Launch} {y : MethodName} {rm : Room} {av : List Value} {B : State → Prop} {Qc : Array Value → State → Outcome → State → Prop} {mc ms : Nat} {free : Addr → Prop} {cc : ByteArray} {maxL : Nat} {ret : Option FieldType}
    (hy : plainName y.cls = true) (hlen : (lg_sl av).length ≤ maxL)
    (body : ∀ (p : Program) (e : Env) (s : State) (m : MethodId) (below : List Frame) (meth : Method) (c : Code), p.tables.exec = Jvm.exec → c.code = cc → meth.sig.returnType = ret → c.maxLocals = maxL → (∀ w ∈ wg, w.before av.toArray s = true) → s.vm.findClass y.cls = some m.cls → meth.locks = false → B s → ∀ ls : Array Slot, lv_has ls maxL (lv_args 0 av) → W p l e rm s m av.toArray below meth c s.heap [] 0 0 (MQ below Qc av.toArray s mc ms free) (F0 m 0 ls [])) : Met l y (Cond.code y cc maxL ret :: wg) rm (va_Pc av B) Qc mc ms free := by
  refine Met.ofW (cc := cc) (maxL := maxL) (ret := ret) hy rfl ?_
  intro p e s m args below meth c s₁ Bd hml hv
  obtain ⟨rfl, hB⟩ := hv
  have hts := atoms_spec (ws := Cond.code y cc maxL ret :: wg) Bd.pre
  have hown : s.vm.findClass y.cls = some m.cls := findClass_of_methodNamed Bd.named
  have hl := lv_entry av (n := maxL) hlen
  rw [lg_entry_eq]
  exact body p e s m below meth c Bd.exec Bd.bytes Bd.returns hml (fun w hw => hts w (List.mem_cons_of_mem _ hw)) hown Bd.notSynchronized hB _ hl
/-- a callee's start, its cells as they are -/
theorem ro_preV {s : State} {H : Heap} {C : String} {b : Nat} {As : List Value} {D : va_G} {cl : List vw_C} {w : va_W} {tys : List (ClassId × FieldType)} (hP : va_P D cl w H) (hK : va_K D cl tys s) (hN : NW s) (hrv : ∃ cell : Cell, H[b]? = some cell ∧ cell.vm.isStatics = false ∧ s.vm.findClass C = some cell.cls) : PreV s H C b (va_Pc (.ref b :: As) (fun U => va_P D cl w U.heap ∧ va_K D cl tys U ∧ NW U)) As :=
  ⟨fun a U g mk q => ⟨q.1, q.2.1, va_K.moved (u := U) (U := U.calling g mk a) (Vm.Alike.refl U.vm) q.2.2.1, NW.same (s := U) (U := U.calling g mk a) rfl q.2.2.2⟩, hrv, fun U hU hW => ⟨rfl, by rw [hU]; exact hP, va_K.moved hW.alike hK, hN.warm hW⟩⟩
end
section
def F_G : u_T := fun k => match k with
  | 0 => ("GuideSearch", "causes", "LGuideSearch$Causes;", true)
  | 1 => ("GuideSearch", "tests", "LGuideSearch$Tests;", true)
  | 2 => ("GuideSearch", "cases", "LGuideSearch$Cases;", true)
  | 3 => ("GuideSearch", "plan", "LGuideSearch$Plan;", true)
  | 4 => ("GuideSearch", "open", "I", false)
  | _ => ("GuideSearch", "planned", "Z", false)
def ft_G : Nat → FieldType := fun k => match k with
  | 0 => .object "GuideSearch$Causes"
  | 1 => .object "GuideSearch$Tests"
  | 2 => .object "GuideSearch$Cases"
  | 3 => .object "GuideSearch$Plan"
  | 4 => .int
  | _ => .boolean
theorem n_G : ∀ a, a < 6 → ∀ b, b < 6 → a ≠ b → (F_G a).2.1 ≠ (F_G b).2.1 := by decide +kernel
theorem ft_G_ok : ∀ k, k < 6 → parseFieldDescriptor (F_G k).2.2.1 = some (ft_G k) := by decide +kernel
def F_C : u_T := fun k => match k with
  | 0 => ("GuideSearch$Causes", "priors", "[J", true)
  | 1 => ("GuideSearch$Causes", "members", "[I", true)
  | 2 => ("GuideSearch$Causes", "learned", "[I", true)
  | 3 => ("GuideSearch$Causes", "count", "I", false)
  | _ => ("GuideSearch$Causes", "faults", "I", false)
def ft_C : Nat → FieldType := fun k => match k with
  | 0 => .array .long
  | 1 => .array .int
  | 2 => .array .int
  | 3 => .int
  | _ => .int
theorem n_C : ∀ a, a < 5 → ∀ b, b < 5 → a ≠ b → (F_C a).2.1 ≠ (F_C b).2.1 := by decide +kernel
theorem ft_C_ok : ∀ k, k < 5 → parseFieldDescriptor (F_C k).2.2.1 = some (ft_C k) := by decide +kernel
def F_T : u_T := fun k => match k with
  | 0 => ("GuideSearch$Tests", "costs", "[I", true)
  | 1 => ("GuideSearch$Tests", "needed", "[I", true)
  | 2 => ("GuideSearch$Tests", "table", "[[I", true)
  | _ => ("GuideSearch$Tests", "count", "I", false)
def ft_T : Nat → FieldType := fun k => match k with
  | 0 => .array .int
  | 1 => .array .int
  | 2 => .array (.array .int)
  | _ => .int
theorem n_T : ∀ a, a < 4 → ∀ b, b < 4 → a ≠ b → (F_T a).2.1 ≠ (F_T b).2.1 := by decide +kernel
theorem ft_T_ok : ∀ k, k < 4 → parseFieldDescriptor (F_T k).2.2.1 = some (ft_T k) := by decide +kernel
def F_K : u_T := fun k => match k with
  | 0 => ("GuideSearch$Cases", "causes", "LGuideSearch$Causes;", true)
  | _ => ("GuideSearch$Cases", "tests", "LGuideSearch$Tests;", true)
def ft_K : Nat → FieldType := fun k => match k with
  | 0 => .object "GuideSearch$Causes"
  | _ => .object "GuideSearch$Tests"
theorem n_K : ∀ a, a < 2 → ∀ b, b < 2 → a ≠ b → (F_K a).2.1 ≠ (F_K b).2.1 := by decide +kernel
theorem ft_K_ok : ∀ k, k < 2 → parseFieldDescriptor (F_K k).2.2.1 = some (ft_K k) := by decide +kernel
def F_P : u_T := fun k => match k with
  | 0 => ("GuideSearch$Plan", "cases", "LGuideSearch$Cases;", true)
  | 1 => ("GuideSearch$Plan", "values", "[J", true)
  | 2 => ("GuideSearch$Plan", "picks", "[B", true)
  | 3 => ("GuideSearch$Plan", "weights", "[[J", true)
  | 4 => ("GuideSearch$Plan", "nodeTests", "[B", true)
  | 5 => ("GuideSearch$Plan", "nodeLefts", "[B", true)
  | 6 => ("GuideSearch$Plan", "nodeAnswers", "[B", true)
  | 7 => ("GuideSearch$Plan", "nodes", "I", false)
  | _ => ("GuideSearch$Plan", "thousandths", "J", false)
def ft_P : Nat → FieldType := fun k => match k with
  | 0 => .object "GuideSearch$Cases"
  | 1 => .array .long
  | 2 => .array .byte
  | 3 => .array (.array .long)
  | 4 => .array .byte
  | 5 => .array .byte
  | 6 => .array .byte
  | 7 => .int
  | _ => .long
theorem n_P : ∀ a, a < 9 → ∀ b, b < 9 → a ≠ b → (F_P a).2.1 ≠ (F_P b).2.1 := by decide +kernel
theorem ft_P_ok : ∀ k, k < 9 → parseFieldDescriptor (F_P k).2.2.1 = some (ft_P k) := by decide +kernel
def F_M : u_T := fun k => match k with
  | 0 => ("GuideSearchModel", "code", "I", false)
  | 1 => ("GuideSearchModel", "causes", "I", false)
  | 2 => ("GuideSearchModel", "faults", "I", false)
  | 3 => ("GuideSearchModel", "one", "[I", true)
  | 4 => ("GuideSearchModel", "two", "[I", true)
  | 5 => ("GuideSearchModel", "prior", "[J", true)
  | 6 => ("GuideSearchModel", "learned", "[I", true)
  | 7 => ("GuideSearchModel", "strangers", "I", false)
  | 8 => ("GuideSearchModel", "tests", "I", false)
  | 9 => ("GuideSearchModel", "price", "[J", true)
  | 10 => ("GuideSearchModel", "needs", "[Z", true)
  | 11 => ("GuideSearchModel", "odds", "[I", true)
  | 12 => ("GuideSearchModel", "given", "[I", true)
  | 13 => ("GuideSearchModel", "exact", "Z", false)
  | 14 => ("GuideSearchModel", "cost", "J", false)
  | 15 => ("GuideSearchModel", "nodes", "I", false)
  | 16 => ("GuideSearchModel", "node", "[I", true)
  | 17 => ("GuideSearchModel", "value", "[J", true)
  | 18 => ("GuideSearchModel", "best", "[I", true)
  | 19 => ("GuideSearchModel", "digit", "[I", true)
  | 20 => ("GuideSearchModel", "weight", "[J", true)
  | 21 => ("GuideSearchModel", "wait", "[I", true)
  | 22 => ("GuideSearchModel", "by", "[I", true)
  | 23 => ("GuideSearchModel", "found", "[Z", true)
  | _ => ("GuideSearchModel", "use", "[Z", true)
def ft_M : Nat → FieldType := fun k => match k with
  | 0 => .int
  | 1 => .int
  | 2 => .int
  | 3 => .array .int
  | 4 => .array .int
  | 5 => .array .long
  | 6 => .array .int
  | 7 => .int
  | 8 => .int
  | 9 => .array .long
  | 10 => .array .boolean
  | 11 => .array .int
  | 12 => .array .int
  | 13 => .boolean
  | 14 => .long
  | 15 => .int
  | 16 => .array .int
  | 17 => .array .long
  | 18 => .array .int
  | 19 => .array .int
  | 20 => .array .long
  | 21 => .array .int
  | 22 => .array .int
  | 23 => .array .boolean
  | _ => .array .boolean
theorem n_M : ∀ a, a < 25 → ∀ b, b < 25 → a ≠ b → (F_M a).2.1 ≠ (F_M b).2.1 := by decide +kernel
theorem ft_M_ok : ∀ k, k < 25 → parseFieldDescriptor (F_M k).2.2.1 = some (ft_M k) := by decide +kernel
abbrev vwCl : List vw_C := [("GuideSearch", F_G, 6), ("GuideSearch$Causes", F_C, 5), ("GuideSearch$Tests", F_T, 4), ("GuideSearch$Cases", F_K, 2), ("GuideSearch$Plan", F_P, 9), ("GuideSearchModel", F_M, 25)]
theorem k_1 : (Jvm.Cond.initialized "GuideSearch") ∈ wg := wgm (i := 30) (by decide +kernel) rfl
theorem k_2 : (Jvm.Cond.initialized "GuideSearch$Causes") ∈ wg := wgm (i := 31) (by decide +kernel) rfl
theorem k_3 : (Jvm.Cond.initialized "GuideSearch$Tests") ∈ wg := wgm (i := 32) (by decide +kernel) rfl
theorem k_5 : (Jvm.Cond.initialized "GuideSearch$Cases") ∈ wg := wgm (i := 34) (by decide +kernel) rfl
theorem k_6 : (Jvm.Cond.initialized "GuideSearch$Plan") ∈ wg := wgm (i := 35) (by decide +kernel) rfl
theorem k_8 : (Jvm.Cond.initialized "java/lang/Integer") ∈ wg := wgm (i := 37) (by decide +kernel) rfl
theorem k_9 : (Jvm.Cond.initialized "java/lang/Math") ∈ wg := wgm (i := 38) (by decide +kernel) rfl
theorem k_28 : (Jvm.Cond.fieldLink "GuideSearch$Causes" (9 : Nat) "GuideSearch$Causes" "priors" "[J") ∈ wg := wgm (i := 57) (by decide +kernel) rfl
theorem k_29 : (Jvm.Cond.fieldLink "GuideSearch$Causes" (15 : Nat) "GuideSearch$Causes" "members" "[I") ∈ wg := wgm (i := 58) (by decide +kernel) rfl
theorem k_30 : (Jvm.Cond.fieldLink "GuideSearch$Causes" (19 : Nat) "GuideSearch$Causes" "learned" "[I") ∈ wg := wgm (i := 59) (by decide +kernel) rfl
theorem k_31 : (Jvm.Cond.fieldLink "GuideSearch$Causes" (22 : Nat) "GuideSearch$Causes" "count" "I") ∈ wg := wgm (i := 60) (by decide +kernel) rfl
theorem k_32 : (Jvm.Cond.fieldLinkNest "GuideSearch" (54 : Nat) "GuideSearch$Causes" "count" "I" "GuideSearch") ∈ nw := nwm (i := 61) (by decide +kernel) rfl
theorem k_33 : (Jvm.Cond.fieldLinkNest "GuideSearch$Cases" (43 : Nat) "GuideSearch$Causes" "count" "I" "GuideSearch") ∈ nw := nwm (i := 62) (by decide +kernel) rfl
theorem k_34 : (Jvm.Cond.fieldLink "GuideSearch$Causes" (26 : Nat) "GuideSearch$Causes" "faults" "I") ∈ wg := wgm (i := 63) (by decide +kernel) rfl
theorem k_35 : (Jvm.Cond.fieldLinkNest "GuideSearch" (51 : Nat) "GuideSearch$Causes" "faults" "I" "GuideSearch") ∈ nw := nwm (i := 64) (by decide +kernel) rfl
theorem k_36 : (Jvm.Cond.laysFinal "GuideSearch$Causes" "GuideSearch$Causes" "priors" "[J") ∈ wg := wgm (i := 65) (by decide +kernel) rfl
theorem k_38 : (Jvm.Cond.laysFinal "GuideSearch$Causes" "GuideSearch$Causes" "members" "[I") ∈ wg := wgm (i := 67) (by decide +kernel) rfl
theorem k_40 : (Jvm.Cond.laysFinal "GuideSearch$Causes" "GuideSearch$Causes" "learned" "[I") ∈ wg := wgm (i := 69) (by decide +kernel) rfl
theorem k_42 : (Jvm.Cond.lays "GuideSearch$Causes" "GuideSearch$Causes" "count" "I") ∈ wg := wgm (i := 71) (by decide +kernel) rfl
theorem k_44 : (Jvm.Cond.lays "GuideSearch$Causes" "GuideSearch$Causes" "faults" "I") ∈ wg := wgm (i := 73) (by decide +kernel) rfl
theorem k_60 : (Jvm.Cond.fieldLink "GuideSearch$Tests" (9 : Nat) "GuideSearch$Tests" "costs" "[I") ∈ wg := wgm (i := 89) (by decide +kernel) rfl
theorem k_61 : (Jvm.Cond.fieldLink "GuideSearch$Tests" (15 : Nat) "GuideSearch$Tests" "needed" "[I") ∈ wg := wgm (i := 90) (by decide +kernel) rfl
theorem k_62 : (Jvm.Cond.fieldLink "GuideSearch$Tests" (20 : Nat) "GuideSearch$Tests" "table" "[[I") ∈ wg := wgm (i := 91) (by decide +kernel) rfl
theorem k_63 : (Jvm.Cond.fieldLink "GuideSearch$Tests" (23 : Nat) "GuideSearch$Tests" "count" "I") ∈ wg := wgm (i := 92) (by decide +kernel) rfl
theorem k_64 : (Jvm.Cond.fieldLinkNest "GuideSearch$Cases" (27 : Nat) "GuideSearch$Tests" "count" "I" "GuideSearch") ∈ nw := nwm (i := 93) (by decide +kernel) rfl
theorem k_65 : (Jvm.Cond.fieldLinkNest "GuideSearch" (65 : Nat) "GuideSearch$Tests" "count" "I" "GuideSearch") ∈ nw := nwm (i := 94) (by decide +kernel) rfl
theorem k_66 : (Jvm.Cond.laysFinal "GuideSearch$Tests" "GuideSearch$Tests" "costs" "[I") ∈ wg := wgm (i := 95) (by decide +kernel) rfl
theorem k_68 : (Jvm.Cond.laysFinal "GuideSearch$Tests" "GuideSearch$Tests" "needed" "[I") ∈ wg := wgm (i := 97) (by decide +kernel) rfl
theorem k_70 : (Jvm.Cond.laysFinal "GuideSearch$Tests" "GuideSearch$Tests" "table" "[[I") ∈ wg := wgm (i := 99) (by decide +kernel) rfl
theorem k_72 : (Jvm.Cond.lays "GuideSearch$Tests" "GuideSearch$Tests" "count" "I") ∈ wg := wgm (i := 101) (by decide +kernel) rfl
theorem k_81 : (Jvm.Cond.fieldLink "GuideSearch$Cases" (9 : Nat) "GuideSearch$Cases" "causes" "LGuideSearch$Causes;") ∈ wg := wgm (i := 110) (by decide +kernel) rfl
theorem k_82 : (Jvm.Cond.fieldLink "GuideSearch$Cases" (15 : Nat) "GuideSearch$Cases" "tests" "LGuideSearch$Tests;") ∈ wg := wgm (i := 111) (by decide +kernel) rfl
theorem k_83 : (Jvm.Cond.fieldLinkNest "GuideSearch$Plan" (82 : Nat) "GuideSearch$Cases" "tests" "LGuideSearch$Tests;" "GuideSearch") ∈ nw := nwm (i := 112) (by decide +kernel) rfl
theorem k_84 : (Jvm.Cond.laysFinal "GuideSearch$Cases" "GuideSearch$Cases" "causes" "LGuideSearch$Causes;") ∈ wg := wgm (i := 113) (by decide +kernel) rfl
theorem k_86 : (Jvm.Cond.laysFinal "GuideSearch$Cases" "GuideSearch$Cases" "tests" "LGuideSearch$Tests;") ∈ wg := wgm (i := 115) (by decide +kernel) rfl
theorem k_97 : (Jvm.Cond.constantLong "GuideSearch$Plan" (37 : Nat) (-1 : Int64)) ∈ wg := wgm (i := 126) (by decide +kernel) rfl
theorem k_98 : (Jvm.Cond.fieldLink "GuideSearch$Plan" (43 : Nat) "GuideSearch$Plan" "cases" "LGuideSearch$Cases;") ∈ wg := wgm (i := 127) (by decide +kernel) rfl
theorem k_101 : (Jvm.Cond.fieldLink "GuideSearch$Plan" (21 : Nat) "GuideSearch$Plan" "weights" "[[J") ∈ wg := wgm (i := 130) (by decide +kernel) rfl
theorem k_102 : (Jvm.Cond.fieldLink "GuideSearch$Plan" (24 : Nat) "GuideSearch$Plan" "nodeTests" "[B") ∈ wg := wgm (i := 131) (by decide +kernel) rfl
theorem k_103 : (Jvm.Cond.fieldLink "GuideSearch$Plan" (27 : Nat) "GuideSearch$Plan" "nodeLefts" "[B") ∈ wg := wgm (i := 132) (by decide +kernel) rfl
theorem k_104 : (Jvm.Cond.fieldLink "GuideSearch$Plan" (30 : Nat) "GuideSearch$Plan" "nodeAnswers" "[B") ∈ wg := wgm (i := 133) (by decide +kernel) rfl
theorem k_105 : (Jvm.Cond.fieldLink "GuideSearch$Plan" (33 : Nat) "GuideSearch$Plan" "nodes" "I") ∈ wg := wgm (i := 134) (by decide +kernel) rfl
theorem k_106 : (Jvm.Cond.fieldLinkNest "GuideSearch" (172 : Nat) "GuideSearch$Plan" "nodes" "I" "GuideSearch") ∈ nw := nwm (i := 135) (by decide +kernel) rfl
theorem k_107 : (Jvm.Cond.fieldLink "GuideSearch$Plan" (39 : Nat) "GuideSearch$Plan" "thousandths" "J") ∈ wg := wgm (i := 136) (by decide +kernel) rfl
theorem k_108 : (Jvm.Cond.fieldLinkNest "GuideSearch" (156 : Nat) "GuideSearch$Plan" "thousandths" "J" "GuideSearch") ∈ nw := nwm (i := 137) (by decide +kernel) rfl
theorem k_109 : (Jvm.Cond.laysFinal "GuideSearch$Plan" "GuideSearch$Plan" "cases" "LGuideSearch$Cases;") ∈ wg := wgm (i := 138) (by decide +kernel) rfl
theorem k_111 : (Jvm.Cond.laysFinal "GuideSearch$Plan" "GuideSearch$Plan" "values" "[J") ∈ wg := wgm (i := 140) (by decide +kernel) rfl
theorem k_113 : (Jvm.Cond.laysFinal "GuideSearch$Plan" "GuideSearch$Plan" "picks" "[B") ∈ wg := wgm (i := 142) (by decide +kernel) rfl
theorem k_115 : (Jvm.Cond.laysFinal "GuideSearch$Plan" "GuideSearch$Plan" "weights" "[[J") ∈ wg := wgm (i := 144) (by decide +kernel) rfl
theorem k_117 : (Jvm.Cond.laysFinal "GuideSearch$Plan" "GuideSearch$Plan" "nodeTests" "[B") ∈ wg := wgm (i := 146) (by decide +kernel) rfl
theorem k_119 : (Jvm.Cond.laysFinal "GuideSearch$Plan" "GuideSearch$Plan" "nodeLefts" "[B") ∈ wg := wgm (i := 148) (by decide +kernel) rfl
theorem k_121 : (Jvm.Cond.laysFinal "GuideSearch$Plan" "GuideSearch$Plan" "nodeAnswers" "[B") ∈ wg := wgm (i := 150) (by decide +kernel) rfl
theorem k_123 : (Jvm.Cond.lays "GuideSearch$Plan" "GuideSearch$Plan" "nodes" "I") ∈ wg := wgm (i := 152) (by decide +kernel) rfl
theorem k_125 : (Jvm.Cond.lays "GuideSearch$Plan" "GuideSearch$Plan" "thousandths" "J") ∈ wg := wgm (i := 154) (by decide +kernel) rfl
theorem k_129 : (Jvm.Cond.fieldLink "GuideSearch" (12 : Nat) "GuideSearch" "causes" "LGuideSearch$Causes;") ∈ wg := wgm (i := 158) (by decide +kernel) rfl
theorem k_130 : (Jvm.Cond.fieldLink "GuideSearch" (19 : Nat) "GuideSearch" "tests" "LGuideSearch$Tests;") ∈ wg := wgm (i := 159) (by decide +kernel) rfl
theorem k_131 : (Jvm.Cond.fieldLink "GuideSearch" (28 : Nat) "GuideSearch" "cases" "LGuideSearch$Cases;") ∈ wg := wgm (i := 160) (by decide +kernel) rfl
theorem k_132 : (Jvm.Cond.fieldLink "GuideSearch" (37 : Nat) "GuideSearch" "plan" "LGuideSearch$Plan;") ∈ wg := wgm (i := 161) (by decide +kernel) rfl
theorem k_133 : (Jvm.Cond.fieldLink "GuideSearch" (41 : Nat) "GuideSearch" "open" "I") ∈ wg := wgm (i := 162) (by decide +kernel) rfl
theorem k_134 : (Jvm.Cond.fieldLink "GuideSearch" (45 : Nat) "GuideSearch" "planned" "Z") ∈ wg := wgm (i := 163) (by decide +kernel) rfl
theorem k_135 : (Jvm.Cond.laysFinal "GuideSearch" "GuideSearch" "causes" "LGuideSearch$Causes;") ∈ wg := wgm (i := 164) (by decide +kernel) rfl
theorem k_137 : (Jvm.Cond.laysFinal "GuideSearch" "GuideSearch" "tests" "LGuideSearch$Tests;") ∈ wg := wgm (i := 166) (by decide +kernel) rfl
theorem k_139 : (Jvm.Cond.laysFinal "GuideSearch" "GuideSearch" "cases" "LGuideSearch$Cases;") ∈ wg := wgm (i := 168) (by decide +kernel) rfl
theorem k_141 : (Jvm.Cond.laysFinal "GuideSearch" "GuideSearch" "plan" "LGuideSearch$Plan;") ∈ wg := wgm (i := 170) (by decide +kernel) rfl
theorem k_143 : (Jvm.Cond.lays "GuideSearch" "GuideSearch" "open" "I") ∈ wg := wgm (i := 172) (by decide +kernel) rfl
theorem k_145 : (Jvm.Cond.lays "GuideSearch" "GuideSearch" "planned" "Z") ∈ wg := wgm (i := 174) (by decide +kernel) rfl
theorem k_152 : (Jvm.Cond.constantLong "GuideSearch" (49 : Nat) (10 : Int64)) ∈ wg := wgm (i := 181) (by decide +kernel) rfl
theorem k_153 : (Jvm.Cond.constantLong "GuideSearch" (57 : Nat) (2520 : Int64)) ∈ wg := wgm (i := 182) (by decide +kernel) rfl
theorem k_154 : (Jvm.Cond.methodLink "GuideSearch" (59 : Nat) ({ cls := "GuideSearch$Causes", name := "addFault", desc := "(J)I" } : Jvm.MethodName)) ∈ wg := wgm (i := 183) (by decide +kernel) rfl
theorem k_155 : (Jvm.Cond.instanceMethod ({ cls := "GuideSearch$Causes", name := "addFault", desc := "(J)I" } : Jvm.MethodName)) ∈ wg := wgm (i := 184) (by decide +kernel) rfl
theorem k_156 : (Jvm.Cond.selects "GuideSearch$Causes" ({ cls := "GuideSearch$Causes", name := "addFault", desc := "(J)I" } : Jvm.MethodName) ({ cls := "GuideSearch$Causes", name := "addFault", desc := "(J)I" } : Jvm.MethodName)) ∈ wg := wgm (i := 185) (by decide +kernel) rfl
theorem k_157 : (Jvm.Cond.code ({ cls := "GuideSearch$Causes", name := "addFault", desc := "(J)I" } : Jvm.MethodName) prog_3_method_5_code (3 : Nat) (Option.some Jvm.ClassFile.FieldType.int)) ∈ wg := wgm (i := 186) rfl rfl
theorem k_158 : (Jvm.Cond.constantLong "GuideSearch$Causes" (33 : Nat) (2520 : Int64)) ∈ wg := wgm (i := 187) (by decide +kernel) rfl
theorem k_163 : (Jvm.Cond.constantLong "GuideSearch" (63 : Nat) (400 : Int64)) ∈ wg := wgm (i := 192) (by decide +kernel) rfl
theorem k_164 : (Jvm.Cond.methodLink "GuideSearch" (66 : Nat) ({ cls := "GuideSearch$Tests", name := "add", desc := "(I)I" } : Jvm.MethodName)) ∈ wg := wgm (i := 193) (by decide +kernel) rfl
theorem k_165 : (Jvm.Cond.instanceMethod ({ cls := "GuideSearch$Tests", name := "add", desc := "(I)I" } : Jvm.MethodName)) ∈ wg := wgm (i := 194) (by decide +kernel) rfl
theorem k_166 : (Jvm.Cond.selects "GuideSearch$Tests" ({ cls := "GuideSearch$Tests", name := "add", desc := "(I)I" } : Jvm.MethodName) ({ cls := "GuideSearch$Tests", name := "add", desc := "(I)I" } : Jvm.MethodName)) ∈ wg := wgm (i := 195) (by decide +kernel) rfl
theorem k_167 : (Jvm.Cond.code ({ cls := "GuideSearch$Tests", name := "add", desc := "(I)I" } : Jvm.MethodName) prog_5_method_3_code (2 : Nat) (Option.some Jvm.ClassFile.FieldType.int)) ∈ wg := wgm (i := 196) rfl rfl
theorem k_172 : (Jvm.Cond.methodLink "GuideSearch" (70 : Nat) ({ cls := "GuideSearch$Tests", name := "knows", desc := "(I)Z" } : Jvm.MethodName)) ∈ wg := wgm (i := 201) (by decide +kernel) rfl
theorem k_173 : (Jvm.Cond.instanceMethod ({ cls := "GuideSearch$Tests", name := "knows", desc := "(I)Z" } : Jvm.MethodName)) ∈ wg := wgm (i := 202) (by decide +kernel) rfl
theorem k_174 : (Jvm.Cond.selects "GuideSearch$Tests" ({ cls := "GuideSearch$Tests", name := "knows", desc := "(I)Z" } : Jvm.MethodName) ({ cls := "GuideSearch$Tests", name := "knows", desc := "(I)Z" } : Jvm.MethodName)) ∈ wg := wgm (i := 203) (by decide +kernel) rfl
theorem k_175 : (Jvm.Cond.code ({ cls := "GuideSearch$Tests", name := "knows", desc := "(I)Z" } : Jvm.MethodName) prog_5_method_2_code (2 : Nat) (Option.some Jvm.ClassFile.FieldType.boolean)) ∈ wg := wgm (i := 204) rfl rfl
theorem k_176 : (Jvm.Cond.methodLink "GuideSearch" (74 : Nat) ({ cls := "GuideSearch$Causes", name := "knows", desc := "(I)Z" } : Jvm.MethodName)) ∈ wg := wgm (i := 205) (by decide +kernel) rfl
theorem k_177 : (Jvm.Cond.instanceMethod ({ cls := "GuideSearch$Causes", name := "knows", desc := "(I)Z" } : Jvm.MethodName)) ∈ wg := wgm (i := 206) (by decide +kernel) rfl
theorem k_178 : (Jvm.Cond.selects "GuideSearch$Causes" ({ cls := "GuideSearch$Causes", name := "knows", desc := "(I)Z" } : Jvm.MethodName) ({ cls := "GuideSearch$Causes", name := "knows", desc := "(I)Z" } : Jvm.MethodName)) ∈ wg := wgm (i := 207) (by decide +kernel) rfl
theorem k_179 : (Jvm.Cond.code ({ cls := "GuideSearch$Causes", name := "knows", desc := "(I)Z" } : Jvm.MethodName) prog_3_method_2_code (2 : Nat) (Option.some Jvm.ClassFile.FieldType.boolean)) ∈ wg := wgm (i := 208) rfl rfl
theorem k_180 : (Jvm.Cond.methodLink "GuideSearch" (75 : Nat) ({ cls := "GuideSearch", name := "isAnswer", desc := "(I)Z" } : Jvm.MethodName)) ∈ wg := wgm (i := 209) (by decide +kernel) rfl
theorem k_181 : (Jvm.Cond.static ({ cls := "GuideSearch", name := "isAnswer", desc := "(I)Z" } : Jvm.MethodName)) ∈ wg := wgm (i := 210) (by decide +kernel) rfl
theorem k_182 : (Jvm.Cond.code ({ cls := "GuideSearch", name := "isAnswer", desc := "(I)Z" } : Jvm.MethodName) prog_1_method_15_code (1 : Nat) (Option.some Jvm.ClassFile.FieldType.boolean)) ∈ wg := wgm (i := 211) rfl rfl
theorem k_183 : (Jvm.Cond.methodLink "GuideSearch" (78 : Nat) ({ cls := "GuideSearch", name := "isPartOfTwelve", desc := "(JJ)Z" } : Jvm.MethodName)) ∈ wg := wgm (i := 212) (by decide +kernel) rfl
theorem k_184 : (Jvm.Cond.static ({ cls := "GuideSearch", name := "isPartOfTwelve", desc := "(JJ)Z" } : Jvm.MethodName)) ∈ wg := wgm (i := 213) (by decide +kernel) rfl
theorem k_185 : (Jvm.Cond.code ({ cls := "GuideSearch", name := "isPartOfTwelve", desc := "(JJ)Z" } : Jvm.MethodName) prog_1_method_16_code (4 : Nat) (Option.some Jvm.ClassFile.FieldType.boolean)) ∈ wg := wgm (i := 214) rfl rfl
theorem k_186 : (Jvm.Cond.constantLong "GuideSearch" (82 : Nat) (12 : Int64)) ∈ wg := wgm (i := 215) (by decide +kernel) rfl
theorem k_187 : (Jvm.Cond.methodLink "GuideSearch" (84 : Nat) ({ cls := "GuideSearch$Tests", name := "together", desc := "(II)I" } : Jvm.MethodName)) ∈ wg := wgm (i := 216) (by decide +kernel) rfl
theorem k_188 : (Jvm.Cond.instanceMethod ({ cls := "GuideSearch$Tests", name := "together", desc := "(II)I" } : Jvm.MethodName)) ∈ wg := wgm (i := 217) (by decide +kernel) rfl
theorem k_189 : (Jvm.Cond.selects "GuideSearch$Tests" ({ cls := "GuideSearch$Tests", name := "together", desc := "(II)I" } : Jvm.MethodName) ({ cls := "GuideSearch$Tests", name := "together", desc := "(II)I" } : Jvm.MethodName)) ∈ wg := wgm (i := 218) (by decide +kernel) rfl
theorem k_190 : (Jvm.Cond.code ({ cls := "GuideSearch$Tests", name := "together", desc := "(II)I" } : Jvm.MethodName) prog_5_method_7_code (5 : Nat) (Option.some Jvm.ClassFile.FieldType.int)) ∈ wg := wgm (i := 219) rfl rfl
theorem k_191 : (Jvm.Cond.methodLink "GuideSearch$Tests" (41 : Nat) ({ cls := "GuideSearch$Tests", name := "twelfths", desc := "(III)I" } : Jvm.MethodName)) ∈ wg := wgm (i := 220) (by decide +kernel) rfl
theorem k_192 : (Jvm.Cond.instanceMethod ({ cls := "GuideSearch$Tests", name := "twelfths", desc := "(III)I" } : Jvm.MethodName)) ∈ wg := wgm (i := 221) (by decide +kernel) rfl
theorem k_193 : (Jvm.Cond.selects "GuideSearch$Tests" ({ cls := "GuideSearch$Tests", name := "twelfths", desc := "(III)I" } : Jvm.MethodName) ({ cls := "GuideSearch$Tests", name := "twelfths", desc := "(III)I" } : Jvm.MethodName)) ∈ wg := wgm (i := 222) (by decide +kernel) rfl
theorem k_194 : (Jvm.Cond.code ({ cls := "GuideSearch$Tests", name := "twelfths", desc := "(III)I" } : Jvm.MethodName) prog_5_method_5_code (4 : Nat) (Option.some Jvm.ClassFile.FieldType.int)) ∈ wg := wgm (i := 223) rfl rfl
theorem k_195 : (Jvm.Cond.methodLink "GuideSearch$Tests" (37 : Nat) ({ cls := "GuideSearch$Tests", name := "hasPlace", desc := "(II)Z" } : Jvm.MethodName)) ∈ wg := wgm (i := 224) (by decide +kernel) rfl
theorem k_197 : (Jvm.Cond.instanceMethod ({ cls := "GuideSearch$Tests", name := "hasPlace", desc := "(II)Z" } : Jvm.MethodName)) ∈ wg := wgm (i := 226) (by decide +kernel) rfl
theorem k_198 : (Jvm.Cond.code ({ cls := "GuideSearch$Tests", name := "hasPlace", desc := "(II)Z" } : Jvm.MethodName) prog_5_method_14_code (3 : Nat) (Option.some Jvm.ClassFile.FieldType.boolean)) ∈ wg := wgm (i := 227) rfl rfl
theorem k_199 : (Jvm.Cond.methodLink "GuideSearch$Tests" (33 : Nat) ({ cls := "GuideSearch$Tests", name := "knows", desc := "(I)Z" } : Jvm.MethodName)) ∈ wg := wgm (i := 228) (by decide +kernel) rfl
theorem k_200 : (Jvm.Cond.methodLink "GuideSearch" (88 : Nat) ({ cls := "GuideSearch$Tests", name := "twelfths", desc := "(III)I" } : Jvm.MethodName)) ∈ wg := wgm (i := 229) (by decide +kernel) rfl
theorem k_201 : (Jvm.Cond.methodLink "GuideSearch" (92 : Nat) ({ cls := "GuideSearch", name := "answerIn", desc := "(II)I" } : Jvm.MethodName)) ∈ wg := wgm (i := 230) (by decide +kernel) rfl
theorem k_202 : (Jvm.Cond.static ({ cls := "GuideSearch", name := "answerIn", desc := "(II)I" } : Jvm.MethodName)) ∈ wg := wgm (i := 231) (by decide +kernel) rfl
theorem k_203 : (Jvm.Cond.code ({ cls := "GuideSearch", name := "answerIn", desc := "(II)I" } : Jvm.MethodName) prog_1_method_19_code (2 : Nat) (Option.some Jvm.ClassFile.FieldType.int)) ∈ wg := wgm (i := 232) rfl rfl
theorem k_204 : (Jvm.Cond.methodLink "GuideSearch" (95 : Nat) ({ cls := "GuideSearch$Tests", name := "setTwelfths", desc := "(IIII)V" } : Jvm.MethodName)) ∈ wg := wgm (i := 233) (by decide +kernel) rfl
theorem k_205 : (Jvm.Cond.instanceMethod ({ cls := "GuideSearch$Tests", name := "setTwelfths", desc := "(IIII)V" } : Jvm.MethodName)) ∈ wg := wgm (i := 234) (by decide +kernel) rfl
theorem k_206 : (Jvm.Cond.selects "GuideSearch$Tests" ({ cls := "GuideSearch$Tests", name := "setTwelfths", desc := "(IIII)V" } : Jvm.MethodName) ({ cls := "GuideSearch$Tests", name := "setTwelfths", desc := "(IIII)V" } : Jvm.MethodName)) ∈ wg := wgm (i := 235) (by decide +kernel) rfl
theorem k_207 : (Jvm.Cond.code ({ cls := "GuideSearch$Tests", name := "setTwelfths", desc := "(IIII)V" } : Jvm.MethodName) prog_5_method_6_code (6 : Nat) (Option.none : Option Jvm.ClassFile.FieldType)) ∈ wg := wgm (i := 236) rfl rfl
theorem k_212 : (Jvm.Cond.methodLink "GuideSearch" (99 : Nat) ({ cls := "GuideSearch$Tests", name := "allNeededBy", desc := "(I)I" } : Jvm.MethodName)) ∈ wg := wgm (i := 241) (by decide +kernel) rfl
theorem k_213 : (Jvm.Cond.instanceMethod ({ cls := "GuideSearch$Tests", name := "allNeededBy", desc := "(I)I" } : Jvm.MethodName)) ∈ wg := wgm (i := 242) (by decide +kernel) rfl
theorem k_214 : (Jvm.Cond.selects "GuideSearch$Tests" ({ cls := "GuideSearch$Tests", name := "allNeededBy", desc := "(I)I" } : Jvm.MethodName) ({ cls := "GuideSearch$Tests", name := "allNeededBy", desc := "(I)I" } : Jvm.MethodName)) ∈ wg := wgm (i := 243) (by decide +kernel) rfl
theorem k_215 : (Jvm.Cond.code ({ cls := "GuideSearch$Tests", name := "allNeededBy", desc := "(I)I" } : Jvm.MethodName) prog_5_method_9_code (5 : Nat) (Option.some Jvm.ClassFile.FieldType.int)) ∈ wg := wgm (i := 244) rfl rfl
theorem k_216 : (Jvm.Cond.methodLinkNest "GuideSearch$Tests" (54 : Nat) ({ cls := "GuideSearch", name := "holds", desc := "(II)Z" } : Jvm.MethodName) "GuideSearch") ∈ nw := nwm (i := 245) (by decide +kernel) rfl
theorem k_217 : (Jvm.Cond.static ({ cls := "GuideSearch", name := "holds", desc := "(II)Z" } : Jvm.MethodName)) ∈ wg := wgm (i := 246) (by decide +kernel) rfl
theorem k_218 : (Jvm.Cond.code ({ cls := "GuideSearch", name := "holds", desc := "(II)Z" } : Jvm.MethodName) prog_1_method_18_code (2 : Nat) (Option.some Jvm.ClassFile.FieldType.boolean)) ∈ wg := wgm (i := 247) rfl rfl
theorem k_219 : (Jvm.Cond.methodLink "GuideSearch" (102 : Nat) ({ cls := "GuideSearch", name := "bit", desc := "(I)I" } : Jvm.MethodName)) ∈ wg := wgm (i := 248) (by decide +kernel) rfl
theorem k_220 : (Jvm.Cond.static ({ cls := "GuideSearch", name := "bit", desc := "(I)I" } : Jvm.MethodName)) ∈ wg := wgm (i := 249) (by decide +kernel) rfl
theorem k_221 : (Jvm.Cond.code ({ cls := "GuideSearch", name := "bit", desc := "(I)I" } : Jvm.MethodName) prog_1_method_17_code (1 : Nat) (Option.some Jvm.ClassFile.FieldType.int)) ∈ wg := wgm (i := 250) rfl rfl
theorem k_222 : (Jvm.Cond.methodLink "GuideSearch" (105 : Nat) ({ cls := "GuideSearch$Tests", name := "addNeed", desc := "(II)I" } : Jvm.MethodName)) ∈ wg := wgm (i := 251) (by decide +kernel) rfl
theorem k_223 : (Jvm.Cond.instanceMethod ({ cls := "GuideSearch$Tests", name := "addNeed", desc := "(II)I" } : Jvm.MethodName)) ∈ wg := wgm (i := 252) (by decide +kernel) rfl
theorem k_224 : (Jvm.Cond.selects "GuideSearch$Tests" ({ cls := "GuideSearch$Tests", name := "addNeed", desc := "(II)I" } : Jvm.MethodName) ({ cls := "GuideSearch$Tests", name := "addNeed", desc := "(II)I" } : Jvm.MethodName)) ∈ wg := wgm (i := 253) (by decide +kernel) rfl
theorem k_225 : (Jvm.Cond.code ({ cls := "GuideSearch$Tests", name := "addNeed", desc := "(II)I" } : Jvm.MethodName) prog_5_method_8_code (3 : Nat) (Option.some Jvm.ClassFile.FieldType.int)) ∈ wg := wgm (i := 254) rfl rfl
theorem k_226 : (Jvm.Cond.methodLinkNest "GuideSearch$Tests" (45 : Nat) ({ cls := "GuideSearch", name := "bit", desc := "(I)I" } : Jvm.MethodName) "GuideSearch") ∈ nw := nwm (i := 255) (by decide +kernel) rfl
theorem k_227 : (Jvm.Cond.methodLink "GuideSearch$Tests" (49 : Nat) ({ cls := "java/lang/Integer", name := "bitCount", desc := "(I)I" } : Jvm.MethodName)) ∈ wg := wgm (i := 256) (by decide +kernel) rfl
theorem k_228 : (Jvm.Cond.static ({ cls := "java/lang/Integer", name := "bitCount", desc := "(I)I" } : Jvm.MethodName)) ∈ wg := wgm (i := 257) (by decide +kernel) rfl
theorem k_229 : (Jvm.Cond.code ({ cls := "java/lang/Integer", name := "bitCount", desc := "(I)I" } : Jvm.MethodName) prog_10_method_49_code (1 : Nat) (Option.some Jvm.ClassFile.FieldType.int)) ∈ wg := wgm (i := 258) rfl rfl
theorem k_230 : (Jvm.Cond.constant "java/lang/Integer" (265 : Nat) (1431655765 : Int32)) ∈ wg := wgm (i := 259) (by decide +kernel) rfl
theorem k_231 : (Jvm.Cond.constant "java/lang/Integer" (266 : Nat) (858993459 : Int32)) ∈ wg := wgm (i := 260) (by decide +kernel) rfl
theorem k_232 : (Jvm.Cond.constant "java/lang/Integer" (267 : Nat) (252645135 : Int32)) ∈ wg := wgm (i := 261) (by decide +kernel) rfl
theorem k_241 : (Jvm.Cond.methodLinkNest "GuideSearch$Tests" (57 : Nat) ({ cls := "GuideSearch", name := "answerIn", desc := "(II)I" } : Jvm.MethodName) "GuideSearch") ∈ nw := nwm (i := 270) (by decide +kernel) rfl
theorem k_257 : (Jvm.Cond.methodLink "GuideSearch$Plan" (74 : Nat) ({ cls := "GuideSearch$Cases", name := "weightOf", desc := "(II)J" } : Jvm.MethodName)) ∈ wg := wgm (i := 286) (by decide +kernel) rfl
theorem k_258 : (Jvm.Cond.instanceMethod ({ cls := "GuideSearch$Cases", name := "weightOf", desc := "(II)J" } : Jvm.MethodName)) ∈ wg := wgm (i := 287) (by decide +kernel) rfl
theorem k_259 : (Jvm.Cond.selects "GuideSearch$Cases" ({ cls := "GuideSearch$Cases", name := "weightOf", desc := "(II)J" } : Jvm.MethodName) ({ cls := "GuideSearch$Cases", name := "weightOf", desc := "(II)J" } : Jvm.MethodName)) ∈ wg := wgm (i := 288) (by decide +kernel) rfl
theorem k_260 : (Jvm.Cond.code ({ cls := "GuideSearch$Cases", name := "weightOf", desc := "(II)J" } : Jvm.MethodName) prog_2_method_2_code (7 : Nat) (Option.some Jvm.ClassFile.FieldType.long)) ∈ wg := wgm (i := 289) rfl rfl
theorem k_261 : (Jvm.Cond.methodLink "GuideSearch$Cases" (19 : Nat) ({ cls := "GuideSearch$Causes", name := "prior", desc := "(I)J" } : Jvm.MethodName)) ∈ wg := wgm (i := 290) (by decide +kernel) rfl
theorem k_262 : (Jvm.Cond.instanceMethod ({ cls := "GuideSearch$Causes", name := "prior", desc := "(I)J" } : Jvm.MethodName)) ∈ wg := wgm (i := 291) (by decide +kernel) rfl
theorem k_263 : (Jvm.Cond.selects "GuideSearch$Causes" ({ cls := "GuideSearch$Causes", name := "prior", desc := "(I)J" } : Jvm.MethodName) ({ cls := "GuideSearch$Causes", name := "prior", desc := "(I)J" } : Jvm.MethodName)) ∈ wg := wgm (i := 292) (by decide +kernel) rfl
theorem k_264 : (Jvm.Cond.code ({ cls := "GuideSearch$Causes", name := "prior", desc := "(I)J" } : Jvm.MethodName) prog_3_method_8_code (2 : Nat) (Option.some Jvm.ClassFile.FieldType.long)) ∈ wg := wgm (i := 293) rfl rfl
theorem k_265 : (Jvm.Cond.methodLink "GuideSearch$Causes" (29 : Nat) ({ cls := "GuideSearch$Causes", name := "knows", desc := "(I)Z" } : Jvm.MethodName)) ∈ wg := wgm (i := 294) (by decide +kernel) rfl
theorem k_266 : (Jvm.Cond.methodLink "GuideSearch$Causes" (39 : Nat) ({ cls := "java/lang/Math", name := "min", desc := "(II)I" } : Jvm.MethodName)) ∈ wg := wgm (i := 295) (by decide +kernel) rfl
theorem k_267 : (Jvm.Cond.static ({ cls := "java/lang/Math", name := "min", desc := "(II)I" } : Jvm.MethodName)) ∈ wg := wgm (i := 296) (by decide +kernel) rfl
theorem k_268 : (Jvm.Cond.code ({ cls := "java/lang/Math", name := "min", desc := "(II)I" } : Jvm.MethodName) prog_11_method_69_code (2 : Nat) (Option.some Jvm.ClassFile.FieldType.int)) ∈ wg := wgm (i := 297) rfl rfl
theorem k_269 : (Jvm.Cond.constantLong "GuideSearch$Cases" (25 : Nat) (248832 : Int64)) ∈ wg := wgm (i := 298) (by decide +kernel) rfl
theorem k_270 : (Jvm.Cond.methodLinkNest "GuideSearch$Cases" (33 : Nat) ({ cls := "GuideSearch", name := "answerIn", desc := "(II)I" } : Jvm.MethodName) "GuideSearch") ∈ nw := nwm (i := 299) (by decide +kernel) rfl
theorem k_271 : (Jvm.Cond.constantLong "GuideSearch$Cases" (37 : Nat) (12 : Int64)) ∈ wg := wgm (i := 300) (by decide +kernel) rfl
theorem k_272 : (Jvm.Cond.methodLink "GuideSearch$Cases" (39 : Nat) ({ cls := "GuideSearch$Tests", name := "twelfths", desc := "(III)I" } : Jvm.MethodName)) ∈ wg := wgm (i := 301) (by decide +kernel) rfl
theorem k_281 : (Jvm.Cond.methodLinkNest "GuideSearch$Plan" (92 : Nat) ({ cls := "GuideSearch", name := "bit", desc := "(I)I" } : Jvm.MethodName) "GuideSearch") ∈ nw := nwm (i := 310) (by decide +kernel) rfl
theorem k_283 : (Jvm.Cond.instanceMethod ({ cls := "GuideSearch$Cases", name := "usable", desc := "(II)I" } : Jvm.MethodName)) ∈ wg := wgm (i := 312) (by decide +kernel) rfl
theorem k_284 : (Jvm.Cond.selects "GuideSearch$Cases" ({ cls := "GuideSearch$Cases", name := "usable", desc := "(II)I" } : Jvm.MethodName) ({ cls := "GuideSearch$Cases", name := "usable", desc := "(II)I" } : Jvm.MethodName)) ∈ wg := wgm (i := 313) (by decide +kernel) rfl
theorem k_285 : (Jvm.Cond.code ({ cls := "GuideSearch$Cases", name := "usable", desc := "(II)I" } : Jvm.MethodName) prog_2_method_6_code (5 : Nat) (Option.some Jvm.ClassFile.FieldType.int)) ∈ wg := wgm (i := 314) rfl rfl
theorem k_286 : (Jvm.Cond.methodLink "GuideSearch$Cases" (58 : Nat) ({ cls := "java/lang/Integer", name := "bitCount", desc := "(I)I" } : Jvm.MethodName)) ∈ wg := wgm (i := 315) (by decide +kernel) rfl
theorem k_287 : (Jvm.Cond.methodLink "GuideSearch$Cases" (63 : Nat) ({ cls := "GuideSearch$Tests", name := "isOpen", desc := "(II)Z" } : Jvm.MethodName)) ∈ wg := wgm (i := 316) (by decide +kernel) rfl
theorem k_288 : (Jvm.Cond.instanceMethod ({ cls := "GuideSearch$Tests", name := "isOpen", desc := "(II)Z" } : Jvm.MethodName)) ∈ wg := wgm (i := 317) (by decide +kernel) rfl
theorem k_289 : (Jvm.Cond.selects "GuideSearch$Tests" ({ cls := "GuideSearch$Tests", name := "isOpen", desc := "(II)Z" } : Jvm.MethodName) ({ cls := "GuideSearch$Tests", name := "isOpen", desc := "(II)Z" } : Jvm.MethodName)) ∈ wg := wgm (i := 318) (by decide +kernel) rfl
theorem k_290 : (Jvm.Cond.code ({ cls := "GuideSearch$Tests", name := "isOpen", desc := "(II)Z" } : Jvm.MethodName) prog_5_method_11_code (4 : Nat) (Option.some Jvm.ClassFile.FieldType.boolean)) ∈ wg := wgm (i := 319) rfl rfl
theorem k_291 : (Jvm.Cond.methodLink "GuideSearch$Cases" (67 : Nat) ({ cls := "GuideSearch$Tests", name := "tellsApart", desc := "(II)Z" } : Jvm.MethodName)) ∈ wg := wgm (i := 320) (by decide +kernel) rfl
theorem k_292 : (Jvm.Cond.instanceMethod ({ cls := "GuideSearch$Tests", name := "tellsApart", desc := "(II)Z" } : Jvm.MethodName)) ∈ wg := wgm (i := 321) (by decide +kernel) rfl
theorem k_293 : (Jvm.Cond.selects "GuideSearch$Tests" ({ cls := "GuideSearch$Tests", name := "tellsApart", desc := "(II)Z" } : Jvm.MethodName) ({ cls := "GuideSearch$Tests", name := "tellsApart", desc := "(II)Z" } : Jvm.MethodName)) ∈ wg := wgm (i := 322) (by decide +kernel) rfl
theorem k_294 : (Jvm.Cond.code ({ cls := "GuideSearch$Tests", name := "tellsApart", desc := "(II)Z" } : Jvm.MethodName) prog_5_method_13_code (5 : Nat) (Option.some Jvm.ClassFile.FieldType.boolean)) ∈ wg := wgm (i := 323) rfl rfl
theorem k_295 : (Jvm.Cond.methodLinkNest "GuideSearch$Cases" (54 : Nat) ({ cls := "GuideSearch", name := "bit", desc := "(I)I" } : Jvm.MethodName) "GuideSearch") ∈ nw := nwm (i := 324) (by decide +kernel) rfl
theorem k_297 : (Jvm.Cond.instanceMethod ({ cls := "GuideSearch$Cases", name := "firstFree", desc := "(I)I" } : Jvm.MethodName)) ∈ wg := wgm (i := 326) (by decide +kernel) rfl
theorem k_298 : (Jvm.Cond.selects "GuideSearch$Cases" ({ cls := "GuideSearch$Cases", name := "firstFree", desc := "(I)I" } : Jvm.MethodName) ({ cls := "GuideSearch$Cases", name := "firstFree", desc := "(I)I" } : Jvm.MethodName)) ∈ wg := wgm (i := 327) (by decide +kernel) rfl
theorem k_299 : (Jvm.Cond.code ({ cls := "GuideSearch$Cases", name := "firstFree", desc := "(I)I" } : Jvm.MethodName) prog_2_method_7_code (3 : Nat) (Option.some Jvm.ClassFile.FieldType.int)) ∈ wg := wgm (i := 328) rfl rfl
theorem k_300 : (Jvm.Cond.methodLinkNest "GuideSearch$Cases" (70 : Nat) ({ cls := "GuideSearch", name := "holds", desc := "(II)Z" } : Jvm.MethodName) "GuideSearch") ∈ nw := nwm (i := 329) (by decide +kernel) rfl
theorem k_301 : (Jvm.Cond.methodLink "GuideSearch$Cases" (73 : Nat) ({ cls := "GuideSearch$Tests", name := "price", desc := "(I)I" } : Jvm.MethodName)) ∈ wg := wgm (i := 330) (by decide +kernel) rfl
theorem k_302 : (Jvm.Cond.instanceMethod ({ cls := "GuideSearch$Tests", name := "price", desc := "(I)I" } : Jvm.MethodName)) ∈ wg := wgm (i := 331) (by decide +kernel) rfl
theorem k_303 : (Jvm.Cond.selects "GuideSearch$Tests" ({ cls := "GuideSearch$Tests", name := "price", desc := "(I)I" } : Jvm.MethodName) ({ cls := "GuideSearch$Tests", name := "price", desc := "(I)I" } : Jvm.MethodName)) ∈ wg := wgm (i := 332) (by decide +kernel) rfl
theorem k_304 : (Jvm.Cond.code ({ cls := "GuideSearch$Tests", name := "price", desc := "(I)I" } : Jvm.MethodName) prog_5_method_4_code (2 : Nat) (Option.some Jvm.ClassFile.FieldType.int)) ∈ wg := wgm (i := 333) rfl rfl
theorem k_320 : (Jvm.Cond.static ({ cls := "GuideSearch", name := "withAnswer", desc := "(III)I" } : Jvm.MethodName)) ∈ wg := wgm (i := 349) (by decide +kernel) rfl
theorem k_321 : (Jvm.Cond.code ({ cls := "GuideSearch", name := "withAnswer", desc := "(III)I" } : Jvm.MethodName) prog_1_method_20_code (3 : Nat) (Option.some Jvm.ClassFile.FieldType.int)) ∈ wg := wgm (i := 350) rfl rfl
theorem k_326 : (Jvm.Cond.constantLong "GuideSearch$Plan" (80 : Nat) (12 : Int64)) ∈ wg := wgm (i := 355) (by decide +kernel) rfl
theorem k_327 : (Jvm.Cond.methodLink "GuideSearch$Plan" (86 : Nat) ({ cls := "GuideSearch$Tests", name := "twelfths", desc := "(III)I" } : Jvm.MethodName)) ∈ wg := wgm (i := 356) (by decide +kernel) rfl
theorem k_338 : (Jvm.Cond.methodLink "GuideSearch$Cases" (76 : Nat) ({ cls := "GuideSearch$Cases", name := "left", desc := "(I)I" } : Jvm.MethodName)) ∈ wg := wgm (i := 367) (by decide +kernel) rfl
theorem k_339 : (Jvm.Cond.instanceMethod ({ cls := "GuideSearch$Cases", name := "left", desc := "(I)I" } : Jvm.MethodName)) ∈ wg := wgm (i := 368) (by decide +kernel) rfl
theorem k_340 : (Jvm.Cond.selects "GuideSearch$Cases" ({ cls := "GuideSearch$Cases", name := "left", desc := "(I)I" } : Jvm.MethodName) ({ cls := "GuideSearch$Cases", name := "left", desc := "(I)I" } : Jvm.MethodName)) ∈ wg := wgm (i := 369) (by decide +kernel) rfl
theorem k_341 : (Jvm.Cond.code ({ cls := "GuideSearch$Cases", name := "left", desc := "(I)I" } : Jvm.MethodName) prog_2_method_5_code (4 : Nat) (Option.some Jvm.ClassFile.FieldType.int)) ∈ wg := wgm (i := 370) rfl rfl
theorem k_342 : (Jvm.Cond.methodLink "GuideSearch$Cases" (44 : Nat) ({ cls := "GuideSearch$Cases", name := "weightOf", desc := "(II)J" } : Jvm.MethodName)) ∈ wg := wgm (i := 371) (by decide +kernel) rfl
theorem k_343 : (Jvm.Cond.methodLink "GuideSearch$Cases" (79 : Nat) ({ cls := "GuideSearch$Cases", name := "usable", desc := "(II)I" } : Jvm.MethodName)) ∈ wg := wgm (i := 372) (by decide +kernel) rfl
theorem k_344 : (Jvm.Cond.methodLink "GuideSearch$Cases" (82 : Nat) ({ cls := "GuideSearch$Cases", name := "firstFree", desc := "(I)I" } : Jvm.MethodName)) ∈ wg := wgm (i := 373) (by decide +kernel) rfl
theorem k_345 : (Jvm.Cond.methodLink "GuideSearch$Cases" (85 : Nat) ({ cls := "GuideSearch$Cases", name := "bestGain", desc := "(II)I" } : Jvm.MethodName)) ∈ wg := wgm (i := 374) (by decide +kernel) rfl
theorem k_347 : (Jvm.Cond.instanceMethod ({ cls := "GuideSearch$Cases", name := "bestGain", desc := "(II)I" } : Jvm.MethodName)) ∈ wg := wgm (i := 376) (by decide +kernel) rfl
theorem k_348 : (Jvm.Cond.code ({ cls := "GuideSearch$Cases", name := "bestGain", desc := "(II)I" } : Jvm.MethodName) prog_2_method_9_code (9 : Nat) (Option.some Jvm.ClassFile.FieldType.int)) ∈ wg := wgm (i := 377) rfl rfl
theorem k_349 : (Jvm.Cond.methodLink "GuideSearch$Cases" (88 : Nat) ({ cls := "GuideSearch$Cases", name := "gain", desc := "(II)J" } : Jvm.MethodName)) ∈ wg := wgm (i := 378) (by decide +kernel) rfl
theorem k_351 : (Jvm.Cond.instanceMethod ({ cls := "GuideSearch$Cases", name := "gain", desc := "(II)J" } : Jvm.MethodName)) ∈ wg := wgm (i := 380) (by decide +kernel) rfl
theorem k_352 : (Jvm.Cond.code ({ cls := "GuideSearch$Cases", name := "gain", desc := "(II)J" } : Jvm.MethodName) prog_2_method_10_code (6 : Nat) (Option.some Jvm.ClassFile.FieldType.long)) ∈ wg := wgm (i := 381) rfl rfl
theorem k_353 : (Jvm.Cond.methodLink "GuideSearch$Cases" (91 : Nat) ({ cls := "GuideSearch$Cases", name := "greatestWeight", desc := "(I)J" } : Jvm.MethodName)) ∈ wg := wgm (i := 382) (by decide +kernel) rfl
theorem k_355 : (Jvm.Cond.instanceMethod ({ cls := "GuideSearch$Cases", name := "greatestWeight", desc := "(I)J" } : Jvm.MethodName)) ∈ wg := wgm (i := 384) (by decide +kernel) rfl
theorem k_356 : (Jvm.Cond.code ({ cls := "GuideSearch$Cases", name := "greatestWeight", desc := "(I)J" } : Jvm.MethodName) prog_2_method_4_code (5 : Nat) (Option.some Jvm.ClassFile.FieldType.long)) ∈ wg := wgm (i := 385) rfl rfl
theorem k_357 : (Jvm.Cond.methodLink "GuideSearch$Cases" (48 : Nat) ({ cls := "java/lang/Math", name := "max", desc := "(JJ)J" } : Jvm.MethodName)) ∈ wg := wgm (i := 386) (by decide +kernel) rfl
theorem k_358 : (Jvm.Cond.static ({ cls := "java/lang/Math", name := "max", desc := "(JJ)J" } : Jvm.MethodName)) ∈ wg := wgm (i := 387) (by decide +kernel) rfl
theorem k_359 : (Jvm.Cond.code ({ cls := "java/lang/Math", name := "max", desc := "(JJ)J" } : Jvm.MethodName) prog_11_method_66_code (4 : Nat) (Option.some Jvm.ClassFile.FieldType.long)) ∈ wg := wgm (i := 388) rfl rfl
theorem k_360 : (Jvm.Cond.methodLinkNest "GuideSearch$Cases" (94 : Nat) ({ cls := "GuideSearch", name := "withAnswer", desc := "(III)I" } : Jvm.MethodName) "GuideSearch") ∈ nw := nwm (i := 389) (by decide +kernel) rfl
theorem k_365 : (Jvm.Cond.methodLink "GuideSearch" (120 : Nat) ({ cls := "GuideSearch$Tests", name := "isOpen", desc := "(II)Z" } : Jvm.MethodName)) ∈ wg := wgm (i := 394) (by decide +kernel) rfl
theorem k_366 : (Jvm.Cond.methodLink "GuideSearch" (124 : Nat) ({ cls := "GuideSearch", name := "withAnswer", desc := "(III)I" } : Jvm.MethodName)) ∈ wg := wgm (i := 395) (by decide +kernel) rfl
theorem k_367 : (Jvm.Cond.methodLink "GuideSearch" (127 : Nat) ({ cls := "GuideSearch$Cases", name := "left", desc := "(I)I" } : Jvm.MethodName)) ∈ wg := wgm (i := 396) (by decide +kernel) rfl
theorem k_368 : (Jvm.Cond.methodLink "GuideSearch" (130 : Nat) ({ cls := "java/lang/Integer", name := "bitCount", desc := "(I)I" } : Jvm.MethodName)) ∈ wg := wgm (i := 397) (by decide +kernel) rfl
theorem k_381 : (Jvm.Cond.methodLink "GuideSearch" (160 : Nat) ({ cls := "GuideSearch$Causes", name := "isFault", desc := "(I)Z" } : Jvm.MethodName)) ∈ wg := wgm (i := 410) (by decide +kernel) rfl
theorem k_382 : (Jvm.Cond.instanceMethod ({ cls := "GuideSearch$Causes", name := "isFault", desc := "(I)Z" } : Jvm.MethodName)) ∈ wg := wgm (i := 411) (by decide +kernel) rfl
theorem k_383 : (Jvm.Cond.selects "GuideSearch$Causes" ({ cls := "GuideSearch$Causes", name := "isFault", desc := "(I)Z" } : Jvm.MethodName) ({ cls := "GuideSearch$Causes", name := "isFault", desc := "(I)Z" } : Jvm.MethodName)) ∈ wg := wgm (i := 412) (by decide +kernel) rfl
theorem k_384 : (Jvm.Cond.code ({ cls := "GuideSearch$Causes", name := "isFault", desc := "(I)Z" } : Jvm.MethodName) prog_3_method_3_code (2 : Nat) (Option.some Jvm.ClassFile.FieldType.boolean)) ∈ wg := wgm (i := 413) rfl rfl
theorem k_385 : (Jvm.Cond.methodLink "GuideSearch" (163 : Nat) ({ cls := "GuideSearch$Causes", name := "hasPair", desc := "(I)Z" } : Jvm.MethodName)) ∈ wg := wgm (i := 414) (by decide +kernel) rfl
theorem k_386 : (Jvm.Cond.instanceMethod ({ cls := "GuideSearch$Causes", name := "hasPair", desc := "(I)Z" } : Jvm.MethodName)) ∈ wg := wgm (i := 415) (by decide +kernel) rfl
theorem k_387 : (Jvm.Cond.selects "GuideSearch$Causes" ({ cls := "GuideSearch$Causes", name := "hasPair", desc := "(I)Z" } : Jvm.MethodName) ({ cls := "GuideSearch$Causes", name := "hasPair", desc := "(I)Z" } : Jvm.MethodName)) ∈ wg := wgm (i := 416) (by decide +kernel) rfl
theorem k_388 : (Jvm.Cond.code ({ cls := "GuideSearch$Causes", name := "hasPair", desc := "(I)Z" } : Jvm.MethodName) prog_3_method_4_code (3 : Nat) (Option.some Jvm.ClassFile.FieldType.boolean)) ∈ wg := wgm (i := 417) rfl rfl
theorem k_389 : (Jvm.Cond.methodLink "GuideSearch" (166 : Nat) ({ cls := "GuideSearch$Causes", name := "addPair", desc := "(II)I" } : Jvm.MethodName)) ∈ wg := wgm (i := 418) (by decide +kernel) rfl
theorem k_390 : (Jvm.Cond.instanceMethod ({ cls := "GuideSearch$Causes", name := "addPair", desc := "(II)I" } : Jvm.MethodName)) ∈ wg := wgm (i := 419) (by decide +kernel) rfl
theorem k_391 : (Jvm.Cond.selects "GuideSearch$Causes" ({ cls := "GuideSearch$Causes", name := "addPair", desc := "(II)I" } : Jvm.MethodName) ({ cls := "GuideSearch$Causes", name := "addPair", desc := "(II)I" } : Jvm.MethodName)) ∈ wg := wgm (i := 420) (by decide +kernel) rfl
theorem k_392 : (Jvm.Cond.code ({ cls := "GuideSearch$Causes", name := "addPair", desc := "(II)I" } : Jvm.MethodName) prog_3_method_6_code (3 : Nat) (Option.some Jvm.ClassFile.FieldType.int)) ∈ wg := wgm (i := 421) rfl rfl
theorem k_393 : (Jvm.Cond.methodLinkNest "GuideSearch$Causes" (35 : Nat) ({ cls := "GuideSearch", name := "bit", desc := "(I)I" } : Jvm.MethodName) "GuideSearch") ∈ nw := nwm (i := 422) (by decide +kernel) rfl
theorem k_398 : (Jvm.Cond.methodLink "GuideSearch" (169 : Nat) ({ cls := "GuideSearch$Causes", name := "countLearned", desc := "(I)I" } : Jvm.MethodName)) ∈ wg := wgm (i := 427) (by decide +kernel) rfl
theorem k_399 : (Jvm.Cond.instanceMethod ({ cls := "GuideSearch$Causes", name := "countLearned", desc := "(I)I" } : Jvm.MethodName)) ∈ wg := wgm (i := 428) (by decide +kernel) rfl
theorem k_400 : (Jvm.Cond.selects "GuideSearch$Causes" ({ cls := "GuideSearch$Causes", name := "countLearned", desc := "(I)I" } : Jvm.MethodName) ({ cls := "GuideSearch$Causes", name := "countLearned", desc := "(I)I" } : Jvm.MethodName)) ∈ wg := wgm (i := 429) (by decide +kernel) rfl
theorem k_401 : (Jvm.Cond.code ({ cls := "GuideSearch$Causes", name := "countLearned", desc := "(I)I" } : Jvm.MethodName) prog_3_method_7_code (2 : Nat) (Option.some Jvm.ClassFile.FieldType.int)) ∈ wg := wgm (i := 430) rfl rfl
theorem k_406 : (Jvm.Cond.methodLink "GuideSearch" (175 : Nat) ({ cls := "GuideSearch$Plan", name := "tell", desc := "(II)I" } : Jvm.MethodName)) ∈ wg := wgm (i := 435) (by decide +kernel) rfl
theorem k_407 : (Jvm.Cond.instanceMethod ({ cls := "GuideSearch$Plan", name := "tell", desc := "(II)I" } : Jvm.MethodName)) ∈ wg := wgm (i := 436) (by decide +kernel) rfl
theorem k_408 : (Jvm.Cond.selects "GuideSearch$Plan" ({ cls := "GuideSearch$Plan", name := "tell", desc := "(II)I" } : Jvm.MethodName) ({ cls := "GuideSearch$Plan", name := "tell", desc := "(II)I" } : Jvm.MethodName)) ∈ wg := wgm (i := 437) (by decide +kernel) rfl
theorem k_409 : (Jvm.Cond.code ({ cls := "GuideSearch$Plan", name := "tell", desc := "(II)I" } : Jvm.MethodName) prog_4_method_4_code (3 : Nat) (Option.some Jvm.ClassFile.FieldType.int)) ∈ wg := wgm (i := 438) rfl rfl
theorem k_414 : (Jvm.Cond.methodLink "GuideSearch" (178 : Nat) ({ cls := "GuideSearch$Tests", name := "canAnswer", desc := "(III)Z" } : Jvm.MethodName)) ∈ wg := wgm (i := 443) (by decide +kernel) rfl
theorem k_415 : (Jvm.Cond.instanceMethod ({ cls := "GuideSearch$Tests", name := "canAnswer", desc := "(III)Z" } : Jvm.MethodName)) ∈ wg := wgm (i := 444) (by decide +kernel) rfl
theorem k_416 : (Jvm.Cond.selects "GuideSearch$Tests" ({ cls := "GuideSearch$Tests", name := "canAnswer", desc := "(III)Z" } : Jvm.MethodName) ({ cls := "GuideSearch$Tests", name := "canAnswer", desc := "(III)Z" } : Jvm.MethodName)) ∈ wg := wgm (i := 445) (by decide +kernel) rfl
theorem k_417 : (Jvm.Cond.code ({ cls := "GuideSearch$Tests", name := "canAnswer", desc := "(III)Z" } : Jvm.MethodName) prog_5_method_12_code (5 : Nat) (Option.some Jvm.ClassFile.FieldType.boolean)) ∈ wg := wgm (i := 446) rfl rfl
theorem k_532 : (Jvm.Cond.lays "GuideSearchModel" "GuideSearchModel" "code" "I") ∈ wg := wgm (i := 561) (by decide +kernel) rfl
theorem k_534 : (Jvm.Cond.lays "GuideSearchModel" "GuideSearchModel" "causes" "I") ∈ wg := wgm (i := 563) (by decide +kernel) rfl
theorem k_536 : (Jvm.Cond.lays "GuideSearchModel" "GuideSearchModel" "faults" "I") ∈ wg := wgm (i := 565) (by decide +kernel) rfl
theorem k_538 : (Jvm.Cond.laysFinal "GuideSearchModel" "GuideSearchModel" "one" "[I") ∈ wg := wgm (i := 567) (by decide +kernel) rfl
theorem k_540 : (Jvm.Cond.laysFinal "GuideSearchModel" "GuideSearchModel" "two" "[I") ∈ wg := wgm (i := 569) (by decide +kernel) rfl
theorem k_542 : (Jvm.Cond.laysFinal "GuideSearchModel" "GuideSearchModel" "prior" "[J") ∈ wg := wgm (i := 571) (by decide +kernel) rfl
theorem k_544 : (Jvm.Cond.laysFinal "GuideSearchModel" "GuideSearchModel" "learned" "[I") ∈ wg := wgm (i := 573) (by decide +kernel) rfl
theorem k_546 : (Jvm.Cond.lays "GuideSearchModel" "GuideSearchModel" "strangers" "I") ∈ wg := wgm (i := 575) (by decide +kernel) rfl
theorem k_548 : (Jvm.Cond.lays "GuideSearchModel" "GuideSearchModel" "tests" "I") ∈ wg := wgm (i := 577) (by decide +kernel) rfl
theorem k_550 : (Jvm.Cond.laysFinal "GuideSearchModel" "GuideSearchModel" "price" "[J") ∈ wg := wgm (i := 579) (by decide +kernel) rfl
theorem k_552 : (Jvm.Cond.laysFinal "GuideSearchModel" "GuideSearchModel" "needs" "[Z") ∈ wg := wgm (i := 581) (by decide +kernel) rfl
theorem k_554 : (Jvm.Cond.laysFinal "GuideSearchModel" "GuideSearchModel" "odds" "[I") ∈ wg := wgm (i := 583) (by decide +kernel) rfl
theorem k_556 : (Jvm.Cond.laysFinal "GuideSearchModel" "GuideSearchModel" "given" "[I") ∈ wg := wgm (i := 585) (by decide +kernel) rfl
theorem k_558 : (Jvm.Cond.lays "GuideSearchModel" "GuideSearchModel" "exact" "Z") ∈ wg := wgm (i := 587) (by decide +kernel) rfl
theorem k_560 : (Jvm.Cond.lays "GuideSearchModel" "GuideSearchModel" "cost" "J") ∈ wg := wgm (i := 589) (by decide +kernel) rfl
theorem k_562 : (Jvm.Cond.lays "GuideSearchModel" "GuideSearchModel" "nodes" "I") ∈ wg := wgm (i := 591) (by decide +kernel) rfl
theorem k_564 : (Jvm.Cond.laysFinal "GuideSearchModel" "GuideSearchModel" "node" "[I") ∈ wg := wgm (i := 593) (by decide +kernel) rfl
theorem k_566 : (Jvm.Cond.laysFinal "GuideSearchModel" "GuideSearchModel" "value" "[J") ∈ wg := wgm (i := 595) (by decide +kernel) rfl
theorem k_568 : (Jvm.Cond.laysFinal "GuideSearchModel" "GuideSearchModel" "best" "[I") ∈ wg := wgm (i := 597) (by decide +kernel) rfl
theorem k_570 : (Jvm.Cond.laysFinal "GuideSearchModel" "GuideSearchModel" "digit" "[I") ∈ wg := wgm (i := 599) (by decide +kernel) rfl
theorem k_572 : (Jvm.Cond.laysFinal "GuideSearchModel" "GuideSearchModel" "weight" "[J") ∈ wg := wgm (i := 601) (by decide +kernel) rfl
theorem k_574 : (Jvm.Cond.laysFinal "GuideSearchModel" "GuideSearchModel" "wait" "[I") ∈ wg := wgm (i := 603) (by decide +kernel) rfl
theorem k_576 : (Jvm.Cond.laysFinal "GuideSearchModel" "GuideSearchModel" "by" "[I") ∈ wg := wgm (i := 605) (by decide +kernel) rfl
theorem k_578 : (Jvm.Cond.laysFinal "GuideSearchModel" "GuideSearchModel" "found" "[Z") ∈ wg := wgm (i := 607) (by decide +kernel) rfl
theorem k_580 : (Jvm.Cond.laysFinal "GuideSearchModel" "GuideSearchModel" "use" "[Z") ∈ wg := wgm (i := 609) (by decide +kernel) rfl
theorem ks_0 : Cond.selects "GuideSearch$Tests" ⟨"GuideSearch$Tests", "hasPlace", "(II)Z"⟩ ⟨"GuideSearch$Tests", "hasPlace", "(II)Z"⟩ ∈ wg := wgm (i := 0) (by decide +kernel) rfl
theorem ks_8 : Cond.selects "GuideSearch$Cases" ⟨"GuideSearch$Cases", "bestGain", "(II)I"⟩ ⟨"GuideSearch$Cases", "bestGain", "(II)I"⟩ ∈ wg := wgm (i := 8) (by decide +kernel) rfl
theorem ks_9 : Cond.selects "GuideSearch$Cases" ⟨"GuideSearch$Cases", "gain", "(II)J"⟩ ⟨"GuideSearch$Cases", "gain", "(II)J"⟩ ∈ wg := wgm (i := 9) (by decide +kernel) rfl
theorem ks_10 : Cond.selects "GuideSearch$Cases" ⟨"GuideSearch$Cases", "greatestWeight", "(I)J"⟩ ⟨"GuideSearch$Cases", "greatestWeight", "(I)J"⟩ ∈ wg := wgm (i := 10) (by decide +kernel) rfl
set_option maxRecDepth 20000 in
theorem i_G : ∀ w ∈ u_ws "GuideSearch" F_G 6, w ∈ wg := by
  have h : u_ws "GuideSearch" F_G 6 = [(Jvm.Cond.laysFinal "GuideSearch" "GuideSearch" "causes" "LGuideSearch$Causes;"), (Jvm.Cond.laysFinal "GuideSearch" "GuideSearch" "tests" "LGuideSearch$Tests;"), (Jvm.Cond.laysFinal "GuideSearch" "GuideSearch" "cases" "LGuideSearch$Cases;"), (Jvm.Cond.laysFinal "GuideSearch" "GuideSearch" "plan" "LGuideSearch$Plan;"), (Jvm.Cond.lays "GuideSearch" "GuideSearch" "open" "I"), (Jvm.Cond.lays "GuideSearch" "GuideSearch" "planned" "Z")] := by decide +kernel
  rw [h]
  exact List.forall_mem_cons.mpr ⟨k_135, List.forall_mem_cons.mpr ⟨k_137, List.forall_mem_cons.mpr ⟨k_139, List.forall_mem_cons.mpr ⟨k_141, List.forall_mem_cons.mpr ⟨k_143, List.forall_mem_cons.mpr ⟨k_145, fun _ h => absurd h List.not_mem_nil⟩⟩⟩⟩⟩⟩
set_option maxRecDepth 20000 in
theorem i_C : ∀ w ∈ u_ws "GuideSearch$Causes" F_C 5, w ∈ wg := by
  have h : u_ws "GuideSearch$Causes" F_C 5 = [(Jvm.Cond.laysFinal "GuideSearch$Causes" "GuideSearch$Causes" "priors" "[J"), (Jvm.Cond.laysFinal "GuideSearch$Causes" "GuideSearch$Causes" "members" "[I"), (Jvm.Cond.laysFinal "GuideSearch$Causes" "GuideSearch$Causes" "learned" "[I"), (Jvm.Cond.lays "GuideSearch$Causes" "GuideSearch$Causes" "count" "I"), (Jvm.Cond.lays "GuideSearch$Causes" "GuideSearch$Causes" "faults" "I")] := by decide +kernel
  rw [h]
  exact List.forall_mem_cons.mpr ⟨k_36, List.forall_mem_cons.mpr ⟨k_38, List.forall_mem_cons.mpr ⟨k_40, List.forall_mem_cons.mpr ⟨k_42, List.forall_mem_cons.mpr ⟨k_44, fun _ h => absurd h List.not_mem_nil⟩⟩⟩⟩⟩
set_option maxRecDepth 20000 in
theorem i_T : ∀ w ∈ u_ws "GuideSearch$Tests" F_T 4, w ∈ wg := by
  have h : u_ws "GuideSearch$Tests" F_T 4 = [(Jvm.Cond.laysFinal "GuideSearch$Tests" "GuideSearch$Tests" "costs" "[I"), (Jvm.Cond.laysFinal "GuideSearch$Tests" "GuideSearch$Tests" "needed" "[I"), (Jvm.Cond.laysFinal "GuideSearch$Tests" "GuideSearch$Tests" "table" "[[I"), (Jvm.Cond.lays "GuideSearch$Tests" "GuideSearch$Tests" "count" "I")] := by decide +kernel
  rw [h]
  exact List.forall_mem_cons.mpr ⟨k_66, List.forall_mem_cons.mpr ⟨k_68, List.forall_mem_cons.mpr ⟨k_70, List.forall_mem_cons.mpr ⟨k_72, fun _ h => absurd h List.not_mem_nil⟩⟩⟩⟩
set_option maxRecDepth 20000 in
theorem i_K : ∀ w ∈ u_ws "GuideSearch$Cases" F_K 2, w ∈ wg := by
  have h : u_ws "GuideSearch$Cases" F_K 2 = [(Jvm.Cond.laysFinal "GuideSearch$Cases" "GuideSearch$Cases" "causes" "LGuideSearch$Causes;"), (Jvm.Cond.laysFinal "GuideSearch$Cases" "GuideSearch$Cases" "tests" "LGuideSearch$Tests;")] := by decide +kernel
  rw [h]
  exact List.forall_mem_cons.mpr ⟨k_84, List.forall_mem_cons.mpr ⟨k_86, fun _ h => absurd h List.not_mem_nil⟩⟩
set_option maxRecDepth 20000 in
theorem i_P : ∀ w ∈ u_ws "GuideSearch$Plan" F_P 9, w ∈ wg := by
  have h : u_ws "GuideSearch$Plan" F_P 9 = [(Jvm.Cond.laysFinal "GuideSearch$Plan" "GuideSearch$Plan" "cases" "LGuideSearch$Cases;"), (Jvm.Cond.laysFinal "GuideSearch$Plan" "GuideSearch$Plan" "values" "[J"), (Jvm.Cond.laysFinal "GuideSearch$Plan" "GuideSearch$Plan" "picks" "[B"), (Jvm.Cond.laysFinal "GuideSearch$Plan" "GuideSearch$Plan" "weights" "[[J"), (Jvm.Cond.laysFinal "GuideSearch$Plan" "GuideSearch$Plan" "nodeTests" "[B"), (Jvm.Cond.laysFinal "GuideSearch$Plan" "GuideSearch$Plan" "nodeLefts" "[B"), (Jvm.Cond.laysFinal "GuideSearch$Plan" "GuideSearch$Plan" "nodeAnswers" "[B"), (Jvm.Cond.lays "GuideSearch$Plan" "GuideSearch$Plan" "nodes" "I"), (Jvm.Cond.lays "GuideSearch$Plan" "GuideSearch$Plan" "thousandths" "J")] := by decide +kernel
  rw [h]
  exact List.forall_mem_cons.mpr ⟨k_109, List.forall_mem_cons.mpr ⟨k_111, List.forall_mem_cons.mpr ⟨k_113, List.forall_mem_cons.mpr ⟨k_115, List.forall_mem_cons.mpr ⟨k_117, List.forall_mem_cons.mpr ⟨k_119, List.forall_mem_cons.mpr ⟨k_121, List.forall_mem_cons.mpr ⟨k_123, List.forall_mem_cons.mpr ⟨k_125, fun _ h => absurd h List.not_mem_nil⟩⟩⟩⟩⟩⟩⟩⟩⟩
set_option maxRecDepth 20000 in
theorem i_M : ∀ w ∈ u_ws "GuideSearchModel" F_M 25, w ∈ wg := by
  have h : u_ws "GuideSearchModel" F_M 25 = [(Jvm.Cond.lays "GuideSearchModel" "GuideSearchModel" "code" "I"), (Jvm.Cond.lays "GuideSearchModel" "GuideSearchModel" "causes" "I"), (Jvm.Cond.lays "GuideSearchModel" "GuideSearchModel" "faults" "I"), (Jvm.Cond.laysFinal "GuideSearchModel" "GuideSearchModel" "one" "[I"), (Jvm.Cond.laysFinal "GuideSearchModel" "GuideSearchModel" "two" "[I"), (Jvm.Cond.laysFinal "GuideSearchModel" "GuideSearchModel" "prior" "[J"), (Jvm.Cond.laysFinal "GuideSearchModel" "GuideSearchModel" "learned" "[I"), (Jvm.Cond.lays "GuideSearchModel" "GuideSearchModel" "strangers" "I"), (Jvm.Cond.lays "GuideSearchModel" "GuideSearchModel" "tests" "I"), (Jvm.Cond.laysFinal "GuideSearchModel" "GuideSearchModel" "price" "[J"), (Jvm.Cond.laysFinal "GuideSearchModel" "GuideSearchModel" "needs" "[Z"), (Jvm.Cond.laysFinal "GuideSearchModel" "GuideSearchModel" "odds" "[I"), (Jvm.Cond.laysFinal "GuideSearchModel" "GuideSearchModel" "given" "[I"), (Jvm.Cond.lays "GuideSearchModel" "GuideSearchModel" "exact" "Z"), (Jvm.Cond.lays "GuideSearchModel" "GuideSearchModel" "cost" "J"), (Jvm.Cond.lays "GuideSearchModel" "GuideSearchModel" "nodes" "I"), (Jvm.Cond.laysFinal "GuideSearchModel" "GuideSearchModel" "node" "[I"), (Jvm.Cond.laysFinal "GuideSearchModel" "GuideSearchModel" "value" "[J"), (Jvm.Cond.laysFinal "GuideSearchModel" "GuideSearchModel" "best" "[I"), (Jvm.Cond.laysFinal "GuideSearchModel" "GuideSearchModel" "digit" "[I"), (Jvm.Cond.laysFinal "GuideSearchModel" "GuideSearchModel" "weight" "[J"), (Jvm.Cond.laysFinal "GuideSearchModel" "GuideSearchModel" "wait" "[I"), (Jvm.Cond.laysFinal "GuideSearchModel" "GuideSearchModel" "by" "[I"), (Jvm.Cond.laysFinal "GuideSearchModel" "GuideSearchModel" "found" "[Z"), (Jvm.Cond.laysFinal "GuideSearchModel" "GuideSearchModel" "use" "[Z")] := by decide +kernel
  rw [h]
  exact List.forall_mem_cons.mpr ⟨k_532, List.forall_mem_cons.mpr ⟨k_534, List.forall_mem_cons.mpr ⟨k_536, List.forall_mem_cons.mpr ⟨k_538, List.forall_mem_cons.mpr ⟨k_540, List.forall_mem_cons.mpr ⟨k_542, List.forall_mem_cons.mpr ⟨k_544, List.forall_mem_cons.mpr ⟨k_546, List.forall_mem_cons.mpr ⟨k_548, List.forall_mem_cons.mpr ⟨k_550, List.forall_mem_cons.mpr ⟨k_552, List.forall_mem_cons.mpr ⟨k_554, List.forall_mem_cons.mpr ⟨k_556, List.forall_mem_cons.mpr ⟨k_558, List.forall_mem_cons.mpr ⟨k_560, List.forall_mem_cons.mpr ⟨k_562, List.forall_mem_cons.mpr ⟨k_564, List.forall_mem_cons.mpr ⟨k_566, List.forall_mem_cons.mpr ⟨k_568, List.forall_mem_cons.mpr ⟨k_570, List.forall_mem_cons.mpr ⟨k_572, List.forall_mem_cons.mpr ⟨k_574, List.forall_mem_cons.mpr ⟨k_576, List.forall_mem_cons.mpr ⟨k_578, List.forall_mem_cons.mpr ⟨k_580, fun _ h => absurd h List.not_mem_nil⟩⟩⟩⟩⟩⟩⟩⟩⟩⟩⟩⟩⟩⟩⟩⟩⟩⟩⟩⟩⟩⟩⟩⟩⟩
end
section
abbrev XS : Type := Int32 × Int32 × Int32 × Int32 × (Nat → Int64) × (Nat → Int32) × (Nat → Int32) × Int32 × (Nat → Int32) × (Nat → Int32) × (Nat → Nat → Int32) × Int32 × Int64 × (Nat → Int64) × (Nat → Int32) × (Nat → Nat → Int64) × (Nat → Int32) × (Nat → Int32) × (Nat → Int32)
def x_opn (st : XS) : Int32 := st.1
def x_pla (st : XS) : Int32 := st.2.1
def x_cN (st : XS) : Int32 := st.2.2.1
def x_fN (st : XS) : Int32 := st.2.2.2.1
def x_pri (st : XS) : Nat → Int64 := st.2.2.2.2.1
def x_mem (st : XS) : Nat → Int32 := st.2.2.2.2.2.1
def x_lea (st : XS) : Nat → Int32 := st.2.2.2.2.2.2.1
def x_tN (st : XS) : Int32 := st.2.2.2.2.2.2.2.1
def x_cst (st : XS) : Nat → Int32 := st.2.2.2.2.2.2.2.2.1
def x_nee (st : XS) : Nat → Int32 := st.2.2.2.2.2.2.2.2.2.1
def x_tab (st : XS) : Nat → Nat → Int32 := st.2.2.2.2.2.2.2.2.2.2.1
def x_nod (st : XS) : Int32 := st.2.2.2.2.2.2.2.2.2.2.2.1
def x_tho (st : XS) : Int64 := st.2.2.2.2.2.2.2.2.2.2.2.2.1
def x_val (st : XS) : Nat → Int64 := st.2.2.2.2.2.2.2.2.2.2.2.2.2.1
def x_pic (st : XS) : Nat → Int32 := st.2.2.2.2.2.2.2.2.2.2.2.2.2.2.1
def x_wei (st : XS) : Nat → Nat → Int64 := st.2.2.2.2.2.2.2.2.2.2.2.2.2.2.2.1
def x_nT (st : XS) : Nat → Int32 := st.2.2.2.2.2.2.2.2.2.2.2.2.2.2.2.2.1
def x_nL (st : XS) : Nat → Int32 := st.2.2.2.2.2.2.2.2.2.2.2.2.2.2.2.2.2.1
def x_nA (st : XS) : Nat → Int32 := st.2.2.2.2.2.2.2.2.2.2.2.2.2.2.2.2.2.2
def x_opn_s (st : XS) (v : Int32) : XS := (v, st.2)
def x_pla_s (st : XS) (v : Int32) : XS := (st.1, v, st.2.2)
def x_cN_s (st : XS) (v : Int32) : XS := (st.1, st.2.1, v, st.2.2.2)
def x_fN_s (st : XS) (v : Int32) : XS := (st.1, st.2.1, st.2.2.1, v, st.2.2.2.2)
def x_pri_s (st : XS) (j : Nat) (v : Int64) : XS := (st.1, st.2.1, st.2.2.1, st.2.2.2.1, vp_updL (st.2.2.2.2.1) j v, st.2.2.2.2.2)
def x_pri_f (st : XS) (f : Nat → Int64) : XS := (st.1, st.2.1, st.2.2.1, st.2.2.2.1, f, st.2.2.2.2.2)
def x_mem_s (st : XS) (j : Nat) (v : Int32) : XS := (st.1, st.2.1, st.2.2.1, st.2.2.2.1, st.2.2.2.2.1, upd (st.2.2.2.2.2.1) j v, st.2.2.2.2.2.2)
def x_mem_f (st : XS) (f : Nat → Int32) : XS := (st.1, st.2.1, st.2.2.1, st.2.2.2.1, st.2.2.2.2.1, f, st.2.2.2.2.2.2)
def x_lea_s (st : XS) (j : Nat) (v : Int32) : XS := (st.1, st.2.1, st.2.2.1, st.2.2.2.1, st.2.2.2.2.1, st.2.2.2.2.2.1, upd (st.2.2.2.2.2.2.1) j v, st.2.2.2.2.2.2.2)
def x_lea_f (st : XS) (f : Nat → Int32) : XS := (st.1, st.2.1, st.2.2.1, st.2.2.2.1, st.2.2.2.2.1, st.2.2.2.2.2.1, f, st.2.2.2.2.2.2.2)
def x_tN_s (st : XS) (v : Int32) : XS := (st.1, st.2.1, st.2.2.1, st.2.2.2.1, st.2.2.2.2.1, st.2.2.2.2.2.1, st.2.2.2.2.2.2.1, v, st.2.2.2.2.2.2.2.2)
def x_cst_s (st : XS) (j : Nat) (v : Int32) : XS := (st.1, st.2.1, st.2.2.1, st.2.2.2.1, st.2.2.2.2.1, st.2.2.2.2.2.1, st.2.2.2.2.2.2.1, st.2.2.2.2.2.2.2.1, upd (st.2.2.2.2.2.2.2.2.1) j v, st.2.2.2.2.2.2.2.2.2)
def x_cst_f (st : XS) (f : Nat → Int32) : XS := (st.1, st.2.1, st.2.2.1, st.2.2.2.1, st.2.2.2.2.1, st.2.2.2.2.2.1, st.2.2.2.2.2.2.1, st.2.2.2.2.2.2.2.1, f, st.2.2.2.2.2.2.2.2.2)
def x_nee_s (st : XS) (j : Nat) (v : Int32) : XS := (st.1, st.2.1, st.2.2.1, st.2.2.2.1, st.2.2.2.2.1, st.2.2.2.2.2.1, st.2.2.2.2.2.2.1, st.2.2.2.2.2.2.2.1, st.2.2.2.2.2.2.2.2.1, upd (st.2.2.2.2.2.2.2.2.2.1) j v, st.2.2.2.2.2.2.2.2.2.2)
def x_nee_f (st : XS) (f : Nat → Int32) : XS := (st.1, st.2.1, st.2.2.1, st.2.2.2.1, st.2.2.2.2.1, st.2.2.2.2.2.1, st.2.2.2.2.2.2.1, st.2.2.2.2.2.2.2.1, st.2.2.2.2.2.2.2.2.1, f, st.2.2.2.2.2.2.2.2.2.2)
def x_tab_s (st : XS) (d j : Nat) (v : Int32) : XS := (st.1, st.2.1, st.2.2.1, st.2.2.2.1, st.2.2.2.2.1, st.2.2.2.2.2.1, st.2.2.2.2.2.2.1, st.2.2.2.2.2.2.2.1, st.2.2.2.2.2.2.2.2.1, st.2.2.2.2.2.2.2.2.2.1, fun i => if i = d then upd (st.2.2.2.2.2.2.2.2.2.2.1 d) j v else st.2.2.2.2.2.2.2.2.2.2.1 i, st.2.2.2.2.2.2.2.2.2.2.2)
def x_tab_f (st : XS) (d : Nat) (f : Nat → Int32) : XS := (st.1, st.2.1, st.2.2.1, st.2.2.2.1, st.2.2.2.2.1, st.2.2.2.2.2.1, st.2.2.2.2.2.2.1, st.2.2.2.2.2.2.2.1, st.2.2.2.2.2.2.2.2.1, st.2.2.2.2.2.2.2.2.2.1, fun i => if i = d then f else st.2.2.2.2.2.2.2.2.2.2.1 i, st.2.2.2.2.2.2.2.2.2.2.2)
def x_nod_s (st : XS) (v : Int32) : XS := (st.1, st.2.1, st.2.2.1, st.2.2.2.1, st.2.2.2.2.1, st.2.2.2.2.2.1, st.2.2.2.2.2.2.1, st.2.2.2.2.2.2.2.1, st.2.2.2.2.2.2.2.2.1, st.2.2.2.2.2.2.2.2.2.1, st.2.2.2.2.2.2.2.2.2.2.1, v, st.2.2.2.2.2.2.2.2.2.2.2.2)
def x_tho_s (st : XS) (v : Int64) : XS := (st.1, st.2.1, st.2.2.1, st.2.2.2.1, st.2.2.2.2.1, st.2.2.2.2.2.1, st.2.2.2.2.2.2.1, st.2.2.2.2.2.2.2.1, st.2.2.2.2.2.2.2.2.1, st.2.2.2.2.2.2.2.2.2.1, st.2.2.2.2.2.2.2.2.2.2.1, st.2.2.2.2.2.2.2.2.2.2.2.1, v, st.2.2.2.2.2.2.2.2.2.2.2.2.2)
def x_val_s (st : XS) (j : Nat) (v : Int64) : XS := (st.1, st.2.1, st.2.2.1, st.2.2.2.1, st.2.2.2.2.1, st.2.2.2.2.2.1, st.2.2.2.2.2.2.1, st.2.2.2.2.2.2.2.1, st.2.2.2.2.2.2.2.2.1, st.2.2.2.2.2.2.2.2.2.1, st.2.2.2.2.2.2.2.2.2.2.1, st.2.2.2.2.2.2.2.2.2.2.2.1, st.2.2.2.2.2.2.2.2.2.2.2.2.1, vp_updL (st.2.2.2.2.2.2.2.2.2.2.2.2.2.1) j v, st.2.2.2.2.2.2.2.2.2.2.2.2.2.2)
def x_val_f (st : XS) (f : Nat → Int64) : XS := (st.1, st.2.1, st.2.2.1, st.2.2.2.1, st.2.2.2.2.1, st.2.2.2.2.2.1, st.2.2.2.2.2.2.1, st.2.2.2.2.2.2.2.1, st.2.2.2.2.2.2.2.2.1, st.2.2.2.2.2.2.2.2.2.1, st.2.2.2.2.2.2.2.2.2.2.1, st.2.2.2.2.2.2.2.2.2.2.2.1, st.2.2.2.2.2.2.2.2.2.2.2.2.1, f, st.2.2.2.2.2.2.2.2.2.2.2.2.2.2)
def x_pic_s (st : XS) (j : Nat) (v : Int32) : XS := (st.1, st.2.1, st.2.2.1, st.2.2.2.1, st.2.2.2.2.1, st.2.2.2.2.2.1, st.2.2.2.2.2.2.1, st.2.2.2.2.2.2.2.1, st.2.2.2.2.2.2.2.2.1, st.2.2.2.2.2.2.2.2.2.1, st.2.2.2.2.2.2.2.2.2.2.1, st.2.2.2.2.2.2.2.2.2.2.2.1, st.2.2.2.2.2.2.2.2.2.2.2.2.1, st.2.2.2.2.2.2.2.2.2.2.2.2.2.1, upd (st.2.2.2.2.2.2.2.2.2.2.2.2.2.2.1) j v, st.2.2.2.2.2.2.2.2.2.2.2.2.2.2.2)
def x_pic_f (st : XS) (f : Nat → Int32) : XS := (st.1, st.2.1, st.2.2.1, st.2.2.2.1, st.2.2.2.2.1, st.2.2.2.2.2.1, st.2.2.2.2.2.2.1, st.2.2.2.2.2.2.2.1, st.2.2.2.2.2.2.2.2.1, st.2.2.2.2.2.2.2.2.2.1, st.2.2.2.2.2.2.2.2.2.2.1, st.2.2.2.2.2.2.2.2.2.2.2.1, st.2.2.2.2.2.2.2.2.2.2.2.2.1, st.2.2.2.2.2.2.2.2.2.2.2.2.2.1, f, st.2.2.2.2.2.2.2.2.2.2.2.2.2.2.2)
def x_wei_s (st : XS) (d j : Nat) (v : Int64) : XS := (st.1, st.2.1, st.2.2.1, st.2.2.2.1, st.2.2.2.2.1, st.2.2.2.2.2.1, st.2.2.2.2.2.2.1, st.2.2.2.2.2.2.2.1, st.2.2.2.2.2.2.2.2.1, st.2.2.2.2.2.2.2.2.2.1, st.2.2.2.2.2.2.2.2.2.2.1, st.2.2.2.2.2.2.2.2.2.2.2.1, st.2.2.2.2.2.2.2.2.2.2.2.2.1, st.2.2.2.2.2.2.2.2.2.2.2.2.2.1, st.2.2.2.2.2.2.2.2.2.2.2.2.2.2.1, fun i => if i = d then vp_updL (st.2.2.2.2.2.2.2.2.2.2.2.2.2.2.2.1 d) j v else st.2.2.2.2.2.2.2.2.2.2.2.2.2.2.2.1 i, st.2.2.2.2.2.2.2.2.2.2.2.2.2.2.2.2)
def x_wei_f (st : XS) (d : Nat) (f : Nat → Int64) : XS := (st.1, st.2.1, st.2.2.1, st.2.2.2.1, st.2.2.2.2.1, st.2.2.2.2.2.1, st.2.2.2.2.2.2.1, st.2.2.2.2.2.2.2.1, st.2.2.2.2.2.2.2.2.1, st.2.2.2.2.2.2.2.2.2.1, st.2.2.2.2.2.2.2.2.2.2.1, st.2.2.2.2.2.2.2.2.2.2.2.1, st.2.2.2.2.2.2.2.2.2.2.2.2.1, st.2.2.2.2.2.2.2.2.2.2.2.2.2.1, st.2.2.2.2.2.2.2.2.2.2.2.2.2.2.1, fun i => if i = d then f else st.2.2.2.2.2.2.2.2.2.2.2.2.2.2.2.1 i, st.2.2.2.2.2.2.2.2.2.2.2.2.2.2.2.2)
def x_nT_s (st : XS) (j : Nat) (v : Int32) : XS := (st.1, st.2.1, st.2.2.1, st.2.2.2.1, st.2.2.2.2.1, st.2.2.2.2.2.1, st.2.2.2.2.2.2.1, st.2.2.2.2.2.2.2.1, st.2.2.2.2.2.2.2.2.1, st.2.2.2.2.2.2.2.2.2.1, st.2.2.2.2.2.2.2.2.2.2.1, st.2.2.2.2.2.2.2.2.2.2.2.1, st.2.2.2.2.2.2.2.2.2.2.2.2.1, st.2.2.2.2.2.2.2.2.2.2.2.2.2.1, st.2.2.2.2.2.2.2.2.2.2.2.2.2.2.1, st.2.2.2.2.2.2.2.2.2.2.2.2.2.2.2.1, upd (st.2.2.2.2.2.2.2.2.2.2.2.2.2.2.2.2.1) j v, st.2.2.2.2.2.2.2.2.2.2.2.2.2.2.2.2.2)
def x_nT_f (st : XS) (f : Nat → Int32) : XS := (st.1, st.2.1, st.2.2.1, st.2.2.2.1, st.2.2.2.2.1, st.2.2.2.2.2.1, st.2.2.2.2.2.2.1, st.2.2.2.2.2.2.2.1, st.2.2.2.2.2.2.2.2.1, st.2.2.2.2.2.2.2.2.2.1, st.2.2.2.2.2.2.2.2.2.2.1, st.2.2.2.2.2.2.2.2.2.2.2.1, st.2.2.2.2.2.2.2.2.2.2.2.2.1, st.2.2.2.2.2.2.2.2.2.2.2.2.2.1, st.2.2.2.2.2.2.2.2.2.2.2.2.2.2.1, st.2.2.2.2.2.2.2.2.2.2.2.2.2.2.2.1, f, st.2.2.2.2.2.2.2.2.2.2.2.2.2.2.2.2.2)
def x_nL_s (st : XS) (j : Nat) (v : Int32) : XS := (st.1, st.2.1, st.2.2.1, st.2.2.2.1, st.2.2.2.2.1, st.2.2.2.2.2.1, st.2.2.2.2.2.2.1, st.2.2.2.2.2.2.2.1, st.2.2.2.2.2.2.2.2.1, st.2.2.2.2.2.2.2.2.2.1, st.2.2.2.2.2.2.2.2.2.2.1, st.2.2.2.2.2.2.2.2.2.2.2.1, st.2.2.2.2.2.2.2.2.2.2.2.2.1, st.2.2.2.2.2.2.2.2.2.2.2.2.2.1, st.2.2.2.2.2.2.2.2.2.2.2.2.2.2.1, st.2.2.2.2.2.2.2.2.2.2.2.2.2.2.2.1, st.2.2.2.2.2.2.2.2.2.2.2.2.2.2.2.2.1, upd (st.2.2.2.2.2.2.2.2.2.2.2.2.2.2.2.2.2.1) j v, st.2.2.2.2.2.2.2.2.2.2.2.2.2.2.2.2.2.2)
def x_nL_f (st : XS) (f : Nat → Int32) : XS := (st.1, st.2.1, st.2.2.1, st.2.2.2.1, st.2.2.2.2.1, st.2.2.2.2.2.1, st.2.2.2.2.2.2.1, st.2.2.2.2.2.2.2.1, st.2.2.2.2.2.2.2.2.1, st.2.2.2.2.2.2.2.2.2.1, st.2.2.2.2.2.2.2.2.2.2.1, st.2.2.2.2.2.2.2.2.2.2.2.1, st.2.2.2.2.2.2.2.2.2.2.2.2.1, st.2.2.2.2.2.2.2.2.2.2.2.2.2.1, st.2.2.2.2.2.2.2.2.2.2.2.2.2.2.1, st.2.2.2.2.2.2.2.2.2.2.2.2.2.2.2.1, st.2.2.2.2.2.2.2.2.2.2.2.2.2.2.2.2.1, f, st.2.2.2.2.2.2.2.2.2.2.2.2.2.2.2.2.2.2)
def x_nA_s (st : XS) (j : Nat) (v : Int32) : XS := (st.1, st.2.1, st.2.2.1, st.2.2.2.1, st.2.2.2.2.1, st.2.2.2.2.2.1, st.2.2.2.2.2.2.1, st.2.2.2.2.2.2.2.1, st.2.2.2.2.2.2.2.2.1, st.2.2.2.2.2.2.2.2.2.1, st.2.2.2.2.2.2.2.2.2.2.1, st.2.2.2.2.2.2.2.2.2.2.2.1, st.2.2.2.2.2.2.2.2.2.2.2.2.1, st.2.2.2.2.2.2.2.2.2.2.2.2.2.1, st.2.2.2.2.2.2.2.2.2.2.2.2.2.2.1, st.2.2.2.2.2.2.2.2.2.2.2.2.2.2.2.1, st.2.2.2.2.2.2.2.2.2.2.2.2.2.2.2.2.1, st.2.2.2.2.2.2.2.2.2.2.2.2.2.2.2.2.2.1, upd (st.2.2.2.2.2.2.2.2.2.2.2.2.2.2.2.2.2.2) j v)
def x_nA_f (st : XS) (f : Nat → Int32) : XS := (st.1, st.2.1, st.2.2.1, st.2.2.2.1, st.2.2.2.2.1, st.2.2.2.2.2.1, st.2.2.2.2.2.2.1, st.2.2.2.2.2.2.2.1, st.2.2.2.2.2.2.2.2.1, st.2.2.2.2.2.2.2.2.2.1, st.2.2.2.2.2.2.2.2.2.2.1, st.2.2.2.2.2.2.2.2.2.2.2.1, st.2.2.2.2.2.2.2.2.2.2.2.2.1, st.2.2.2.2.2.2.2.2.2.2.2.2.2.1, st.2.2.2.2.2.2.2.2.2.2.2.2.2.2.1, st.2.2.2.2.2.2.2.2.2.2.2.2.2.2.2.1, st.2.2.2.2.2.2.2.2.2.2.2.2.2.2.2.2.1, st.2.2.2.2.2.2.2.2.2.2.2.2.2.2.2.2.2.1, f)
def x_W (cs : Nat → ClassId) (a : Nat → Nat) (st : XS) : va_W := [
  (a 0, .inr (0, [.ref (a 1), .ref (a 5), .ref (a 15), .ref (a 16), .int (x_opn st), .int (x_pla st)])),
  (a 1, .inr (1, [.ref (a 2), .ref (a 3), .ref (a 4), .int (x_cN st), .int (x_fN st)])),
  (a 2, .inl (cs 0, 13, .inr (.inl (x_pri st)))),
  (a 3, .inl (cs 1, 13, .inl (x_mem st))),
  (a 4, .inl (cs 1, 13, .inl (x_lea st))),
  (a 5, .inr (2, [.ref (a 6), .ref (a 7), .ref (a 8), .int (x_tN st)])),
  (a 6, .inl (cs 1, 6, .inl (x_cst st))),
  (a 7, .inl (cs 1, 6, .inl (x_nee st))),
  (a 8, .inl (cs 3, 6, .inr (.inr (.inr (.inr (fun i => if i < 6 then some (a (9 + i)) else none)))))),
  (a 9, .inl (cs 1, 13, .inl (x_tab st 0))),
  (a 10, .inl (cs 1, 13, .inl (x_tab st 1))),
  (a 11, .inl (cs 1, 13, .inl (x_tab st 2))),
  (a 12, .inl (cs 1, 13, .inl (x_tab st 3))),
  (a 13, .inl (cs 1, 13, .inl (x_tab st 4))),
  (a 14, .inl (cs 1, 13, .inl (x_tab st 5))),
  (a 15, .inr (3, [.ref (a 1), .ref (a 5)])),
  (a 16, .inr (4, [.ref (a 15), .ref (a 17), .ref (a 18), .ref (a 19), .ref (a 26), .ref (a 27), .ref (a 28), .int (x_nod st), .long (x_tho st)])),
  (a 17, .inl (cs 0, 1024, .inr (.inl (x_val st)))),
  (a 18, .inl (cs 2, 1024, .inl (x_pic st))),
  (a 19, .inl (cs 4, 6, .inr (.inr (.inr (.inr (fun i => if i < 6 then some (a (20 + i)) else none)))))),
  (a 20, .inl (cs 0, 13, .inr (.inl (x_wei st 0)))),
  (a 21, .inl (cs 0, 13, .inr (.inl (x_wei st 1)))),
  (a 22, .inl (cs 0, 13, .inr (.inl (x_wei st 2)))),
  (a 23, .inl (cs 0, 13, .inr (.inl (x_wei st 3)))),
  (a 24, .inl (cs 0, 13, .inr (.inl (x_wei st 4)))),
  (a 25, .inl (cs 0, 13, .inr (.inl (x_wei st 5)))),
  (a 26, .inl (cs 2, 300, .inl (x_nT st))),
  (a 27, .inl (cs 2, 300, .inl (x_nL st))),
  (a 28, .inl (cs 2, 300, .inl (x_nA st)))]
def x_A (a : Nat → Nat) : Nat → Prop := fun q => ∃ k : Nat, k < 29 ∧ q = a k
theorem x_W_len (cs : Nat → ClassId) (a : Nat → Nat) (st : XS) : (x_W cs a st).length = 29 := rfl
theorem x_W_at (cs : Nat → ClassId) (a : Nat → Nat) (st : XS) : ∀ (k : Nat) (q : Nat × va_E), (x_W cs a st)[k]? = some q → k < 29 ∧ q.1 = a k := by
  intro k q h
  have hk : k < 29 := (List.getElem?_eq_some_iff.mp h).1
  refine ⟨hk, ?_⟩
  match k, hk with
  | 0, _ => cases h; rfl
  | 1, _ => cases h; rfl
  | 2, _ => cases h; rfl
  | 3, _ => cases h; rfl
  | 4, _ => cases h; rfl
  | 5, _ => cases h; rfl
  | 6, _ => cases h; rfl
  | 7, _ => cases h; rfl
  | 8, _ => cases h; rfl
  | 9, _ => cases h; rfl
  | 10, _ => cases h; rfl
  | 11, _ => cases h; rfl
  | 12, _ => cases h; rfl
  | 13, _ => cases h; rfl
  | 14, _ => cases h; rfl
  | 15, _ => cases h; rfl
  | 16, _ => cases h; rfl
  | 17, _ => cases h; rfl
  | 18, _ => cases h; rfl
  | 19, _ => cases h; rfl
  | 20, _ => cases h; rfl
  | 21, _ => cases h; rfl
  | 22, _ => cases h; rfl
  | 23, _ => cases h; rfl
  | 24, _ => cases h; rfl
  | 25, _ => cases h; rfl
  | 26, _ => cases h; rfl
  | 27, _ => cases h; rfl
  | 28, _ => cases h; rfl
theorem x_D {a : Nat → Nat} (hi : ∀ i j : Nat, i < 29 → j < 29 → a i = a j → i = j) (cs : Nat → ClassId) (st : XS) : va_D (x_A a) (x_W cs a st) :=
  ⟨fun i j p q hp hq e => by
    obtain ⟨h1, e1⟩ := x_W_at cs a st i p hp
    obtain ⟨h2, e2⟩ := x_W_at cs a st j q hq
    exact hi i j h1 h2 (by rw [← e1, ← e2, e]), fun k q h => ⟨k, x_W_at cs a st k q h⟩⟩
theorem x_fin {D : va_G} {cl : List vw_C} {cs : Nat → ClassId} {a : Nat → Nat} {st st2 : XS} {t : State} {H : Heap} (ht : t.heap = H) (e : st = st2) (hP : va_P D cl (x_W cs a st) H) : va_P D cl (x_W cs a st2) t.heap := by rw [ht, ← e]; exact hP
theorem x_tab_row (cs : Nat → ClassId) (a : Nat → Nat) (st : XS) {d : Nat} (h : d < 6) : (x_W cs a st)[9 + d]? = some (a (9 + d), .inl (cs 1, 13, .inl (x_tab st d))) := by
  match d, h with
  | 0, _ => rfl
  | 1, _ => rfl
  | 2, _ => rfl
  | 3, _ => rfl
  | 4, _ => rfl
  | 5, _ => rfl
theorem x_tab_set (cs : Nat → ClassId) (a : Nat → Nat) (st : XS) {d : Nat} (h : d < 6) (f : Nat → Int32) : (x_W cs a st).set (9 + d) (a (9 + d), .inl (cs 1, 13, .inl (f))) = x_W cs a (x_tab_f st d f) := by
  match d, h with
  | 0, _ => rfl
  | 1, _ => rfl
  | 2, _ => rfl
  | 3, _ => rfl
  | 4, _ => rfl
  | 5, _ => rfl
theorem x_tab_put (cs : Nat → ClassId) (a : Nat → Nat) (st : XS) {d : Nat} (h : d < 6) (j : Nat) (v : Int32) : (x_W cs a st).set (9 + d) (a (9 + d), .inl (cs 1, 13, .inl (upd (x_tab st d) j v))) = x_W cs a (x_tab_s st d j v) := x_tab_set cs a st h _
theorem x_wei_row (cs : Nat → ClassId) (a : Nat → Nat) (st : XS) {d : Nat} (h : d < 6) : (x_W cs a st)[20 + d]? = some (a (20 + d), .inl (cs 0, 13, .inr (.inl (x_wei st d)))) := by
  match d, h with
  | 0, _ => rfl
  | 1, _ => rfl
  | 2, _ => rfl
  | 3, _ => rfl
  | 4, _ => rfl
  | 5, _ => rfl
theorem x_wei_set (cs : Nat → ClassId) (a : Nat → Nat) (st : XS) {d : Nat} (h : d < 6) (f : Nat → Int64) : (x_W cs a st).set (20 + d) (a (20 + d), .inl (cs 0, 13, .inr (.inl (f)))) = x_W cs a (x_wei_f st d f) := by
  match d, h with
  | 0, _ => rfl
  | 1, _ => rfl
  | 2, _ => rfl
  | 3, _ => rfl
  | 4, _ => rfl
  | 5, _ => rfl
theorem x_wei_put (cs : Nat → ClassId) (a : Nat → Nat) (st : XS) {d : Nat} (h : d < 6) (j : Nat) (v : Int64) : (x_W cs a st).set (20 + d) (a (20 + d), .inl (cs 0, 13, .inr (.inl (vp_updL (x_wei st d) j v)))) = x_W cs a (x_wei_s st d j v) := x_wei_set cs a st h _
abbrev g_ty (cs : Nat → ClassId) : List (ClassId × FieldType) := [(cs 0, .long), (cs 1, .int), (cs 2, .byte), (cs 3, .array .int), (cs 4, .array .long), (cs 5, .boolean)]
abbrev x_pre (dC : Nat → ClassId) (dI : Nat → Nat → Nat) (cs : Nat → ClassId) (a : Nat → Nat) (st : XS) : State → Prop := fun U => va_P (dC, dI) vwCl (x_W cs a st) U.heap ∧ va_K (dC, dI) vwCl (g_ty cs) U ∧ NW U
end
section
theorem d_C_addFault_0 : decode prog_3_method_5_code 0 = .ok (.aload_n 0, 1) := by decide +kernel
theorem d_C_addFault_1 : decode prog_3_method_5_code 1 = .ok (.getfield 22, 3) := by decide +kernel
theorem d_C_addFault_4 : decode prog_3_method_5_code 4 = .ok (.bipush 12, 2) := by decide +kernel
theorem d_C_addFault_6 : decode prog_3_method_5_code 6 = .ok (.if_icmp .lt 6, 3) := by decide +kernel
theorem d_C_addFault_9 : decode prog_3_method_5_code 9 = .ok (.bipush (-4), 2) := by decide +kernel
theorem d_C_addFault_11 : decode prog_3_method_5_code 11 = .ok (.ireturn, 1) := by decide +kernel
theorem d_C_addFault_12 : decode prog_3_method_5_code 12 = .ok (.aload_n 0, 1) := by decide +kernel
theorem d_C_addFault_13 : decode prog_3_method_5_code 13 = .ok (.dup, 1) := by decide +kernel
theorem d_C_addFault_14 : decode prog_3_method_5_code 14 = .ok (.getfield 22, 3) := by decide +kernel
theorem d_C_addFault_17 : decode prog_3_method_5_code 17 = .ok (.iconst 1, 1) := by decide +kernel
theorem d_C_addFault_18 : decode prog_3_method_5_code 18 = .ok (.iadd, 1) := by decide +kernel
theorem d_C_addFault_19 : decode prog_3_method_5_code 19 = .ok (.putfield 22, 3) := by decide +kernel
theorem d_C_addFault_22 : decode prog_3_method_5_code 22 = .ok (.aload_n 0, 1) := by decide +kernel
theorem d_C_addFault_23 : decode prog_3_method_5_code 23 = .ok (.dup, 1) := by decide +kernel
theorem d_C_addFault_24 : decode prog_3_method_5_code 24 = .ok (.getfield 26, 3) := by decide +kernel
theorem d_C_addFault_27 : decode prog_3_method_5_code 27 = .ok (.iconst 1, 1) := by decide +kernel
theorem d_C_addFault_28 : decode prog_3_method_5_code 28 = .ok (.iadd, 1) := by decide +kernel
theorem d_C_addFault_29 : decode prog_3_method_5_code 29 = .ok (.putfield 26, 3) := by decide +kernel
theorem d_C_addFault_32 : decode prog_3_method_5_code 32 = .ok (.aload_n 0, 1) := by decide +kernel
theorem d_C_addFault_33 : decode prog_3_method_5_code 33 = .ok (.getfield 9, 3) := by decide +kernel
theorem d_C_addFault_36 : decode prog_3_method_5_code 36 = .ok (.aload_n 0, 1) := by decide +kernel
theorem d_C_addFault_37 : decode prog_3_method_5_code 37 = .ok (.getfield 22, 3) := by decide +kernel
theorem d_C_addFault_40 : decode prog_3_method_5_code 40 = .ok (.lload_n 1, 1) := by decide +kernel
theorem d_C_addFault_41 : decode prog_3_method_5_code 41 = .ok (.ldc2_w 33, 3) := by decide +kernel
theorem d_C_addFault_44 : decode prog_3_method_5_code 44 = .ok (.lmul, 1) := by decide +kernel
theorem d_C_addFault_45 : decode prog_3_method_5_code 45 = .ok (.lastore, 1) := by decide +kernel
theorem d_C_addFault_46 : decode prog_3_method_5_code 46 = .ok (.aload_n 0, 1) := by decide +kernel
theorem d_C_addFault_47 : decode prog_3_method_5_code 47 = .ok (.getfield 22, 3) := by decide +kernel
theorem d_C_addFault_50 : decode prog_3_method_5_code 50 = .ok (.ireturn, 1) := by decide +kernel
theorem d_T_knows_0 : decode prog_5_method_2_code 0 = .ok (.iload_n 1, 1) := by decide +kernel
theorem d_T_knows_1 : decode prog_5_method_2_code 1 = .ok (.iconst 1, 1) := by decide +kernel
theorem d_T_knows_2 : decode prog_5_method_2_code 2 = .ok (.if_icmp .lt 20, 3) := by decide +kernel
theorem d_T_knows_5 : decode prog_5_method_2_code 5 = .ok (.iload_n 1, 1) := by decide +kernel
theorem d_T_knows_6 : decode prog_5_method_2_code 6 = .ok (.aload_n 0, 1) := by decide +kernel
theorem d_T_knows_7 : decode prog_5_method_2_code 7 = .ok (.getfield 23, 3) := by decide +kernel
theorem d_T_knows_10 : decode prog_5_method_2_code 10 = .ok (.if_icmp .gt 12, 3) := by decide +kernel
theorem d_T_knows_13 : decode prog_5_method_2_code 13 = .ok (.iload_n 1, 1) := by decide +kernel
theorem d_T_knows_14 : decode prog_5_method_2_code 14 = .ok (.iconst 5, 1) := by decide +kernel
theorem d_T_knows_15 : decode prog_5_method_2_code 15 = .ok (.if_icmp .gt 7, 3) := by decide +kernel
theorem d_T_knows_18 : decode prog_5_method_2_code 18 = .ok (.iconst 1, 1) := by decide +kernel
theorem d_T_knows_19 : decode prog_5_method_2_code 19 = .ok (.goto 4, 3) := by decide +kernel
theorem d_T_knows_22 : decode prog_5_method_2_code 22 = .ok (.iconst 0, 1) := by decide +kernel
theorem d_T_knows_23 : decode prog_5_method_2_code 23 = .ok (.ireturn, 1) := by decide +kernel
theorem d_C_knows_0 : decode prog_3_method_2_code 0 = .ok (.iload_n 1, 1) := by decide +kernel
theorem d_C_knows_1 : decode prog_3_method_2_code 1 = .ok (.iconst 1, 1) := by decide +kernel
theorem d_C_knows_2 : decode prog_3_method_2_code 2 = .ok (.if_icmp .lt 21, 3) := by decide +kernel
theorem d_C_knows_5 : decode prog_3_method_2_code 5 = .ok (.iload_n 1, 1) := by decide +kernel
theorem d_C_knows_6 : decode prog_3_method_2_code 6 = .ok (.aload_n 0, 1) := by decide +kernel
theorem d_C_knows_7 : decode prog_3_method_2_code 7 = .ok (.getfield 22, 3) := by decide +kernel
theorem d_C_knows_10 : decode prog_3_method_2_code 10 = .ok (.if_icmp .gt 13, 3) := by decide +kernel
theorem d_C_knows_13 : decode prog_3_method_2_code 13 = .ok (.iload_n 1, 1) := by decide +kernel
theorem d_C_knows_14 : decode prog_3_method_2_code 14 = .ok (.bipush 12, 2) := by decide +kernel
theorem d_C_knows_16 : decode prog_3_method_2_code 16 = .ok (.if_icmp .gt 7, 3) := by decide +kernel
theorem d_C_knows_19 : decode prog_3_method_2_code 19 = .ok (.iconst 1, 1) := by decide +kernel
theorem d_C_knows_20 : decode prog_3_method_2_code 20 = .ok (.goto 4, 3) := by decide +kernel
theorem d_C_knows_23 : decode prog_3_method_2_code 23 = .ok (.iconst 0, 1) := by decide +kernel
theorem d_C_knows_24 : decode prog_3_method_2_code 24 = .ok (.ireturn, 1) := by decide +kernel
theorem d_G_isAnswer_0 : decode prog_1_method_15_code 0 = .ok (.iload_n 0, 1) := by decide +kernel
theorem d_G_isAnswer_1 : decode prog_1_method_15_code 1 = .ok (.ifCond .lt 12, 3) := by decide +kernel
theorem d_G_isAnswer_4 : decode prog_1_method_15_code 4 = .ok (.iload_n 0, 1) := by decide +kernel
theorem d_G_isAnswer_5 : decode prog_1_method_15_code 5 = .ok (.iconst 3, 1) := by decide +kernel
theorem d_G_isAnswer_6 : decode prog_1_method_15_code 6 = .ok (.if_icmp .ge 7, 3) := by decide +kernel
theorem d_G_isAnswer_9 : decode prog_1_method_15_code 9 = .ok (.iconst 1, 1) := by decide +kernel
theorem d_G_isAnswer_10 : decode prog_1_method_15_code 10 = .ok (.goto 4, 3) := by decide +kernel
theorem d_G_isAnswer_13 : decode prog_1_method_15_code 13 = .ok (.iconst 0, 1) := by decide +kernel
theorem d_G_isAnswer_14 : decode prog_1_method_15_code 14 = .ok (.ireturn, 1) := by decide +kernel
theorem d_T_hasPlace_0 : decode prog_5_method_14_code 0 = .ok (.aload_n 0, 1) := by decide +kernel
theorem d_T_hasPlace_1 : decode prog_5_method_14_code 1 = .ok (.iload_n 1, 1) := by decide +kernel
theorem d_T_hasPlace_2 : decode prog_5_method_14_code 2 = .ok (.invokevirtual 33, 3) := by decide +kernel
theorem d_T_hasPlace_5 : decode prog_5_method_14_code 5 = .ok (.ifCond .eq 18, 3) := by decide +kernel
theorem d_T_hasPlace_8 : decode prog_5_method_14_code 8 = .ok (.iload_n 2, 1) := by decide +kernel
theorem d_T_hasPlace_9 : decode prog_5_method_14_code 9 = .ok (.iconst 1, 1) := by decide +kernel
theorem d_T_hasPlace_10 : decode prog_5_method_14_code 10 = .ok (.if_icmp .lt 13, 3) := by decide +kernel
theorem d_T_hasPlace_13 : decode prog_5_method_14_code 13 = .ok (.iload_n 2, 1) := by decide +kernel
theorem d_T_hasPlace_14 : decode prog_5_method_14_code 14 = .ok (.bipush 12, 2) := by decide +kernel
theorem d_T_hasPlace_16 : decode prog_5_method_14_code 16 = .ok (.if_icmp .gt 7, 3) := by decide +kernel
theorem d_T_hasPlace_19 : decode prog_5_method_14_code 19 = .ok (.iconst 1, 1) := by decide +kernel
theorem d_T_hasPlace_20 : decode prog_5_method_14_code 20 = .ok (.goto 4, 3) := by decide +kernel
theorem d_T_hasPlace_23 : decode prog_5_method_14_code 23 = .ok (.iconst 0, 1) := by decide +kernel
theorem d_T_hasPlace_24 : decode prog_5_method_14_code 24 = .ok (.ireturn, 1) := by decide +kernel
theorem d_T_twelfths_0 : decode prog_5_method_5_code 0 = .ok (.aload_n 0, 1) := by decide +kernel
theorem d_T_twelfths_1 : decode prog_5_method_5_code 1 = .ok (.iload_n 1, 1) := by decide +kernel
theorem d_T_twelfths_2 : decode prog_5_method_5_code 2 = .ok (.iload_n 2, 1) := by decide +kernel
theorem d_T_twelfths_3 : decode prog_5_method_5_code 3 = .ok (.invokevirtual 37, 3) := by decide +kernel
theorem d_T_twelfths_6 : decode prog_5_method_5_code 6 = .ok (.ifCond .ne 5, 3) := by decide +kernel
theorem d_T_twelfths_9 : decode prog_5_method_5_code 9 = .ok (.iconst 0, 1) := by decide +kernel
theorem d_T_twelfths_10 : decode prog_5_method_5_code 10 = .ok (.ireturn, 1) := by decide +kernel
theorem d_T_twelfths_11 : decode prog_5_method_5_code 11 = .ok (.aload_n 0, 1) := by decide +kernel
theorem d_T_twelfths_12 : decode prog_5_method_5_code 12 = .ok (.getfield 20, 3) := by decide +kernel
theorem d_T_twelfths_15 : decode prog_5_method_5_code 15 = .ok (.iload_n 1, 1) := by decide +kernel
theorem d_T_twelfths_16 : decode prog_5_method_5_code 16 = .ok (.aaload, 1) := by decide +kernel
theorem d_T_twelfths_17 : decode prog_5_method_5_code 17 = .ok (.iload_n 2, 1) := by decide +kernel
theorem d_T_twelfths_18 : decode prog_5_method_5_code 18 = .ok (.iaload, 1) := by decide +kernel
theorem d_T_twelfths_19 : decode prog_5_method_5_code 19 = .ok (.iconst 4, 1) := by decide +kernel
theorem d_T_twelfths_20 : decode prog_5_method_5_code 20 = .ok (.iload_n 3, 1) := by decide +kernel
theorem d_T_twelfths_21 : decode prog_5_method_5_code 21 = .ok (.imul, 1) := by decide +kernel
theorem d_T_twelfths_22 : decode prog_5_method_5_code 22 = .ok (.ishr, 1) := by decide +kernel
theorem d_T_twelfths_23 : decode prog_5_method_5_code 23 = .ok (.bipush 15, 2) := by decide +kernel
theorem d_T_twelfths_25 : decode prog_5_method_5_code 25 = .ok (.iand, 1) := by decide +kernel
theorem d_T_twelfths_26 : decode prog_5_method_5_code 26 = .ok (.ireturn, 1) := by decide +kernel
theorem d_G_bit_0 : decode prog_1_method_17_code 0 = .ok (.iconst 1, 1) := by decide +kernel
theorem d_G_bit_1 : decode prog_1_method_17_code 1 = .ok (.iload_n 0, 1) := by decide +kernel
theorem d_G_bit_2 : decode prog_1_method_17_code 2 = .ok (.ishl, 1) := by decide +kernel
theorem d_G_bit_3 : decode prog_1_method_17_code 3 = .ok (.ireturn, 1) := by decide +kernel
theorem d_G_holds_0 : decode prog_1_method_18_code 0 = .ok (.iload_n 0, 1) := by decide +kernel
theorem d_G_holds_1 : decode prog_1_method_18_code 1 = .ok (.iload_n 1, 1) := by decide +kernel
theorem d_G_holds_2 : decode prog_1_method_18_code 2 = .ok (.invokestatic 102, 3) := by decide +kernel
theorem d_G_holds_5 : decode prog_1_method_18_code 5 = .ok (.iand, 1) := by decide +kernel
theorem d_G_holds_6 : decode prog_1_method_18_code 6 = .ok (.ifCond .eq 7, 3) := by decide +kernel
theorem d_G_holds_9 : decode prog_1_method_18_code 9 = .ok (.iconst 1, 1) := by decide +kernel
theorem d_G_holds_10 : decode prog_1_method_18_code 10 = .ok (.goto 4, 3) := by decide +kernel
theorem d_G_holds_13 : decode prog_1_method_18_code 13 = .ok (.iconst 0, 1) := by decide +kernel
theorem d_G_holds_14 : decode prog_1_method_18_code 14 = .ok (.ireturn, 1) := by decide +kernel
theorem d_C_isFault_0 : decode prog_3_method_3_code 0 = .ok (.aload_n 0, 1) := by decide +kernel
theorem d_C_isFault_1 : decode prog_3_method_3_code 1 = .ok (.iload_n 1, 1) := by decide +kernel
theorem d_C_isFault_2 : decode prog_3_method_3_code 2 = .ok (.invokevirtual 29, 3) := by decide +kernel
theorem d_C_isFault_5 : decode prog_3_method_3_code 5 = .ok (.ifCond .eq 16, 3) := by decide +kernel
theorem d_C_isFault_8 : decode prog_3_method_3_code 8 = .ok (.aload_n 0, 1) := by decide +kernel
theorem d_C_isFault_9 : decode prog_3_method_3_code 9 = .ok (.getfield 15, 3) := by decide +kernel
theorem d_C_isFault_12 : decode prog_3_method_3_code 12 = .ok (.iload_n 1, 1) := by decide +kernel
theorem d_C_isFault_13 : decode prog_3_method_3_code 13 = .ok (.iaload, 1) := by decide +kernel
theorem d_C_isFault_14 : decode prog_3_method_3_code 14 = .ok (.ifCond .ne 7, 3) := by decide +kernel
theorem d_C_isFault_17 : decode prog_3_method_3_code 17 = .ok (.iconst 1, 1) := by decide +kernel
theorem d_C_isFault_18 : decode prog_3_method_3_code 18 = .ok (.goto 4, 3) := by decide +kernel
theorem d_C_isFault_21 : decode prog_3_method_3_code 21 = .ok (.iconst 0, 1) := by decide +kernel
theorem d_C_isFault_22 : decode prog_3_method_3_code 22 = .ok (.ireturn, 1) := by decide +kernel
theorem d_C_hasPair_0 : decode prog_3_method_4_code 0 = .ok (.iconst 1, 1) := by decide +kernel
theorem d_C_hasPair_1 : decode prog_3_method_4_code 1 = .ok (.istore_n 2, 1) := by decide +kernel
theorem d_C_hasPair_2 : decode prog_3_method_4_code 2 = .ok (.iload_n 2, 1) := by decide +kernel
theorem d_C_hasPair_3 : decode prog_3_method_4_code 3 = .ok (.bipush 12, 2) := by decide +kernel
theorem d_C_hasPair_5 : decode prog_3_method_4_code 5 = .ok (.if_icmp .gt 21, 3) := by decide +kernel
theorem d_C_hasPair_8 : decode prog_3_method_4_code 8 = .ok (.aload_n 0, 1) := by decide +kernel
theorem d_C_hasPair_9 : decode prog_3_method_4_code 9 = .ok (.getfield 15, 3) := by decide +kernel
theorem d_C_hasPair_12 : decode prog_3_method_4_code 12 = .ok (.iload_n 2, 1) := by decide +kernel
theorem d_C_hasPair_13 : decode prog_3_method_4_code 13 = .ok (.iaload, 1) := by decide +kernel
theorem d_C_hasPair_14 : decode prog_3_method_4_code 14 = .ok (.iload_n 1, 1) := by decide +kernel
theorem d_C_hasPair_15 : decode prog_3_method_4_code 15 = .ok (.if_icmp .ne 5, 3) := by decide +kernel
theorem d_C_hasPair_18 : decode prog_3_method_4_code 18 = .ok (.iconst 1, 1) := by decide +kernel
theorem d_C_hasPair_19 : decode prog_3_method_4_code 19 = .ok (.ireturn, 1) := by decide +kernel
theorem d_C_hasPair_20 : decode prog_3_method_4_code 20 = .ok (.iinc 2 1, 3) := by decide +kernel
theorem d_C_hasPair_23 : decode prog_3_method_4_code 23 = .ok (.goto (-21), 3) := by decide +kernel
theorem d_C_hasPair_26 : decode prog_3_method_4_code 26 = .ok (.iconst 0, 1) := by decide +kernel
theorem d_C_hasPair_27 : decode prog_3_method_4_code 27 = .ok (.ireturn, 1) := by decide +kernel
end
section
def x_C_addFault (st : XS) (p1 : Int64) : Option (Int32 × XS) :=
  if (x_cN st) < (12 : Int32) then
    ix (x_cN (x_fN_s (x_cN_s st ((x_cN st) + (1 : Int32))) ((x_fN (x_cN_s st ((x_cN st) + (1 : Int32)))) + (1 : Int32)))) 13 fun j2 =>
    some ((x_cN (x_pri_s (x_fN_s (x_cN_s st ((x_cN st) + (1 : Int32))) ((x_fN (x_cN_s st ((x_cN st) + (1 : Int32)))) + (1 : Int32))) j2 (p1 * (2520 : Int64)))), (x_pri_s (x_fN_s (x_cN_s st ((x_cN st) + (1 : Int32))) ((x_fN (x_cN_s st ((x_cN st) + (1 : Int32)))) + (1 : Int32))) j2 (p1 * (2520 : Int64))))
  else
    some ((-4 : Int32), st)
def x_T_knows (st : XS) (p1 : Int32) : Option (Int32) :=
  if p1 < (1 : Int32) then
    some (0 : Int32)
  else
    if (x_tN st) < p1 then
      some (0 : Int32)
    else
      if (5 : Int32) < p1 then
        some (0 : Int32)
      else
        some (1 : Int32)
def x_C_knows (st : XS) (p1 : Int32) : Option (Int32) :=
  if p1 < (1 : Int32) then
    some (0 : Int32)
  else
    if (x_cN st) < p1 then
      some (0 : Int32)
    else
      if (12 : Int32) < p1 then
        some (0 : Int32)
      else
        some (1 : Int32)
def x_G_isAnswer (p0 : Int32) : Option (Int32) :=
  if p0 < 0 then
    some (0 : Int32)
  else
    if (3 : Int32) ≤ p0 then
      some (0 : Int32)
    else
      some (1 : Int32)
def x_T_hasPlace (st : XS) (p1 : Int32) (p2 : Int32) : Option (Int32) :=
  (x_T_knows st p1).bind fun r2 =>
  if r2 = 0 then
    some (0 : Int32)
  else
    if p2 < (1 : Int32) then
      some (0 : Int32)
    else
      if (12 : Int32) < p2 then
        some (0 : Int32)
      else
        some (1 : Int32)
def x_T_twelfths (st : XS) (p1 : Int32) (p2 : Int32) (p3 : Int32) : Option (Int32) :=
  (x_T_hasPlace st p1 p2).bind fun r2 =>
  if r2 = 0 then
    some (0 : Int32)
  else
    ix p1 6 fun j4 =>
    ix p2 13 fun j8 =>
    some (((x_tab st j4 j8) >>> (((4 : Int32) * p3) &&& 31)) &&& (15 : Int32))
def x_G_bit (p0 : Int32) : Option (Int32) :=
  some ((1 : Int32) <<< (p0 &&& 31))
def x_G_holds (p0 : Int32) (p1 : Int32) : Option (Int32) :=
  (x_G_bit p1).bind fun r2 =>
  if (p0 &&& r2) = 0 then
    some (0 : Int32)
  else
    some (1 : Int32)
def x_C_isFault (st : XS) (p1 : Int32) : Option (Int32) :=
  (x_C_knows st p1).bind fun r2 =>
  if r2 = 0 then
    some (0 : Int32)
  else
    ix p1 13 fun j4 =>
    if (x_mem st j4) = 0 then
      some (1 : Int32)
    else
      some (0 : Int32)
def x_C_hasPair_B1 (st : XS) (p1 : Int32) (self1 : Int32 → Option (Int32)) (v1 : Int32) : Option (Int32) :=
  if (12 : Int32) < v1 then
    some (0 : Int32)
  else
    ix v1 13 fun j3 =>
    if (x_mem st j3) = p1 then
      some (1 : Int32)
    else
      self1 (v1 + 1)
def x_C_hasPair (st : XS) (p1 : Int32) : Option (Int32) :=
  xl1 (x_C_hasPair_B1 st p1) 14 (1 : Int32)
end
section
set_option maxHeartbeats 4000000 in
set_option maxRecDepth 100000 in
theorem c_C_addFault (l : Launch) (dC : Nat → ClassId) (dI : Nat → Nat → Nat) (cs : Nat → ClassId) (a : Nat → Nat) (hi : ∀ i j : Nat, i < 29 → j < 29 → a i = a j → i = j) (st : XS) (p1 : Int64) (res : Int32 × XS) (hf : x_C_addFault st p1 = some res) : Met l (⟨"GuideSearch$Causes", "addFault", "(J)I"⟩ : MethodName) (Cond.code (⟨"GuideSearch$Causes", "addFault", "(J)I"⟩ : MethodName) prog_3_method_5_code 3 (some .int) :: wg) { frames := 0, cells := 0, slots := 0, locals := 0 } (va_Pc ([.ref (a 1), .long p1] : List Value) (x_pre dC dI cs a st)) (va_Qi (fun r (_ : Unit) => r = res.1) (fun _ t => va_P (dC, dI) vwCl (x_W cs a res.2) t.heap) (x_A a)) 0 0 (x_A a) := by
  refine ro_start (cc := prog_3_method_5_code) (maxL := 3) (ret := (some .int)) (by decide) (Nat.le_of_ble_eq_true rfl) ?_
  intro p e s m below meth c hx hb hr hml hT hown hlocks hB ls hl
  replace hown : s.vm.findClass "GuideSearch$Causes" = some m.cls := hown
  obtain ⟨hP, hK, hN⟩ := hB
  replace hl : lv_has ls 3 [(0, .ref (a 1)), (1, .long p1)] := hl
  unfold x_C_addFault at hf
  have hD : ∀ st : XS, va_D (x_A a) (x_W cs a st) := fun st => x_D hi cs st
  have main : ∀ (H : Heap) (locs : List Loc), va_P (dC, dI) vwCl (x_W cs a st) H → va_S (x_A a) s.heap H locs → W p l e { frames := 0, cells := 0, slots := 0, locals := 0 } s m ([.ref (a 1), .long p1] : List Value).toArray below meth c H locs 0 0 (MQ below (va_Qi (fun r (_ : Unit) => r = res.1) (fun _ t => va_P (dC, dI) vwCl (x_W cs a res.2) t.heap) (x_A a)) ([.ref (a 1), .long p1] : List Value).toArray s 0 0 (x_A a)) (F0 m 0 ls []) := by
    intro H locs hP hS
    refine lv_aload_n hx hb d_C_addFault_0 rfl (lv_at hl 0 rfl) ?_
    refine va_get (D := (dC, dI)) (ci := 1) (v := .int (x_cN st)) (C := "GuideSearch$Causes") (T := F_C) (N := 5) hx hb hT i_C hown hK hP 1 rfl rfl 3 (by decide) (hT _ k_31) (fun _ h9 => h9) rfl d_C_addFault_1 ?_
    refine lv_bipush (v := (12 : Int32)) hx hb d_C_addFault_4 (by decide) ?_
    refine lv_icmp_lt (tgt := 12) hx hb d_C_addFault_6 (by decide) (fun c1 => ?_) (fun c1 => ?_)
    · rw [if_pos c1] at hf
      refine lv_aload_n hx hb d_C_addFault_12 rfl (lv_at hl 0 rfl) ?_
      refine lv_dup hx hb d_C_addFault_13 rfl ?_
      refine va_get (D := (dC, dI)) (ci := 1) (v := .int (x_cN st)) (C := "GuideSearch$Causes") (T := F_C) (N := 5) hx hb hT i_C hown hK hP 1 rfl rfl 3 (by decide) (hT _ k_31) (fun _ h9 => h9) rfl d_C_addFault_14 ?_
      refine lv_iconst (v := (1 : Int32)) hx hb d_C_addFault_17 (by decide) ?_
      refine lv_iadd hx hb d_C_addFault_18 ?_
      refine va_put (D := (dC, dI)) (ci := 1) (v := .int ((x_cN st) + (1 : Int32))) (ty := .int) (C := "GuideSearch$Causes") (T := F_C) (N := 5) hx hb hT i_C ft_C ft_C_ok n_C hown hK hP (hD _) hS 1 rfl rfl 3 (by decide) (hT _ k_31) (fun _ h9 => h9) rfl (by decide +kernel) rfl rfl (Nat.le_of_ble_eq_true rfl) d_C_addFault_19 (fun H locs hP _ hS => ?_)
      have hP : va_P (dC, dI) vwCl (x_W cs a (x_cN_s st ((x_cN st) + (1 : Int32)))) H := hP
      refine lv_aload_n hx hb d_C_addFault_22 rfl (lv_at hl 0 rfl) ?_
      refine lv_dup hx hb d_C_addFault_23 rfl ?_
      refine va_get (D := (dC, dI)) (ci := 1) (v := .int (x_fN (x_cN_s st ((x_cN st) + (1 : Int32))))) (C := "GuideSearch$Causes") (T := F_C) (N := 5) hx hb hT i_C hown hK hP 1 rfl rfl 4 (by decide) (hT _ k_34) (fun _ h9 => h9) rfl d_C_addFault_24 ?_
      refine lv_iconst (v := (1 : Int32)) hx hb d_C_addFault_27 (by decide) ?_
      refine lv_iadd hx hb d_C_addFault_28 ?_
      refine va_put (D := (dC, dI)) (ci := 1) (v := .int ((x_fN (x_cN_s st ((x_cN st) + (1 : Int32)))) + (1 : Int32))) (ty := .int) (C := "GuideSearch$Causes") (T := F_C) (N := 5) hx hb hT i_C ft_C ft_C_ok n_C hown hK hP (hD _) hS 1 rfl rfl 4 (by decide) (hT _ k_34) (fun _ h9 => h9) rfl (by decide +kernel) rfl rfl (Nat.le_of_ble_eq_true rfl) d_C_addFault_29 (fun H locs hP _ hS => ?_)
      have hP : va_P (dC, dI) vwCl (x_W cs a (x_fN_s (x_cN_s st ((x_cN st) + (1 : Int32))) ((x_fN (x_cN_s st ((x_cN st) + (1 : Int32)))) + (1 : Int32)))) H := hP
      refine lv_aload_n hx hb d_C_addFault_32 rfl (lv_at hl 0 rfl) ?_
      refine va_get (D := (dC, dI)) (ci := 1) (v := .ref (a 2)) (C := "GuideSearch$Causes") (T := F_C) (N := 5) hx hb hT i_C hown hK hP 1 rfl rfl 0 (by decide) (hT _ k_28) (fun _ h9 => h9) rfl d_C_addFault_33 ?_
      refine lv_aload_n hx hb d_C_addFault_36 rfl (lv_at hl 0 rfl) ?_
      refine va_get (D := (dC, dI)) (ci := 1) (v := .int (x_cN (x_fN_s (x_cN_s st ((x_cN st) + (1 : Int32))) ((x_fN (x_cN_s st ((x_cN st) + (1 : Int32)))) + (1 : Int32))))) (C := "GuideSearch$Causes") (T := F_C) (N := 5) hx hb hT i_C hown hK hP 1 rfl rfl 3 (by decide) (hT _ k_31) (fun _ h9 => h9) rfl d_C_addFault_37 ?_
      refine lv_lload_n hx hb d_C_addFault_40 rfl (lv_at hl 1 rfl) ?_
      refine lv_ldc2 (v := (2520 : Int64)) hx hb hown (hT _ k_158) d_C_addFault_41 ?_
      refine lv_lmul hx hb d_C_addFault_44 ?_
      obtain ⟨j2, ej4, hi3, hf⟩ := ix_some hf
      refine xa_last hx hb hK hP (hD _) hS 2 0 rfl rfl ej4 hi3 d_C_addFault_45 (fun H locs hP hS => ?_)
      have hP : va_P (dC, dI) vwCl (x_W cs a (x_pri_s (x_fN_s (x_cN_s st ((x_cN st) + (1 : Int32))) ((x_fN (x_cN_s st ((x_cN st) + (1 : Int32)))) + (1 : Int32))) j2 (p1 * (2520 : Int64)))) H := hP
      refine lv_aload_n hx hb d_C_addFault_46 rfl (lv_at hl 0 rfl) ?_
      refine va_get (D := (dC, dI)) (ci := 1) (v := .int (x_cN (x_pri_s (x_fN_s (x_cN_s st ((x_cN st) + (1 : Int32))) ((x_fN (x_cN_s st ((x_cN st) + (1 : Int32)))) + (1 : Int32))) j2 (p1 * (2520 : Int64))))) (C := "GuideSearch$Causes") (T := F_C) (N := 5) hx hb hT i_C hown hK hP 1 rfl rfl 3 (by decide) (hT _ k_31) (fun _ h9 => h9) rfl d_C_addFault_47 ?_
      exact W.iret hx hb hr (fun t ht _ => ⟨⟨_, (), rfl, congrArg Prod.fst (Option.some.inj hf), x_fin ht (congrArg Prod.snd (Option.some.inj hf)) hP⟩, hS.F ht⟩) hS.2.2 d_C_addFault_50
    · rw [if_neg c1] at hf
      refine lv_bipush (v := (-4 : Int32)) hx hb d_C_addFault_9 (by decide) ?_
      exact W.iret hx hb hr (fun t ht _ => ⟨⟨_, (), rfl, congrArg Prod.fst (Option.some.inj hf), x_fin ht (congrArg Prod.snd (Option.some.inj hf)) hP⟩, hS.F ht⟩) hS.2.2 d_C_addFault_11
  exact main _ _ hP va_S.rf
set_option maxHeartbeats 4000000 in
set_option maxRecDepth 100000 in
theorem c_T_knows (l : Launch) (dC : Nat → ClassId) (dI : Nat → Nat → Nat) (cs : Nat → ClassId) (a : Nat → Nat) (st : XS) (p1 : Int32) (res : Int32) (hf : x_T_knows st p1 = some res) : Met l (⟨"GuideSearch$Tests", "knows", "(I)Z"⟩ : MethodName) (Cond.code (⟨"GuideSearch$Tests", "knows", "(I)Z"⟩ : MethodName) prog_5_method_2_code 2 (some .boolean) :: wg) { frames := 0, cells := 0, slots := 0, locals := 0 } (va_Pc ([.ref (a 5), .int p1] : List Value) (x_pre dC dI cs a st)) (vp_Si (fun r => r = res)) 0 0 (fun _ => False) := by
  refine ro_start (cc := prog_5_method_2_code) (maxL := 2) (ret := (some .boolean)) (by decide) (Nat.le_of_ble_eq_true rfl) ?_
  intro p e s m below meth c hx hb hr hml hT hown hlocks hB ls hl
  replace hown : s.vm.findClass "GuideSearch$Tests" = some m.cls := hown
  obtain ⟨hP, hK, hN⟩ := hB
  replace hl : lv_has ls 2 [(0, .ref (a 5)), (1, .int p1)] := hl
  unfold x_T_knows at hf
  refine lv_iload_n hx hb d_T_knows_0 rfl (lv_at hl 1 rfl) ?_
  refine lv_iconst (v := (1 : Int32)) hx hb d_T_knows_1 (by decide) ?_
  refine lv_icmp_lt (tgt := 22) hx hb d_T_knows_2 (by decide) (fun c1 => ?_) (fun c1 => ?_)
  · rw [if_pos c1] at hf
    refine lv_iconst (v := (0 : Int32)) hx hb d_T_knows_22 (by decide) ?_
    exact W.zret (ty := .boolean) hx hb hr (rfl) (fun t ht _ => ⟨_, rfl, Option.some.inj hf, ht⟩) (fun _ h => absurd h List.not_mem_nil) d_T_knows_23
  · rw [if_neg c1] at hf
    refine lv_iload_n hx hb d_T_knows_5 rfl (lv_at hl 1 rfl) ?_
    refine lv_aload_n hx hb d_T_knows_6 rfl (lv_at hl 0 rfl) ?_
    refine va_get (D := (dC, dI)) (ci := 2) (v := .int (x_tN st)) (C := "GuideSearch$Tests") (T := F_T) (N := 4) hx hb hT i_T hown hK hP 5 rfl rfl 3 (by decide) (hT _ k_63) (fun _ h9 => h9) rfl d_T_knows_7 ?_
    refine lv_icmp_gt (tgt := 22) hx hb d_T_knows_10 (by decide) (fun c2 => ?_) (fun c2 => ?_)
    · rw [if_pos c2] at hf
      refine lv_iconst (v := (0 : Int32)) hx hb d_T_knows_22 (by decide) ?_
      exact W.zret (ty := .boolean) hx hb hr (rfl) (fun t ht _ => ⟨_, rfl, Option.some.inj hf, ht⟩) (fun _ h => absurd h List.not_mem_nil) d_T_knows_23
    · rw [if_neg c2] at hf
      refine lv_iload_n hx hb d_T_knows_13 rfl (lv_at hl 1 rfl) ?_
      refine lv_iconst (v := (5 : Int32)) hx hb d_T_knows_14 (by decide) ?_
      refine lv_icmp_gt (tgt := 22) hx hb d_T_knows_15 (by decide) (fun c3 => ?_) (fun c3 => ?_)
      · rw [if_pos c3] at hf
        refine lv_iconst (v := (0 : Int32)) hx hb d_T_knows_22 (by decide) ?_
        exact W.zret (ty := .boolean) hx hb hr (rfl) (fun t ht _ => ⟨_, rfl, Option.some.inj hf, ht⟩) (fun _ h => absurd h List.not_mem_nil) d_T_knows_23
      · rw [if_neg c3] at hf
        refine lv_iconst (v := (1 : Int32)) hx hb d_T_knows_18 (by decide) ?_
        refine lv_goto (tgt := 23) hx hb d_T_knows_19 (by decide) ?_
        exact W.zret (ty := .boolean) hx hb hr (rfl) (fun t ht _ => ⟨_, rfl, Option.some.inj hf, ht⟩) (fun _ h => absurd h List.not_mem_nil) d_T_knows_23
set_option maxHeartbeats 4000000 in
set_option maxRecDepth 100000 in
theorem c_C_knows (l : Launch) (dC : Nat → ClassId) (dI : Nat → Nat → Nat) (cs : Nat → ClassId) (a : Nat → Nat) (st : XS) (p1 : Int32) (res : Int32) (hf : x_C_knows st p1 = some res) : Met l (⟨"GuideSearch$Causes", "knows", "(I)Z"⟩ : MethodName) (Cond.code (⟨"GuideSearch$Causes", "knows", "(I)Z"⟩ : MethodName) prog_3_method_2_code 2 (some .boolean) :: wg) { frames := 0, cells := 0, slots := 0, locals := 0 } (va_Pc ([.ref (a 1), .int p1] : List Value) (x_pre dC dI cs a st)) (vp_Si (fun r => r = res)) 0 0 (fun _ => False) := by
  refine ro_start (cc := prog_3_method_2_code) (maxL := 2) (ret := (some .boolean)) (by decide) (Nat.le_of_ble_eq_true rfl) ?_
  intro p e s m below meth c hx hb hr hml hT hown hlocks hB ls hl
  replace hown : s.vm.findClass "GuideSearch$Causes" = some m.cls := hown
  obtain ⟨hP, hK, hN⟩ := hB
  replace hl : lv_has ls 2 [(0, .ref (a 1)), (1, .int p1)] := hl
  unfold x_C_knows at hf
  refine lv_iload_n hx hb d_C_knows_0 rfl (lv_at hl 1 rfl) ?_
  refine lv_iconst (v := (1 : Int32)) hx hb d_C_knows_1 (by decide) ?_
  refine lv_icmp_lt (tgt := 23) hx hb d_C_knows_2 (by decide) (fun c1 => ?_) (fun c1 => ?_)
  · rw [if_pos c1] at hf
    refine lv_iconst (v := (0 : Int32)) hx hb d_C_knows_23 (by decide) ?_
    exact W.zret (ty := .boolean) hx hb hr (rfl) (fun t ht _ => ⟨_, rfl, Option.some.inj hf, ht⟩) (fun _ h => absurd h List.not_mem_nil) d_C_knows_24
  · rw [if_neg c1] at hf
    refine lv_iload_n hx hb d_C_knows_5 rfl (lv_at hl 1 rfl) ?_
    refine lv_aload_n hx hb d_C_knows_6 rfl (lv_at hl 0 rfl) ?_
    refine va_get (D := (dC, dI)) (ci := 1) (v := .int (x_cN st)) (C := "GuideSearch$Causes") (T := F_C) (N := 5) hx hb hT i_C hown hK hP 1 rfl rfl 3 (by decide) (hT _ k_31) (fun _ h9 => h9) rfl d_C_knows_7 ?_
    refine lv_icmp_gt (tgt := 23) hx hb d_C_knows_10 (by decide) (fun c2 => ?_) (fun c2 => ?_)
    · rw [if_pos c2] at hf
      refine lv_iconst (v := (0 : Int32)) hx hb d_C_knows_23 (by decide) ?_
      exact W.zret (ty := .boolean) hx hb hr (rfl) (fun t ht _ => ⟨_, rfl, Option.some.inj hf, ht⟩) (fun _ h => absurd h List.not_mem_nil) d_C_knows_24
    · rw [if_neg c2] at hf
      refine lv_iload_n hx hb d_C_knows_13 rfl (lv_at hl 1 rfl) ?_
      refine lv_bipush (v := (12 : Int32)) hx hb d_C_knows_14 (by decide) ?_
      refine lv_icmp_gt (tgt := 23) hx hb d_C_knows_16 (by decide) (fun c3 => ?_) (fun c3 => ?_)
      · rw [if_pos c3] at hf
        refine lv_iconst (v := (0 : Int32)) hx hb d_C_knows_23 (by decide) ?_
        exact W.zret (ty := .boolean) hx hb hr (rfl) (fun t ht _ => ⟨_, rfl, Option.some.inj hf, ht⟩) (fun _ h => absurd h List.not_mem_nil) d_C_knows_24
      · rw [if_neg c3] at hf
        refine lv_iconst (v := (1 : Int32)) hx hb d_C_knows_19 (by decide) ?_
        refine lv_goto (tgt := 24) hx hb d_C_knows_20 (by decide) ?_
        exact W.zret (ty := .boolean) hx hb hr (rfl) (fun t ht _ => ⟨_, rfl, Option.some.inj hf, ht⟩) (fun _ h => absurd h List.not_mem_nil) d_C_knows_24
set_option maxHeartbeats 4000000 in
set_option maxRecDepth 100000 in
theorem c_G_isAnswer (l : Launch) (p0 : Int32) (res : Int32) (hf : x_G_isAnswer p0 = some res) : Met l (⟨"GuideSearch", "isAnswer", "(I)Z"⟩ : MethodName) (Cond.code (⟨"GuideSearch", "isAnswer", "(I)Z"⟩ : MethodName) prog_1_method_15_code 1 (some .boolean) :: wg) { frames := 0, cells := 0, slots := 0, locals := 0 } (va_Pc ([.int p0] : List Value) (fun _ => True)) (vp_Si (fun r => r = res)) 0 0 (fun _ => False) := by
  refine ro_start (cc := prog_1_method_15_code) (maxL := 1) (ret := (some .boolean)) (by decide) (Nat.le_of_ble_eq_true rfl) ?_
  intro p e s m below meth c hx hb hr hml hT hown hlocks hB ls hl
  replace hown : s.vm.findClass "GuideSearch" = some m.cls := hown
  replace hl : lv_has ls 1 [(0, .int p0)] := hl
  unfold x_G_isAnswer at hf
  refine lv_iload_n hx hb d_G_isAnswer_0 rfl (lv_at hl 0 rfl) ?_
  refine lv_if_lt (tgt := 13) hx hb d_G_isAnswer_1 (by decide) (fun c1 => ?_) (fun c1 => ?_)
  · rw [if_pos c1] at hf
    refine lv_iconst (v := (0 : Int32)) hx hb d_G_isAnswer_13 (by decide) ?_
    exact W.zret (ty := .boolean) hx hb hr (rfl) (fun t ht _ => ⟨_, rfl, Option.some.inj hf, ht⟩) (fun _ h => absurd h List.not_mem_nil) d_G_isAnswer_14
  · rw [if_neg c1] at hf
    refine lv_iload_n hx hb d_G_isAnswer_4 rfl (lv_at hl 0 rfl) ?_
    refine lv_iconst (v := (3 : Int32)) hx hb d_G_isAnswer_5 (by decide) ?_
    refine lv_icmp_ge (tgt := 13) hx hb d_G_isAnswer_6 (by decide) (fun c2 => ?_) (fun c2 => ?_)
    · rw [if_pos c2] at hf
      refine lv_iconst (v := (0 : Int32)) hx hb d_G_isAnswer_13 (by decide) ?_
      exact W.zret (ty := .boolean) hx hb hr (rfl) (fun t ht _ => ⟨_, rfl, Option.some.inj hf, ht⟩) (fun _ h => absurd h List.not_mem_nil) d_G_isAnswer_14
    · rw [if_neg c2] at hf
      refine lv_iconst (v := (1 : Int32)) hx hb d_G_isAnswer_9 (by decide) ?_
      refine lv_goto (tgt := 14) hx hb d_G_isAnswer_10 (by decide) ?_
      exact W.zret (ty := .boolean) hx hb hr (rfl) (fun t ht _ => ⟨_, rfl, Option.some.inj hf, ht⟩) (fun _ h => absurd h List.not_mem_nil) d_G_isAnswer_14
set_option maxHeartbeats 4000000 in
set_option maxRecDepth 100000 in
theorem c_T_hasPlace (l : Launch) (dC : Nat → ClassId) (dI : Nat → Nat → Nat) (cs : Nat → ClassId) (a : Nat → Nat) (st : XS) (p1 : Int32) (p2 : Int32) (res : Int32) (hf : x_T_hasPlace st p1 p2 = some res) : Met l (⟨"GuideSearch$Tests", "hasPlace", "(II)Z"⟩ : MethodName) (Cond.code (⟨"GuideSearch$Tests", "hasPlace", "(II)Z"⟩ : MethodName) prog_5_method_14_code 3 (some .boolean) :: wg) { frames := 1, cells := 0, slots := 0, locals := 21 } (va_Pc ([.ref (a 5), .int p1, .int p2] : List Value) (x_pre dC dI cs a st)) (vp_Si (fun r => r = res)) 0 0 (fun _ => False) := by
  refine ro_start (cc := prog_5_method_14_code) (maxL := 3) (ret := (some .boolean)) (by decide) (Nat.le_of_ble_eq_true rfl) ?_
  intro p e s m below meth c hx hb hr hml hT hown hlocks hB ls hl
  replace hown : s.vm.findClass "GuideSearch$Tests" = some m.cls := hown
  obtain ⟨hP, hK, hN⟩ := hB
  replace hl : lv_has ls 3 [(0, .ref (a 5)), (1, .int p1), (2, .int p2)] := hl
  unfold x_T_hasPlace at hf
  refine lv_aload_n hx hb d_T_hasPlace_0 rfl (lv_at hl 0 rfl) ?_
  refine lv_iload_n hx hb d_T_hasPlace_1 rfl (lv_at hl 1 rfl) ?_
  obtain ⟨r2, hr1, hf⟩ := ob hf
  refine ro_calli (va_runV (C := "GuideSearch$Tests") (As := [.int p1]) (rest := []) ⟨hx, hb, hml, hown, hT⟩ (c_T_knows l dC dI cs a st p1 r2 hr1) (cwV 1 hT (gV k_199 k_173 k_174 k_3 k_175) rfl rfl rfl (by decide +kernel) ⟨Nat.le_of_ble_eq_true rfl, Nat.le_of_ble_eq_true rfl⟩) (ro_preV hP hK hN (va_recv hK hP (ci := 2) (q0 := 5) rfl rfl)) rfl rfl hl.1 rfl (lv_room (Nat.le_of_ble_eq_true rfl)) d_T_hasPlace_2 ⟨Nat.le_of_ble_eq_true rfl, Nat.le_of_ble_eq_true rfl⟩) ?_
  refine lv_if_eq (tgt := 23) hx hb d_T_hasPlace_5 (by decide) (fun c3 => ?_) (fun c3 => ?_)
  · rw [if_pos c3] at hf
    refine lv_iconst (v := (0 : Int32)) hx hb d_T_hasPlace_23 (by decide) ?_
    exact W.zret (ty := .boolean) hx hb hr (rfl) (fun t ht _ => ⟨_, rfl, Option.some.inj hf, ht⟩) (fun _ h => absurd h List.not_mem_nil) d_T_hasPlace_24
  · rw [if_neg c3] at hf
    refine lv_iload_n hx hb d_T_hasPlace_8 rfl (lv_at hl 2 rfl) ?_
    refine lv_iconst (v := (1 : Int32)) hx hb d_T_hasPlace_9 (by decide) ?_
    refine lv_icmp_lt (tgt := 23) hx hb d_T_hasPlace_10 (by decide) (fun c4 => ?_) (fun c4 => ?_)
    · rw [if_pos c4] at hf
      refine lv_iconst (v := (0 : Int32)) hx hb d_T_hasPlace_23 (by decide) ?_
      exact W.zret (ty := .boolean) hx hb hr (rfl) (fun t ht _ => ⟨_, rfl, Option.some.inj hf, ht⟩) (fun _ h => absurd h List.not_mem_nil) d_T_hasPlace_24
    · rw [if_neg c4] at hf
      refine lv_iload_n hx hb d_T_hasPlace_13 rfl (lv_at hl 2 rfl) ?_
      refine lv_bipush (v := (12 : Int32)) hx hb d_T_hasPlace_14 (by decide) ?_
      refine lv_icmp_gt (tgt := 23) hx hb d_T_hasPlace_16 (by decide) (fun c5 => ?_) (fun c5 => ?_)
      · rw [if_pos c5] at hf
        refine lv_iconst (v := (0 : Int32)) hx hb d_T_hasPlace_23 (by decide) ?_
        exact W.zret (ty := .boolean) hx hb hr (rfl) (fun t ht _ => ⟨_, rfl, Option.some.inj hf, ht⟩) (fun _ h => absurd h List.not_mem_nil) d_T_hasPlace_24
      · rw [if_neg c5] at hf
        refine lv_iconst (v := (1 : Int32)) hx hb d_T_hasPlace_19 (by decide) ?_
        refine lv_goto (tgt := 24) hx hb d_T_hasPlace_20 (by decide) ?_
        exact W.zret (ty := .boolean) hx hb hr (rfl) (fun t ht _ => ⟨_, rfl, Option.some.inj hf, ht⟩) (fun _ h => absurd h List.not_mem_nil) d_T_hasPlace_24
set_option maxHeartbeats 4000000 in
set_option maxRecDepth 100000 in
theorem c_T_twelfths (l : Launch) (dC : Nat → ClassId) (dI : Nat → Nat → Nat) (cs : Nat → ClassId) (a : Nat → Nat) (st : XS) (p1 : Int32) (p2 : Int32) (p3 : Int32) (res : Int32) (hf : x_T_twelfths st p1 p2 p3 = some res) : Met l (⟨"GuideSearch$Tests", "twelfths", "(III)I"⟩ : MethodName) (Cond.code (⟨"GuideSearch$Tests", "twelfths", "(III)I"⟩ : MethodName) prog_5_method_5_code 4 (some .int) :: wg) { frames := 2, cells := 0, slots := 0, locals := 43 } (va_Pc ([.ref (a 5), .int p1, .int p2, .int p3] : List Value) (x_pre dC dI cs a st)) (vp_Si (fun r => r = res)) 0 0 (fun _ => False) := by
  refine ro_start (cc := prog_5_method_5_code) (maxL := 4) (ret := (some .int)) (by decide) (Nat.le_of_ble_eq_true rfl) ?_
  intro p e s m below meth c hx hb hr hml hT hown hlocks hB ls hl
  replace hown : s.vm.findClass "GuideSearch$Tests" = some m.cls := hown
  obtain ⟨hP, hK, hN⟩ := hB
  replace hl : lv_has ls 4 [(0, .ref (a 5)), (1, .int p1), (2, .int p2), (3, .int p3)] := hl
  unfold x_T_twelfths at hf
  refine lv_aload_n hx hb d_T_twelfths_0 rfl (lv_at hl 0 rfl) ?_
  refine lv_iload_n hx hb d_T_twelfths_1 rfl (lv_at hl 1 rfl) ?_
  refine lv_iload_n hx hb d_T_twelfths_2 rfl (lv_at hl 2 rfl) ?_
  obtain ⟨r2, hr1, hf⟩ := ob hf
  refine ro_calli (va_runV (C := "GuideSearch$Tests") (As := [.int p1, .int p2]) (rest := []) ⟨hx, hb, hml, hown, hT⟩ (c_T_hasPlace l dC dI cs a st p1 p2 r2 hr1) (cwV 2 hT (gV k_195 k_197 ks_0 k_3 k_198) rfl rfl rfl (by decide +kernel) ⟨Nat.le_of_ble_eq_true rfl, Nat.le_of_ble_eq_true rfl⟩) (ro_preV hP hK hN (va_recv hK hP (ci := 2) (q0 := 5) rfl rfl)) rfl rfl hl.1 rfl (lv_room (Nat.le_of_ble_eq_true rfl)) d_T_twelfths_3 ⟨Nat.le_of_ble_eq_true rfl, Nat.le_of_ble_eq_true rfl⟩) ?_
  refine lv_if_ne (tgt := 11) hx hb d_T_twelfths_6 (by decide) (fun c3 => ?_) (fun c3 => ?_)
  · rw [if_neg c3] at hf
    refine lv_aload_n hx hb d_T_twelfths_11 rfl (lv_at hl 0 rfl) ?_
    refine va_get (D := (dC, dI)) (ci := 2) (v := .ref (a 8)) (C := "GuideSearch$Tests") (T := F_T) (N := 4) hx hb hT i_T hown hK hP 5 rfl rfl 2 (by decide) (hT _ k_62) (fun _ h9 => h9) rfl d_T_twelfths_12 ?_
    refine lv_iload_n hx hb d_T_twelfths_15 rfl (lv_at hl 1 rfl) ?_
    obtain ⟨j4, ej6, hi5, hf⟩ := ix_some hf
    refine xa_aald hx hb hK hP 8 3 rfl rfl ej6 hi5 (if_pos (ix_lt ej6 hi5)) d_T_twelfths_16 ?_
    have hj4 : j4 < 6 := ix_lt ej6 hi5
    refine lv_iload_n hx hb d_T_twelfths_17 rfl (lv_at hl 2 rfl) ?_
    obtain ⟨j8, ej10, hi9, hf⟩ := ix_some hf
    refine xa_iald hx hb hK hP (9 + j4) 1 (x_tab_row cs a st hj4) rfl ej10 hi9 d_T_twelfths_18 ?_
    refine lv_iconst (v := (4 : Int32)) hx hb d_T_twelfths_19 (by decide) ?_
    refine lv_iload_n hx hb d_T_twelfths_20 rfl (lv_at hl 3 rfl) ?_
    refine lv_imul hx hb d_T_twelfths_21 ?_
    refine lv_ishr hx hb d_T_twelfths_22 ?_
    refine lv_bipush (v := (15 : Int32)) hx hb d_T_twelfths_23 (by decide) ?_
    refine lv_iand hx hb d_T_twelfths_25 ?_
    exact W.iret hx hb hr (fun t ht _ => ⟨_, rfl, Option.some.inj hf, ht⟩) (fun _ h => absurd h List.not_mem_nil) d_T_twelfths_26
  · rw [if_pos c3] at hf
    refine lv_iconst (v := (0 : Int32)) hx hb d_T_twelfths_9 (by decide) ?_
    exact W.iret hx hb hr (fun t ht _ => ⟨_, rfl, Option.some.inj hf, ht⟩) (fun _ h => absurd h List.not_mem_nil) d_T_twelfths_10
set_option maxHeartbeats 4000000 in
set_option maxRecDepth 100000 in
theorem c_G_bit (l : Launch) (p0 : Int32) (res : Int32) (hf : x_G_bit p0 = some res) : Met l (⟨"GuideSearch", "bit", "(I)I"⟩ : MethodName) (Cond.code (⟨"GuideSearch", "bit", "(I)I"⟩ : MethodName) prog_1_method_17_code 1 (some .int) :: wg) { frames := 0, cells := 0, slots := 0, locals := 0 } (va_Pc ([.int p0] : List Value) (fun _ => True)) (vp_Si (fun r => r = res)) 0 0 (fun _ => False) := by
  refine ro_start (cc := prog_1_method_17_code) (maxL := 1) (ret := (some .int)) (by decide) (Nat.le_of_ble_eq_true rfl) ?_
  intro p e s m below meth c hx hb hr hml hT hown hlocks hB ls hl
  replace hown : s.vm.findClass "GuideSearch" = some m.cls := hown
  replace hl : lv_has ls 1 [(0, .int p0)] := hl
  unfold x_G_bit at hf
  refine lv_iconst (v := (1 : Int32)) hx hb d_G_bit_0 (by decide) ?_
  refine lv_iload_n hx hb d_G_bit_1 rfl (lv_at hl 0 rfl) ?_
  refine lv_ishl hx hb d_G_bit_2 ?_
  exact W.iret hx hb hr (fun t ht _ => ⟨_, rfl, Option.some.inj hf, ht⟩) (fun _ h => absurd h List.not_mem_nil) d_G_bit_3
set_option maxHeartbeats 4000000 in
set_option maxRecDepth 100000 in
theorem c_G_holds (l : Launch) (p0 : Int32) (p1 : Int32) (res : Int32) (hf : x_G_holds p0 p1 = some res) : Met l (⟨"GuideSearch", "holds", "(II)Z"⟩ : MethodName) (Cond.code (⟨"GuideSearch", "holds", "(II)Z"⟩ : MethodName) prog_1_method_18_code 2 (some .boolean) :: wg) { frames := 1, cells := 0, slots := 0, locals := 20 } (va_Pc ([.int p0, .int p1] : List Value) (fun _ => True)) (vp_Si (fun r => r = res)) 0 0 (fun _ => False) := by
  refine ro_start (cc := prog_1_method_18_code) (maxL := 2) (ret := (some .boolean)) (by decide) (Nat.le_of_ble_eq_true rfl) ?_
  intro p e s m below meth c hx hb hr hml hT hown hlocks hB ls hl
  replace hown : s.vm.findClass "GuideSearch" = some m.cls := hown
  replace hl : lv_has ls 2 [(0, .int p0), (1, .int p1)] := hl
  unfold x_G_holds at hf
  refine lv_iload_n hx hb d_G_holds_0 rfl (lv_at hl 0 rfl) ?_
  refine lv_iload_n hx hb d_G_holds_1 rfl (lv_at hl 1 rfl) ?_
  obtain ⟨r2, hr1, hf⟩ := ob hf
  refine ro_calli (va_runS (As := [.int p1]) (rest := [.int p0]) ⟨hx, hb, hml, hown, hT⟩ (c_G_bit l p1 r2 hr1) (va_cwS 1 hT (gS k_219 k_220 k_1 k_221) rfl rfl rfl (by decide +kernel) ⟨Nat.le_of_ble_eq_true rfl, Nat.le_of_ble_eq_true rfl⟩) ⟨fun _ _ _ _ q => q, fun _ _ _ => ⟨rfl, trivial⟩⟩ rfl rfl hl.1 rfl (lv_room (Nat.le_of_ble_eq_true rfl)) d_G_holds_2 ⟨Nat.le_of_ble_eq_true rfl, Nat.le_of_ble_eq_true rfl⟩) ?_
  refine lv_iand hx hb d_G_holds_5 ?_
  refine lv_if_eq (tgt := 13) hx hb d_G_holds_6 (by decide) (fun c3 => ?_) (fun c3 => ?_)
  · rw [if_pos c3] at hf
    refine lv_iconst (v := (0 : Int32)) hx hb d_G_holds_13 (by decide) ?_
    exact W.zret (ty := .boolean) hx hb hr (rfl) (fun t ht _ => ⟨_, rfl, Option.some.inj hf, ht⟩) (fun _ h => absurd h List.not_mem_nil) d_G_holds_14
  · rw [if_neg c3] at hf
    refine lv_iconst (v := (1 : Int32)) hx hb d_G_holds_9 (by decide) ?_
    refine lv_goto (tgt := 14) hx hb d_G_holds_10 (by decide) ?_
    exact W.zret (ty := .boolean) hx hb hr (rfl) (fun t ht _ => ⟨_, rfl, Option.some.inj hf, ht⟩) (fun _ h => absurd h List.not_mem_nil) d_G_holds_14
set_option maxHeartbeats 4000000 in
set_option maxRecDepth 100000 in
theorem c_C_isFault (l : Launch) (dC : Nat → ClassId) (dI : Nat → Nat → Nat) (cs : Nat → ClassId) (a : Nat → Nat) (st : XS) (p1 : Int32) (res : Int32) (hf : x_C_isFault st p1 = some res) : Met l (⟨"GuideSearch$Causes", "isFault", "(I)Z"⟩ : MethodName) (Cond.code (⟨"GuideSearch$Causes", "isFault", "(I)Z"⟩ : MethodName) prog_3_method_3_code 2 (some .boolean) :: wg) { frames := 1, cells := 0, slots := 0, locals := 21 } (va_Pc ([.ref (a 1), .int p1] : List Value) (x_pre dC dI cs a st)) (vp_Si (fun r => r = res)) 0 0 (fun _ => False) := by
  refine ro_start (cc := prog_3_method_3_code) (maxL := 2) (ret := (some .boolean)) (by decide) (Nat.le_of_ble_eq_true rfl) ?_
  intro p e s m below meth c hx hb hr hml hT hown hlocks hB ls hl
  replace hown : s.vm.findClass "GuideSearch$Causes" = some m.cls := hown
  obtain ⟨hP, hK, hN⟩ := hB
  replace hl : lv_has ls 2 [(0, .ref (a 1)), (1, .int p1)] := hl
  unfold x_C_isFault at hf
  refine lv_aload_n hx hb d_C_isFault_0 rfl (lv_at hl 0 rfl) ?_
  refine lv_iload_n hx hb d_C_isFault_1 rfl (lv_at hl 1 rfl) ?_
  obtain ⟨r2, hr1, hf⟩ := ob hf
  refine ro_calli (va_runV (C := "GuideSearch$Causes") (As := [.int p1]) (rest := []) ⟨hx, hb, hml, hown, hT⟩ (c_C_knows l dC dI cs a st p1 r2 hr1) (cwV 1 hT (gV k_265 k_177 k_178 k_2 k_179) rfl rfl rfl (by decide +kernel) ⟨Nat.le_of_ble_eq_true rfl, Nat.le_of_ble_eq_true rfl⟩) (ro_preV hP hK hN (va_recv hK hP (ci := 1) (q0 := 1) rfl rfl)) rfl rfl hl.1 rfl (lv_room (Nat.le_of_ble_eq_true rfl)) d_C_isFault_2 ⟨Nat.le_of_ble_eq_true rfl, Nat.le_of_ble_eq_true rfl⟩) ?_
  refine lv_if_eq (tgt := 21) hx hb d_C_isFault_5 (by decide) (fun c3 => ?_) (fun c3 => ?_)
  · rw [if_pos c3] at hf
    refine lv_iconst (v := (0 : Int32)) hx hb d_C_isFault_21 (by decide) ?_
    exact W.zret (ty := .boolean) hx hb hr (rfl) (fun t ht _ => ⟨_, rfl, Option.some.inj hf, ht⟩) (fun _ h => absurd h List.not_mem_nil) d_C_isFault_22
  · rw [if_neg c3] at hf
    refine lv_aload_n hx hb d_C_isFault_8 rfl (lv_at hl 0 rfl) ?_
    refine va_get (D := (dC, dI)) (ci := 1) (v := .ref (a 3)) (C := "GuideSearch$Causes") (T := F_C) (N := 5) hx hb hT i_C hown hK hP 1 rfl rfl 1 (by decide) (hT _ k_29) (fun _ h9 => h9) rfl d_C_isFault_9 ?_
    refine lv_iload_n hx hb d_C_isFault_12 rfl (lv_at hl 1 rfl) ?_
    obtain ⟨j4, ej6, hi5, hf⟩ := ix_some hf
    refine xa_iald hx hb hK hP 3 1 rfl rfl ej6 hi5 d_C_isFault_13 ?_
    refine lv_if_ne (tgt := 21) hx hb d_C_isFault_14 (by decide) (fun c7 => ?_) (fun c7 => ?_)
    · rw [if_neg c7] at hf
      refine lv_iconst (v := (0 : Int32)) hx hb d_C_isFault_21 (by decide) ?_
      exact W.zret (ty := .boolean) hx hb hr (rfl) (fun t ht _ => ⟨_, rfl, Option.some.inj hf, ht⟩) (fun _ h => absurd h List.not_mem_nil) d_C_isFault_22
    · rw [if_pos c7] at hf
      refine lv_iconst (v := (1 : Int32)) hx hb d_C_isFault_17 (by decide) ?_
      refine lv_goto (tgt := 22) hx hb d_C_isFault_18 (by decide) ?_
      exact W.zret (ty := .boolean) hx hb hr (rfl) (fun t ht _ => ⟨_, rfl, Option.some.inj hf, ht⟩) (fun _ h => absurd h List.not_mem_nil) d_C_isFault_22
set_option maxHeartbeats 4000000 in
set_option maxRecDepth 100000 in
theorem c_C_hasPair (l : Launch) (dC : Nat → ClassId) (dI : Nat → Nat → Nat) (cs : Nat → ClassId) (a : Nat → Nat) (st : XS) (p1 : Int32) (res : Int32) (hf : x_C_hasPair st p1 = some res) : Met l (⟨"GuideSearch$Causes", "hasPair", "(I)Z"⟩ : MethodName) (Cond.code (⟨"GuideSearch$Causes", "hasPair", "(I)Z"⟩ : MethodName) prog_3_method_4_code 3 (some .boolean) :: wg) { frames := 0, cells := 0, slots := 0, locals := 0 } (va_Pc ([.ref (a 1), .int p1] : List Value) (x_pre dC dI cs a st)) (vp_Si (fun r => r = res)) 0 0 (fun _ => False) := by
  refine ro_start (cc := prog_3_method_4_code) (maxL := 3) (ret := (some .boolean)) (by decide) (Nat.le_of_ble_eq_true rfl) ?_
  intro p e s m below meth c hx hb hr hml hT hown hlocks hB ls hl
  replace hown : s.vm.findClass "GuideSearch$Causes" = some m.cls := hown
  obtain ⟨hP, hK, hN⟩ := hB
  replace hl : lv_has ls 3 [(0, .ref (a 1)), (1, .int p1)] := hl
  unfold x_C_hasPair at hf
  refine lv_iconst (v := (1 : Int32)) hx hb d_C_hasPair_0 (by decide) ?_
  refine lv_istore_n (lv' := [(2, .int (1 : Int32)), (0, .ref (a 1)), (1, .int p1)]) hx hb d_C_hasPair_1 rfl hl (by decide) rfl (fun ls hl => ?_)
  have loop1 : ∀ (n : Nat) (v1 : Int32), xl1 (x_C_hasPair_B1 st p1) n v1 = some res → ∀ (ls : Array Slot), lv_has ls 3 [(2, .int v1), (0, .ref (a 1)), (1, .int p1)] → W p l e { frames := 0, cells := 0, slots := 0, locals := 0 } s m ([.ref (a 1), .int p1] : List Value).toArray below meth c s.heap [] 0 0 (MQ below (vp_Si (fun r => r = res)) ([.ref (a 1), .int p1] : List Value).toArray s 0 0 (fun _ => False)) (F0 m 2 ls []) := by
    intro n
    induction n with
    | zero => intro v1 hf; exact absurd hf (by simp [xl1])
    | succ n ih1 =>
      intro v1 hf ls hl
      replace hf : (x_C_hasPair_B1 st p1) (xl1 (x_C_hasPair_B1 st p1) n) v1 = some res := hf
      generalize xl1 (x_C_hasPair_B1 st p1) n = self1 at hf ih1
      unfold x_C_hasPair_B1 at hf
      refine lv_iload_n hx hb d_C_hasPair_2 rfl (lv_at hl 0 rfl) ?_
      refine lv_bipush (v := (12 : Int32)) hx hb d_C_hasPair_3 (by decide) ?_
      refine lv_icmp_gt (tgt := 26) hx hb d_C_hasPair_5 (by decide) (fun c2 => ?_) (fun c2 => ?_)
      · rw [if_pos c2] at hf
        refine lv_iconst (v := (0 : Int32)) hx hb d_C_hasPair_26 (by decide) ?_
        exact W.zret (ty := .boolean) hx hb hr (rfl) (fun t ht _ => ⟨_, rfl, Option.some.inj hf, ht⟩) (fun _ h => absurd h List.not_mem_nil) d_C_hasPair_27
      · rw [if_neg c2] at hf
        refine lv_aload_n hx hb d_C_hasPair_8 rfl (lv_at hl 1 rfl) ?_
        refine va_get (D := (dC, dI)) (ci := 1) (v := .ref (a 3)) (C := "GuideSearch$Causes") (T := F_C) (N := 5) hx hb hT i_C hown hK hP 1 rfl rfl 1 (by decide) (hT _ k_29) (fun _ h9 => h9) rfl d_C_hasPair_9 ?_
        refine lv_iload_n hx hb d_C_hasPair_12 rfl (lv_at hl 0 rfl) ?_
        obtain ⟨j3, ej5, hi4, hf⟩ := ix_some hf
        refine xa_iald hx hb hK hP 3 1 rfl rfl ej5 hi4 d_C_hasPair_13 ?_
        refine lv_iload_n hx hb d_C_hasPair_14 rfl (lv_at hl 2 rfl) ?_
        refine lv_icmp_ne (tgt := 20) hx hb d_C_hasPair_15 (by decide) (fun c6 => ?_) (fun c6 => ?_)
        · rw [if_neg c6] at hf
          refine lv_iinc (v := (v1 + 1)) (lv' := [(2, .int (v1 + 1)), (0, .ref (a 1)), (1, .int p1)]) hx hb d_C_hasPair_20 hl (k := 0) rfl rfl (by decide) rfl (fun ls hl => ?_)
          refine lv_goto (tgt := 2) hx hb d_C_hasPair_23 (by decide) ?_
          exact ih1 (v1 + 1) hf ls (lv_sub hl [0, 1, 2] rfl)
        · rw [if_pos c6] at hf
          refine lv_iconst (v := (1 : Int32)) hx hb d_C_hasPair_18 (by decide) ?_
          exact W.zret (ty := .boolean) hx hb hr (rfl) (fun t ht _ => ⟨_, rfl, Option.some.inj hf, ht⟩) (fun _ h => absurd h List.not_mem_nil) d_C_hasPair_19
  exact loop1 _ (1 : Int32) hf ls (lv_sub hl [0, 1, 2] rfl)
end
