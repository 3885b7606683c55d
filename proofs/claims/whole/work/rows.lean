section
-- ===== PART A: goes FIRST, ahead of the names: the tables' words, and 'selects' of the private methods out of them =====
/-- a private method of a class that the tables say can be made, by its rows of tables_1 -/
def lw_okq (q : MethodName × Nat) : Prop := (q.1.cls ≠ "java/lang/invoke/MethodHandle" ∧ q.1.cls ≠ "java/lang/invoke/VarHandle") ∧ Cond.instantiable q.1.cls q.2 ∈ tables_1 ∧ Cond.privateMethod q.1 ∈ tables_1 ∧ Cond.instanceMethod q.1 ∈ tables_1
theorem lw_p0 : lw_okq (⟨"GuideSearch$Tests", "hasPlace", "(II)Z"⟩, 4) := ⟨⟨by decide +kernel, by decide +kernel⟩, List.mem_of_getElem? (i := 50) (by decide +kernel), List.mem_of_getElem? (i := 196) (by decide +kernel), List.mem_of_getElem? (i := 197) (by decide +kernel)⟩
theorem lw_p1 : lw_okq (⟨"GuideSearch$Plan", "weighFirst", "(I)V"⟩, 9) := ⟨⟨by decide +kernel, by decide +kernel⟩, List.mem_of_getElem? (i := 90) (by decide +kernel), List.mem_of_getElem? (i := 254) (by decide +kernel), List.mem_of_getElem? (i := 255) (by decide +kernel)⟩
theorem lw_p2 : lw_okq (⟨"GuideSearch$Plan", "choose", "(II)V"⟩, 9) := ⟨⟨by decide +kernel, by decide +kernel⟩, List.mem_of_getElem? (i := 90) (by decide +kernel), List.mem_of_getElem? (i := 274) (by decide +kernel), List.mem_of_getElem? (i := 275) (by decide +kernel)⟩
theorem lw_p3 : lw_okq (⟨"GuideSearch$Plan", "leftAt", "(I)I"⟩, 9) := ⟨⟨by decide +kernel, by decide +kernel⟩, List.mem_of_getElem? (i := 90) (by decide +kernel), List.mem_of_getElem? (i := 278) (by decide +kernel), List.mem_of_getElem? (i := 279) (by decide +kernel)⟩
theorem lw_p4 : lw_okq (⟨"GuideSearch$Plan", "weightAt", "(I)J"⟩, 9) := ⟨⟨by decide +kernel, by decide +kernel⟩, List.mem_of_getElem? (i := 90) (by decide +kernel), List.mem_of_getElem? (i := 306) (by decide +kernel), List.mem_of_getElem? (i := 307) (by decide +kernel)⟩
theorem lw_p5 : lw_okq (⟨"GuideSearch$Plan", "valuesBehind", "(III)J"⟩, 9) := ⟨⟨by decide +kernel, by decide +kernel⟩, List.mem_of_getElem? (i := 90) (by decide +kernel), List.mem_of_getElem? (i := 316) (by decide +kernel), List.mem_of_getElem? (i := 317) (by decide +kernel)⟩
theorem lw_p6 : lw_okq (⟨"GuideSearch$Plan", "weighBehind", "(III)V"⟩, 9) := ⟨⟨by decide +kernel, by decide +kernel⟩, List.mem_of_getElem? (i := 90) (by decide +kernel), List.mem_of_getElem? (i := 323) (by decide +kernel), List.mem_of_getElem? (i := 324) (by decide +kernel)⟩
theorem lw_p7 : lw_okq (⟨"GuideSearch$Plan", "keep", "(III)V"⟩, 9) := ⟨⟨by decide +kernel, by decide +kernel⟩, List.mem_of_getElem? (i := 90) (by decide +kernel), List.mem_of_getElem? (i := 330) (by decide +kernel), List.mem_of_getElem? (i := 331) (by decide +kernel)⟩
theorem lw_p8 : lw_okq (⟨"GuideSearch$Cases", "bestGain", "(II)I"⟩, 2) := ⟨⟨by decide +kernel, by decide +kernel⟩, List.mem_of_getElem? (i := 76) (by decide +kernel), List.mem_of_getElem? (i := 346) (by decide +kernel), List.mem_of_getElem? (i := 347) (by decide +kernel)⟩
theorem lw_p9 : lw_okq (⟨"GuideSearch$Cases", "gain", "(II)J"⟩, 2) := ⟨⟨by decide +kernel, by decide +kernel⟩, List.mem_of_getElem? (i := 76) (by decide +kernel), List.mem_of_getElem? (i := 350) (by decide +kernel), List.mem_of_getElem? (i := 351) (by decide +kernel)⟩
theorem lw_p10 : lw_okq (⟨"GuideSearch$Cases", "greatestWeight", "(I)J"⟩, 2) := ⟨⟨by decide +kernel, by decide +kernel⟩, List.mem_of_getElem? (i := 76) (by decide +kernel), List.mem_of_getElem? (i := 354) (by decide +kernel), List.mem_of_getElem? (i := 355) (by decide +kernel)⟩
theorem lw_p11 : lw_okq (⟨"java/lang/Throwable", "fillInStackTrace", "(I)Ljava/lang/Throwable;"⟩, 6) := ⟨⟨by decide +kernel, by decide +kernel⟩, List.mem_of_getElem? (i := 468) (by decide +kernel), List.mem_of_getElem? (i := 466) (by decide +kernel), List.mem_of_getElem? (i := 467) (by decide +kernel)⟩
theorem lw_p12 : lw_okq (⟨"GuideSearchModel", "noFault", "(I)Z"⟩, 25) := ⟨⟨by decide +kernel, by decide +kernel⟩, List.mem_of_getElem? (i := 501) (by decide +kernel), List.mem_of_getElem? (i := 599) (by decide +kernel), List.mem_of_getElem? (i := 600) (by decide +kernel)⟩
theorem lw_p13 : lw_okq (⟨"GuideSearchModel", "noCause", "(I)Z"⟩, 25) := ⟨⟨by decide +kernel, by decide +kernel⟩, List.mem_of_getElem? (i := 501) (by decide +kernel), List.mem_of_getElem? (i := 603) (by decide +kernel), List.mem_of_getElem? (i := 604) (by decide +kernel)⟩
theorem lw_p14 : lw_okq (⟨"GuideSearchModel", "noTest", "(I)Z"⟩, 25) := ⟨⟨by decide +kernel, by decide +kernel⟩, List.mem_of_getElem? (i := 501) (by decide +kernel), List.mem_of_getElem? (i := 617) (by decide +kernel), List.mem_of_getElem? (i := 618) (by decide +kernel)⟩
theorem lw_p15 : lw_okq (⟨"GuideSearchModel", "oddsOf", "(III)I"⟩, 25) := ⟨⟨by decide +kernel, by decide +kernel⟩, List.mem_of_getElem? (i := 501) (by decide +kernel), List.mem_of_getElem? (i := 622) (by decide +kernel), List.mem_of_getElem? (i := 623) (by decide +kernel)⟩
def lw_privs_1 : List (MethodName × Nat) := [(⟨"GuideSearch$Tests", "hasPlace", "(II)Z"⟩, 4), (⟨"GuideSearch$Plan", "weighFirst", "(I)V"⟩, 9), (⟨"GuideSearch$Plan", "choose", "(II)V"⟩, 9), (⟨"GuideSearch$Plan", "leftAt", "(I)I"⟩, 9), (⟨"GuideSearch$Plan", "weightAt", "(I)J"⟩, 9), (⟨"GuideSearch$Plan", "valuesBehind", "(III)J"⟩, 9), (⟨"GuideSearch$Plan", "weighBehind", "(III)V"⟩, 9), (⟨"GuideSearch$Plan", "keep", "(III)V"⟩, 9), (⟨"GuideSearch$Cases", "bestGain", "(II)I"⟩, 2), (⟨"GuideSearch$Cases", "gain", "(II)J"⟩, 2), (⟨"GuideSearch$Cases", "greatestWeight", "(I)J"⟩, 2), (⟨"java/lang/Throwable", "fillInStackTrace", "(I)Ljava/lang/Throwable;"⟩, 6), (⟨"GuideSearchModel", "noFault", "(I)Z"⟩, 25), (⟨"GuideSearchModel", "noCause", "(I)Z"⟩, 25), (⟨"GuideSearchModel", "noTest", "(I)Z"⟩, 25), (⟨"GuideSearchModel", "oddsOf", "(III)I"⟩, 25)]
theorem lw_r1 : ∀ q ∈ lw_privs_1, lw_okq q := List.forall_mem_cons.mpr ⟨lw_p0, List.forall_mem_cons.mpr ⟨lw_p1, List.forall_mem_cons.mpr ⟨lw_p2, List.forall_mem_cons.mpr ⟨lw_p3, List.forall_mem_cons.mpr ⟨lw_p4, List.forall_mem_cons.mpr ⟨lw_p5, List.forall_mem_cons.mpr ⟨lw_p6, List.forall_mem_cons.mpr ⟨lw_p7, List.forall_mem_cons.mpr ⟨lw_p8, List.forall_mem_cons.mpr ⟨lw_p9, List.forall_mem_cons.mpr ⟨lw_p10, List.forall_mem_cons.mpr ⟨lw_p11, List.forall_mem_cons.mpr ⟨lw_p12, List.forall_mem_cons.mpr ⟨lw_p13, List.forall_mem_cons.mpr ⟨lw_p14, List.forall_mem_cons.mpr ⟨lw_p15, fun _ h => absurd h List.not_mem_nil⟩⟩⟩⟩⟩⟩⟩⟩⟩⟩⟩⟩⟩⟩⟩⟩
theorem lw_p16 : lw_okq (⟨"GuideSearchModel", "stateNow", "()I"⟩, 25) := ⟨⟨by decide +kernel, by decide +kernel⟩, List.mem_of_getElem? (i := 501) (by decide +kernel), List.mem_of_getElem? (i := 634) (by decide +kernel), List.mem_of_getElem? (i := 635) (by decide +kernel)⟩
theorem lw_p17 : lw_okq (⟨"GuideSearchModel", "oneStep", "(I)I"⟩, 25) := ⟨⟨by decide +kernel, by decide +kernel⟩, List.mem_of_getElem? (i := 501) (by decide +kernel), List.mem_of_getElem? (i := 639) (by decide +kernel), List.mem_of_getElem? (i := 640) (by decide +kernel)⟩
theorem lw_p18 : lw_okq (⟨"GuideSearchModel", "look", "(I)V"⟩, 25) := ⟨⟨by decide +kernel, by decide +kernel⟩, List.mem_of_getElem? (i := 501) (by decide +kernel), List.mem_of_getElem? (i := 643) (by decide +kernel), List.mem_of_getElem? (i := 644) (by decide +kernel)⟩
theorem lw_p19 : lw_okq (⟨"GuideSearchModel", "left", "()I"⟩, 25) := ⟨⟨by decide +kernel, by decide +kernel⟩, List.mem_of_getElem? (i := 501) (by decide +kernel), List.mem_of_getElem? (i := 647) (by decide +kernel), List.mem_of_getElem? (i := 648) (by decide +kernel)⟩
theorem lw_p20 : lw_okq (⟨"GuideSearchModel", "findUse", "()V"⟩, 25) := ⟨⟨by decide +kernel, by decide +kernel⟩, List.mem_of_getElem? (i := 501) (by decide +kernel), List.mem_of_getElem? (i := 651) (by decide +kernel), List.mem_of_getElem? (i := 652) (by decide +kernel)⟩
theorem lw_p21 : lw_okq (⟨"GuideSearchModel", "may", "(I)Z"⟩, 25) := ⟨⟨by decide +kernel, by decide +kernel⟩, List.mem_of_getElem? (i := 501) (by decide +kernel), List.mem_of_getElem? (i := 655) (by decide +kernel), List.mem_of_getElem? (i := 656) (by decide +kernel)⟩
theorem lw_p22 : lw_okq (⟨"GuideSearchModel", "free", "()I"⟩, 25) := ⟨⟨by decide +kernel, by decide +kernel⟩, List.mem_of_getElem? (i := 501) (by decide +kernel), List.mem_of_getElem? (i := 659) (by decide +kernel), List.mem_of_getElem? (i := 660) (by decide +kernel)⟩
theorem lw_p23 : lw_okq (⟨"GuideSearchModel", "gain", "(II)J"⟩, 25) := ⟨⟨by decide +kernel, by decide +kernel⟩, List.mem_of_getElem? (i := 501) (by decide +kernel), List.mem_of_getElem? (i := 663) (by decide +kernel), List.mem_of_getElem? (i := 664) (by decide +kernel)⟩
theorem lw_p24 : lw_okq (⟨"GuideSearchModel", "most", "()J"⟩, 25) := ⟨⟨by decide +kernel, by decide +kernel⟩, List.mem_of_getElem? (i := 501) (by decide +kernel), List.mem_of_getElem? (i := 667) (by decide +kernel), List.mem_of_getElem? (i := 668) (by decide +kernel)⟩
theorem lw_p25 : lw_okq (⟨"GuideSearchModel", "isBehind", "(II)Z"⟩, 25) := ⟨⟨by decide +kernel, by decide +kernel⟩, List.mem_of_getElem? (i := 501) (by decide +kernel), List.mem_of_getElem? (i := 677) (by decide +kernel), List.mem_of_getElem? (i := 678) (by decide +kernel)⟩
theorem lw_p26 : lw_okq (⟨"GuideSearchModel", "find", "(I)V"⟩, 25) := ⟨⟨by decide +kernel, by decide +kernel⟩, List.mem_of_getElem? (i := 501) (by decide +kernel), List.mem_of_getElem? (i := 681) (by decide +kernel), List.mem_of_getElem? (i := 682) (by decide +kernel)⟩
theorem lw_p27 : lw_okq (⟨"GuideSearchModel", "sum", "()J"⟩, 25) := ⟨⟨by decide +kernel, by decide +kernel⟩, List.mem_of_getElem? (i := 501) (by decide +kernel), List.mem_of_getElem? (i := 685) (by decide +kernel), List.mem_of_getElem? (i := 686) (by decide +kernel)⟩
theorem lw_p28 : lw_okq (⟨"GuideSearchModel", "write", "(I)V"⟩, 25) := ⟨⟨by decide +kernel, by decide +kernel⟩, List.mem_of_getElem? (i := 501) (by decide +kernel), List.mem_of_getElem? (i := 696) (by decide +kernel), List.mem_of_getElem? (i := 697) (by decide +kernel)⟩
def lw_privs_2 : List (MethodName × Nat) := [(⟨"GuideSearchModel", "stateNow", "()I"⟩, 25), (⟨"GuideSearchModel", "oneStep", "(I)I"⟩, 25), (⟨"GuideSearchModel", "look", "(I)V"⟩, 25), (⟨"GuideSearchModel", "left", "()I"⟩, 25), (⟨"GuideSearchModel", "findUse", "()V"⟩, 25), (⟨"GuideSearchModel", "may", "(I)Z"⟩, 25), (⟨"GuideSearchModel", "free", "()I"⟩, 25), (⟨"GuideSearchModel", "gain", "(II)J"⟩, 25), (⟨"GuideSearchModel", "most", "()J"⟩, 25), (⟨"GuideSearchModel", "isBehind", "(II)Z"⟩, 25), (⟨"GuideSearchModel", "find", "(I)V"⟩, 25), (⟨"GuideSearchModel", "sum", "()J"⟩, 25), (⟨"GuideSearchModel", "write", "(I)V"⟩, 25)]
theorem lw_r2 : ∀ q ∈ lw_privs_2, lw_okq q := List.forall_mem_cons.mpr ⟨lw_p16, List.forall_mem_cons.mpr ⟨lw_p17, List.forall_mem_cons.mpr ⟨lw_p18, List.forall_mem_cons.mpr ⟨lw_p19, List.forall_mem_cons.mpr ⟨lw_p20, List.forall_mem_cons.mpr ⟨lw_p21, List.forall_mem_cons.mpr ⟨lw_p22, List.forall_mem_cons.mpr ⟨lw_p23, List.forall_mem_cons.mpr ⟨lw_p24, List.forall_mem_cons.mpr ⟨lw_p25, List.forall_mem_cons.mpr ⟨lw_p26, List.forall_mem_cons.mpr ⟨lw_p27, List.forall_mem_cons.mpr ⟨lw_p28, fun _ h => absurd h List.not_mem_nil⟩⟩⟩⟩⟩⟩⟩⟩⟩⟩⟩⟩⟩
def lw_privs : List (MethodName × Nat) := lw_privs_1 ++ (lw_privs_2)
def lw_tbl : List Cond := k2_sels lw_privs ++ tables_1
theorem lw_privs_ok : ∀ q ∈ lw_privs, lw_okq q := by
  show ∀ q ∈ lw_privs_1 ++ (lw_privs_2), lw_okq q
  exact List.forall_mem_append.mpr ⟨lw_r1, lw_r2⟩
-- ===== end of PART A =====
/-- the tables' words that a callee may take over -/
def wg : List Cond := lw_tbl.filter goodWord
theorem wgm {w : Cond} {i : Nat} (h : lw_tbl[i]? = some w) (hg : goodWord w = true) : w ∈ wg := List.mem_filter.mpr ⟨List.mem_of_getElem? h, hg⟩
theorem gin {ws : List Cond} (h : ∀ w ∈ ws, w ∈ wg) : GoodIn wg ws := fun w hw => ⟨h w hw, good_of_word (List.mem_filter.mp (h w hw)).2⟩
theorem gcode {w : Cond} (h : w ∈ wg) : GoodIn wg (w :: wg) := gin (fun v hv => (List.mem_cons.mp hv).elim (fun e => e ▸ h) id)
theorem gV {own C : String} {idx n : Nat} {y : MethodName} {b : ByteArray} {r : Option FieldType} (h1 : Cond.methodLink own idx y ∈ wg) (h2 : Cond.instanceMethod y ∈ wg) (h3 : Cond.selects C y y ∈ wg) (h4 : Cond.initialized C ∈ wg) (h5 : Cond.code y b n r ∈ wg) : GoodIn wg (wsV own idx C y (Cond.code y b n r :: wg)) := gin (fun v hv => by
  rcases List.mem_append.mp hv with hv | hv
  · rcases List.mem_cons.mp hv with rfl | hv
    · exact h1
    rcases List.mem_cons.mp hv with rfl | hv
    · exact h2
    rcases List.mem_cons.mp hv with rfl | hv
    · exact h3
    rcases List.mem_cons.mp hv with rfl | hv
    · exact h4
    exact absurd hv List.not_mem_nil
  · exact (gcode h5 v hv).1)
theorem gS {own : String} {idx n : Nat} {y : MethodName} {b : ByteArray} {r : Option FieldType} (h1 : Cond.methodLink own idx y ∈ wg) (h2 : Cond.static y ∈ wg) (h4 : Cond.initialized y.cls ∈ wg) (h5 : Cond.code y b n r ∈ wg) : GoodIn wg (va_wsS own idx y (Cond.code y b n r :: wg)) := gin (fun v hv => by
  rcases List.mem_append.mp hv with hv | hv
  · rcases List.mem_cons.mp hv with rfl | hv
    · exact h1
    rcases List.mem_cons.mp hv with rfl | hv
    · exact h2
    rcases List.mem_cons.mp hv with rfl | hv
    · exact h4
    exact absurd hv List.not_mem_nil
  · exact (gcode h5 v hv).1)
def isNest : Cond → Bool
  | .fieldLinkNest .. => true
  | .methodLinkNest .. => true
  | _ => false
/-- links between nest mates: a caller hands them on -/
def nw : List Cond := lw_tbl.filter isNest
def NW (U : State) : Prop := ∀ w ∈ nw, va_Nw w U
theorem nwm {w : Cond} {i : Nat} (h : lw_tbl[i]? = some w) (hg : isNest w = true) : w ∈ nw := List.mem_filter.mpr ⟨List.mem_of_getElem? h, hg⟩
theorem NW.warm {s U : State} (hW : s.WarmedH U.vm) (h : NW s) : NW U := fun w hw => by
  have h2 := h w hw
  have hn := (List.mem_filter.mp hw).2
  cases w <;> first | exact va_Nw.warmF hW h2 | exact va_Nw.warmM hW h2 | cases hn
theorem NW.same {s U : State} (hv : s.vm = U.vm) (h : NW s) : NW U := fun w hw => by
  have h2 := h w hw
  have hn := (List.mem_filter.mp hw).2
  cases w <;> first | exact va_Nw.same rfl hv h2 | cases hn
theorem NW.of {s : State} {args : Array Value} (hts : ∀ w ∈ lw_tbl, w.before args s = true) : NW s := fun w hw => by
  have h2 := hts w (List.mem_filter.mp hw).1
  have hn := (List.mem_filter.mp hw).2
  cases w <;> first | exact va_Nw.of rfl h2 | cases hn
end
section
-- BASE: functions in Option, and the machine's rows over them
section BaseDefs
def xl1 {A R : Type} (f : (A → Option R) → A → Option R) : Nat → A → Option R
  | 0, _ => none
  | n + 1, a => f (xl1 f n) a
def xl2 {A B R : Type} (f : (A → B → Option R) → A → B → Option R) : Nat → A → B → Option R
  | 0, _, _ => none
  | n + 1, a, b => f (xl2 f n) a b
def xl3 {A B C R : Type} (f : (A → B → C → Option R) → A → B → C → Option R) : Nat → A → B → C → Option R
  | 0, _, _, _ => none
  | n + 1, a, b, c => f (xl3 f n) a b c
def xl4 {A B C D R : Type} (f : (A → B → C → D → Option R) → A → B → C → D → Option R) : Nat → A → B → C → D → Option R
  | 0, _, _, _, _ => none
  | n + 1, a, b, c, d => f (xl4 f n) a b c d
def xl5 {A B C D E R : Type} (f : (A → B → C → D → E → Option R) → A → B → C → D → E → Option R) : Nat → A → B → C → D → E → Option R
  | 0, _, _, _, _, _ => none
  | n + 1, a, b, c, d, e => f (xl5 f n) a b c d e
def xl6 {A B C D E F R : Type} (f : (A → B → C → D → E → F → Option R) → A → B → C → D → E → F → Option R) : Nat → A → B → C → D → E → F → Option R
  | 0, _, _, _, _, _, _ => none
  | n + 1, a, b, c, d, e, g => f (xl6 f n) a b c d e g
/-- an index into an array of n places: none where the machine would throw -/
def ix {R : Type} (i : Int32) (n : Nat) (k : Nat → Option R) : Option R := if i < 0 ∨ n ≤ i.toNatClampNeg then none else k i.toNatClampNeg
/-- a divisor: none where it is 0 -/
def dzl {R : Type} (y : Int64) (k : Option R) : Option R := if y = 0 then none else k
def dzi {R : Type} (y : Int32) (k : Option R) : Option R := if y = 0 then none else k
/-- an answer that is a boolean -/
def zb {R : Type} (v : Int32) (k : Option R) : Option R := if v = 0 ∨ v = 1 then k else none
def bd2 {A B R : Type} (o : Option (A × B)) (f : A → B → Option R) : Option R := o.bind fun q => f q.1 q.2
theorem ix_some {R : Type} {i : Int32} {n : Nat} {k : Nat → Option R} {y : R} (h : ix i n k = some y) : ∃ j : Nat, i.toNatClampNeg = j ∧ vp_in i n ∧ k j = some y := by
  unfold ix at h
  by_cases hc : i < 0 ∨ n ≤ i.toNatClampNeg
  · rw [if_pos hc] at h
    cases h
  · rw [if_neg hc] at h
    exact ⟨_, rfl, hc, h⟩
theorem ix_lt {i : Int32} {n j : Nat} (e : i.toNatClampNeg = j) (h : vp_in i n) : j < n := by
  subst e
  exact Nat.not_le.mp fun q => h (Or.inr q)
theorem dzl_some {R : Type} {y : Int64} {k : Option R} {r : R} (h : dzl y k = some r) : ¬ y = 0 ∧ k = some r := by
  unfold dzl at h
  by_cases hc : y = 0
  · rw [if_pos hc] at h
    cases h
  · rw [if_neg hc] at h
    exact ⟨hc, h⟩
theorem dzi_some {R : Type} {y : Int32} {k : Option R} {r : R} (h : dzi y k = some r) : ¬ y = 0 ∧ k = some r := by
  unfold dzi at h
  by_cases hc : y = 0
  · rw [if_pos hc] at h
    cases h
  · rw [if_neg hc] at h
    exact ⟨hc, h⟩
theorem zb_some {R : Type} {v : Int32} {k : Option R} {r : R} (h : zb v k = some r) : (v = 0 ∨ v = 1) ∧ k = some r := by
  unfold zb at h
  by_cases hc : v = 0 ∨ v = 1
  · rw [if_pos hc] at h
    exact ⟨hc, h⟩
  · rw [if_neg hc] at h
    cases h
theorem zb_nar {v : Int32} (h : v = 0 ∨ v = 1) : narrow .boolean (.int v) = .int v := by
  rcases h with rfl | rfl <;> rfl
theorem ob {A R : Type} {o : Option A} {f : A → Option R} {y : R} (h : o.bind f = some y) : ∃ r, o = some r ∧ f r = some y := by
  cases o with
  | none => cases h
  | some r => exact ⟨r, rfl, h⟩
theorem bd2_some {A B R : Type} {o : Option (A × B)} {f : A → B → Option R} {y : R} (h : bd2 o f = some y) : ∃ (r : A) (s : B), o = some (r, s) ∧ f r s = some y := by
  cases o with
  | none => cases h
  | some r => exact ⟨r.1, r.2, rfl, h⟩
end BaseDefs
section BaseRows
variable {p : Program} {l : Launch} {e : Env} {R : Room} {s : State} {m : MethodId} {args : Array Value} {below : List Frame} {meth : Method} {c : Code} {H : Heap} {locs : List Loc} {cells slots : Nat} {Q : State → Prop}
variable {pc : Nat} {ls : Array Slot} {rest st0 : List Value} {a0 : Array Value}
/-- a call that leaves the heap as it is -/
theorem ro_calli {v : Int32} (hr : va_Run p l e R s m args below meth c H locs cells slots 0 0 (F0 m pc ls st0) rest (vp_Si (fun r => r = v) a0) (fun _ => False)) (k : W p l e R s m args below meth c H locs cells slots Q (F0 m (pc + 3) ls (.int v :: rest))) : W p l e R s m args below meth c H locs cells slots Q (F0 m pc ls st0) := by
  intro T hT X
  obtain ⟨w, st₀, t, T', L, h0, X', hL, e1, e2, ⟨r, hv, hp, hh⟩, st⟩ := hr T hT X
  cases hv
  subst hp
  have hL0 : L = [] := by
    cases L with
    | nil => rfl
    | cons q L => exact absurd (hL q List.mem_cons_self) id
  subst hL0
  rw [List.append_nil] at X'
  obtain ⟨t2, a1, b1⟩ := k T' (by rw [e1, hh, h0]) X'
  exact ⟨t2, st t2 a1, b1⟩
theorem ro_calll {v : Int64} (hr : va_Run p l e R s m args below meth c H locs cells slots 0 0 (F0 m pc ls st0) rest (vp_Sl (fun r => r = v) a0) (fun _ => False)) (k : W p l e R s m args below meth c H locs cells slots Q (F0 m (pc + 3) ls (.long v :: rest))) : W p l e R s m args below meth c H locs cells slots Q (F0 m pc ls st0) := by
  intro T hT X
  obtain ⟨w, st₀, t, T', L, h0, X', hL, e1, e2, ⟨r, hv, hp, hh⟩, st⟩ := hr T hT X
  cases hv
  subst hp
  have hL0 : L = [] := by
    cases L with
    | nil => rfl
    | cons q L => exact absurd (hL q List.mem_cons_self) id
  subst hL0
  rw [List.append_nil] at X'
  obtain ⟨t2, a1, b1⟩ := k T' (by rw [e1, hh, h0]) X'
  exact ⟨t2, st t2 a1, b1⟩
variable {D : va_G} {cl : List vw_C} {w2 : va_W} {A : Nat → Prop} {H0 : Heap}
/-- a call that writes within A and leaves the cells w2 -/
theorem rw_calli {v : Int32} (hr : va_Run p l e R s m args below meth c H locs cells slots 0 0 (F0 m pc ls st0) rest (va_Qi (fun r (_ : Unit) => r = v) (fun _ t => va_P D cl w2 t.heap) A a0) A) (hS : va_S A H0 H locs) (k : ∀ (H1 : Heap) (locs1 : List Loc), va_P D cl w2 H1 → va_S A H0 H1 locs1 → W p l e R s m args below meth c H1 locs1 cells slots Q (F0 m (pc + 3) ls (.int v :: rest))) : W p l e R s m args below meth c H locs cells slots Q (F0 m pc ls st0) :=
  va_calli hr hS (fun _ _ h => h) (fun _ h => h) (fun r u t H1 locs1 ht _ hp hB _ _ hS1 => by
    subst hp
    subst ht
    exact k _ _ hB hS1)
theorem rw_calll {v : Int64} (hr : va_Run p l e R s m args below meth c H locs cells slots 0 0 (F0 m pc ls st0) rest (va_Ql (fun r (_ : Unit) => r = v) (fun _ t => va_P D cl w2 t.heap) A a0) A) (hS : va_S A H0 H locs) (k : ∀ (H1 : Heap) (locs1 : List Loc), va_P D cl w2 H1 → va_S A H0 H1 locs1 → W p l e R s m args below meth c H1 locs1 cells slots Q (F0 m (pc + 3) ls (.long v :: rest))) : W p l e R s m args below meth c H locs cells slots Q (F0 m pc ls st0) :=
  va_calll hr hS (fun _ _ h => h) (fun _ h => h) (fun r u t H1 locs1 ht _ hp hB _ _ hS1 => by
    subst hp
    subst ht
    exact k _ _ hB hS1)
theorem rw_callv (hr : va_Run p l e R s m args below meth c H locs cells slots 0 0 (F0 m pc ls st0) rest (va_Qv (fun _ : Unit => True) (fun _ t => va_P D cl w2 t.heap) A a0) A) (hS : va_S A H0 H locs) (k : ∀ (H1 : Heap) (locs1 : List Loc), va_P D cl w2 H1 → va_S A H0 H1 locs1 → W p l e R s m args below meth c H1 locs1 cells slots Q (F0 m (pc + 3) ls rest)) : W p l e R s m args below meth c H locs cells slots Q (F0 m pc ls st0) :=
  va_callv hr hS (fun _ _ h => h) (fun _ h => h) (fun u t H1 locs1 ht _ hp hB _ _ hS1 => by
    subst ht
    exact k _ _ hB hS1)
variable {cc : ByteArray} {tys : List (ClassId × FieldType)} {ws : va_W} {a : Nat}
-- array reads, the place by its own name
theorem xa_iald (hexec : p.tables.exec = Jvm.exec) (hb : c.code = cc) (hK : va_K D cl tys s) (hP : va_P D cl ws H) (q0 t0 : Nat) {cA : ClassId} {n : Nat} {f : Nat → Int32} (ha : ws[q0]? = some (a, .inl (cA, n, .inl f))) (ht : tys[t0]? = some (cA, .int)) {i : Int32} {j : Nat} (ej : i.toNatClampNeg = j) (hin : vp_in i n) (hdg : decode cc pc = .ok (.iaload, 1))
    (k : W p l e R s m args below meth c H locs cells slots Q (F0 m (pc + 1) ls (.int (f j) :: rest))) : W p l e R s m args below meth c H locs cells slots Q (F0 m pc ls (.int i :: .ref a :: rest)) := by
  subst ej
  exact va_iald hexec hb hK hP q0 t0 ha ht hin hdg k
theorem xa_bald (hexec : p.tables.exec = Jvm.exec) (hb : c.code = cc) (hK : va_K D cl tys s) (hP : va_P D cl ws H) (q0 t0 : Nat) {cA : ClassId} {n : Nat} {f : Nat → Int32} (ha : ws[q0]? = some (a, .inl (cA, n, .inl f))) (ht : tys[t0]? = some (cA, .byte)) {i : Int32} {j : Nat} (ej : i.toNatClampNeg = j) (hin : vp_in i n) (hdg : decode cc pc = .ok (.baload, 1))
    (k : W p l e R s m args below meth c H locs cells slots Q (F0 m (pc + 1) ls (.int (f j) :: rest))) : W p l e R s m args below meth c H locs cells slots Q (F0 m pc ls (.int i :: .ref a :: rest)) := by
  subst ej
  exact va_bald hexec hb hK hP q0 t0 ha ht hin hdg k
theorem xa_zald (hexec : p.tables.exec = Jvm.exec) (hb : c.code = cc) (hK : va_K D cl tys s) (hP : va_P D cl ws H) (q0 t0 : Nat) {cA : ClassId} {n : Nat} {f : Nat → Int32} (ha : ws[q0]? = some (a, .inl (cA, n, .inl f))) (ht : tys[t0]? = some (cA, .boolean)) {i : Int32} {j : Nat} (ej : i.toNatClampNeg = j) (hin : vp_in i n) (hdg : decode cc pc = .ok (.baload, 1))
    (k : W p l e R s m args below meth c H locs cells slots Q (F0 m (pc + 1) ls (.int (f j) :: rest))) : W p l e R s m args below meth c H locs cells slots Q (F0 m pc ls (.int i :: .ref a :: rest)) := by
  subst ej
  exact va_zald hexec hb hK hP q0 t0 ha ht hin hdg k
theorem xa_lald (hexec : p.tables.exec = Jvm.exec) (hb : c.code = cc) (hK : va_K D cl tys s) (hP : va_P D cl ws H) (q0 t0 : Nat) {cA : ClassId} {n : Nat} {f : Nat → Int64} (ha : ws[q0]? = some (a, .inl (cA, n, .inr (.inl f)))) (ht : tys[t0]? = some (cA, .long)) {i : Int32} {j : Nat} (ej : i.toNatClampNeg = j) (hin : vp_in i n) (hdg : decode cc pc = .ok (.laload, 1))
    (k : W p l e R s m args below meth c H locs cells slots Q (F0 m (pc + 1) ls (.long (f j) :: rest))) : W p l e R s m args below meth c H locs cells slots Q (F0 m pc ls (.int i :: .ref a :: rest)) := by
  subst ej
  exact va_lald hexec hb hK hP q0 t0 ha ht hin hdg k
/-- a row of an array of arrays -/
theorem xa_aald (hexec : p.tables.exec = Jvm.exec) (hb : c.code = cc) (hK : va_K D cl tys s) (hP : va_P D cl ws H) (q0 t0 : Nat) {cA : ClassId} {ty : FieldType} {n : Nat} {f : Nat → Option Nat} {r : Nat} (ha : ws[q0]? = some (a, .inl (cA, n, .inr (.inr (.inr (.inr f)))))) (ht : tys[t0]? = some (cA, .array ty)) {i : Int32} {j : Nat} (ej : i.toNatClampNeg = j) (hin : vp_in i n) (hf : f j = some r) (hdg : decode cc pc = .ok (.aaload, 1))
    (k : W p l e R s m args below meth c H locs cells slots Q (F0 m (pc + 1) ls (.ref r :: rest))) : W p l e R s m args below meth c H locs cells slots Q (F0 m pc ls (.int i :: .ref a :: rest)) := by
  subst ej
  have hlt : i.toNatClampNeg < n := Nat.not_le.mp fun q => hin (Or.inr q)
  have e : Value.ref r = va_rf (f i.toNatClampNeg) := by rw [hf]; rfl
  rw [e] at k
  exact W.aald (v := va_rf (f i.toNatClampNeg)) (ty := .array ty) hexec hb (hP q0 _ ha) ((hK.2 t0 _ ht).1 n (fun j => va_rf (f j))) rfl (fun q => by cases q) (by show ¬ (i < 0 ∨ (arrV _ _ _).slots.size ≤ _); rw [arrV_size]; exact hin) (by show (arrV _ _ _).slots[_]? = _; rw [arrV_read _ _ hlt]) rfl rfl hdg k
-- array writes
theorem xa_iast (hexec : p.tables.exec = Jvm.exec) (hb : c.code = cc) (hK : va_K D cl tys s) (hP : va_P D cl ws H) (hD : va_D A ws) (hS : va_S A H0 H locs) (q0 t0 : Nat) {cA : ClassId} {n : Nat} {f : Nat → Int32} (ha : ws[q0]? = some (a, .inl (cA, n, .inl f))) (ht : tys[t0]? = some (cA, .int)) {i x : Int32} {j : Nat} (ej : i.toNatClampNeg = j) (hin : vp_in i n) (hdg : decode cc pc = .ok (.iastore, 1))
    (k : ∀ (H1 : Heap) (locs1 : List Loc), va_P D cl (ws.set q0 (a, .inl (cA, n, .inl (upd f j x)))) H1 → va_S A H0 H1 locs1 → W p l e R s m args below meth c H1 locs1 cells slots Q (F0 m (pc + 1) ls rest)) : W p l e R s m args below meth c H locs cells slots Q (F0 m pc ls (.int x :: .int i :: .ref a :: rest)) := by
  subst ej
  exact va_iast hexec hb hK hP hD hS q0 t0 ha ht hin hdg (fun H1 l1 h1 _ h3 => k H1 l1 h1 h3)
theorem xa_bast (hexec : p.tables.exec = Jvm.exec) (hb : c.code = cc) (hK : va_K D cl tys s) (hP : va_P D cl ws H) (hD : va_D A ws) (hS : va_S A H0 H locs) (q0 t0 : Nat) {cA : ClassId} {n : Nat} {f : Nat → Int32} (ha : ws[q0]? = some (a, .inl (cA, n, .inl f))) (ht : tys[t0]? = some (cA, .byte)) {i x : Int32} {j : Nat} (ej : i.toNatClampNeg = j) (hin : vp_in i n) (hdg : decode cc pc = .ok (.bastore, 1))
    (k : ∀ (H1 : Heap) (locs1 : List Loc), va_P D cl (ws.set q0 (a, .inl (cA, n, .inl (upd f j (vp_nar .byte x))))) H1 → va_S A H0 H1 locs1 → W p l e R s m args below meth c H1 locs1 cells slots Q (F0 m (pc + 1) ls rest)) : W p l e R s m args below meth c H locs cells slots Q (F0 m pc ls (.int x :: .int i :: .ref a :: rest)) := by
  subst ej
  exact va_bast hexec hb hK hP hD hS q0 t0 ha ht hin hdg (fun H1 l1 h1 _ h3 => k H1 l1 h1 h3)
theorem xa_zast (hexec : p.tables.exec = Jvm.exec) (hb : c.code = cc) (hK : va_K D cl tys s) (hP : va_P D cl ws H) (hD : va_D A ws) (hS : va_S A H0 H locs) (q0 t0 : Nat) {cA : ClassId} {n : Nat} {f : Nat → Int32} (ha : ws[q0]? = some (a, .inl (cA, n, .inl f))) (ht : tys[t0]? = some (cA, .boolean)) {i x : Int32} {j : Nat} (ej : i.toNatClampNeg = j) (hin : vp_in i n) (hdg : decode cc pc = .ok (.bastore, 1))
    (k : ∀ (H1 : Heap) (locs1 : List Loc), va_P D cl (ws.set q0 (a, .inl (cA, n, .inl (upd f j (vp_nar .boolean x))))) H1 → va_S A H0 H1 locs1 → W p l e R s m args below meth c H1 locs1 cells slots Q (F0 m (pc + 1) ls rest)) : W p l e R s m args below meth c H locs cells slots Q (F0 m pc ls (.int x :: .int i :: .ref a :: rest)) := by
  subst ej
  exact va_zast hexec hb hK hP hD hS q0 t0 ha ht hin hdg (fun H1 l1 h1 _ h3 => k H1 l1 h1 h3)
theorem xa_last (hexec : p.tables.exec = Jvm.exec) (hb : c.code = cc) (hK : va_K D cl tys s) (hP : va_P D cl ws H) (hD : va_D A ws) (hS : va_S A H0 H locs) (q0 t0 : Nat) {cA : ClassId} {n : Nat} {f : Nat → Int64} (ha : ws[q0]? = some (a, .inl (cA, n, .inr (.inl f)))) (ht : tys[t0]? = some (cA, .long)) {i : Int32} {x : Int64} {j : Nat} (ej : i.toNatClampNeg = j) (hin : vp_in i n) (hdg : decode cc pc = .ok (.lastore, 1))
    (k : ∀ (H1 : Heap) (locs1 : List Loc), va_P D cl (ws.set q0 (a, .inl (cA, n, .inr (.inl (vp_updL f j x))))) H1 → va_S A H0 H1 locs1 → W p l e R s m args below meth c H1 locs1 cells slots Q (F0 m (pc + 1) ls rest)) : W p l e R s m args below meth c H locs cells slots Q (F0 m pc ls (.long x :: .int i :: .ref a :: rest)) := by
  subst ej
  exact va_last hexec hb hK hP hD hS q0 t0 ha ht hin hdg (fun H1 l1 h1 _ h3 => k H1 l1 h1 h3)
end BaseRows
/-- a method begins: what its walk may use -/
theorem ro_start {l : Launch} {y : MethodName} {rm : Room} {av : List Value} {B : State → Prop} {Qc : Array Value → State → Outcome → State → Prop} {mc ms : Nat} {free : Addr → Prop} {cc : ByteArray} {maxL : Nat} {ret : Option FieldType}
    (hy : plainName y.cls = true) (hlen : (lg_sl av).length ≤ maxL)
    (body : ∀ (p : Program) (e : Env) (s : State) (m : MethodId) (below : List Frame) (meth : Method) (c : Code), p.tables.exec = Jvm.exec → c.code = cc → meth.sig.returnType = ret → c.maxLocals = maxL → (∀ w ∈ wg, w.before av.toArray s = true) → s.vm.findClass y.cls = some m.cls → meth.locks = false → B s → ∀ ls : Array Slot, lv_has ls maxL (lv_args 0 av) → W p l e rm s m av.toArray below meth c s.heap [] 0 0 (MQ below Qc av.toArray s mc ms free) (F0 m 0 ls [])) : Met l y (Cond.code y cc maxL ret :: wg) rm (va_Pc av B) Qc mc ms free := by
  refine Met.ofW (cc := cc) (maxL := maxL) (ret := ret) hy rfl ?_
  intro p e s m args below meth c s₁ Bd hml hv
  obtain ⟨rfl, hB⟩ := hv
  have hts := atoms_spec (ws := Cond.code y cc maxL ret :: wg) Bd.pre
  have hown : s.vm.findClass y.cls = some m.cls := findClass_of_methodNamed Bd.named
  have hl := lv_entry av (n := maxL) hlen
  rw [lg_entry_eq]
  exact body p e s m below meth c Bd.exec Bd.bytes Bd.returns hml (fun w hw => hts w (List.mem_cons_of_mem _ hw)) hown Bd.notSynchronized hB _ hl
/-- a callee's start, its cells as they are -/
theorem ro_preV {s : State} {H : Heap} {C : String} {b : Nat} {As : List Value} {D : va_G} {cl : List vw_C} {w : va_W} {tys : List (ClassId × FieldType)} (hP : va_P D cl w H) (hK : va_K D cl tys s) (hN : NW s) (hrv : ∃ cell : Cell, H[b]? = some cell ∧ cell.vm.isStatics = false ∧ s.vm.findClass C = some cell.cls) : PreV s H C b (va_Pc (.ref b :: As) (fun U => va_P D cl w U.heap ∧ va_K D cl tys U ∧ NW U)) As :=
  ⟨fun a U g mk q => ⟨q.1, q.2.1, va_K.moved (u := U) (U := U.calling g mk a) (Vm.Alike.refl U.vm) q.2.2.1, NW.same (s := U) (U := U.calling g mk a) rfl q.2.2.2⟩, hrv, fun U hU hW => ⟨rfl, by rw [hU]; exact hP, va_K.moved hW.alike hK, hN.warm hW⟩⟩
theorem ro_preS {s : State} {H : Heap} {As : List Value} {D : va_G} {cl : List vw_C} {w : va_W} {tys : List (ClassId × FieldType)} (hP : va_P D cl w H) (hK : va_K D cl tys s) (hN : NW s) : PreS s H (va_Pc As (fun U => va_P D cl w U.heap ∧ va_K D cl tys U ∧ NW U)) As :=
  ⟨fun a U g mk q => ⟨q.1, q.2.1, va_K.moved (u := U) (U := U.calling g mk a) (Vm.Alike.refl U.vm) q.2.2.1, NW.same (s := U) (U := U.calling g mk a) rfl q.2.2.2⟩, fun U hU hW => ⟨rfl, by rw [hU]; exact hP, va_K.moved hW.alike hK, hN.warm hW⟩⟩
end
section
def F_G : u_T := fun k => match k with
  | 0 => ("GuideSearch", "causes", "LGuideSearch$Causes;", true)
  | 1 => ("GuideSearch", "tests", "LGuideSearch$Tests;", true)
  | 2 => ("GuideSearch", "cases", "LGuideSearch$Cases;", true)
  | 3 => ("GuideSearch", "plan", "LGuideSearch$Plan;", true)
  | 4 => ("GuideSearch", "open", "I", false)
  | _ => ("GuideSearch", "planned", "Z", false)
def ft_G : Nat → FieldType := fun k => match k with
  | 0 => .object "GuideSearch$Causes"
  | 1 => .object "GuideSearch$Tests"
  | 2 => .object "GuideSearch$Cases"
  | 3 => .object "GuideSearch$Plan"
  | 4 => .int
  | _ => .boolean
theorem n_G : ∀ a, a < 6 → ∀ b, b < 6 → a ≠ b → (F_G a).2.1 ≠ (F_G b).2.1 := by decide +kernel
theorem ft_G_ok : ∀ k, k < 6 → parseFieldDescriptor (F_G k).2.2.1 = some (ft_G k) := by decide +kernel
def F_C : u_T := fun k => match k with
  | 0 => ("GuideSearch$Causes", "priors", "[J", true)
  | 1 => ("GuideSearch$Causes", "members", "[I", true)
  | 2 => ("GuideSearch$Causes", "learned", "[I", true)
  | 3 => ("GuideSearch$Causes", "count", "I", false)
  | _ => ("GuideSearch$Causes", "faults", "I", false)
def ft_C : Nat → FieldType := fun k => match k with
  | 0 => .array .long
  | 1 => .array .int
  | 2 => .array .int
  | 3 => .int
  | _ => .int
theorem n_C : ∀ a, a < 5 → ∀ b, b < 5 → a ≠ b → (F_C a).2.1 ≠ (F_C b).2.1 := by decide +kernel
theorem ft_C_ok : ∀ k, k < 5 → parseFieldDescriptor (F_C k).2.2.1 = some (ft_C k) := by decide +kernel
def F_T : u_T := fun k => match k with
  | 0 => ("GuideSearch$Tests", "costs", "[I", true)
  | 1 => ("GuideSearch$Tests", "needed", "[I", true)
  | 2 => ("GuideSearch$Tests", "table", "[[I", true)
  | _ => ("GuideSearch$Tests", "count", "I", false)
def ft_T : Nat → FieldType := fun k => match k with
  | 0 => .array .int
  | 1 => .array .int
  | 2 => .array (.array .int)
  | _ => .int
theorem n_T : ∀ a, a < 4 → ∀ b, b < 4 → a ≠ b → (F_T a).2.1 ≠ (F_T b).2.1 := by decide +kernel
theorem ft_T_ok : ∀ k, k < 4 → parseFieldDescriptor (F_T k).2.2.1 = some (ft_T k) := by decide +kernel
def F_K : u_T := fun k => match k with
  | 0 => ("GuideSearch$Cases", "causes", "LGuideSearch$Causes;", true)
  | _ => ("GuideSearch$Cases", "tests", "LGuideSearch$Tests;", true)
def ft_K : Nat → FieldType := fun k => match k with
  | 0 => .object "GuideSearch$Causes"
  | _ => .object "GuideSearch$Tests"
theorem n_K : ∀ a, a < 2 → ∀ b, b < 2 → a ≠ b → (F_K a).2.1 ≠ (F_K b).2.1 := by decide +kernel
theorem ft_K_ok : ∀ k, k < 2 → parseFieldDescriptor (F_K k).2.2.1 = some (ft_K k) := by decide +kernel
def F_P : u_T := fun k => match k with
  | 0 => ("GuideSearch$Plan", "cases", "LGuideSearch$Cases;", true)
  | 1 => ("GuideSearch$Plan", "values", "[J", true)
  | 2 => ("GuideSearch$Plan", "picks", "[B", true)
  | 3 => ("GuideSearch$Plan", "weights", "[[J", true)
  | 4 => ("GuideSearch$Plan", "nodeTests", "[B", true)
  | 5 => ("GuideSearch$Plan", "nodeLefts", "[B", true)
  | 6 => ("GuideSearch$Plan", "nodeAnswers", "[B", true)
  | 7 => ("GuideSearch$Plan", "nodes", "I", false)
  | _ => ("GuideSearch$Plan", "thousandths", "J", false)
def ft_P : Nat → FieldType := fun k => match k with
  | 0 => .object "GuideSearch$Cases"
  | 1 => .array .long
  | 2 => .array .byte
  | 3 => .array (.array .long)
  | 4 => .array .byte
  | 5 => .array .byte
  | 6 => .array .byte
  | 7 => .int
  | _ => .long
theorem n_P : ∀ a, a < 9 → ∀ b, b < 9 → a ≠ b → (F_P a).2.1 ≠ (F_P b).2.1 := by decide +kernel
theorem ft_P_ok : ∀ k, k < 9 → parseFieldDescriptor (F_P k).2.2.1 = some (ft_P k) := by decide +kernel
def F_M : u_T := fun k => match k with
  | 0 => ("GuideSearchModel", "code", "I", false)
  | 1 => ("GuideSearchModel", "causes", "I", false)
  | 2 => ("GuideSearchModel", "faults", "I", false)
  | 3 => ("GuideSearchModel", "one", "[I", true)
  | 4 => ("GuideSearchModel", "two", "[I", true)
  | 5 => ("GuideSearchModel", "prior", "[J", true)
  | 6 => ("GuideSearchModel", "learned", "[I", true)
  | 7 => ("GuideSearchModel", "strangers", "I", false)
  | 8 => ("GuideSearchModel", "tests", "I", false)
  | 9 => ("GuideSearchModel", "price", "[J", true)
  | 10 => ("GuideSearchModel", "needs", "[Z", true)
  | 11 => ("GuideSearchModel", "odds", "[I", true)
  | 12 => ("GuideSearchModel", "given", "[I", true)
  | 13 => ("GuideSearchModel", "exact", "Z", false)
  | 14 => ("GuideSearchModel", "cost", "J", false)
  | 15 => ("GuideSearchModel", "nodes", "I", false)
  | 16 => ("GuideSearchModel", "node", "[I", true)
  | 17 => ("GuideSearchModel", "value", "[J", true)
  | 18 => ("GuideSearchModel", "best", "[I", true)
  | 19 => ("GuideSearchModel", "digit", "[I", true)
  | 20 => ("GuideSearchModel", "weight", "[J", true)
  | 21 => ("GuideSearchModel", "wait", "[I", true)
  | 22 => ("GuideSearchModel", "by", "[I", true)
  | 23 => ("GuideSearchModel", "found", "[Z", true)
  | _ => ("GuideSearchModel", "use", "[Z", true)
def ft_M : Nat → FieldType := fun k => match k with
  | 0 => .int
  | 1 => .int
  | 2 => .int
  | 3 => .array .int
  | 4 => .array .int
  | 5 => .array .long
  | 6 => .array .int
  | 7 => .int
  | 8 => .int
  | 9 => .array .long
  | 10 => .array .boolean
  | 11 => .array .int
  | 12 => .array .int
  | 13 => .boolean
  | 14 => .long
  | 15 => .int
  | 16 => .array .int
  | 17 => .array .long
  | 18 => .array .int
  | 19 => .array .int
  | 20 => .array .long
  | 21 => .array .int
  | 22 => .array .int
  | 23 => .array .boolean
  | _ => .array .boolean
theorem n_M : ∀ a, a < 25 → ∀ b, b < 25 → a ≠ b → (F_M a).2.1 ≠ (F_M b).2.1 := by decide +kernel
theorem ft_M_ok : ∀ k, k < 25 → parseFieldDescriptor (F_M k).2.2.1 = some (ft_M k) := by decide +kernel
abbrev vwCl : List vw_C := [("GuideSearch", F_G, 6), ("GuideSearch$Causes", F_C, 5), ("GuideSearch$Tests", F_T, 4), ("GuideSearch$Cases", F_K, 2), ("GuideSearch$Plan", F_P, 9), ("GuideSearchModel", F_M, 25)]
theorem k_1 : (Jvm.Cond.initialized "GuideSearch") ∈ wg := wgm (i := 30) (by decide +kernel) rfl
theorem k_2 : (Jvm.Cond.initialized "GuideSearch$Causes") ∈ wg := wgm (i := 31) (by decide +kernel) rfl
theorem k_3 : (Jvm.Cond.initialized "GuideSearch$Tests") ∈ wg := wgm (i := 32) (by decide +kernel) rfl
theorem k_4 : (Jvm.Cond.initialized "java/util/Arrays") ∈ wg := wgm (i := 33) (by decide +kernel) rfl
theorem k_5 : (Jvm.Cond.initialized "GuideSearch$Cases") ∈ wg := wgm (i := 34) (by decide +kernel) rfl
theorem k_6 : (Jvm.Cond.initialized "GuideSearch$Plan") ∈ wg := wgm (i := 35) (by decide +kernel) rfl
theorem k_7 : (Jvm.Cond.initialized "GuideSearchModel") ∈ wg := wgm (i := 36) (by decide +kernel) rfl
theorem k_8 : (Jvm.Cond.initialized "java/lang/Integer") ∈ wg := wgm (i := 37) (by decide +kernel) rfl
theorem k_9 : (Jvm.Cond.initialized "java/lang/Math") ∈ wg := wgm (i := 38) (by decide +kernel) rfl
theorem k_28 : (Jvm.Cond.fieldLink "GuideSearch$Causes" (9 : Nat) "GuideSearch$Causes" "priors" "[J") ∈ wg := wgm (i := 57) (by decide +kernel) rfl
theorem k_29 : (Jvm.Cond.fieldLink "GuideSearch$Causes" (15 : Nat) "GuideSearch$Causes" "members" "[I") ∈ wg := wgm (i := 58) (by decide +kernel) rfl
theorem k_30 : (Jvm.Cond.fieldLink "GuideSearch$Causes" (19 : Nat) "GuideSearch$Causes" "learned" "[I") ∈ wg := wgm (i := 59) (by decide +kernel) rfl
theorem k_31 : (Jvm.Cond.fieldLink "GuideSearch$Causes" (22 : Nat) "GuideSearch$Causes" "count" "I") ∈ wg := wgm (i := 60) (by decide +kernel) rfl
theorem k_32 : (Jvm.Cond.fieldLinkNest "GuideSearch" (54 : Nat) "GuideSearch$Causes" "count" "I" "GuideSearch") ∈ nw := nwm (i := 61) (by decide +kernel) rfl
theorem k_33 : (Jvm.Cond.fieldLinkNest "GuideSearch$Cases" (43 : Nat) "GuideSearch$Causes" "count" "I" "GuideSearch") ∈ nw := nwm (i := 62) (by decide +kernel) rfl
theorem k_34 : (Jvm.Cond.fieldLink "GuideSearch$Causes" (26 : Nat) "GuideSearch$Causes" "faults" "I") ∈ wg := wgm (i := 63) (by decide +kernel) rfl
theorem k_35 : (Jvm.Cond.fieldLinkNest "GuideSearch" (51 : Nat) "GuideSearch$Causes" "faults" "I" "GuideSearch") ∈ nw := nwm (i := 64) (by decide +kernel) rfl
theorem k_36 : (Jvm.Cond.laysFinal "GuideSearch$Causes" "GuideSearch$Causes" "priors" "[J") ∈ wg := wgm (i := 65) (by decide +kernel) rfl
theorem k_38 : (Jvm.Cond.laysFinal "GuideSearch$Causes" "GuideSearch$Causes" "members" "[I") ∈ wg := wgm (i := 67) (by decide +kernel) rfl
theorem k_40 : (Jvm.Cond.laysFinal "GuideSearch$Causes" "GuideSearch$Causes" "learned" "[I") ∈ wg := wgm (i := 69) (by decide +kernel) rfl
theorem k_42 : (Jvm.Cond.lays "GuideSearch$Causes" "GuideSearch$Causes" "count" "I") ∈ wg := wgm (i := 71) (by decide +kernel) rfl
theorem k_44 : (Jvm.Cond.lays "GuideSearch$Causes" "GuideSearch$Causes" "faults" "I") ∈ wg := wgm (i := 73) (by decide +kernel) rfl
theorem k_60 : (Jvm.Cond.fieldLink "GuideSearch$Tests" (9 : Nat) "GuideSearch$Tests" "costs" "[I") ∈ wg := wgm (i := 89) (by decide +kernel) rfl
theorem k_61 : (Jvm.Cond.fieldLink "GuideSearch$Tests" (15 : Nat) "GuideSearch$Tests" "needed" "[I") ∈ wg := wgm (i := 90) (by decide +kernel) rfl
theorem k_62 : (Jvm.Cond.fieldLink "GuideSearch$Tests" (20 : Nat) "GuideSearch$Tests" "table" "[[I") ∈ wg := wgm (i := 91) (by decide +kernel) rfl
theorem k_63 : (Jvm.Cond.fieldLink "GuideSearch$Tests" (23 : Nat) "GuideSearch$Tests" "count" "I") ∈ wg := wgm (i := 92) (by decide +kernel) rfl
theorem k_64 : (Jvm.Cond.fieldLinkNest "GuideSearch$Cases" (27 : Nat) "GuideSearch$Tests" "count" "I" "GuideSearch") ∈ nw := nwm (i := 93) (by decide +kernel) rfl
theorem k_65 : (Jvm.Cond.fieldLinkNest "GuideSearch" (65 : Nat) "GuideSearch$Tests" "count" "I" "GuideSearch") ∈ nw := nwm (i := 94) (by decide +kernel) rfl
theorem k_66 : (Jvm.Cond.laysFinal "GuideSearch$Tests" "GuideSearch$Tests" "costs" "[I") ∈ wg := wgm (i := 95) (by decide +kernel) rfl
theorem k_68 : (Jvm.Cond.laysFinal "GuideSearch$Tests" "GuideSearch$Tests" "needed" "[I") ∈ wg := wgm (i := 97) (by decide +kernel) rfl
theorem k_70 : (Jvm.Cond.laysFinal "GuideSearch$Tests" "GuideSearch$Tests" "table" "[[I") ∈ wg := wgm (i := 99) (by decide +kernel) rfl
theorem k_72 : (Jvm.Cond.lays "GuideSearch$Tests" "GuideSearch$Tests" "count" "I") ∈ wg := wgm (i := 101) (by decide +kernel) rfl
theorem k_81 : (Jvm.Cond.fieldLink "GuideSearch$Cases" (9 : Nat) "GuideSearch$Cases" "causes" "LGuideSearch$Causes;") ∈ wg := wgm (i := 110) (by decide +kernel) rfl
theorem k_82 : (Jvm.Cond.fieldLink "GuideSearch$Cases" (15 : Nat) "GuideSearch$Cases" "tests" "LGuideSearch$Tests;") ∈ wg := wgm (i := 111) (by decide +kernel) rfl
theorem k_83 : (Jvm.Cond.fieldLinkNest "GuideSearch$Plan" (82 : Nat) "GuideSearch$Cases" "tests" "LGuideSearch$Tests;" "GuideSearch") ∈ nw := nwm (i := 112) (by decide +kernel) rfl
theorem k_84 : (Jvm.Cond.laysFinal "GuideSearch$Cases" "GuideSearch$Cases" "causes" "LGuideSearch$Causes;") ∈ wg := wgm (i := 113) (by decide +kernel) rfl
theorem k_86 : (Jvm.Cond.laysFinal "GuideSearch$Cases" "GuideSearch$Cases" "tests" "LGuideSearch$Tests;") ∈ wg := wgm (i := 115) (by decide +kernel) rfl
theorem k_97 : (Jvm.Cond.constantLong "GuideSearch$Plan" (37 : Nat) (-1 : Int64)) ∈ wg := wgm (i := 126) (by decide +kernel) rfl
theorem k_98 : (Jvm.Cond.fieldLink "GuideSearch$Plan" (43 : Nat) "GuideSearch$Plan" "cases" "LGuideSearch$Cases;") ∈ wg := wgm (i := 127) (by decide +kernel) rfl
theorem k_99 : (Jvm.Cond.fieldLink "GuideSearch$Plan" (9 : Nat) "GuideSearch$Plan" "values" "[J") ∈ wg := wgm (i := 128) (by decide +kernel) rfl
theorem k_100 : (Jvm.Cond.fieldLink "GuideSearch$Plan" (15 : Nat) "GuideSearch$Plan" "picks" "[B") ∈ wg := wgm (i := 129) (by decide +kernel) rfl
theorem k_101 : (Jvm.Cond.fieldLink "GuideSearch$Plan" (21 : Nat) "GuideSearch$Plan" "weights" "[[J") ∈ wg := wgm (i := 130) (by decide +kernel) rfl
theorem k_102 : (Jvm.Cond.fieldLink "GuideSearch$Plan" (24 : Nat) "GuideSearch$Plan" "nodeTests" "[B") ∈ wg := wgm (i := 131) (by decide +kernel) rfl
theorem k_103 : (Jvm.Cond.fieldLink "GuideSearch$Plan" (27 : Nat) "GuideSearch$Plan" "nodeLefts" "[B") ∈ wg := wgm (i := 132) (by decide +kernel) rfl
theorem k_104 : (Jvm.Cond.fieldLink "GuideSearch$Plan" (30 : Nat) "GuideSearch$Plan" "nodeAnswers" "[B") ∈ wg := wgm (i := 133) (by decide +kernel) rfl
theorem k_105 : (Jvm.Cond.fieldLink "GuideSearch$Plan" (33 : Nat) "GuideSearch$Plan" "nodes" "I") ∈ wg := wgm (i := 134) (by decide +kernel) rfl
theorem k_106 : (Jvm.Cond.fieldLinkNest "GuideSearch" (172 : Nat) "GuideSearch$Plan" "nodes" "I" "GuideSearch") ∈ nw := nwm (i := 135) (by decide +kernel) rfl
theorem k_107 : (Jvm.Cond.fieldLink "GuideSearch$Plan" (39 : Nat) "GuideSearch$Plan" "thousandths" "J") ∈ wg := wgm (i := 136) (by decide +kernel) rfl
theorem k_108 : (Jvm.Cond.fieldLinkNest "GuideSearch" (156 : Nat) "GuideSearch$Plan" "thousandths" "J" "GuideSearch") ∈ nw := nwm (i := 137) (by decide +kernel) rfl
theorem k_109 : (Jvm.Cond.laysFinal "GuideSearch$Plan" "GuideSearch$Plan" "cases" "LGuideSearch$Cases;") ∈ wg := wgm (i := 138) (by decide +kernel) rfl
theorem k_111 : (Jvm.Cond.laysFinal "GuideSearch$Plan" "GuideSearch$Plan" "values" "[J") ∈ wg := wgm (i := 140) (by decide +kernel) rfl
theorem k_113 : (Jvm.Cond.laysFinal "GuideSearch$Plan" "GuideSearch$Plan" "picks" "[B") ∈ wg := wgm (i := 142) (by decide +kernel) rfl
theorem k_115 : (Jvm.Cond.laysFinal "GuideSearch$Plan" "GuideSearch$Plan" "weights" "[[J") ∈ wg := wgm (i := 144) (by decide +kernel) rfl
theorem k_117 : (Jvm.Cond.laysFinal "GuideSearch$Plan" "GuideSearch$Plan" "nodeTests" "[B") ∈ wg := wgm (i := 146) (by decide +kernel) rfl
theorem k_119 : (Jvm.Cond.laysFinal "GuideSearch$Plan" "GuideSearch$Plan" "nodeLefts" "[B") ∈ wg := wgm (i := 148) (by decide +kernel) rfl
theorem k_121 : (Jvm.Cond.laysFinal "GuideSearch$Plan" "GuideSearch$Plan" "nodeAnswers" "[B") ∈ wg := wgm (i := 150) (by decide +kernel) rfl
theorem k_123 : (Jvm.Cond.lays "GuideSearch$Plan" "GuideSearch$Plan" "nodes" "I") ∈ wg := wgm (i := 152) (by decide +kernel) rfl
theorem k_125 : (Jvm.Cond.lays "GuideSearch$Plan" "GuideSearch$Plan" "thousandths" "J") ∈ wg := wgm (i := 154) (by decide +kernel) rfl
theorem k_129 : (Jvm.Cond.fieldLink "GuideSearch" (12 : Nat) "GuideSearch" "causes" "LGuideSearch$Causes;") ∈ wg := wgm (i := 158) (by decide +kernel) rfl
theorem k_130 : (Jvm.Cond.fieldLink "GuideSearch" (19 : Nat) "GuideSearch" "tests" "LGuideSearch$Tests;") ∈ wg := wgm (i := 159) (by decide +kernel) rfl
theorem k_131 : (Jvm.Cond.fieldLink "GuideSearch" (28 : Nat) "GuideSearch" "cases" "LGuideSearch$Cases;") ∈ wg := wgm (i := 160) (by decide +kernel) rfl
theorem k_132 : (Jvm.Cond.fieldLink "GuideSearch" (37 : Nat) "GuideSearch" "plan" "LGuideSearch$Plan;") ∈ wg := wgm (i := 161) (by decide +kernel) rfl
theorem k_133 : (Jvm.Cond.fieldLink "GuideSearch" (41 : Nat) "GuideSearch" "open" "I") ∈ wg := wgm (i := 162) (by decide +kernel) rfl
theorem k_134 : (Jvm.Cond.fieldLink "GuideSearch" (45 : Nat) "GuideSearch" "planned" "Z") ∈ wg := wgm (i := 163) (by decide +kernel) rfl
theorem k_135 : (Jvm.Cond.laysFinal "GuideSearch" "GuideSearch" "causes" "LGuideSearch$Causes;") ∈ wg := wgm (i := 164) (by decide +kernel) rfl
theorem k_137 : (Jvm.Cond.laysFinal "GuideSearch" "GuideSearch" "tests" "LGuideSearch$Tests;") ∈ wg := wgm (i := 166) (by decide +kernel) rfl
theorem k_139 : (Jvm.Cond.laysFinal "GuideSearch" "GuideSearch" "cases" "LGuideSearch$Cases;") ∈ wg := wgm (i := 168) (by decide +kernel) rfl
theorem k_141 : (Jvm.Cond.laysFinal "GuideSearch" "GuideSearch" "plan" "LGuideSearch$Plan;") ∈ wg := wgm (i := 170) (by decide +kernel) rfl
theorem k_143 : (Jvm.Cond.lays "GuideSearch" "GuideSearch" "open" "I") ∈ wg := wgm (i := 172) (by decide +kernel) rfl
theorem k_145 : (Jvm.Cond.lays "GuideSearch" "GuideSearch" "planned" "Z") ∈ wg := wgm (i := 174) (by decide +kernel) rfl
theorem k_152 : (Jvm.Cond.constantLong "GuideSearch" (49 : Nat) (10 : Int64)) ∈ wg := wgm (i := 181) (by decide +kernel) rfl
theorem k_153 : (Jvm.Cond.constantLong "GuideSearch" (57 : Nat) (2520 : Int64)) ∈ wg := wgm (i := 182) (by decide +kernel) rfl
theorem k_154 : (Jvm.Cond.methodLink "GuideSearch" (59 : Nat) ({ cls := "GuideSearch$Causes", name := "addFault", desc := "(J)I" } : Jvm.MethodName)) ∈ wg := wgm (i := 183) (by decide +kernel) rfl
theorem k_155 : (Jvm.Cond.instanceMethod ({ cls := "GuideSearch$Causes", name := "addFault", desc := "(J)I" } : Jvm.MethodName)) ∈ wg := wgm (i := 184) (by decide +kernel) rfl
theorem k_156 : (Jvm.Cond.selects "GuideSearch$Causes" ({ cls := "GuideSearch$Causes", name := "addFault", desc := "(J)I" } : Jvm.MethodName) ({ cls := "GuideSearch$Causes", name := "addFault", desc := "(J)I" } : Jvm.MethodName)) ∈ wg := wgm (i := 185) (by decide +kernel) rfl
set_option maxRecDepth 20000 in
theorem k_157 : (Jvm.Cond.code ({ cls := "GuideSearch$Causes", name := "addFault", desc := "(J)I" } : Jvm.MethodName) prog_3_method_5_code (3 : Nat) (Option.some Jvm.ClassFile.FieldType.int)) ∈ wg := wgm (i := 186) rfl rfl
theorem k_158 : (Jvm.Cond.constantLong "GuideSearch$Causes" (33 : Nat) (2520 : Int64)) ∈ wg := wgm (i := 187) (by decide +kernel) rfl
theorem k_163 : (Jvm.Cond.constantLong "GuideSearch" (63 : Nat) (400 : Int64)) ∈ wg := wgm (i := 192) (by decide +kernel) rfl
theorem k_164 : (Jvm.Cond.methodLink "GuideSearch" (66 : Nat) ({ cls := "GuideSearch$Tests", name := "add", desc := "(I)I" } : Jvm.MethodName)) ∈ wg := wgm (i := 193) (by decide +kernel) rfl
theorem k_165 : (Jvm.Cond.instanceMethod ({ cls := "GuideSearch$Tests", name := "add", desc := "(I)I" } : Jvm.MethodName)) ∈ wg := wgm (i := 194) (by decide +kernel) rfl
theorem k_166 : (Jvm.Cond.selects "GuideSearch$Tests" ({ cls := "GuideSearch$Tests", name := "add", desc := "(I)I" } : Jvm.MethodName) ({ cls := "GuideSearch$Tests", name := "add", desc := "(I)I" } : Jvm.MethodName)) ∈ wg := wgm (i := 195) (by decide +kernel) rfl
set_option maxRecDepth 20000 in
theorem k_167 : (Jvm.Cond.code ({ cls := "GuideSearch$Tests", name := "add", desc := "(I)I" } : Jvm.MethodName) prog_5_method_3_code (2 : Nat) (Option.some Jvm.ClassFile.FieldType.int)) ∈ wg := wgm (i := 196) rfl rfl
theorem k_172 : (Jvm.Cond.methodLink "GuideSearch" (70 : Nat) ({ cls := "GuideSearch$Tests", name := "knows", desc := "(I)Z" } : Jvm.MethodName)) ∈ wg := wgm (i := 201) (by decide +kernel) rfl
theorem k_173 : (Jvm.Cond.instanceMethod ({ cls := "GuideSearch$Tests", name := "knows", desc := "(I)Z" } : Jvm.MethodName)) ∈ wg := wgm (i := 202) (by decide +kernel) rfl
theorem k_174 : (Jvm.Cond.selects "GuideSearch$Tests" ({ cls := "GuideSearch$Tests", name := "knows", desc := "(I)Z" } : Jvm.MethodName) ({ cls := "GuideSearch$Tests", name := "knows", desc := "(I)Z" } : Jvm.MethodName)) ∈ wg := wgm (i := 203) (by decide +kernel) rfl
set_option maxRecDepth 20000 in
theorem k_175 : (Jvm.Cond.code ({ cls := "GuideSearch$Tests", name := "knows", desc := "(I)Z" } : Jvm.MethodName) prog_5_method_2_code (2 : Nat) (Option.some Jvm.ClassFile.FieldType.boolean)) ∈ wg := wgm (i := 204) rfl rfl
theorem k_176 : (Jvm.Cond.methodLink "GuideSearch" (74 : Nat) ({ cls := "GuideSearch$Causes", name := "knows", desc := "(I)Z" } : Jvm.MethodName)) ∈ wg := wgm (i := 205) (by decide +kernel) rfl
theorem k_177 : (Jvm.Cond.instanceMethod ({ cls := "GuideSearch$Causes", name := "knows", desc := "(I)Z" } : Jvm.MethodName)) ∈ wg := wgm (i := 206) (by decide +kernel) rfl
theorem k_178 : (Jvm.Cond.selects "GuideSearch$Causes" ({ cls := "GuideSearch$Causes", name := "knows", desc := "(I)Z" } : Jvm.MethodName) ({ cls := "GuideSearch$Causes", name := "knows", desc := "(I)Z" } : Jvm.MethodName)) ∈ wg := wgm (i := 207) (by decide +kernel) rfl
set_option maxRecDepth 20000 in
theorem k_179 : (Jvm.Cond.code ({ cls := "GuideSearch$Causes", name := "knows", desc := "(I)Z" } : Jvm.MethodName) prog_3_method_2_code (2 : Nat) (Option.some Jvm.ClassFile.FieldType.boolean)) ∈ wg := wgm (i := 208) rfl rfl
theorem k_180 : (Jvm.Cond.methodLink "GuideSearch" (75 : Nat) ({ cls := "GuideSearch", name := "isAnswer", desc := "(I)Z" } : Jvm.MethodName)) ∈ wg := wgm (i := 209) (by decide +kernel) rfl
theorem k_181 : (Jvm.Cond.static ({ cls := "GuideSearch", name := "isAnswer", desc := "(I)Z" } : Jvm.MethodName)) ∈ wg := wgm (i := 210) (by decide +kernel) rfl
set_option maxRecDepth 20000 in
theorem k_182 : (Jvm.Cond.code ({ cls := "GuideSearch", name := "isAnswer", desc := "(I)Z" } : Jvm.MethodName) prog_1_method_15_code (1 : Nat) (Option.some Jvm.ClassFile.FieldType.boolean)) ∈ wg := wgm (i := 211) rfl rfl
theorem k_183 : (Jvm.Cond.methodLink "GuideSearch" (78 : Nat) ({ cls := "GuideSearch", name := "isPartOfTwelve", desc := "(JJ)Z" } : Jvm.MethodName)) ∈ wg := wgm (i := 212) (by decide +kernel) rfl
theorem k_184 : (Jvm.Cond.static ({ cls := "GuideSearch", name := "isPartOfTwelve", desc := "(JJ)Z" } : Jvm.MethodName)) ∈ wg := wgm (i := 213) (by decide +kernel) rfl
set_option maxRecDepth 20000 in
theorem k_185 : (Jvm.Cond.code ({ cls := "GuideSearch", name := "isPartOfTwelve", desc := "(JJ)Z" } : Jvm.MethodName) prog_1_method_16_code (4 : Nat) (Option.some Jvm.ClassFile.FieldType.boolean)) ∈ wg := wgm (i := 214) rfl rfl
theorem k_186 : (Jvm.Cond.constantLong "GuideSearch" (82 : Nat) (12 : Int64)) ∈ wg := wgm (i := 215) (by decide +kernel) rfl
theorem k_187 : (Jvm.Cond.methodLink "GuideSearch" (84 : Nat) ({ cls := "GuideSearch$Tests", name := "together", desc := "(II)I" } : Jvm.MethodName)) ∈ wg := wgm (i := 216) (by decide +kernel) rfl
theorem k_188 : (Jvm.Cond.instanceMethod ({ cls := "GuideSearch$Tests", name := "together", desc := "(II)I" } : Jvm.MethodName)) ∈ wg := wgm (i := 217) (by decide +kernel) rfl
theorem k_189 : (Jvm.Cond.selects "GuideSearch$Tests" ({ cls := "GuideSearch$Tests", name := "together", desc := "(II)I" } : Jvm.MethodName) ({ cls := "GuideSearch$Tests", name := "together", desc := "(II)I" } : Jvm.MethodName)) ∈ wg := wgm (i := 218) (by decide +kernel) rfl
set_option maxRecDepth 20000 in
theorem k_190 : (Jvm.Cond.code ({ cls := "GuideSearch$Tests", name := "together", desc := "(II)I" } : Jvm.MethodName) prog_5_method_7_code (5 : Nat) (Option.some Jvm.ClassFile.FieldType.int)) ∈ wg := wgm (i := 219) rfl rfl
theorem k_191 : (Jvm.Cond.methodLink "GuideSearch$Tests" (41 : Nat) ({ cls := "GuideSearch$Tests", name := "twelfths", desc := "(III)I" } : Jvm.MethodName)) ∈ wg := wgm (i := 220) (by decide +kernel) rfl
theorem k_192 : (Jvm.Cond.instanceMethod ({ cls := "GuideSearch$Tests", name := "twelfths", desc := "(III)I" } : Jvm.MethodName)) ∈ wg := wgm (i := 221) (by decide +kernel) rfl
theorem k_193 : (Jvm.Cond.selects "GuideSearch$Tests" ({ cls := "GuideSearch$Tests", name := "twelfths", desc := "(III)I" } : Jvm.MethodName) ({ cls := "GuideSearch$Tests", name := "twelfths", desc := "(III)I" } : Jvm.MethodName)) ∈ wg := wgm (i := 222) (by decide +kernel) rfl
set_option maxRecDepth 20000 in
theorem k_194 : (Jvm.Cond.code ({ cls := "GuideSearch$Tests", name := "twelfths", desc := "(III)I" } : Jvm.MethodName) prog_5_method_5_code (4 : Nat) (Option.some Jvm.ClassFile.FieldType.int)) ∈ wg := wgm (i := 223) rfl rfl
theorem k_195 : (Jvm.Cond.methodLink "GuideSearch$Tests" (37 : Nat) ({ cls := "GuideSearch$Tests", name := "hasPlace", desc := "(II)Z" } : Jvm.MethodName)) ∈ wg := wgm (i := 224) (by decide +kernel) rfl
theorem k_197 : (Jvm.Cond.instanceMethod ({ cls := "GuideSearch$Tests", name := "hasPlace", desc := "(II)Z" } : Jvm.MethodName)) ∈ wg := wgm (i := 226) (by decide +kernel) rfl
set_option maxRecDepth 20000 in
theorem k_198 : (Jvm.Cond.code ({ cls := "GuideSearch$Tests", name := "hasPlace", desc := "(II)Z" } : Jvm.MethodName) prog_5_method_14_code (3 : Nat) (Option.some Jvm.ClassFile.FieldType.boolean)) ∈ wg := wgm (i := 227) rfl rfl
theorem k_199 : (Jvm.Cond.methodLink "GuideSearch$Tests" (33 : Nat) ({ cls := "GuideSearch$Tests", name := "knows", desc := "(I)Z" } : Jvm.MethodName)) ∈ wg := wgm (i := 228) (by decide +kernel) rfl
theorem k_200 : (Jvm.Cond.methodLink "GuideSearch" (88 : Nat) ({ cls := "GuideSearch$Tests", name := "twelfths", desc := "(III)I" } : Jvm.MethodName)) ∈ wg := wgm (i := 229) (by decide +kernel) rfl
theorem k_201 : (Jvm.Cond.methodLink "GuideSearch" (92 : Nat) ({ cls := "GuideSearch", name := "answerIn", desc := "(II)I" } : Jvm.MethodName)) ∈ wg := wgm (i := 230) (by decide +kernel) rfl
theorem k_202 : (Jvm.Cond.static ({ cls := "GuideSearch", name := "answerIn", desc := "(II)I" } : Jvm.MethodName)) ∈ wg := wgm (i := 231) (by decide +kernel) rfl
set_option maxRecDepth 20000 in
theorem k_203 : (Jvm.Cond.code ({ cls := "GuideSearch", name := "answerIn", desc := "(II)I" } : Jvm.MethodName) prog_1_method_19_code (2 : Nat) (Option.some Jvm.ClassFile.FieldType.int)) ∈ wg := wgm (i := 232) rfl rfl
theorem k_204 : (Jvm.Cond.methodLink "GuideSearch" (95 : Nat) ({ cls := "GuideSearch$Tests", name := "setTwelfths", desc := "(IIII)V" } : Jvm.MethodName)) ∈ wg := wgm (i := 233) (by decide +kernel) rfl
theorem k_205 : (Jvm.Cond.instanceMethod ({ cls := "GuideSearch$Tests", name := "setTwelfths", desc := "(IIII)V" } : Jvm.MethodName)) ∈ wg := wgm (i := 234) (by decide +kernel) rfl
theorem k_206 : (Jvm.Cond.selects "GuideSearch$Tests" ({ cls := "GuideSearch$Tests", name := "setTwelfths", desc := "(IIII)V" } : Jvm.MethodName) ({ cls := "GuideSearch$Tests", name := "setTwelfths", desc := "(IIII)V" } : Jvm.MethodName)) ∈ wg := wgm (i := 235) (by decide +kernel) rfl
set_option maxRecDepth 20000 in
theorem k_207 : (Jvm.Cond.code ({ cls := "GuideSearch$Tests", name := "setTwelfths", desc := "(IIII)V" } : Jvm.MethodName) prog_5_method_6_code (6 : Nat) (Option.none : Option Jvm.ClassFile.FieldType)) ∈ wg := wgm (i := 236) rfl rfl
theorem k_212 : (Jvm.Cond.methodLink "GuideSearch" (99 : Nat) ({ cls := "GuideSearch$Tests", name := "allNeededBy", desc := "(I)I" } : Jvm.MethodName)) ∈ wg := wgm (i := 241) (by decide +kernel) rfl
theorem k_213 : (Jvm.Cond.instanceMethod ({ cls := "GuideSearch$Tests", name := "allNeededBy", desc := "(I)I" } : Jvm.MethodName)) ∈ wg := wgm (i := 242) (by decide +kernel) rfl
theorem k_214 : (Jvm.Cond.selects "GuideSearch$Tests" ({ cls := "GuideSearch$Tests", name := "allNeededBy", desc := "(I)I" } : Jvm.MethodName) ({ cls := "GuideSearch$Tests", name := "allNeededBy", desc := "(I)I" } : Jvm.MethodName)) ∈ wg := wgm (i := 243) (by decide +kernel) rfl
set_option maxRecDepth 20000 in
theorem k_215 : (Jvm.Cond.code ({ cls := "GuideSearch$Tests", name := "allNeededBy", desc := "(I)I" } : Jvm.MethodName) prog_5_method_9_code (5 : Nat) (Option.some Jvm.ClassFile.FieldType.int)) ∈ wg := wgm (i := 244) rfl rfl
theorem k_216 : (Jvm.Cond.methodLinkNest "GuideSearch$Tests" (54 : Nat) ({ cls := "GuideSearch", name := "holds", desc := "(II)Z" } : Jvm.MethodName) "GuideSearch") ∈ nw := nwm (i := 245) (by decide +kernel) rfl
theorem k_217 : (Jvm.Cond.static ({ cls := "GuideSearch", name := "holds", desc := "(II)Z" } : Jvm.MethodName)) ∈ wg := wgm (i := 246) (by decide +kernel) rfl
set_option maxRecDepth 20000 in
theorem k_218 : (Jvm.Cond.code ({ cls := "GuideSearch", name := "holds", desc := "(II)Z" } : Jvm.MethodName) prog_1_method_18_code (2 : Nat) (Option.some Jvm.ClassFile.FieldType.boolean)) ∈ wg := wgm (i := 247) rfl rfl
theorem k_219 : (Jvm.Cond.methodLink "GuideSearch" (102 : Nat) ({ cls := "GuideSearch", name := "bit", desc := "(I)I" } : Jvm.MethodName)) ∈ wg := wgm (i := 248) (by decide +kernel) rfl
theorem k_220 : (Jvm.Cond.static ({ cls := "GuideSearch", name := "bit", desc := "(I)I" } : Jvm.MethodName)) ∈ wg := wgm (i := 249) (by decide +kernel) rfl
set_option maxRecDepth 20000 in
theorem k_221 : (Jvm.Cond.code ({ cls := "GuideSearch", name := "bit", desc := "(I)I" } : Jvm.MethodName) prog_1_method_17_code (1 : Nat) (Option.some Jvm.ClassFile.FieldType.int)) ∈ wg := wgm (i := 250) rfl rfl
theorem k_222 : (Jvm.Cond.methodLink "GuideSearch" (105 : Nat) ({ cls := "GuideSearch$Tests", name := "addNeed", desc := "(II)I" } : Jvm.MethodName)) ∈ wg := wgm (i := 251) (by decide +kernel) rfl
theorem k_223 : (Jvm.Cond.instanceMethod ({ cls := "GuideSearch$Tests", name := "addNeed", desc := "(II)I" } : Jvm.MethodName)) ∈ wg := wgm (i := 252) (by decide +kernel) rfl
theorem k_224 : (Jvm.Cond.selects "GuideSearch$Tests" ({ cls := "GuideSearch$Tests", name := "addNeed", desc := "(II)I" } : Jvm.MethodName) ({ cls := "GuideSearch$Tests", name := "addNeed", desc := "(II)I" } : Jvm.MethodName)) ∈ wg := wgm (i := 253) (by decide +kernel) rfl
set_option maxRecDepth 20000 in
theorem k_225 : (Jvm.Cond.code ({ cls := "GuideSearch$Tests", name := "addNeed", desc := "(II)I" } : Jvm.MethodName) prog_5_method_8_code (3 : Nat) (Option.some Jvm.ClassFile.FieldType.int)) ∈ wg := wgm (i := 254) rfl rfl
theorem k_226 : (Jvm.Cond.methodLinkNest "GuideSearch$Tests" (45 : Nat) ({ cls := "GuideSearch", name := "bit", desc := "(I)I" } : Jvm.MethodName) "GuideSearch") ∈ nw := nwm (i := 255) (by decide +kernel) rfl
theorem k_227 : (Jvm.Cond.methodLink "GuideSearch$Tests" (49 : Nat) ({ cls := "java/lang/Integer", name := "bitCount", desc := "(I)I" } : Jvm.MethodName)) ∈ wg := wgm (i := 256) (by decide +kernel) rfl
theorem k_228 : (Jvm.Cond.static ({ cls := "java/lang/Integer", name := "bitCount", desc := "(I)I" } : Jvm.MethodName)) ∈ wg := wgm (i := 257) (by decide +kernel) rfl
set_option maxRecDepth 20000 in
theorem k_229 : (Jvm.Cond.code ({ cls := "java/lang/Integer", name := "bitCount", desc := "(I)I" } : Jvm.MethodName) prog_10_method_49_code (1 : Nat) (Option.some Jvm.ClassFile.FieldType.int)) ∈ wg := wgm (i := 258) rfl rfl
theorem k_230 : (Jvm.Cond.constant "java/lang/Integer" (265 : Nat) (1431655765 : Int32)) ∈ wg := wgm (i := 259) (by decide +kernel) rfl
theorem k_231 : (Jvm.Cond.constant "java/lang/Integer" (266 : Nat) (858993459 : Int32)) ∈ wg := wgm (i := 260) (by decide +kernel) rfl
theorem k_232 : (Jvm.Cond.constant "java/lang/Integer" (267 : Nat) (252645135 : Int32)) ∈ wg := wgm (i := 261) (by decide +kernel) rfl
theorem k_237 : (Jvm.Cond.methodLink "GuideSearch" (108 : Nat) ({ cls := "GuideSearch$Tests", name := "unanswered", desc := "(I)I" } : Jvm.MethodName)) ∈ wg := wgm (i := 266) (by decide +kernel) rfl
theorem k_238 : (Jvm.Cond.instanceMethod ({ cls := "GuideSearch$Tests", name := "unanswered", desc := "(I)I" } : Jvm.MethodName)) ∈ wg := wgm (i := 267) (by decide +kernel) rfl
theorem k_239 : (Jvm.Cond.selects "GuideSearch$Tests" ({ cls := "GuideSearch$Tests", name := "unanswered", desc := "(I)I" } : Jvm.MethodName) ({ cls := "GuideSearch$Tests", name := "unanswered", desc := "(I)I" } : Jvm.MethodName)) ∈ wg := wgm (i := 268) (by decide +kernel) rfl
set_option maxRecDepth 20000 in
theorem k_240 : (Jvm.Cond.code ({ cls := "GuideSearch$Tests", name := "unanswered", desc := "(I)I" } : Jvm.MethodName) prog_5_method_10_code (4 : Nat) (Option.some Jvm.ClassFile.FieldType.int)) ∈ wg := wgm (i := 269) rfl rfl
theorem k_241 : (Jvm.Cond.methodLinkNest "GuideSearch$Tests" (57 : Nat) ({ cls := "GuideSearch", name := "answerIn", desc := "(II)I" } : Jvm.MethodName) "GuideSearch") ∈ nw := nwm (i := 270) (by decide +kernel) rfl
theorem k_242 : (Jvm.Cond.methodLink "GuideSearch" (111 : Nat) ({ cls := "GuideSearch$Plan", name := "make", desc := "(I)I" } : Jvm.MethodName)) ∈ wg := wgm (i := 271) (by decide +kernel) rfl
theorem k_243 : (Jvm.Cond.instanceMethod ({ cls := "GuideSearch$Plan", name := "make", desc := "(I)I" } : Jvm.MethodName)) ∈ wg := wgm (i := 272) (by decide +kernel) rfl
theorem k_244 : (Jvm.Cond.selects "GuideSearch$Plan" ({ cls := "GuideSearch$Plan", name := "make", desc := "(I)I" } : Jvm.MethodName) ({ cls := "GuideSearch$Plan", name := "make", desc := "(I)I" } : Jvm.MethodName)) ∈ wg := wgm (i := 273) (by decide +kernel) rfl
set_option maxRecDepth 20000 in
theorem k_245 : (Jvm.Cond.code ({ cls := "GuideSearch$Plan", name := "make", desc := "(I)I" } : Jvm.MethodName) prog_4_method_3_code (4 : Nat) (Option.some Jvm.ClassFile.FieldType.int)) ∈ wg := wgm (i := 274) rfl rfl
theorem k_246 : (Jvm.Cond.methodLink "GuideSearch$Plan" (47 : Nat) ({ cls := "GuideSearch$Plan", name := "drop", desc := "()V" } : Jvm.MethodName)) ∈ wg := wgm (i := 275) (by decide +kernel) rfl
theorem k_247 : (Jvm.Cond.instanceMethod ({ cls := "GuideSearch$Plan", name := "drop", desc := "()V" } : Jvm.MethodName)) ∈ wg := wgm (i := 276) (by decide +kernel) rfl
theorem k_248 : (Jvm.Cond.selects "GuideSearch$Plan" ({ cls := "GuideSearch$Plan", name := "drop", desc := "()V" } : Jvm.MethodName) ({ cls := "GuideSearch$Plan", name := "drop", desc := "()V" } : Jvm.MethodName)) ∈ wg := wgm (i := 277) (by decide +kernel) rfl
set_option maxRecDepth 20000 in
theorem k_249 : (Jvm.Cond.code ({ cls := "GuideSearch$Plan", name := "drop", desc := "()V" } : Jvm.MethodName) prog_4_method_2_code (1 : Nat) (Option.none : Option Jvm.ClassFile.FieldType)) ∈ wg := wgm (i := 278) rfl rfl
theorem k_250 : (Jvm.Cond.methodLink "GuideSearch$Plan" (50 : Nat) ({ cls := "java/util/Arrays", name := "fill", desc := "([JJ)V" } : Jvm.MethodName)) ∈ wg := wgm (i := 279) (by decide +kernel) rfl
theorem k_251 : (Jvm.Cond.static ({ cls := "java/util/Arrays", name := "fill", desc := "([JJ)V" } : Jvm.MethodName)) ∈ wg := wgm (i := 280) (by decide +kernel) rfl
set_option maxRecDepth 20000 in
theorem k_252 : (Jvm.Cond.code ({ cls := "java/util/Arrays", name := "fill", desc := "([JJ)V" } : Jvm.MethodName) prog_15_method_101_code (5 : Nat) (Option.none : Option Jvm.ClassFile.FieldType)) ∈ wg := wgm (i := 281) rfl rfl
theorem k_253 : (Jvm.Cond.methodLink "GuideSearch$Plan" (56 : Nat) ({ cls := "GuideSearch$Plan", name := "weighFirst", desc := "(I)V" } : Jvm.MethodName)) ∈ wg := wgm (i := 282) (by decide +kernel) rfl
theorem k_255 : (Jvm.Cond.instanceMethod ({ cls := "GuideSearch$Plan", name := "weighFirst", desc := "(I)V" } : Jvm.MethodName)) ∈ wg := wgm (i := 284) (by decide +kernel) rfl
set_option maxRecDepth 20000 in
theorem k_256 : (Jvm.Cond.code ({ cls := "GuideSearch$Plan", name := "weighFirst", desc := "(I)V" } : Jvm.MethodName) prog_4_method_5_code (3 : Nat) (Option.none : Option Jvm.ClassFile.FieldType)) ∈ wg := wgm (i := 285) rfl rfl
theorem k_257 : (Jvm.Cond.methodLink "GuideSearch$Plan" (74 : Nat) ({ cls := "GuideSearch$Cases", name := "weightOf", desc := "(II)J" } : Jvm.MethodName)) ∈ wg := wgm (i := 286) (by decide +kernel) rfl
theorem k_258 : (Jvm.Cond.instanceMethod ({ cls := "GuideSearch$Cases", name := "weightOf", desc := "(II)J" } : Jvm.MethodName)) ∈ wg := wgm (i := 287) (by decide +kernel) rfl
theorem k_259 : (Jvm.Cond.selects "GuideSearch$Cases" ({ cls := "GuideSearch$Cases", name := "weightOf", desc := "(II)J" } : Jvm.MethodName) ({ cls := "GuideSearch$Cases", name := "weightOf", desc := "(II)J" } : Jvm.MethodName)) ∈ wg := wgm (i := 288) (by decide +kernel) rfl
set_option maxRecDepth 20000 in
theorem k_260 : (Jvm.Cond.code ({ cls := "GuideSearch$Cases", name := "weightOf", desc := "(II)J" } : Jvm.MethodName) prog_2_method_2_code (7 : Nat) (Option.some Jvm.ClassFile.FieldType.long)) ∈ wg := wgm (i := 289) rfl rfl
theorem k_261 : (Jvm.Cond.methodLink "GuideSearch$Cases" (19 : Nat) ({ cls := "GuideSearch$Causes", name := "prior", desc := "(I)J" } : Jvm.MethodName)) ∈ wg := wgm (i := 290) (by decide +kernel) rfl
theorem k_262 : (Jvm.Cond.instanceMethod ({ cls := "GuideSearch$Causes", name := "prior", desc := "(I)J" } : Jvm.MethodName)) ∈ wg := wgm (i := 291) (by decide +kernel) rfl
theorem k_263 : (Jvm.Cond.selects "GuideSearch$Causes" ({ cls := "GuideSearch$Causes", name := "prior", desc := "(I)J" } : Jvm.MethodName) ({ cls := "GuideSearch$Causes", name := "prior", desc := "(I)J" } : Jvm.MethodName)) ∈ wg := wgm (i := 292) (by decide +kernel) rfl
set_option maxRecDepth 20000 in
theorem k_264 : (Jvm.Cond.code ({ cls := "GuideSearch$Causes", name := "prior", desc := "(I)J" } : Jvm.MethodName) prog_3_method_8_code (2 : Nat) (Option.some Jvm.ClassFile.FieldType.long)) ∈ wg := wgm (i := 293) rfl rfl
theorem k_265 : (Jvm.Cond.methodLink "GuideSearch$Causes" (29 : Nat) ({ cls := "GuideSearch$Causes", name := "knows", desc := "(I)Z" } : Jvm.MethodName)) ∈ wg := wgm (i := 294) (by decide +kernel) rfl
theorem k_266 : (Jvm.Cond.methodLink "GuideSearch$Causes" (39 : Nat) ({ cls := "java/lang/Math", name := "min", desc := "(II)I" } : Jvm.MethodName)) ∈ wg := wgm (i := 295) (by decide +kernel) rfl
theorem k_267 : (Jvm.Cond.static ({ cls := "java/lang/Math", name := "min", desc := "(II)I" } : Jvm.MethodName)) ∈ wg := wgm (i := 296) (by decide +kernel) rfl
set_option maxRecDepth 20000 in
theorem k_268 : (Jvm.Cond.code ({ cls := "java/lang/Math", name := "min", desc := "(II)I" } : Jvm.MethodName) prog_11_method_69_code (2 : Nat) (Option.some Jvm.ClassFile.FieldType.int)) ∈ wg := wgm (i := 297) rfl rfl
theorem k_269 : (Jvm.Cond.constantLong "GuideSearch$Cases" (25 : Nat) (248832 : Int64)) ∈ wg := wgm (i := 298) (by decide +kernel) rfl
theorem k_270 : (Jvm.Cond.methodLinkNest "GuideSearch$Cases" (33 : Nat) ({ cls := "GuideSearch", name := "answerIn", desc := "(II)I" } : Jvm.MethodName) "GuideSearch") ∈ nw := nwm (i := 299) (by decide +kernel) rfl
theorem k_271 : (Jvm.Cond.constantLong "GuideSearch$Cases" (37 : Nat) (12 : Int64)) ∈ wg := wgm (i := 300) (by decide +kernel) rfl
theorem k_272 : (Jvm.Cond.methodLink "GuideSearch$Cases" (39 : Nat) ({ cls := "GuideSearch$Tests", name := "twelfths", desc := "(III)I" } : Jvm.MethodName)) ∈ wg := wgm (i := 301) (by decide +kernel) rfl
theorem k_273 : (Jvm.Cond.methodLink "GuideSearch$Plan" (60 : Nat) ({ cls := "GuideSearch$Plan", name := "choose", desc := "(II)V" } : Jvm.MethodName)) ∈ wg := wgm (i := 302) (by decide +kernel) rfl
theorem k_275 : (Jvm.Cond.instanceMethod ({ cls := "GuideSearch$Plan", name := "choose", desc := "(II)V" } : Jvm.MethodName)) ∈ wg := wgm (i := 304) (by decide +kernel) rfl
set_option maxRecDepth 20000 in
theorem k_276 : (Jvm.Cond.code ({ cls := "GuideSearch$Plan", name := "choose", desc := "(II)V" } : Jvm.MethodName) prog_4_method_9_code (15 : Nat) (Option.none : Option Jvm.ClassFile.FieldType)) ∈ wg := wgm (i := 305) rfl rfl
theorem k_277 : (Jvm.Cond.methodLink "GuideSearch$Plan" (96 : Nat) ({ cls := "GuideSearch$Plan", name := "leftAt", desc := "(I)I" } : Jvm.MethodName)) ∈ wg := wgm (i := 306) (by decide +kernel) rfl
theorem k_279 : (Jvm.Cond.instanceMethod ({ cls := "GuideSearch$Plan", name := "leftAt", desc := "(I)I" } : Jvm.MethodName)) ∈ wg := wgm (i := 308) (by decide +kernel) rfl
set_option maxRecDepth 20000 in
theorem k_280 : (Jvm.Cond.code ({ cls := "GuideSearch$Plan", name := "leftAt", desc := "(I)I" } : Jvm.MethodName) prog_4_method_8_code (4 : Nat) (Option.some Jvm.ClassFile.FieldType.int)) ∈ wg := wgm (i := 309) rfl rfl
theorem k_281 : (Jvm.Cond.methodLinkNest "GuideSearch$Plan" (92 : Nat) ({ cls := "GuideSearch", name := "bit", desc := "(I)I" } : Jvm.MethodName) "GuideSearch") ∈ nw := nwm (i := 310) (by decide +kernel) rfl
theorem k_282 : (Jvm.Cond.methodLink "GuideSearch$Plan" (99 : Nat) ({ cls := "GuideSearch$Cases", name := "usable", desc := "(II)I" } : Jvm.MethodName)) ∈ wg := wgm (i := 311) (by decide +kernel) rfl
theorem k_283 : (Jvm.Cond.instanceMethod ({ cls := "GuideSearch$Cases", name := "usable", desc := "(II)I" } : Jvm.MethodName)) ∈ wg := wgm (i := 312) (by decide +kernel) rfl
theorem k_284 : (Jvm.Cond.selects "GuideSearch$Cases" ({ cls := "GuideSearch$Cases", name := "usable", desc := "(II)I" } : Jvm.MethodName) ({ cls := "GuideSearch$Cases", name := "usable", desc := "(II)I" } : Jvm.MethodName)) ∈ wg := wgm (i := 313) (by decide +kernel) rfl
set_option maxRecDepth 20000 in
theorem k_285 : (Jvm.Cond.code ({ cls := "GuideSearch$Cases", name := "usable", desc := "(II)I" } : Jvm.MethodName) prog_2_method_6_code (5 : Nat) (Option.some Jvm.ClassFile.FieldType.int)) ∈ wg := wgm (i := 314) rfl rfl
theorem k_286 : (Jvm.Cond.methodLink "GuideSearch$Cases" (58 : Nat) ({ cls := "java/lang/Integer", name := "bitCount", desc := "(I)I" } : Jvm.MethodName)) ∈ wg := wgm (i := 315) (by decide +kernel) rfl
theorem k_287 : (Jvm.Cond.methodLink "GuideSearch$Cases" (63 : Nat) ({ cls := "GuideSearch$Tests", name := "isOpen", desc := "(II)Z" } : Jvm.MethodName)) ∈ wg := wgm (i := 316) (by decide +kernel) rfl
theorem k_288 : (Jvm.Cond.instanceMethod ({ cls := "GuideSearch$Tests", name := "isOpen", desc := "(II)Z" } : Jvm.MethodName)) ∈ wg := wgm (i := 317) (by decide +kernel) rfl
theorem k_289 : (Jvm.Cond.selects "GuideSearch$Tests" ({ cls := "GuideSearch$Tests", name := "isOpen", desc := "(II)Z" } : Jvm.MethodName) ({ cls := "GuideSearch$Tests", name := "isOpen", desc := "(II)Z" } : Jvm.MethodName)) ∈ wg := wgm (i := 318) (by decide +kernel) rfl
set_option maxRecDepth 20000 in
theorem k_290 : (Jvm.Cond.code ({ cls := "GuideSearch$Tests", name := "isOpen", desc := "(II)Z" } : Jvm.MethodName) prog_5_method_11_code (4 : Nat) (Option.some Jvm.ClassFile.FieldType.boolean)) ∈ wg := wgm (i := 319) rfl rfl
theorem k_291 : (Jvm.Cond.methodLink "GuideSearch$Cases" (67 : Nat) ({ cls := "GuideSearch$Tests", name := "tellsApart", desc := "(II)Z" } : Jvm.MethodName)) ∈ wg := wgm (i := 320) (by decide +kernel) rfl
theorem k_292 : (Jvm.Cond.instanceMethod ({ cls := "GuideSearch$Tests", name := "tellsApart", desc := "(II)Z" } : Jvm.MethodName)) ∈ wg := wgm (i := 321) (by decide +kernel) rfl
theorem k_293 : (Jvm.Cond.selects "GuideSearch$Tests" ({ cls := "GuideSearch$Tests", name := "tellsApart", desc := "(II)Z" } : Jvm.MethodName) ({ cls := "GuideSearch$Tests", name := "tellsApart", desc := "(II)Z" } : Jvm.MethodName)) ∈ wg := wgm (i := 322) (by decide +kernel) rfl
set_option maxRecDepth 20000 in
theorem k_294 : (Jvm.Cond.code ({ cls := "GuideSearch$Tests", name := "tellsApart", desc := "(II)Z" } : Jvm.MethodName) prog_5_method_13_code (5 : Nat) (Option.some Jvm.ClassFile.FieldType.boolean)) ∈ wg := wgm (i := 323) rfl rfl
theorem k_295 : (Jvm.Cond.methodLinkNest "GuideSearch$Cases" (54 : Nat) ({ cls := "GuideSearch", name := "bit", desc := "(I)I" } : Jvm.MethodName) "GuideSearch") ∈ nw := nwm (i := 324) (by decide +kernel) rfl
theorem k_296 : (Jvm.Cond.methodLink "GuideSearch$Plan" (103 : Nat) ({ cls := "GuideSearch$Cases", name := "firstFree", desc := "(I)I" } : Jvm.MethodName)) ∈ wg := wgm (i := 325) (by decide +kernel) rfl
theorem k_297 : (Jvm.Cond.instanceMethod ({ cls := "GuideSearch$Cases", name := "firstFree", desc := "(I)I" } : Jvm.MethodName)) ∈ wg := wgm (i := 326) (by decide +kernel) rfl
theorem k_298 : (Jvm.Cond.selects "GuideSearch$Cases" ({ cls := "GuideSearch$Cases", name := "firstFree", desc := "(I)I" } : Jvm.MethodName) ({ cls := "GuideSearch$Cases", name := "firstFree", desc := "(I)I" } : Jvm.MethodName)) ∈ wg := wgm (i := 327) (by decide +kernel) rfl
set_option maxRecDepth 20000 in
theorem k_299 : (Jvm.Cond.code ({ cls := "GuideSearch$Cases", name := "firstFree", desc := "(I)I" } : Jvm.MethodName) prog_2_method_7_code (3 : Nat) (Option.some Jvm.ClassFile.FieldType.int)) ∈ wg := wgm (i := 328) rfl rfl
theorem k_300 : (Jvm.Cond.methodLinkNest "GuideSearch$Cases" (70 : Nat) ({ cls := "GuideSearch", name := "holds", desc := "(II)Z" } : Jvm.MethodName) "GuideSearch") ∈ nw := nwm (i := 329) (by decide +kernel) rfl
theorem k_301 : (Jvm.Cond.methodLink "GuideSearch$Cases" (73 : Nat) ({ cls := "GuideSearch$Tests", name := "price", desc := "(I)I" } : Jvm.MethodName)) ∈ wg := wgm (i := 330) (by decide +kernel) rfl
theorem k_302 : (Jvm.Cond.instanceMethod ({ cls := "GuideSearch$Tests", name := "price", desc := "(I)I" } : Jvm.MethodName)) ∈ wg := wgm (i := 331) (by decide +kernel) rfl
theorem k_303 : (Jvm.Cond.selects "GuideSearch$Tests" ({ cls := "GuideSearch$Tests", name := "price", desc := "(I)I" } : Jvm.MethodName) ({ cls := "GuideSearch$Tests", name := "price", desc := "(I)I" } : Jvm.MethodName)) ∈ wg := wgm (i := 332) (by decide +kernel) rfl
set_option maxRecDepth 20000 in
theorem k_304 : (Jvm.Cond.code ({ cls := "GuideSearch$Tests", name := "price", desc := "(I)I" } : Jvm.MethodName) prog_5_method_4_code (2 : Nat) (Option.some Jvm.ClassFile.FieldType.int)) ∈ wg := wgm (i := 333) rfl rfl
theorem k_305 : (Jvm.Cond.methodLink "GuideSearch$Plan" (64 : Nat) ({ cls := "GuideSearch$Plan", name := "weightAt", desc := "(I)J" } : Jvm.MethodName)) ∈ wg := wgm (i := 334) (by decide +kernel) rfl
theorem k_307 : (Jvm.Cond.instanceMethod ({ cls := "GuideSearch$Plan", name := "weightAt", desc := "(I)J" } : Jvm.MethodName)) ∈ wg := wgm (i := 336) (by decide +kernel) rfl
set_option maxRecDepth 20000 in
theorem k_308 : (Jvm.Cond.code ({ cls := "GuideSearch$Plan", name := "weightAt", desc := "(I)J" } : Jvm.MethodName) prog_4_method_7_code (5 : Nat) (Option.some Jvm.ClassFile.FieldType.long)) ∈ wg := wgm (i := 337) rfl rfl
theorem k_309 : (Jvm.Cond.methodLink "GuideSearch$Plan" (106 : Nat) ({ cls := "java/lang/Integer", name := "bitCount", desc := "(I)I" } : Jvm.MethodName)) ∈ wg := wgm (i := 338) (by decide +kernel) rfl
theorem k_310 : (Jvm.Cond.methodLink "GuideSearch$Plan" (111 : Nat) ({ cls := "java/lang/Math", name := "max", desc := "(II)I" } : Jvm.MethodName)) ∈ wg := wgm (i := 339) (by decide +kernel) rfl
theorem k_311 : (Jvm.Cond.static ({ cls := "java/lang/Math", name := "max", desc := "(II)I" } : Jvm.MethodName)) ∈ wg := wgm (i := 340) (by decide +kernel) rfl
set_option maxRecDepth 20000 in
theorem k_312 : (Jvm.Cond.code ({ cls := "java/lang/Math", name := "max", desc := "(II)I" } : Jvm.MethodName) prog_11_method_65_code (2 : Nat) (Option.some Jvm.ClassFile.FieldType.int)) ∈ wg := wgm (i := 341) rfl rfl
theorem k_313 : (Jvm.Cond.methodLinkNest "GuideSearch$Plan" (116 : Nat) ({ cls := "GuideSearch", name := "holds", desc := "(II)Z" } : Jvm.MethodName) "GuideSearch") ∈ nw := nwm (i := 342) (by decide +kernel) rfl
theorem k_314 : (Jvm.Cond.methodLink "GuideSearch$Plan" (120 : Nat) ({ cls := "GuideSearch$Tests", name := "price", desc := "(I)I" } : Jvm.MethodName)) ∈ wg := wgm (i := 343) (by decide +kernel) rfl
theorem k_315 : (Jvm.Cond.methodLink "GuideSearch$Plan" (123 : Nat) ({ cls := "GuideSearch$Plan", name := "valuesBehind", desc := "(III)J" } : Jvm.MethodName)) ∈ wg := wgm (i := 344) (by decide +kernel) rfl
theorem k_317 : (Jvm.Cond.instanceMethod ({ cls := "GuideSearch$Plan", name := "valuesBehind", desc := "(III)J" } : Jvm.MethodName)) ∈ wg := wgm (i := 346) (by decide +kernel) rfl
set_option maxRecDepth 20000 in
theorem k_318 : (Jvm.Cond.code ({ cls := "GuideSearch$Plan", name := "valuesBehind", desc := "(III)J" } : Jvm.MethodName) prog_4_method_10_code (8 : Nat) (Option.some Jvm.ClassFile.FieldType.long)) ∈ wg := wgm (i := 347) rfl rfl
theorem k_319 : (Jvm.Cond.methodLinkNest "GuideSearch$Plan" (127 : Nat) ({ cls := "GuideSearch", name := "withAnswer", desc := "(III)I" } : Jvm.MethodName) "GuideSearch") ∈ nw := nwm (i := 348) (by decide +kernel) rfl
theorem k_320 : (Jvm.Cond.static ({ cls := "GuideSearch", name := "withAnswer", desc := "(III)I" } : Jvm.MethodName)) ∈ wg := wgm (i := 349) (by decide +kernel) rfl
set_option maxRecDepth 20000 in
theorem k_321 : (Jvm.Cond.code ({ cls := "GuideSearch", name := "withAnswer", desc := "(III)I" } : Jvm.MethodName) prog_1_method_20_code (3 : Nat) (Option.some Jvm.ClassFile.FieldType.int)) ∈ wg := wgm (i := 350) rfl rfl
theorem k_322 : (Jvm.Cond.methodLink "GuideSearch$Plan" (130 : Nat) ({ cls := "GuideSearch$Plan", name := "weighBehind", desc := "(III)V" } : Jvm.MethodName)) ∈ wg := wgm (i := 351) (by decide +kernel) rfl
theorem k_324 : (Jvm.Cond.instanceMethod ({ cls := "GuideSearch$Plan", name := "weighBehind", desc := "(III)V" } : Jvm.MethodName)) ∈ wg := wgm (i := 353) (by decide +kernel) rfl
set_option maxRecDepth 20000 in
theorem k_325 : (Jvm.Cond.code ({ cls := "GuideSearch$Plan", name := "weighBehind", desc := "(III)V" } : Jvm.MethodName) prog_4_method_6_code (7 : Nat) (Option.none : Option Jvm.ClassFile.FieldType)) ∈ wg := wgm (i := 354) rfl rfl
theorem k_326 : (Jvm.Cond.constantLong "GuideSearch$Plan" (80 : Nat) (12 : Int64)) ∈ wg := wgm (i := 355) (by decide +kernel) rfl
theorem k_327 : (Jvm.Cond.methodLink "GuideSearch$Plan" (86 : Nat) ({ cls := "GuideSearch$Tests", name := "twelfths", desc := "(III)I" } : Jvm.MethodName)) ∈ wg := wgm (i := 356) (by decide +kernel) rfl
theorem k_328 : (Jvm.Cond.constantLong "GuideSearch$Plan" (68 : Nat) (1000 : Int64)) ∈ wg := wgm (i := 357) (by decide +kernel) rfl
theorem k_329 : (Jvm.Cond.methodLink "GuideSearch$Plan" (70 : Nat) ({ cls := "GuideSearch$Plan", name := "keep", desc := "(III)V" } : Jvm.MethodName)) ∈ wg := wgm (i := 358) (by decide +kernel) rfl
theorem k_331 : (Jvm.Cond.instanceMethod ({ cls := "GuideSearch$Plan", name := "keep", desc := "(III)V" } : Jvm.MethodName)) ∈ wg := wgm (i := 360) (by decide +kernel) rfl
set_option maxRecDepth 20000 in
theorem k_332 : (Jvm.Cond.code ({ cls := "GuideSearch$Plan", name := "keep", desc := "(III)V" } : Jvm.MethodName) prog_4_method_11_code (7 : Nat) (Option.none : Option Jvm.ClassFile.FieldType)) ∈ wg := wgm (i := 361) rfl rfl
theorem k_333 : (Jvm.Cond.methodLink "GuideSearch" (114 : Nat) ({ cls := "GuideSearch$Plan", name := "drop", desc := "()V" } : Jvm.MethodName)) ∈ wg := wgm (i := 362) (by decide +kernel) rfl
theorem k_334 : (Jvm.Cond.methodLink "GuideSearch" (117 : Nat) ({ cls := "GuideSearch$Cases", name := "oneStep", desc := "(I)I" } : Jvm.MethodName)) ∈ wg := wgm (i := 363) (by decide +kernel) rfl
theorem k_335 : (Jvm.Cond.instanceMethod ({ cls := "GuideSearch$Cases", name := "oneStep", desc := "(I)I" } : Jvm.MethodName)) ∈ wg := wgm (i := 364) (by decide +kernel) rfl
theorem k_336 : (Jvm.Cond.selects "GuideSearch$Cases" ({ cls := "GuideSearch$Cases", name := "oneStep", desc := "(I)I" } : Jvm.MethodName) ({ cls := "GuideSearch$Cases", name := "oneStep", desc := "(I)I" } : Jvm.MethodName)) ∈ wg := wgm (i := 365) (by decide +kernel) rfl
set_option maxRecDepth 20000 in
theorem k_337 : (Jvm.Cond.code ({ cls := "GuideSearch$Cases", name := "oneStep", desc := "(I)I" } : Jvm.MethodName) prog_2_method_8_code (4 : Nat) (Option.some Jvm.ClassFile.FieldType.int)) ∈ wg := wgm (i := 366) rfl rfl
theorem k_338 : (Jvm.Cond.methodLink "GuideSearch$Cases" (76 : Nat) ({ cls := "GuideSearch$Cases", name := "left", desc := "(I)I" } : Jvm.MethodName)) ∈ wg := wgm (i := 367) (by decide +kernel) rfl
theorem k_339 : (Jvm.Cond.instanceMethod ({ cls := "GuideSearch$Cases", name := "left", desc := "(I)I" } : Jvm.MethodName)) ∈ wg := wgm (i := 368) (by decide +kernel) rfl
theorem k_340 : (Jvm.Cond.selects "GuideSearch$Cases" ({ cls := "GuideSearch$Cases", name := "left", desc := "(I)I" } : Jvm.MethodName) ({ cls := "GuideSearch$Cases", name := "left", desc := "(I)I" } : Jvm.MethodName)) ∈ wg := wgm (i := 369) (by decide +kernel) rfl
set_option maxRecDepth 20000 in
theorem k_341 : (Jvm.Cond.code ({ cls := "GuideSearch$Cases", name := "left", desc := "(I)I" } : Jvm.MethodName) prog_2_method_5_code (4 : Nat) (Option.some Jvm.ClassFile.FieldType.int)) ∈ wg := wgm (i := 370) rfl rfl
theorem k_342 : (Jvm.Cond.methodLink "GuideSearch$Cases" (44 : Nat) ({ cls := "GuideSearch$Cases", name := "weightOf", desc := "(II)J" } : Jvm.MethodName)) ∈ wg := wgm (i := 371) (by decide +kernel) rfl
theorem k_343 : (Jvm.Cond.methodLink "GuideSearch$Cases" (79 : Nat) ({ cls := "GuideSearch$Cases", name := "usable", desc := "(II)I" } : Jvm.MethodName)) ∈ wg := wgm (i := 372) (by decide +kernel) rfl
theorem k_344 : (Jvm.Cond.methodLink "GuideSearch$Cases" (82 : Nat) ({ cls := "GuideSearch$Cases", name := "firstFree", desc := "(I)I" } : Jvm.MethodName)) ∈ wg := wgm (i := 373) (by decide +kernel) rfl
theorem k_345 : (Jvm.Cond.methodLink "GuideSearch$Cases" (85 : Nat) ({ cls := "GuideSearch$Cases", name := "bestGain", desc := "(II)I" } : Jvm.MethodName)) ∈ wg := wgm (i := 374) (by decide +kernel) rfl
theorem k_347 : (Jvm.Cond.instanceMethod ({ cls := "GuideSearch$Cases", name := "bestGain", desc := "(II)I" } : Jvm.MethodName)) ∈ wg := wgm (i := 376) (by decide +kernel) rfl
set_option maxRecDepth 20000 in
theorem k_348 : (Jvm.Cond.code ({ cls := "GuideSearch$Cases", name := "bestGain", desc := "(II)I" } : Jvm.MethodName) prog_2_method_9_code (9 : Nat) (Option.some Jvm.ClassFile.FieldType.int)) ∈ wg := wgm (i := 377) rfl rfl
theorem k_349 : (Jvm.Cond.methodLink "GuideSearch$Cases" (88 : Nat) ({ cls := "GuideSearch$Cases", name := "gain", desc := "(II)J" } : Jvm.MethodName)) ∈ wg := wgm (i := 378) (by decide +kernel) rfl
theorem k_351 : (Jvm.Cond.instanceMethod ({ cls := "GuideSearch$Cases", name := "gain", desc := "(II)J" } : Jvm.MethodName)) ∈ wg := wgm (i := 380) (by decide +kernel) rfl
set_option maxRecDepth 20000 in
theorem k_352 : (Jvm.Cond.code ({ cls := "GuideSearch$Cases", name := "gain", desc := "(II)J" } : Jvm.MethodName) prog_2_method_10_code (6 : Nat) (Option.some Jvm.ClassFile.FieldType.long)) ∈ wg := wgm (i := 381) rfl rfl
theorem k_353 : (Jvm.Cond.methodLink "GuideSearch$Cases" (91 : Nat) ({ cls := "GuideSearch$Cases", name := "greatestWeight", desc := "(I)J" } : Jvm.MethodName)) ∈ wg := wgm (i := 382) (by decide +kernel) rfl
theorem k_355 : (Jvm.Cond.instanceMethod ({ cls := "GuideSearch$Cases", name := "greatestWeight", desc := "(I)J" } : Jvm.MethodName)) ∈ wg := wgm (i := 384) (by decide +kernel) rfl
set_option maxRecDepth 20000 in
theorem k_356 : (Jvm.Cond.code ({ cls := "GuideSearch$Cases", name := "greatestWeight", desc := "(I)J" } : Jvm.MethodName) prog_2_method_4_code (5 : Nat) (Option.some Jvm.ClassFile.FieldType.long)) ∈ wg := wgm (i := 385) rfl rfl
theorem k_357 : (Jvm.Cond.methodLink "GuideSearch$Cases" (48 : Nat) ({ cls := "java/lang/Math", name := "max", desc := "(JJ)J" } : Jvm.MethodName)) ∈ wg := wgm (i := 386) (by decide +kernel) rfl
theorem k_358 : (Jvm.Cond.static ({ cls := "java/lang/Math", name := "max", desc := "(JJ)J" } : Jvm.MethodName)) ∈ wg := wgm (i := 387) (by decide +kernel) rfl
set_option maxRecDepth 20000 in
theorem k_359 : (Jvm.Cond.code ({ cls := "java/lang/Math", name := "max", desc := "(JJ)J" } : Jvm.MethodName) prog_11_method_66_code (4 : Nat) (Option.some Jvm.ClassFile.FieldType.long)) ∈ wg := wgm (i := 388) rfl rfl
theorem k_360 : (Jvm.Cond.methodLinkNest "GuideSearch$Cases" (94 : Nat) ({ cls := "GuideSearch", name := "withAnswer", desc := "(III)I" } : Jvm.MethodName) "GuideSearch") ∈ nw := nwm (i := 389) (by decide +kernel) rfl
theorem k_365 : (Jvm.Cond.methodLink "GuideSearch" (120 : Nat) ({ cls := "GuideSearch$Tests", name := "isOpen", desc := "(II)Z" } : Jvm.MethodName)) ∈ wg := wgm (i := 394) (by decide +kernel) rfl
theorem k_366 : (Jvm.Cond.methodLink "GuideSearch" (124 : Nat) ({ cls := "GuideSearch", name := "withAnswer", desc := "(III)I" } : Jvm.MethodName)) ∈ wg := wgm (i := 395) (by decide +kernel) rfl
theorem k_367 : (Jvm.Cond.methodLink "GuideSearch" (127 : Nat) ({ cls := "GuideSearch$Cases", name := "left", desc := "(I)I" } : Jvm.MethodName)) ∈ wg := wgm (i := 396) (by decide +kernel) rfl
theorem k_368 : (Jvm.Cond.methodLink "GuideSearch" (130 : Nat) ({ cls := "java/lang/Integer", name := "bitCount", desc := "(I)I" } : Jvm.MethodName)) ∈ wg := wgm (i := 397) (by decide +kernel) rfl
theorem k_381 : (Jvm.Cond.methodLink "GuideSearch" (160 : Nat) ({ cls := "GuideSearch$Causes", name := "isFault", desc := "(I)Z" } : Jvm.MethodName)) ∈ wg := wgm (i := 410) (by decide +kernel) rfl
theorem k_382 : (Jvm.Cond.instanceMethod ({ cls := "GuideSearch$Causes", name := "isFault", desc := "(I)Z" } : Jvm.MethodName)) ∈ wg := wgm (i := 411) (by decide +kernel) rfl
theorem k_383 : (Jvm.Cond.selects "GuideSearch$Causes" ({ cls := "GuideSearch$Causes", name := "isFault", desc := "(I)Z" } : Jvm.MethodName) ({ cls := "GuideSearch$Causes", name := "isFault", desc := "(I)Z" } : Jvm.MethodName)) ∈ wg := wgm (i := 412) (by decide +kernel) rfl
set_option maxRecDepth 20000 in
theorem k_384 : (Jvm.Cond.code ({ cls := "GuideSearch$Causes", name := "isFault", desc := "(I)Z" } : Jvm.MethodName) prog_3_method_3_code (2 : Nat) (Option.some Jvm.ClassFile.FieldType.boolean)) ∈ wg := wgm (i := 413) rfl rfl
theorem k_385 : (Jvm.Cond.methodLink "GuideSearch" (163 : Nat) ({ cls := "GuideSearch$Causes", name := "hasPair", desc := "(I)Z" } : Jvm.MethodName)) ∈ wg := wgm (i := 414) (by decide +kernel) rfl
theorem k_386 : (Jvm.Cond.instanceMethod ({ cls := "GuideSearch$Causes", name := "hasPair", desc := "(I)Z" } : Jvm.MethodName)) ∈ wg := wgm (i := 415) (by decide +kernel) rfl
theorem k_387 : (Jvm.Cond.selects "GuideSearch$Causes" ({ cls := "GuideSearch$Causes", name := "hasPair", desc := "(I)Z" } : Jvm.MethodName) ({ cls := "GuideSearch$Causes", name := "hasPair", desc := "(I)Z" } : Jvm.MethodName)) ∈ wg := wgm (i := 416) (by decide +kernel) rfl
set_option maxRecDepth 20000 in
theorem k_388 : (Jvm.Cond.code ({ cls := "GuideSearch$Causes", name := "hasPair", desc := "(I)Z" } : Jvm.MethodName) prog_3_method_4_code (3 : Nat) (Option.some Jvm.ClassFile.FieldType.boolean)) ∈ wg := wgm (i := 417) rfl rfl
theorem k_389 : (Jvm.Cond.methodLink "GuideSearch" (166 : Nat) ({ cls := "GuideSearch$Causes", name := "addPair", desc := "(II)I" } : Jvm.MethodName)) ∈ wg := wgm (i := 418) (by decide +kernel) rfl
theorem k_390 : (Jvm.Cond.instanceMethod ({ cls := "GuideSearch$Causes", name := "addPair", desc := "(II)I" } : Jvm.MethodName)) ∈ wg := wgm (i := 419) (by decide +kernel) rfl
theorem k_391 : (Jvm.Cond.selects "GuideSearch$Causes" ({ cls := "GuideSearch$Causes", name := "addPair", desc := "(II)I" } : Jvm.MethodName) ({ cls := "GuideSearch$Causes", name := "addPair", desc := "(II)I" } : Jvm.MethodName)) ∈ wg := wgm (i := 420) (by decide +kernel) rfl
set_option maxRecDepth 20000 in
theorem k_392 : (Jvm.Cond.code ({ cls := "GuideSearch$Causes", name := "addPair", desc := "(II)I" } : Jvm.MethodName) prog_3_method_6_code (3 : Nat) (Option.some Jvm.ClassFile.FieldType.int)) ∈ wg := wgm (i := 421) rfl rfl
theorem k_393 : (Jvm.Cond.methodLinkNest "GuideSearch$Causes" (35 : Nat) ({ cls := "GuideSearch", name := "bit", desc := "(I)I" } : Jvm.MethodName) "GuideSearch") ∈ nw := nwm (i := 422) (by decide +kernel) rfl
theorem k_398 : (Jvm.Cond.methodLink "GuideSearch" (169 : Nat) ({ cls := "GuideSearch$Causes", name := "countLearned", desc := "(I)I" } : Jvm.MethodName)) ∈ wg := wgm (i := 427) (by decide +kernel) rfl
theorem k_399 : (Jvm.Cond.instanceMethod ({ cls := "GuideSearch$Causes", name := "countLearned", desc := "(I)I" } : Jvm.MethodName)) ∈ wg := wgm (i := 428) (by decide +kernel) rfl
theorem k_400 : (Jvm.Cond.selects "GuideSearch$Causes" ({ cls := "GuideSearch$Causes", name := "countLearned", desc := "(I)I" } : Jvm.MethodName) ({ cls := "GuideSearch$Causes", name := "countLearned", desc := "(I)I" } : Jvm.MethodName)) ∈ wg := wgm (i := 429) (by decide +kernel) rfl
set_option maxRecDepth 20000 in
theorem k_401 : (Jvm.Cond.code ({ cls := "GuideSearch$Causes", name := "countLearned", desc := "(I)I" } : Jvm.MethodName) prog_3_method_7_code (2 : Nat) (Option.some Jvm.ClassFile.FieldType.int)) ∈ wg := wgm (i := 430) rfl rfl
theorem k_406 : (Jvm.Cond.methodLink "GuideSearch" (175 : Nat) ({ cls := "GuideSearch$Plan", name := "tell", desc := "(II)I" } : Jvm.MethodName)) ∈ wg := wgm (i := 435) (by decide +kernel) rfl
theorem k_407 : (Jvm.Cond.instanceMethod ({ cls := "GuideSearch$Plan", name := "tell", desc := "(II)I" } : Jvm.MethodName)) ∈ wg := wgm (i := 436) (by decide +kernel) rfl
theorem k_408 : (Jvm.Cond.selects "GuideSearch$Plan" ({ cls := "GuideSearch$Plan", name := "tell", desc := "(II)I" } : Jvm.MethodName) ({ cls := "GuideSearch$Plan", name := "tell", desc := "(II)I" } : Jvm.MethodName)) ∈ wg := wgm (i := 437) (by decide +kernel) rfl
set_option maxRecDepth 20000 in
theorem k_409 : (Jvm.Cond.code ({ cls := "GuideSearch$Plan", name := "tell", desc := "(II)I" } : Jvm.MethodName) prog_4_method_4_code (3 : Nat) (Option.some Jvm.ClassFile.FieldType.int)) ∈ wg := wgm (i := 438) rfl rfl
theorem k_414 : (Jvm.Cond.methodLink "GuideSearch" (178 : Nat) ({ cls := "GuideSearch$Tests", name := "canAnswer", desc := "(III)Z" } : Jvm.MethodName)) ∈ wg := wgm (i := 443) (by decide +kernel) rfl
theorem k_415 : (Jvm.Cond.instanceMethod ({ cls := "GuideSearch$Tests", name := "canAnswer", desc := "(III)Z" } : Jvm.MethodName)) ∈ wg := wgm (i := 444) (by decide +kernel) rfl
theorem k_416 : (Jvm.Cond.selects "GuideSearch$Tests" ({ cls := "GuideSearch$Tests", name := "canAnswer", desc := "(III)Z" } : Jvm.MethodName) ({ cls := "GuideSearch$Tests", name := "canAnswer", desc := "(III)Z" } : Jvm.MethodName)) ∈ wg := wgm (i := 445) (by decide +kernel) rfl
set_option maxRecDepth 20000 in
theorem k_417 : (Jvm.Cond.code ({ cls := "GuideSearch$Tests", name := "canAnswer", desc := "(III)Z" } : Jvm.MethodName) prog_5_method_12_code (5 : Nat) (Option.some Jvm.ClassFile.FieldType.boolean)) ∈ wg := wgm (i := 446) rfl rfl
theorem k_506 : (Jvm.Cond.constantLong "GuideSearchModel" (36 : Nat) (-1 : Int64)) ∈ wg := wgm (i := 535) (by decide +kernel) rfl
theorem k_507 : (Jvm.Cond.fieldLink "GuideSearchModel" (69 : Nat) "GuideSearchModel" "code" "I") ∈ wg := wgm (i := 536) (by decide +kernel) rfl
theorem k_508 : (Jvm.Cond.fieldLink "GuideSearchModel" (76 : Nat) "GuideSearchModel" "causes" "I") ∈ wg := wgm (i := 537) (by decide +kernel) rfl
theorem k_509 : (Jvm.Cond.fieldLink "GuideSearchModel" (85 : Nat) "GuideSearchModel" "faults" "I") ∈ wg := wgm (i := 538) (by decide +kernel) rfl
theorem k_510 : (Jvm.Cond.fieldLink "GuideSearchModel" (7 : Nat) "GuideSearchModel" "one" "[I") ∈ wg := wgm (i := 539) (by decide +kernel) rfl
theorem k_511 : (Jvm.Cond.fieldLink "GuideSearchModel" (13 : Nat) "GuideSearchModel" "two" "[I") ∈ wg := wgm (i := 540) (by decide +kernel) rfl
theorem k_512 : (Jvm.Cond.fieldLink "GuideSearchModel" (16 : Nat) "GuideSearchModel" "prior" "[J") ∈ wg := wgm (i := 541) (by decide +kernel) rfl
theorem k_513 : (Jvm.Cond.fieldLink "GuideSearchModel" (20 : Nat) "GuideSearchModel" "learned" "[I") ∈ wg := wgm (i := 542) (by decide +kernel) rfl
theorem k_514 : (Jvm.Cond.fieldLink "GuideSearchModel" (181 : Nat) "GuideSearchModel" "strangers" "I") ∈ wg := wgm (i := 543) (by decide +kernel) rfl
theorem k_515 : (Jvm.Cond.fieldLink "GuideSearchModel" (73 : Nat) "GuideSearchModel" "tests" "I") ∈ wg := wgm (i := 544) (by decide +kernel) rfl
theorem k_516 : (Jvm.Cond.fieldLink "GuideSearchModel" (23 : Nat) "GuideSearchModel" "price" "[J") ∈ wg := wgm (i := 545) (by decide +kernel) rfl
theorem k_517 : (Jvm.Cond.fieldLink "GuideSearchModel" (26 : Nat) "GuideSearchModel" "needs" "[Z") ∈ wg := wgm (i := 546) (by decide +kernel) rfl
theorem k_518 : (Jvm.Cond.fieldLink "GuideSearchModel" (30 : Nat) "GuideSearchModel" "odds" "[I") ∈ wg := wgm (i := 547) (by decide +kernel) rfl
theorem k_519 : (Jvm.Cond.fieldLink "GuideSearchModel" (33 : Nat) "GuideSearchModel" "given" "[I") ∈ wg := wgm (i := 548) (by decide +kernel) rfl
theorem k_520 : (Jvm.Cond.fieldLink "GuideSearchModel" (141 : Nat) "GuideSearchModel" "exact" "Z") ∈ wg := wgm (i := 549) (by decide +kernel) rfl
theorem k_521 : (Jvm.Cond.fieldLink "GuideSearchModel" (38 : Nat) "GuideSearchModel" "cost" "J") ∈ wg := wgm (i := 550) (by decide +kernel) rfl
theorem k_522 : (Jvm.Cond.fieldLink "GuideSearchModel" (138 : Nat) "GuideSearchModel" "nodes" "I") ∈ wg := wgm (i := 551) (by decide +kernel) rfl
theorem k_523 : (Jvm.Cond.fieldLink "GuideSearchModel" (42 : Nat) "GuideSearchModel" "node" "[I") ∈ wg := wgm (i := 552) (by decide +kernel) rfl
theorem k_524 : (Jvm.Cond.fieldLink "GuideSearchModel" (45 : Nat) "GuideSearchModel" "value" "[J") ∈ wg := wgm (i := 553) (by decide +kernel) rfl
theorem k_525 : (Jvm.Cond.fieldLink "GuideSearchModel" (48 : Nat) "GuideSearchModel" "best" "[I") ∈ wg := wgm (i := 554) (by decide +kernel) rfl
theorem k_526 : (Jvm.Cond.fieldLink "GuideSearchModel" (51 : Nat) "GuideSearchModel" "digit" "[I") ∈ wg := wgm (i := 555) (by decide +kernel) rfl
theorem k_527 : (Jvm.Cond.fieldLink "GuideSearchModel" (54 : Nat) "GuideSearchModel" "weight" "[J") ∈ wg := wgm (i := 556) (by decide +kernel) rfl
theorem k_528 : (Jvm.Cond.fieldLink "GuideSearchModel" (57 : Nat) "GuideSearchModel" "wait" "[I") ∈ wg := wgm (i := 557) (by decide +kernel) rfl
theorem k_529 : (Jvm.Cond.fieldLink "GuideSearchModel" (60 : Nat) "GuideSearchModel" "by" "[I") ∈ wg := wgm (i := 558) (by decide +kernel) rfl
theorem k_530 : (Jvm.Cond.fieldLink "GuideSearchModel" (63 : Nat) "GuideSearchModel" "found" "[Z") ∈ wg := wgm (i := 559) (by decide +kernel) rfl
theorem k_531 : (Jvm.Cond.fieldLink "GuideSearchModel" (66 : Nat) "GuideSearchModel" "use" "[Z") ∈ wg := wgm (i := 560) (by decide +kernel) rfl
theorem k_532 : (Jvm.Cond.lays "GuideSearchModel" "GuideSearchModel" "code" "I") ∈ wg := wgm (i := 561) (by decide +kernel) rfl
theorem k_534 : (Jvm.Cond.lays "GuideSearchModel" "GuideSearchModel" "causes" "I") ∈ wg := wgm (i := 563) (by decide +kernel) rfl
theorem k_536 : (Jvm.Cond.lays "GuideSearchModel" "GuideSearchModel" "faults" "I") ∈ wg := wgm (i := 565) (by decide +kernel) rfl
theorem k_538 : (Jvm.Cond.laysFinal "GuideSearchModel" "GuideSearchModel" "one" "[I") ∈ wg := wgm (i := 567) (by decide +kernel) rfl
theorem k_540 : (Jvm.Cond.laysFinal "GuideSearchModel" "GuideSearchModel" "two" "[I") ∈ wg := wgm (i := 569) (by decide +kernel) rfl
theorem k_542 : (Jvm.Cond.laysFinal "GuideSearchModel" "GuideSearchModel" "prior" "[J") ∈ wg := wgm (i := 571) (by decide +kernel) rfl
theorem k_544 : (Jvm.Cond.laysFinal "GuideSearchModel" "GuideSearchModel" "learned" "[I") ∈ wg := wgm (i := 573) (by decide +kernel) rfl
theorem k_546 : (Jvm.Cond.lays "GuideSearchModel" "GuideSearchModel" "strangers" "I") ∈ wg := wgm (i := 575) (by decide +kernel) rfl
theorem k_548 : (Jvm.Cond.lays "GuideSearchModel" "GuideSearchModel" "tests" "I") ∈ wg := wgm (i := 577) (by decide +kernel) rfl
theorem k_550 : (Jvm.Cond.laysFinal "GuideSearchModel" "GuideSearchModel" "price" "[J") ∈ wg := wgm (i := 579) (by decide +kernel) rfl
theorem k_552 : (Jvm.Cond.laysFinal "GuideSearchModel" "GuideSearchModel" "needs" "[Z") ∈ wg := wgm (i := 581) (by decide +kernel) rfl
theorem k_554 : (Jvm.Cond.laysFinal "GuideSearchModel" "GuideSearchModel" "odds" "[I") ∈ wg := wgm (i := 583) (by decide +kernel) rfl
theorem k_556 : (Jvm.Cond.laysFinal "GuideSearchModel" "GuideSearchModel" "given" "[I") ∈ wg := wgm (i := 585) (by decide +kernel) rfl
theorem k_558 : (Jvm.Cond.lays "GuideSearchModel" "GuideSearchModel" "exact" "Z") ∈ wg := wgm (i := 587) (by decide +kernel) rfl
theorem k_560 : (Jvm.Cond.lays "GuideSearchModel" "GuideSearchModel" "cost" "J") ∈ wg := wgm (i := 589) (by decide +kernel) rfl
theorem k_562 : (Jvm.Cond.lays "GuideSearchModel" "GuideSearchModel" "nodes" "I") ∈ wg := wgm (i := 591) (by decide +kernel) rfl
theorem k_564 : (Jvm.Cond.laysFinal "GuideSearchModel" "GuideSearchModel" "node" "[I") ∈ wg := wgm (i := 593) (by decide +kernel) rfl
theorem k_566 : (Jvm.Cond.laysFinal "GuideSearchModel" "GuideSearchModel" "value" "[J") ∈ wg := wgm (i := 595) (by decide +kernel) rfl
theorem k_568 : (Jvm.Cond.laysFinal "GuideSearchModel" "GuideSearchModel" "best" "[I") ∈ wg := wgm (i := 597) (by decide +kernel) rfl
theorem k_570 : (Jvm.Cond.laysFinal "GuideSearchModel" "GuideSearchModel" "digit" "[I") ∈ wg := wgm (i := 599) (by decide +kernel) rfl
theorem k_572 : (Jvm.Cond.laysFinal "GuideSearchModel" "GuideSearchModel" "weight" "[J") ∈ wg := wgm (i := 601) (by decide +kernel) rfl
theorem k_574 : (Jvm.Cond.laysFinal "GuideSearchModel" "GuideSearchModel" "wait" "[I") ∈ wg := wgm (i := 603) (by decide +kernel) rfl
theorem k_576 : (Jvm.Cond.laysFinal "GuideSearchModel" "GuideSearchModel" "by" "[I") ∈ wg := wgm (i := 605) (by decide +kernel) rfl
theorem k_578 : (Jvm.Cond.laysFinal "GuideSearchModel" "GuideSearchModel" "found" "[Z") ∈ wg := wgm (i := 607) (by decide +kernel) rfl
theorem k_580 : (Jvm.Cond.laysFinal "GuideSearchModel" "GuideSearchModel" "use" "[Z") ∈ wg := wgm (i := 609) (by decide +kernel) rfl
theorem k_592 : (Jvm.Cond.constantLong "GuideSearchModel" (83 : Nat) (10 : Int64)) ∈ wg := wgm (i := 621) (by decide +kernel) rfl
theorem k_593 : (Jvm.Cond.constantLong "GuideSearchModel" (88 : Nat) (6350400 : Int64)) ∈ wg := wgm (i := 622) (by decide +kernel) rfl
theorem k_598 : (Jvm.Cond.methodLink "GuideSearchModel" (90 : Nat) ({ cls := "GuideSearchModel", name := "noFault", desc := "(I)Z" } : Jvm.MethodName)) ∈ wg := wgm (i := 627) (by decide +kernel) rfl
theorem k_600 : (Jvm.Cond.instanceMethod ({ cls := "GuideSearchModel", name := "noFault", desc := "(I)Z" } : Jvm.MethodName)) ∈ wg := wgm (i := 629) (by decide +kernel) rfl
set_option maxRecDepth 20000 in
theorem k_601 : (Jvm.Cond.code ({ cls := "GuideSearchModel", name := "noFault", desc := "(I)Z" } : Jvm.MethodName) prog_7_method_5_code (2 : Nat) (Option.some Jvm.ClassFile.FieldType.boolean)) ∈ wg := wgm (i := 630) rfl rfl
theorem k_602 : (Jvm.Cond.methodLink "GuideSearchModel" (79 : Nat) ({ cls := "GuideSearchModel", name := "noCause", desc := "(I)Z" } : Jvm.MethodName)) ∈ wg := wgm (i := 631) (by decide +kernel) rfl
theorem k_604 : (Jvm.Cond.instanceMethod ({ cls := "GuideSearchModel", name := "noCause", desc := "(I)Z" } : Jvm.MethodName)) ∈ wg := wgm (i := 633) (by decide +kernel) rfl
set_option maxRecDepth 20000 in
theorem k_605 : (Jvm.Cond.code ({ cls := "GuideSearchModel", name := "noCause", desc := "(I)Z" } : Jvm.MethodName) prog_7_method_4_code (2 : Nat) (Option.some Jvm.ClassFile.FieldType.boolean)) ∈ wg := wgm (i := 634) rfl rfl
theorem k_606 : (Jvm.Cond.constantLong "GuideSearchModel" (93 : Nat) (2520 : Int64)) ∈ wg := wgm (i := 635) (by decide +kernel) rfl
theorem k_611 : (Jvm.Cond.constantLong "GuideSearchModel" (95 : Nat) (400 : Int64)) ∈ wg := wgm (i := 640) (by decide +kernel) rfl
theorem k_616 : (Jvm.Cond.methodLink "GuideSearchModel" (97 : Nat) ({ cls := "GuideSearchModel", name := "noTest", desc := "(I)Z" } : Jvm.MethodName)) ∈ wg := wgm (i := 645) (by decide +kernel) rfl
theorem k_618 : (Jvm.Cond.instanceMethod ({ cls := "GuideSearchModel", name := "noTest", desc := "(I)Z" } : Jvm.MethodName)) ∈ wg := wgm (i := 647) (by decide +kernel) rfl
set_option maxRecDepth 20000 in
theorem k_619 : (Jvm.Cond.code ({ cls := "GuideSearchModel", name := "noTest", desc := "(I)Z" } : Jvm.MethodName) prog_7_method_3_code (2 : Nat) (Option.some Jvm.ClassFile.FieldType.boolean)) ∈ wg := wgm (i := 648) rfl rfl
theorem k_620 : (Jvm.Cond.constantLong "GuideSearchModel" (100 : Nat) (12 : Int64)) ∈ wg := wgm (i := 649) (by decide +kernel) rfl
theorem k_621 : (Jvm.Cond.methodLink "GuideSearchModel" (102 : Nat) ({ cls := "GuideSearchModel", name := "oddsOf", desc := "(III)I" } : Jvm.MethodName)) ∈ wg := wgm (i := 650) (by decide +kernel) rfl
theorem k_623 : (Jvm.Cond.instanceMethod ({ cls := "GuideSearchModel", name := "oddsOf", desc := "(III)I" } : Jvm.MethodName)) ∈ wg := wgm (i := 652) (by decide +kernel) rfl
set_option maxRecDepth 20000 in
theorem k_624 : (Jvm.Cond.code ({ cls := "GuideSearchModel", name := "oddsOf", desc := "(III)I" } : Jvm.MethodName) prog_7_method_9_code (4 : Nat) (Option.some Jvm.ClassFile.FieldType.int)) ∈ wg := wgm (i := 653) rfl rfl
theorem k_633 : (Jvm.Cond.methodLink "GuideSearchModel" (133 : Nat) ({ cls := "GuideSearchModel", name := "stateNow", desc := "()I" } : Jvm.MethodName)) ∈ wg := wgm (i := 662) (by decide +kernel) rfl
theorem k_635 : (Jvm.Cond.instanceMethod ({ cls := "GuideSearchModel", name := "stateNow", desc := "()I" } : Jvm.MethodName)) ∈ wg := wgm (i := 664) (by decide +kernel) rfl
set_option maxRecDepth 20000 in
theorem k_636 : (Jvm.Cond.code ({ cls := "GuideSearchModel", name := "stateNow", desc := "()I" } : Jvm.MethodName) prog_7_method_13_code (3 : Nat) (Option.some Jvm.ClassFile.FieldType.int)) ∈ wg := wgm (i := 665) rfl rfl
theorem k_637 : (Jvm.Cond.constantLong "GuideSearchModel" (136 : Nat) (4 : Int64)) ∈ wg := wgm (i := 666) (by decide +kernel) rfl
theorem k_638 : (Jvm.Cond.methodLink "GuideSearchModel" (145 : Nat) ({ cls := "GuideSearchModel", name := "oneStep", desc := "(I)I" } : Jvm.MethodName)) ∈ wg := wgm (i := 667) (by decide +kernel) rfl
theorem k_640 : (Jvm.Cond.instanceMethod ({ cls := "GuideSearchModel", name := "oneStep", desc := "(I)I" } : Jvm.MethodName)) ∈ wg := wgm (i := 669) (by decide +kernel) rfl
set_option maxRecDepth 20000 in
theorem k_641 : (Jvm.Cond.code ({ cls := "GuideSearchModel", name := "oneStep", desc := "(I)I" } : Jvm.MethodName) prog_7_method_28_code (5 : Nat) (Option.some Jvm.ClassFile.FieldType.int)) ∈ wg := wgm (i := 670) rfl rfl
theorem k_642 : (Jvm.Cond.methodLink "GuideSearchModel" (109 : Nat) ({ cls := "GuideSearchModel", name := "look", desc := "(I)V" } : Jvm.MethodName)) ∈ wg := wgm (i := 671) (by decide +kernel) rfl
theorem k_644 : (Jvm.Cond.instanceMethod ({ cls := "GuideSearchModel", name := "look", desc := "(I)V" } : Jvm.MethodName)) ∈ wg := wgm (i := 673) (by decide +kernel) rfl
set_option maxRecDepth 20000 in
theorem k_645 : (Jvm.Cond.code ({ cls := "GuideSearchModel", name := "look", desc := "(I)V" } : Jvm.MethodName) prog_7_method_12_code (6 : Nat) (Option.none : Option Jvm.ClassFile.FieldType)) ∈ wg := wgm (i := 674) rfl rfl
theorem k_646 : (Jvm.Cond.methodLink "GuideSearchModel" (113 : Nat) ({ cls := "GuideSearchModel", name := "left", desc := "()I" } : Jvm.MethodName)) ∈ wg := wgm (i := 675) (by decide +kernel) rfl
theorem k_648 : (Jvm.Cond.instanceMethod ({ cls := "GuideSearchModel", name := "left", desc := "()I" } : Jvm.MethodName)) ∈ wg := wgm (i := 677) (by decide +kernel) rfl
set_option maxRecDepth 20000 in
theorem k_649 : (Jvm.Cond.code ({ cls := "GuideSearchModel", name := "left", desc := "()I" } : Jvm.MethodName) prog_7_method_17_code (3 : Nat) (Option.some Jvm.ClassFile.FieldType.int)) ∈ wg := wgm (i := 678) rfl rfl
theorem k_650 : (Jvm.Cond.methodLink "GuideSearchModel" (123 : Nat) ({ cls := "GuideSearchModel", name := "findUse", desc := "()V" } : Jvm.MethodName)) ∈ wg := wgm (i := 679) (by decide +kernel) rfl
theorem k_652 : (Jvm.Cond.instanceMethod ({ cls := "GuideSearchModel", name := "findUse", desc := "()V" } : Jvm.MethodName)) ∈ wg := wgm (i := 681) (by decide +kernel) rfl
set_option maxRecDepth 20000 in
theorem k_653 : (Jvm.Cond.code ({ cls := "GuideSearchModel", name := "findUse", desc := "()V" } : Jvm.MethodName) prog_7_method_19_code (6 : Nat) (Option.none : Option Jvm.ClassFile.FieldType)) ∈ wg := wgm (i := 682) rfl rfl
theorem k_654 : (Jvm.Cond.methodLink "GuideSearchModel" (106 : Nat) ({ cls := "GuideSearchModel", name := "may", desc := "(I)Z" } : Jvm.MethodName)) ∈ wg := wgm (i := 683) (by decide +kernel) rfl
theorem k_656 : (Jvm.Cond.instanceMethod ({ cls := "GuideSearchModel", name := "may", desc := "(I)Z" } : Jvm.MethodName)) ∈ wg := wgm (i := 685) (by decide +kernel) rfl
set_option maxRecDepth 20000 in
theorem k_657 : (Jvm.Cond.code ({ cls := "GuideSearchModel", name := "may", desc := "(I)Z" } : Jvm.MethodName) prog_7_method_18_code (4 : Nat) (Option.some Jvm.ClassFile.FieldType.boolean)) ∈ wg := wgm (i := 686) rfl rfl
theorem k_658 : (Jvm.Cond.methodLink "GuideSearchModel" (126 : Nat) ({ cls := "GuideSearchModel", name := "free", desc := "()I" } : Jvm.MethodName)) ∈ wg := wgm (i := 687) (by decide +kernel) rfl
theorem k_660 : (Jvm.Cond.instanceMethod ({ cls := "GuideSearchModel", name := "free", desc := "()I" } : Jvm.MethodName)) ∈ wg := wgm (i := 689) (by decide +kernel) rfl
set_option maxRecDepth 20000 in
theorem k_661 : (Jvm.Cond.code ({ cls := "GuideSearchModel", name := "free", desc := "()I" } : Jvm.MethodName) prog_7_method_20_code (2 : Nat) (Option.some Jvm.ClassFile.FieldType.int)) ∈ wg := wgm (i := 690) rfl rfl
theorem k_662 : (Jvm.Cond.methodLink "GuideSearchModel" (174 : Nat) ({ cls := "GuideSearchModel", name := "gain", desc := "(II)J" } : Jvm.MethodName)) ∈ wg := wgm (i := 691) (by decide +kernel) rfl
theorem k_664 : (Jvm.Cond.instanceMethod ({ cls := "GuideSearchModel", name := "gain", desc := "(II)J" } : Jvm.MethodName)) ∈ wg := wgm (i := 693) (by decide +kernel) rfl
set_option maxRecDepth 20000 in
theorem k_665 : (Jvm.Cond.code ({ cls := "GuideSearchModel", name := "gain", desc := "(II)J" } : Jvm.MethodName) prog_7_method_27_code (6 : Nat) (Option.some Jvm.ClassFile.FieldType.long)) ∈ wg := wgm (i := 694) rfl rfl
theorem k_666 : (Jvm.Cond.methodLink "GuideSearchModel" (171 : Nat) ({ cls := "GuideSearchModel", name := "most", desc := "()J" } : Jvm.MethodName)) ∈ wg := wgm (i := 695) (by decide +kernel) rfl
theorem k_668 : (Jvm.Cond.instanceMethod ({ cls := "GuideSearchModel", name := "most", desc := "()J" } : Jvm.MethodName)) ∈ wg := wgm (i := 697) (by decide +kernel) rfl
set_option maxRecDepth 20000 in
theorem k_669 : (Jvm.Cond.code ({ cls := "GuideSearchModel", name := "most", desc := "()J" } : Jvm.MethodName) prog_7_method_16_code (4 : Nat) (Option.some Jvm.ClassFile.FieldType.long)) ∈ wg := wgm (i := 698) rfl rfl
theorem k_670 : (Jvm.Cond.methodLink "GuideSearchModel" (129 : Nat) ({ cls := "GuideSearchModel", name := "unit", desc := "(I)I" } : Jvm.MethodName)) ∈ wg := wgm (i := 699) (by decide +kernel) rfl
theorem k_671 : (Jvm.Cond.static ({ cls := "GuideSearchModel", name := "unit", desc := "(I)I" } : Jvm.MethodName)) ∈ wg := wgm (i := 700) (by decide +kernel) rfl
set_option maxRecDepth 20000 in
theorem k_672 : (Jvm.Cond.code ({ cls := "GuideSearchModel", name := "unit", desc := "(I)I" } : Jvm.MethodName) prog_7_method_14_code (1 : Nat) (Option.some Jvm.ClassFile.FieldType.int)) ∈ wg := wgm (i := 701) rfl rfl
theorem k_673 : (Jvm.Cond.methodLink "GuideSearchModel" (148 : Nat) ({ cls := "GuideSearchModel", name := "answers", desc := "(I)I" } : Jvm.MethodName)) ∈ wg := wgm (i := 702) (by decide +kernel) rfl
theorem k_674 : (Jvm.Cond.static ({ cls := "GuideSearchModel", name := "answers", desc := "(I)I" } : Jvm.MethodName)) ∈ wg := wgm (i := 703) (by decide +kernel) rfl
set_option maxRecDepth 20000 in
theorem k_675 : (Jvm.Cond.code ({ cls := "GuideSearchModel", name := "answers", desc := "(I)I" } : Jvm.MethodName) prog_7_method_23_code (3 : Nat) (Option.some Jvm.ClassFile.FieldType.int)) ∈ wg := wgm (i := 704) rfl rfl
theorem k_676 : (Jvm.Cond.methodLink "GuideSearchModel" (151 : Nat) ({ cls := "GuideSearchModel", name := "isBehind", desc := "(II)Z" } : Jvm.MethodName)) ∈ wg := wgm (i := 705) (by decide +kernel) rfl
theorem k_678 : (Jvm.Cond.instanceMethod ({ cls := "GuideSearchModel", name := "isBehind", desc := "(II)Z" } : Jvm.MethodName)) ∈ wg := wgm (i := 707) (by decide +kernel) rfl
set_option maxRecDepth 20000 in
theorem k_679 : (Jvm.Cond.code ({ cls := "GuideSearchModel", name := "isBehind", desc := "(II)Z" } : Jvm.MethodName) prog_7_method_22_code (7 : Nat) (Option.some Jvm.ClassFile.FieldType.boolean)) ∈ wg := wgm (i := 708) rfl rfl
theorem k_680 : (Jvm.Cond.methodLink "GuideSearchModel" (155 : Nat) ({ cls := "GuideSearchModel", name := "find", desc := "(I)V" } : Jvm.MethodName)) ∈ wg := wgm (i := 709) (by decide +kernel) rfl
theorem k_682 : (Jvm.Cond.instanceMethod ({ cls := "GuideSearchModel", name := "find", desc := "(I)V" } : Jvm.MethodName)) ∈ wg := wgm (i := 711) (by decide +kernel) rfl
set_option maxRecDepth 20000 in
theorem k_683 : (Jvm.Cond.code ({ cls := "GuideSearchModel", name := "find", desc := "(I)V" } : Jvm.MethodName) prog_7_method_21_code (10 : Nat) (Option.none : Option Jvm.ClassFile.FieldType)) ∈ wg := wgm (i := 712) rfl rfl
theorem k_684 : (Jvm.Cond.methodLink "GuideSearchModel" (117 : Nat) ({ cls := "GuideSearchModel", name := "sum", desc := "()J" } : Jvm.MethodName)) ∈ wg := wgm (i := 713) (by decide +kernel) rfl
theorem k_686 : (Jvm.Cond.instanceMethod ({ cls := "GuideSearchModel", name := "sum", desc := "()J" } : Jvm.MethodName)) ∈ wg := wgm (i := 715) (by decide +kernel) rfl
set_option maxRecDepth 20000 in
theorem k_687 : (Jvm.Cond.code ({ cls := "GuideSearchModel", name := "sum", desc := "()J" } : Jvm.MethodName) prog_7_method_15_code (4 : Nat) (Option.some Jvm.ClassFile.FieldType.long)) ∈ wg := wgm (i := 716) rfl rfl
theorem k_688 : (Jvm.Cond.constantLong "GuideSearchModel" (121 : Nat) (300 : Int64)) ∈ wg := wgm (i := 717) (by decide +kernel) rfl
theorem k_689 : (Jvm.Cond.methodLink "GuideSearchModel" (158 : Nat) ({ cls := "GuideSearchModel", name := "thousandth", desc := "(JJ)J" } : Jvm.MethodName)) ∈ wg := wgm (i := 718) (by decide +kernel) rfl
theorem k_690 : (Jvm.Cond.static ({ cls := "GuideSearchModel", name := "thousandth", desc := "(JJ)J" } : Jvm.MethodName)) ∈ wg := wgm (i := 719) (by decide +kernel) rfl
set_option maxRecDepth 20000 in
theorem k_691 : (Jvm.Cond.code ({ cls := "GuideSearchModel", name := "thousandth", desc := "(JJ)J" } : Jvm.MethodName) prog_7_method_25_code (10 : Nat) (Option.some Jvm.ClassFile.FieldType.long)) ∈ wg := wgm (i := 720) rfl rfl
theorem k_692 : (Jvm.Cond.constantLong "GuideSearchModel" (165 : Nat) (1000 : Int64)) ∈ wg := wgm (i := 721) (by decide +kernel) rfl
theorem k_693 : (Jvm.Cond.constantLong "GuideSearchModel" (167 : Nat) (8 : Int64)) ∈ wg := wgm (i := 722) (by decide +kernel) rfl
theorem k_694 : (Jvm.Cond.constantLong "GuideSearchModel" (169 : Nat) (125 : Int64)) ∈ wg := wgm (i := 723) (by decide +kernel) rfl
theorem k_695 : (Jvm.Cond.methodLink "GuideSearchModel" (162 : Nat) ({ cls := "GuideSearchModel", name := "write", desc := "(I)V" } : Jvm.MethodName)) ∈ wg := wgm (i := 724) (by decide +kernel) rfl
theorem k_697 : (Jvm.Cond.instanceMethod ({ cls := "GuideSearchModel", name := "write", desc := "(I)V" } : Jvm.MethodName)) ∈ wg := wgm (i := 726) (by decide +kernel) rfl
set_option maxRecDepth 20000 in
theorem k_698 : (Jvm.Cond.code ({ cls := "GuideSearchModel", name := "write", desc := "(I)V" } : Jvm.MethodName) prog_7_method_26_code (6 : Nat) (Option.none : Option Jvm.ClassFile.FieldType)) ∈ wg := wgm (i := 727) rfl rfl
theorem k_707 : (Jvm.Cond.methodLink "GuideSearchModel" (178 : Nat) ({ cls := "GuideSearchModel", name := "common", desc := "(JJ)J" } : Jvm.MethodName)) ∈ wg := wgm (i := 736) (by decide +kernel) rfl
theorem k_708 : (Jvm.Cond.static ({ cls := "GuideSearchModel", name := "common", desc := "(JJ)J" } : Jvm.MethodName)) ∈ wg := wgm (i := 737) (by decide +kernel) rfl
set_option maxRecDepth 20000 in
theorem k_709 : (Jvm.Cond.code ({ cls := "GuideSearchModel", name := "common", desc := "(JJ)J" } : Jvm.MethodName) prog_7_method_30_code (10 : Nat) (Option.some Jvm.ClassFile.FieldType.long)) ∈ wg := wgm (i := 738) rfl rfl
theorem ks_0 : Cond.selects "GuideSearch$Tests" ⟨"GuideSearch$Tests", "hasPlace", "(II)Z"⟩ ⟨"GuideSearch$Tests", "hasPlace", "(II)Z"⟩ ∈ wg := wgm (i := 0) (by decide +kernel) rfl
theorem ks_1 : Cond.selects "GuideSearch$Plan" ⟨"GuideSearch$Plan", "weighFirst", "(I)V"⟩ ⟨"GuideSearch$Plan", "weighFirst", "(I)V"⟩ ∈ wg := wgm (i := 1) (by decide +kernel) rfl
theorem ks_2 : Cond.selects "GuideSearch$Plan" ⟨"GuideSearch$Plan", "choose", "(II)V"⟩ ⟨"GuideSearch$Plan", "choose", "(II)V"⟩ ∈ wg := wgm (i := 2) (by decide +kernel) rfl
theorem ks_3 : Cond.selects "GuideSearch$Plan" ⟨"GuideSearch$Plan", "leftAt", "(I)I"⟩ ⟨"GuideSearch$Plan", "leftAt", "(I)I"⟩ ∈ wg := wgm (i := 3) (by decide +kernel) rfl
theorem ks_4 : Cond.selects "GuideSearch$Plan" ⟨"GuideSearch$Plan", "weightAt", "(I)J"⟩ ⟨"GuideSearch$Plan", "weightAt", "(I)J"⟩ ∈ wg := wgm (i := 4) (by decide +kernel) rfl
theorem ks_5 : Cond.selects "GuideSearch$Plan" ⟨"GuideSearch$Plan", "valuesBehind", "(III)J"⟩ ⟨"GuideSearch$Plan", "valuesBehind", "(III)J"⟩ ∈ wg := wgm (i := 5) (by decide +kernel) rfl
theorem ks_6 : Cond.selects "GuideSearch$Plan" ⟨"GuideSearch$Plan", "weighBehind", "(III)V"⟩ ⟨"GuideSearch$Plan", "weighBehind", "(III)V"⟩ ∈ wg := wgm (i := 6) (by decide +kernel) rfl
theorem ks_7 : Cond.selects "GuideSearch$Plan" ⟨"GuideSearch$Plan", "keep", "(III)V"⟩ ⟨"GuideSearch$Plan", "keep", "(III)V"⟩ ∈ wg := wgm (i := 7) (by decide +kernel) rfl
theorem ks_8 : Cond.selects "GuideSearch$Cases" ⟨"GuideSearch$Cases", "bestGain", "(II)I"⟩ ⟨"GuideSearch$Cases", "bestGain", "(II)I"⟩ ∈ wg := wgm (i := 8) (by decide +kernel) rfl
theorem ks_9 : Cond.selects "GuideSearch$Cases" ⟨"GuideSearch$Cases", "gain", "(II)J"⟩ ⟨"GuideSearch$Cases", "gain", "(II)J"⟩ ∈ wg := wgm (i := 9) (by decide +kernel) rfl
theorem ks_10 : Cond.selects "GuideSearch$Cases" ⟨"GuideSearch$Cases", "greatestWeight", "(I)J"⟩ ⟨"GuideSearch$Cases", "greatestWeight", "(I)J"⟩ ∈ wg := wgm (i := 10) (by decide +kernel) rfl
theorem ks_12 : Cond.selects "GuideSearchModel" ⟨"GuideSearchModel", "noFault", "(I)Z"⟩ ⟨"GuideSearchModel", "noFault", "(I)Z"⟩ ∈ wg := wgm (i := 12) (by decide +kernel) rfl
theorem ks_13 : Cond.selects "GuideSearchModel" ⟨"GuideSearchModel", "noCause", "(I)Z"⟩ ⟨"GuideSearchModel", "noCause", "(I)Z"⟩ ∈ wg := wgm (i := 13) (by decide +kernel) rfl
theorem ks_14 : Cond.selects "GuideSearchModel" ⟨"GuideSearchModel", "noTest", "(I)Z"⟩ ⟨"GuideSearchModel", "noTest", "(I)Z"⟩ ∈ wg := wgm (i := 14) (by decide +kernel) rfl
theorem ks_15 : Cond.selects "GuideSearchModel" ⟨"GuideSearchModel", "oddsOf", "(III)I"⟩ ⟨"GuideSearchModel", "oddsOf", "(III)I"⟩ ∈ wg := wgm (i := 15) (by decide +kernel) rfl
theorem ks_16 : Cond.selects "GuideSearchModel" ⟨"GuideSearchModel", "stateNow", "()I"⟩ ⟨"GuideSearchModel", "stateNow", "()I"⟩ ∈ wg := wgm (i := 16) (by decide +kernel) rfl
theorem ks_17 : Cond.selects "GuideSearchModel" ⟨"GuideSearchModel", "oneStep", "(I)I"⟩ ⟨"GuideSearchModel", "oneStep", "(I)I"⟩ ∈ wg := wgm (i := 17) (by decide +kernel) rfl
theorem ks_18 : Cond.selects "GuideSearchModel" ⟨"GuideSearchModel", "look", "(I)V"⟩ ⟨"GuideSearchModel", "look", "(I)V"⟩ ∈ wg := wgm (i := 18) (by decide +kernel) rfl
theorem ks_19 : Cond.selects "GuideSearchModel" ⟨"GuideSearchModel", "left", "()I"⟩ ⟨"GuideSearchModel", "left", "()I"⟩ ∈ wg := wgm (i := 19) (by decide +kernel) rfl
theorem ks_20 : Cond.selects "GuideSearchModel" ⟨"GuideSearchModel", "findUse", "()V"⟩ ⟨"GuideSearchModel", "findUse", "()V"⟩ ∈ wg := wgm (i := 20) (by decide +kernel) rfl
theorem ks_21 : Cond.selects "GuideSearchModel" ⟨"GuideSearchModel", "may", "(I)Z"⟩ ⟨"GuideSearchModel", "may", "(I)Z"⟩ ∈ wg := wgm (i := 21) (by decide +kernel) rfl
theorem ks_22 : Cond.selects "GuideSearchModel" ⟨"GuideSearchModel", "free", "()I"⟩ ⟨"GuideSearchModel", "free", "()I"⟩ ∈ wg := wgm (i := 22) (by decide +kernel) rfl
theorem ks_23 : Cond.selects "GuideSearchModel" ⟨"GuideSearchModel", "gain", "(II)J"⟩ ⟨"GuideSearchModel", "gain", "(II)J"⟩ ∈ wg := wgm (i := 23) (by decide +kernel) rfl
theorem ks_24 : Cond.selects "GuideSearchModel" ⟨"GuideSearchModel", "most", "()J"⟩ ⟨"GuideSearchModel", "most", "()J"⟩ ∈ wg := wgm (i := 24) (by decide +kernel) rfl
theorem ks_25 : Cond.selects "GuideSearchModel" ⟨"GuideSearchModel", "isBehind", "(II)Z"⟩ ⟨"GuideSearchModel", "isBehind", "(II)Z"⟩ ∈ wg := wgm (i := 25) (by decide +kernel) rfl
theorem ks_26 : Cond.selects "GuideSearchModel" ⟨"GuideSearchModel", "find", "(I)V"⟩ ⟨"GuideSearchModel", "find", "(I)V"⟩ ∈ wg := wgm (i := 26) (by decide +kernel) rfl
theorem ks_27 : Cond.selects "GuideSearchModel" ⟨"GuideSearchModel", "sum", "()J"⟩ ⟨"GuideSearchModel", "sum", "()J"⟩ ∈ wg := wgm (i := 27) (by decide +kernel) rfl
theorem ks_28 : Cond.selects "GuideSearchModel" ⟨"GuideSearchModel", "write", "(I)V"⟩ ⟨"GuideSearchModel", "write", "(I)V"⟩ ∈ wg := wgm (i := 28) (by decide +kernel) rfl
set_option maxRecDepth 20000 in
theorem i_G : ∀ w ∈ u_ws "GuideSearch" F_G 6, w ∈ wg := by
  have h : u_ws "GuideSearch" F_G 6 = [(Jvm.Cond.laysFinal "GuideSearch" "GuideSearch" "causes" "LGuideSearch$Causes;"), (Jvm.Cond.laysFinal "GuideSearch" "GuideSearch" "tests" "LGuideSearch$Tests;"), (Jvm.Cond.laysFinal "GuideSearch" "GuideSearch" "cases" "LGuideSearch$Cases;"), (Jvm.Cond.laysFinal "GuideSearch" "GuideSearch" "plan" "LGuideSearch$Plan;"), (Jvm.Cond.lays "GuideSearch" "GuideSearch" "open" "I"), (Jvm.Cond.lays "GuideSearch" "GuideSearch" "planned" "Z")] := by decide +kernel
  rw [h]
  exact List.forall_mem_cons.mpr ⟨k_135, List.forall_mem_cons.mpr ⟨k_137, List.forall_mem_cons.mpr ⟨k_139, List.forall_mem_cons.mpr ⟨k_141, List.forall_mem_cons.mpr ⟨k_143, List.forall_mem_cons.mpr ⟨k_145, fun _ h => absurd h List.not_mem_nil⟩⟩⟩⟩⟩⟩
set_option maxRecDepth 20000 in
theorem i_C : ∀ w ∈ u_ws "GuideSearch$Causes" F_C 5, w ∈ wg := by
  have h : u_ws "GuideSearch$Causes" F_C 5 = [(Jvm.Cond.laysFinal "GuideSearch$Causes" "GuideSearch$Causes" "priors" "[J"), (Jvm.Cond.laysFinal "GuideSearch$Causes" "GuideSearch$Causes" "members" "[I"), (Jvm.Cond.laysFinal "GuideSearch$Causes" "GuideSearch$Causes" "learned" "[I"), (Jvm.Cond.lays "GuideSearch$Causes" "GuideSearch$Causes" "count" "I"), (Jvm.Cond.lays "GuideSearch$Causes" "GuideSearch$Causes" "faults" "I")] := by decide +kernel
  rw [h]
  exact List.forall_mem_cons.mpr ⟨k_36, List.forall_mem_cons.mpr ⟨k_38, List.forall_mem_cons.mpr ⟨k_40, List.forall_mem_cons.mpr ⟨k_42, List.forall_mem_cons.mpr ⟨k_44, fun _ h => absurd h List.not_mem_nil⟩⟩⟩⟩⟩
set_option maxRecDepth 20000 in
theorem i_T : ∀ w ∈ u_ws "GuideSearch$Tests" F_T 4, w ∈ wg := by
  have h : u_ws "GuideSearch$Tests" F_T 4 = [(Jvm.Cond.laysFinal "GuideSearch$Tests" "GuideSearch$Tests" "costs" "[I"), (Jvm.Cond.laysFinal "GuideSearch$Tests" "GuideSearch$Tests" "needed" "[I"), (Jvm.Cond.laysFinal "GuideSearch$Tests" "GuideSearch$Tests" "table" "[[I"), (Jvm.Cond.lays "GuideSearch$Tests" "GuideSearch$Tests" "count" "I")] := by decide +kernel
  rw [h]
  exact List.forall_mem_cons.mpr ⟨k_66, List.forall_mem_cons.mpr ⟨k_68, List.forall_mem_cons.mpr ⟨k_70, List.forall_mem_cons.mpr ⟨k_72, fun _ h => absurd h List.not_mem_nil⟩⟩⟩⟩
set_option maxRecDepth 20000 in
theorem i_K : ∀ w ∈ u_ws "GuideSearch$Cases" F_K 2, w ∈ wg := by
  have h : u_ws "GuideSearch$Cases" F_K 2 = [(Jvm.Cond.laysFinal "GuideSearch$Cases" "GuideSearch$Cases" "causes" "LGuideSearch$Causes;"), (Jvm.Cond.laysFinal "GuideSearch$Cases" "GuideSearch$Cases" "tests" "LGuideSearch$Tests;")] := by decide +kernel
  rw [h]
  exact List.forall_mem_cons.mpr ⟨k_84, List.forall_mem_cons.mpr ⟨k_86, fun _ h => absurd h List.not_mem_nil⟩⟩
set_option maxRecDepth 20000 in
theorem i_P : ∀ w ∈ u_ws "GuideSearch$Plan" F_P 9, w ∈ wg := by
  have h : u_ws "GuideSearch$Plan" F_P 9 = [(Jvm.Cond.laysFinal "GuideSearch$Plan" "GuideSearch$Plan" "cases" "LGuideSearch$Cases;"), (Jvm.Cond.laysFinal "GuideSearch$Plan" "GuideSearch$Plan" "values" "[J"), (Jvm.Cond.laysFinal "GuideSearch$Plan" "GuideSearch$Plan" "picks" "[B"), (Jvm.Cond.laysFinal "GuideSearch$Plan" "GuideSearch$Plan" "weights" "[[J"), (Jvm.Cond.laysFinal "GuideSearch$Plan" "GuideSearch$Plan" "nodeTests" "[B"), (Jvm.Cond.laysFinal "GuideSearch$Plan" "GuideSearch$Plan" "nodeLefts" "[B"), (Jvm.Cond.laysFinal "GuideSearch$Plan" "GuideSearch$Plan" "nodeAnswers" "[B"), (Jvm.Cond.lays "GuideSearch$Plan" "GuideSearch$Plan" "nodes" "I"), (Jvm.Cond.lays "GuideSearch$Plan" "GuideSearch$Plan" "thousandths" "J")] := by decide +kernel
  rw [h]
  exact List.forall_mem_cons.mpr ⟨k_109, List.forall_mem_cons.mpr ⟨k_111, List.forall_mem_cons.mpr ⟨k_113, List.forall_mem_cons.mpr ⟨k_115, List.forall_mem_cons.mpr ⟨k_117, List.forall_mem_cons.mpr ⟨k_119, List.forall_mem_cons.mpr ⟨k_121, List.forall_mem_cons.mpr ⟨k_123, List.forall_mem_cons.mpr ⟨k_125, fun _ h => absurd h List.not_mem_nil⟩⟩⟩⟩⟩⟩⟩⟩⟩
set_option maxRecDepth 20000 in
theorem i_M : ∀ w ∈ u_ws "GuideSearchModel" F_M 25, w ∈ wg := by
  have h : u_ws "GuideSearchModel" F_M 25 = [(Jvm.Cond.lays "GuideSearchModel" "GuideSearchModel" "code" "I"), (Jvm.Cond.lays "GuideSearchModel" "GuideSearchModel" "causes" "I"), (Jvm.Cond.lays "GuideSearchModel" "GuideSearchModel" "faults" "I"), (Jvm.Cond.laysFinal "GuideSearchModel" "GuideSearchModel" "one" "[I"), (Jvm.Cond.laysFinal "GuideSearchModel" "GuideSearchModel" "two" "[I"), (Jvm.Cond.laysFinal "GuideSearchModel" "GuideSearchModel" "prior" "[J"), (Jvm.Cond.laysFinal "GuideSearchModel" "GuideSearchModel" "learned" "[I"), (Jvm.Cond.lays "GuideSearchModel" "GuideSearchModel" "strangers" "I"), (Jvm.Cond.lays "GuideSearchModel" "GuideSearchModel" "tests" "I"), (Jvm.Cond.laysFinal "GuideSearchModel" "GuideSearchModel" "price" "[J"), (Jvm.Cond.laysFinal "GuideSearchModel" "GuideSearchModel" "needs" "[Z"), (Jvm.Cond.laysFinal "GuideSearchModel" "GuideSearchModel" "odds" "[I"), (Jvm.Cond.laysFinal "GuideSearchModel" "GuideSearchModel" "given" "[I"), (Jvm.Cond.lays "GuideSearchModel" "GuideSearchModel" "exact" "Z"), (Jvm.Cond.lays "GuideSearchModel" "GuideSearchModel" "cost" "J"), (Jvm.Cond.lays "GuideSearchModel" "GuideSearchModel" "nodes" "I"), (Jvm.Cond.laysFinal "GuideSearchModel" "GuideSearchModel" "node" "[I"), (Jvm.Cond.laysFinal "GuideSearchModel" "GuideSearchModel" "value" "[J"), (Jvm.Cond.laysFinal "GuideSearchModel" "GuideSearchModel" "best" "[I"), (Jvm.Cond.laysFinal "GuideSearchModel" "GuideSearchModel" "digit" "[I"), (Jvm.Cond.laysFinal "GuideSearchModel" "GuideSearchModel" "weight" "[J"), (Jvm.Cond.laysFinal "GuideSearchModel" "GuideSearchModel" "wait" "[I"), (Jvm.Cond.laysFinal "GuideSearchModel" "GuideSearchModel" "by" "[I"), (Jvm.Cond.laysFinal "GuideSearchModel" "GuideSearchModel" "found" "[Z"), (Jvm.Cond.laysFinal "GuideSearchModel" "GuideSearchModel" "use" "[Z")] := by decide +kernel
  rw [h]
  exact List.forall_mem_cons.mpr ⟨k_532, List.forall_mem_cons.mpr ⟨k_534, List.forall_mem_cons.mpr ⟨k_536, List.forall_mem_cons.mpr ⟨k_538, List.forall_mem_cons.mpr ⟨k_540, List.forall_mem_cons.mpr ⟨k_542, List.forall_mem_cons.mpr ⟨k_544, List.forall_mem_cons.mpr ⟨k_546, List.forall_mem_cons.mpr ⟨k_548, List.forall_mem_cons.mpr ⟨k_550, List.forall_mem_cons.mpr ⟨k_552, List.forall_mem_cons.mpr ⟨k_554, List.forall_mem_cons.mpr ⟨k_556, List.forall_mem_cons.mpr ⟨k_558, List.forall_mem_cons.mpr ⟨k_560, List.forall_mem_cons.mpr ⟨k_562, List.forall_mem_cons.mpr ⟨k_564, List.forall_mem_cons.mpr ⟨k_566, List.forall_mem_cons.mpr ⟨k_568, List.forall_mem_cons.mpr ⟨k_570, List.forall_mem_cons.mpr ⟨k_572, List.forall_mem_cons.mpr ⟨k_574, List.forall_mem_cons.mpr ⟨k_576, List.forall_mem_cons.mpr ⟨k_578, List.forall_mem_cons.mpr ⟨k_580, fun _ h => absurd h List.not_mem_nil⟩⟩⟩⟩⟩⟩⟩⟩⟩⟩⟩⟩⟩⟩⟩⟩⟩⟩⟩⟩⟩⟩⟩⟩⟩
end
section
abbrev XS : Type := Int32 × Int32 × Int32 × Int32 × (Nat → Int64) × (Nat → Int32) × (Nat → Int32) × Int32 × (Nat → Int32) × (Nat → Int32) × (Nat → Nat → Int32) × Int32 × Int64 × (Nat → Int64) × (Nat → Int32) × (Nat → Nat → Int64) × (Nat → Int32) × (Nat → Int32) × (Nat → Int32)
def x_opn (st : XS) : Int32 := st.1
def x_pla (st : XS) : Int32 := st.2.1
def x_cN (st : XS) : Int32 := st.2.2.1
def x_fN (st : XS) : Int32 := st.2.2.2.1
def x_pri (st : XS) : Nat → Int64 := st.2.2.2.2.1
def x_mem (st : XS) : Nat → Int32 := st.2.2.2.2.2.1
def x_lea (st : XS) : Nat → Int32 := st.2.2.2.2.2.2.1
def x_tN (st : XS) : Int32 := st.2.2.2.2.2.2.2.1
def x_cst (st : XS) : Nat → Int32 := st.2.2.2.2.2.2.2.2.1
def x_nee (st : XS) : Nat → Int32 := st.2.2.2.2.2.2.2.2.2.1
def x_tab (st : XS) : Nat → Nat → Int32 := st.2.2.2.2.2.2.2.2.2.2.1
def x_nod (st : XS) : Int32 := st.2.2.2.2.2.2.2.2.2.2.2.1
def x_tho (st : XS) : Int64 := st.2.2.2.2.2.2.2.2.2.2.2.2.1
def x_val (st : XS) : Nat → Int64 := st.2.2.2.2.2.2.2.2.2.2.2.2.2.1
def x_pic (st : XS) : Nat → Int32 := st.2.2.2.2.2.2.2.2.2.2.2.2.2.2.1
def x_wei (st : XS) : Nat → Nat → Int64 := st.2.2.2.2.2.2.2.2.2.2.2.2.2.2.2.1
def x_nT (st : XS) : Nat → Int32 := st.2.2.2.2.2.2.2.2.2.2.2.2.2.2.2.2.1
def x_nL (st : XS) : Nat → Int32 := st.2.2.2.2.2.2.2.2.2.2.2.2.2.2.2.2.2.1
def x_nA (st : XS) : Nat → Int32 := st.2.2.2.2.2.2.2.2.2.2.2.2.2.2.2.2.2.2
def x_opn_s (st : XS) (v : Int32) : XS := (v, st.2)
def x_pla_s (st : XS) (v : Int32) : XS := (st.1, v, st.2.2)
def x_cN_s (st : XS) (v : Int32) : XS := (st.1, st.2.1, v, st.2.2.2)
def x_fN_s (st : XS) (v : Int32) : XS := (st.1, st.2.1, st.2.2.1, v, st.2.2.2.2)
def x_pri_s (st : XS) (j : Nat) (v : Int64) : XS := (st.1, st.2.1, st.2.2.1, st.2.2.2.1, vp_updL (st.2.2.2.2.1) j v, st.2.2.2.2.2)
def x_pri_f (st : XS) (f : Nat → Int64) : XS := (st.1, st.2.1, st.2.2.1, st.2.2.2.1, f, st.2.2.2.2.2)
def x_mem_s (st : XS) (j : Nat) (v : Int32) : XS := (st.1, st.2.1, st.2.2.1, st.2.2.2.1, st.2.2.2.2.1, upd (st.2.2.2.2.2.1) j v, st.2.2.2.2.2.2)
def x_mem_f (st : XS) (f : Nat → Int32) : XS := (st.1, st.2.1, st.2.2.1, st.2.2.2.1, st.2.2.2.2.1, f, st.2.2.2.2.2.2)
def x_lea_s (st : XS) (j : Nat) (v : Int32) : XS := (st.1, st.2.1, st.2.2.1, st.2.2.2.1, st.2.2.2.2.1, st.2.2.2.2.2.1, upd (st.2.2.2.2.2.2.1) j v, st.2.2.2.2.2.2.2)
def x_lea_f (st : XS) (f : Nat → Int32) : XS := (st.1, st.2.1, st.2.2.1, st.2.2.2.1, st.2.2.2.2.1, st.2.2.2.2.2.1, f, st.2.2.2.2.2.2.2)
def x_tN_s (st : XS) (v : Int32) : XS := (st.1, st.2.1, st.2.2.1, st.2.2.2.1, st.2.2.2.2.1, st.2.2.2.2.2.1, st.2.2.2.2.2.2.1, v, st.2.2.2.2.2.2.2.2)
def x_cst_s (st : XS) (j : Nat) (v : Int32) : XS := (st.1, st.2.1, st.2.2.1, st.2.2.2.1, st.2.2.2.2.1, st.2.2.2.2.2.1, st.2.2.2.2.2.2.1, st.2.2.2.2.2.2.2.1, upd (st.2.2.2.2.2.2.2.2.1) j v, st.2.2.2.2.2.2.2.2.2)
def x_cst_f (st : XS) (f : Nat → Int32) : XS := (st.1, st.2.1, st.2.2.1, st.2.2.2.1, st.2.2.2.2.1, st.2.2.2.2.2.1, st.2.2.2.2.2.2.1, st.2.2.2.2.2.2.2.1, f, st.2.2.2.2.2.2.2.2.2)
def x_nee_s (st : XS) (j : Nat) (v : Int32) : XS := (st.1, st.2.1, st.2.2.1, st.2.2.2.1, st.2.2.2.2.1, st.2.2.2.2.2.1, st.2.2.2.2.2.2.1, st.2.2.2.2.2.2.2.1, st.2.2.2.2.2.2.2.2.1, upd (st.2.2.2.2.2.2.2.2.2.1) j v, st.2.2.2.2.2.2.2.2.2.2)
def x_nee_f (st : XS) (f : Nat → Int32) : XS := (st.1, st.2.1, st.2.2.1, st.2.2.2.1, st.2.2.2.2.1, st.2.2.2.2.2.1, st.2.2.2.2.2.2.1, st.2.2.2.2.2.2.2.1, st.2.2.2.2.2.2.2.2.1, f, st.2.2.2.2.2.2.2.2.2.2)
def x_tab_s (st : XS) (d j : Nat) (v : Int32) : XS := (st.1, st.2.1, st.2.2.1, st.2.2.2.1, st.2.2.2.2.1, st.2.2.2.2.2.1, st.2.2.2.2.2.2.1, st.2.2.2.2.2.2.2.1, st.2.2.2.2.2.2.2.2.1, st.2.2.2.2.2.2.2.2.2.1, fun i => if i = d then upd (st.2.2.2.2.2.2.2.2.2.2.1 d) j v else st.2.2.2.2.2.2.2.2.2.2.1 i, st.2.2.2.2.2.2.2.2.2.2.2)
def x_tab_f (st : XS) (d : Nat) (f : Nat → Int32) : XS := (st.1, st.2.1, st.2.2.1, st.2.2.2.1, st.2.2.2.2.1, st.2.2.2.2.2.1, st.2.2.2.2.2.2.1, st.2.2.2.2.2.2.2.1, st.2.2.2.2.2.2.2.2.1, st.2.2.2.2.2.2.2.2.2.1, fun i => if i = d then f else st.2.2.2.2.2.2.2.2.2.2.1 i, st.2.2.2.2.2.2.2.2.2.2.2)
def x_nod_s (st : XS) (v : Int32) : XS := (st.1, st.2.1, st.2.2.1, st.2.2.2.1, st.2.2.2.2.1, st.2.2.2.2.2.1, st.2.2.2.2.2.2.1, st.2.2.2.2.2.2.2.1, st.2.2.2.2.2.2.2.2.1, st.2.2.2.2.2.2.2.2.2.1, st.2.2.2.2.2.2.2.2.2.2.1, v, st.2.2.2.2.2.2.2.2.2.2.2.2)
def x_tho_s (st : XS) (v : Int64) : XS := (st.1, st.2.1, st.2.2.1, st.2.2.2.1, st.2.2.2.2.1, st.2.2.2.2.2.1, st.2.2.2.2.2.2.1, st.2.2.2.2.2.2.2.1, st.2.2.2.2.2.2.2.2.1, st.2.2.2.2.2.2.2.2.2.1, st.2.2.2.2.2.2.2.2.2.2.1, st.2.2.2.2.2.2.2.2.2.2.2.1, v, st.2.2.2.2.2.2.2.2.2.2.2.2.2)
def x_val_s (st : XS) (j : Nat) (v : Int64) : XS := (st.1, st.2.1, st.2.2.1, st.2.2.2.1, st.2.2.2.2.1, st.2.2.2.2.2.1, st.2.2.2.2.2.2.1, st.2.2.2.2.2.2.2.1, st.2.2.2.2.2.2.2.2.1, st.2.2.2.2.2.2.2.2.2.1, st.2.2.2.2.2.2.2.2.2.2.1, st.2.2.2.2.2.2.2.2.2.2.2.1, st.2.2.2.2.2.2.2.2.2.2.2.2.1, vp_updL (st.2.2.2.2.2.2.2.2.2.2.2.2.2.1) j v, st.2.2.2.2.2.2.2.2.2.2.2.2.2.2)
def x_val_f (st : XS) (f : Nat → Int64) : XS := (st.1, st.2.1, st.2.2.1, st.2.2.2.1, st.2.2.2.2.1, st.2.2.2.2.2.1, st.2.2.2.2.2.2.1, st.2.2.2.2.2.2.2.1, st.2.2.2.2.2.2.2.2.1, st.2.2.2.2.2.2.2.2.2.1, st.2.2.2.2.2.2.2.2.2.2.1, st.2.2.2.2.2.2.2.2.2.2.2.1, st.2.2.2.2.2.2.2.2.2.2.2.2.1, f, st.2.2.2.2.2.2.2.2.2.2.2.2.2.2)
def x_pic_s (st : XS) (j : Nat) (v : Int32) : XS := (st.1, st.2.1, st.2.2.1, st.2.2.2.1, st.2.2.2.2.1, st.2.2.2.2.2.1, st.2.2.2.2.2.2.1, st.2.2.2.2.2.2.2.1, st.2.2.2.2.2.2.2.2.1, st.2.2.2.2.2.2.2.2.2.1, st.2.2.2.2.2.2.2.2.2.2.1, st.2.2.2.2.2.2.2.2.2.2.2.1, st.2.2.2.2.2.2.2.2.2.2.2.2.1, st.2.2.2.2.2.2.2.2.2.2.2.2.2.1, upd (st.2.2.2.2.2.2.2.2.2.2.2.2.2.2.1) j v, st.2.2.2.2.2.2.2.2.2.2.2.2.2.2.2)
def x_pic_f (st : XS) (f : Nat → Int32) : XS := (st.1, st.2.1, st.2.2.1, st.2.2.2.1, st.2.2.2.2.1, st.2.2.2.2.2.1, st.2.2.2.2.2.2.1, st.2.2.2.2.2.2.2.1, st.2.2.2.2.2.2.2.2.1, st.2.2.2.2.2.2.2.2.2.1, st.2.2.2.2.2.2.2.2.2.2.1, st.2.2.2.2.2.2.2.2.2.2.2.1, st.2.2.2.2.2.2.2.2.2.2.2.2.1, st.2.2.2.2.2.2.2.2.2.2.2.2.2.1, f, st.2.2.2.2.2.2.2.2.2.2.2.2.2.2.2)
def x_wei_s (st : XS) (d j : Nat) (v : Int64) : XS := (st.1, st.2.1, st.2.2.1, st.2.2.2.1, st.2.2.2.2.1, st.2.2.2.2.2.1, st.2.2.2.2.2.2.1, st.2.2.2.2.2.2.2.1, st.2.2.2.2.2.2.2.2.1, st.2.2.2.2.2.2.2.2.2.1, st.2.2.2.2.2.2.2.2.2.2.1, st.2.2.2.2.2.2.2.2.2.2.2.1, st.2.2.2.2.2.2.2.2.2.2.2.2.1, st.2.2.2.2.2.2.2.2.2.2.2.2.2.1, st.2.2.2.2.2.2.2.2.2.2.2.2.2.2.1, fun i => if i = d then vp_updL (st.2.2.2.2.2.2.2.2.2.2.2.2.2.2.2.1 d) j v else st.2.2.2.2.2.2.2.2.2.2.2.2.2.2.2.1 i, st.2.2.2.2.2.2.2.2.2.2.2.2.2.2.2.2)
def x_wei_f (st : XS) (d : Nat) (f : Nat → Int64) : XS := (st.1, st.2.1, st.2.2.1, st.2.2.2.1, st.2.2.2.2.1, st.2.2.2.2.2.1, st.2.2.2.2.2.2.1, st.2.2.2.2.2.2.2.1, st.2.2.2.2.2.2.2.2.1, st.2.2.2.2.2.2.2.2.2.1, st.2.2.2.2.2.2.2.2.2.2.1, st.2.2.2.2.2.2.2.2.2.2.2.1, st.2.2.2.2.2.2.2.2.2.2.2.2.1, st.2.2.2.2.2.2.2.2.2.2.2.2.2.1, st.2.2.2.2.2.2.2.2.2.2.2.2.2.2.1, fun i => if i = d then f else st.2.2.2.2.2.2.2.2.2.2.2.2.2.2.2.1 i, st.2.2.2.2.2.2.2.2.2.2.2.2.2.2.2.2)
def x_nT_s (st : XS) (j : Nat) (v : Int32) : XS := (st.1, st.2.1, st.2.2.1, st.2.2.2.1, st.2.2.2.2.1, st.2.2.2.2.2.1, st.2.2.2.2.2.2.1, st.2.2.2.2.2.2.2.1, st.2.2.2.2.2.2.2.2.1, st.2.2.2.2.2.2.2.2.2.1, st.2.2.2.2.2.2.2.2.2.2.1, st.2.2.2.2.2.2.2.2.2.2.2.1, st.2.2.2.2.2.2.2.2.2.2.2.2.1, st.2.2.2.2.2.2.2.2.2.2.2.2.2.1, st.2.2.2.2.2.2.2.2.2.2.2.2.2.2.1, st.2.2.2.2.2.2.2.2.2.2.2.2.2.2.2.1, upd (st.2.2.2.2.2.2.2.2.2.2.2.2.2.2.2.2.1) j v, st.2.2.2.2.2.2.2.2.2.2.2.2.2.2.2.2.2)
def x_nT_f (st : XS) (f : Nat → Int32) : XS := (st.1, st.2.1, st.2.2.1, st.2.2.2.1, st.2.2.2.2.1, st.2.2.2.2.2.1, st.2.2.2.2.2.2.1, st.2.2.2.2.2.2.2.1, st.2.2.2.2.2.2.2.2.1, st.2.2.2.2.2.2.2.2.2.1, st.2.2.2.2.2.2.2.2.2.2.1, st.2.2.2.2.2.2.2.2.2.2.2.1, st.2.2.2.2.2.2.2.2.2.2.2.2.1, st.2.2.2.2.2.2.2.2.2.2.2.2.2.1, st.2.2.2.2.2.2.2.2.2.2.2.2.2.2.1, st.2.2.2.2.2.2.2.2.2.2.2.2.2.2.2.1, f, st.2.2.2.2.2.2.2.2.2.2.2.2.2.2.2.2.2)
def x_nL_s (st : XS) (j : Nat) (v : Int32) : XS := (st.1, st.2.1, st.2.2.1, st.2.2.2.1, st.2.2.2.2.1, st.2.2.2.2.2.1, st.2.2.2.2.2.2.1, st.2.2.2.2.2.2.2.1, st.2.2.2.2.2.2.2.2.1, st.2.2.2.2.2.2.2.2.2.1, st.2.2.2.2.2.2.2.2.2.2.1, st.2.2.2.2.2.2.2.2.2.2.2.1, st.2.2.2.2.2.2.2.2.2.2.2.2.1, st.2.2.2.2.2.2.2.2.2.2.2.2.2.1, st.2.2.2.2.2.2.2.2.2.2.2.2.2.2.1, st.2.2.2.2.2.2.2.2.2.2.2.2.2.2.2.1, st.2.2.2.2.2.2.2.2.2.2.2.2.2.2.2.2.1, upd (st.2.2.2.2.2.2.2.2.2.2.2.2.2.2.2.2.2.1) j v, st.2.2.2.2.2.2.2.2.2.2.2.2.2.2.2.2.2.2)
def x_nL_f (st : XS) (f : Nat → Int32) : XS := (st.1, st.2.1, st.2.2.1, st.2.2.2.1, st.2.2.2.2.1, st.2.2.2.2.2.1, st.2.2.2.2.2.2.1, st.2.2.2.2.2.2.2.1, st.2.2.2.2.2.2.2.2.1, st.2.2.2.2.2.2.2.2.2.1, st.2.2.2.2.2.2.2.2.2.2.1, st.2.2.2.2.2.2.2.2.2.2.2.1, st.2.2.2.2.2.2.2.2.2.2.2.2.1, st.2.2.2.2.2.2.2.2.2.2.2.2.2.1, st.2.2.2.2.2.2.2.2.2.2.2.2.2.2.1, st.2.2.2.2.2.2.2.2.2.2.2.2.2.2.2.1, st.2.2.2.2.2.2.2.2.2.2.2.2.2.2.2.2.1, f, st.2.2.2.2.2.2.2.2.2.2.2.2.2.2.2.2.2.2)
def x_nA_s (st : XS) (j : Nat) (v : Int32) : XS := (st.1, st.2.1, st.2.2.1, st.2.2.2.1, st.2.2.2.2.1, st.2.2.2.2.2.1, st.2.2.2.2.2.2.1, st.2.2.2.2.2.2.2.1, st.2.2.2.2.2.2.2.2.1, st.2.2.2.2.2.2.2.2.2.1, st.2.2.2.2.2.2.2.2.2.2.1, st.2.2.2.2.2.2.2.2.2.2.2.1, st.2.2.2.2.2.2.2.2.2.2.2.2.1, st.2.2.2.2.2.2.2.2.2.2.2.2.2.1, st.2.2.2.2.2.2.2.2.2.2.2.2.2.2.1, st.2.2.2.2.2.2.2.2.2.2.2.2.2.2.2.1, st.2.2.2.2.2.2.2.2.2.2.2.2.2.2.2.2.1, st.2.2.2.2.2.2.2.2.2.2.2.2.2.2.2.2.2.1, upd (st.2.2.2.2.2.2.2.2.2.2.2.2.2.2.2.2.2.2) j v)
def x_nA_f (st : XS) (f : Nat → Int32) : XS := (st.1, st.2.1, st.2.2.1, st.2.2.2.1, st.2.2.2.2.1, st.2.2.2.2.2.1, st.2.2.2.2.2.2.1, st.2.2.2.2.2.2.2.1, st.2.2.2.2.2.2.2.2.1, st.2.2.2.2.2.2.2.2.2.1, st.2.2.2.2.2.2.2.2.2.2.1, st.2.2.2.2.2.2.2.2.2.2.2.1, st.2.2.2.2.2.2.2.2.2.2.2.2.1, st.2.2.2.2.2.2.2.2.2.2.2.2.2.1, st.2.2.2.2.2.2.2.2.2.2.2.2.2.2.1, st.2.2.2.2.2.2.2.2.2.2.2.2.2.2.2.1, st.2.2.2.2.2.2.2.2.2.2.2.2.2.2.2.2.1, st.2.2.2.2.2.2.2.2.2.2.2.2.2.2.2.2.2.1, f)
def x_W (cs : Nat → ClassId) (a : Nat → Nat) (st : XS) : va_W := [
  (a 0, .inr (0, [.ref (a 1), .ref (a 5), .ref (a 15), .ref (a 16), .int (x_opn st), .int (x_pla st)])),
  (a 1, .inr (1, [.ref (a 2), .ref (a 3), .ref (a 4), .int (x_cN st), .int (x_fN st)])),
  (a 2, .inl (cs 0, 13, .inr (.inl (x_pri st)))),
  (a 3, .inl (cs 1, 13, .inl (x_mem st))),
  (a 4, .inl (cs 1, 13, .inl (x_lea st))),
  (a 5, .inr (2, [.ref (a 6), .ref (a 7), .ref (a 8), .int (x_tN st)])),
  (a 6, .inl (cs 1, 6, .inl (x_cst st))),
  (a 7, .inl (cs 1, 6, .inl (x_nee st))),
  (a 8, .inl (cs 3, 6, .inr (.inr (.inr (.inr (fun i => if i < 6 then some (a (9 + i)) else none)))))),
  (a 9, .inl (cs 1, 13, .inl (x_tab st 0))),
  (a 10, .inl (cs 1, 13, .inl (x_tab st 1))),
  (a 11, .inl (cs 1, 13, .inl (x_tab st 2))),
  (a 12, .inl (cs 1, 13, .inl (x_tab st 3))),
  (a 13, .inl (cs 1, 13, .inl (x_tab st 4))),
  (a 14, .inl (cs 1, 13, .inl (x_tab st 5))),
  (a 15, .inr (3, [.ref (a 1), .ref (a 5)])),
  (a 16, .inr (4, [.ref (a 15), .ref (a 17), .ref (a 18), .ref (a 19), .ref (a 26), .ref (a 27), .ref (a 28), .int (x_nod st), .long (x_tho st)])),
  (a 17, .inl (cs 0, 1024, .inr (.inl (x_val st)))),
  (a 18, .inl (cs 2, 1024, .inl (x_pic st))),
  (a 19, .inl (cs 4, 6, .inr (.inr (.inr (.inr (fun i => if i < 6 then some (a (20 + i)) else none)))))),
  (a 20, .inl (cs 0, 13, .inr (.inl (x_wei st 0)))),
  (a 21, .inl (cs 0, 13, .inr (.inl (x_wei st 1)))),
  (a 22, .inl (cs 0, 13, .inr (.inl (x_wei st 2)))),
  (a 23, .inl (cs 0, 13, .inr (.inl (x_wei st 3)))),
  (a 24, .inl (cs 0, 13, .inr (.inl (x_wei st 4)))),
  (a 25, .inl (cs 0, 13, .inr (.inl (x_wei st 5)))),
  (a 26, .inl (cs 2, 300, .inl (x_nT st))),
  (a 27, .inl (cs 2, 300, .inl (x_nL st))),
  (a 28, .inl (cs 2, 300, .inl (x_nA st)))]
def x_A (a : Nat → Nat) : Nat → Prop := fun q => ∃ k : Nat, k < 29 ∧ q = a k
theorem x_W_len (cs : Nat → ClassId) (a : Nat → Nat) (st : XS) : (x_W cs a st).length = 29 := rfl
theorem x_W_at (cs : Nat → ClassId) (a : Nat → Nat) (st : XS) : ∀ (k : Nat) (q : Nat × va_E), (x_W cs a st)[k]? = some q → k < 29 ∧ q.1 = a k := by
  intro k q h
  have hk : k < 29 := (List.getElem?_eq_some_iff.mp h).1
  refine ⟨hk, ?_⟩
  match k, hk with
  | 0, _ => cases h; rfl
  | 1, _ => cases h; rfl
  | 2, _ => cases h; rfl
  | 3, _ => cases h; rfl
  | 4, _ => cases h; rfl
  | 5, _ => cases h; rfl
  | 6, _ => cases h; rfl
  | 7, _ => cases h; rfl
  | 8, _ => cases h; rfl
  | 9, _ => cases h; rfl
  | 10, _ => cases h; rfl
  | 11, _ => cases h; rfl
  | 12, _ => cases h; rfl
  | 13, _ => cases h; rfl
  | 14, _ => cases h; rfl
  | 15, _ => cases h; rfl
  | 16, _ => cases h; rfl
  | 17, _ => cases h; rfl
  | 18, _ => cases h; rfl
  | 19, _ => cases h; rfl
  | 20, _ => cases h; rfl
  | 21, _ => cases h; rfl
  | 22, _ => cases h; rfl
  | 23, _ => cases h; rfl
  | 24, _ => cases h; rfl
  | 25, _ => cases h; rfl
  | 26, _ => cases h; rfl
  | 27, _ => cases h; rfl
  | 28, _ => cases h; rfl
theorem x_D {a : Nat → Nat} (hi : ∀ i j : Nat, i < 29 → j < 29 → a i = a j → i = j) (cs : Nat → ClassId) (st : XS) : va_D (x_A a) (x_W cs a st) :=
  ⟨fun i j p q hp hq e => by
    obtain ⟨h1, e1⟩ := x_W_at cs a st i p hp
    obtain ⟨h2, e2⟩ := x_W_at cs a st j q hq
    exact hi i j h1 h2 (by rw [← e1, ← e2, e]), fun k q h => ⟨k, x_W_at cs a st k q h⟩⟩
theorem x_fin {D : va_G} {cl : List vw_C} {cs : Nat → ClassId} {a : Nat → Nat} {st st2 : XS} {t : State} {H : Heap} (ht : t.heap = H) (e : st = st2) (hP : va_P D cl (x_W cs a st) H) : va_P D cl (x_W cs a st2) t.heap := by rw [ht, ← e]; exact hP
theorem x_opn_put (cs : Nat → ClassId) (a : Nat → Nat) (st : XS) (v : Int32) : (x_W cs a st).set 0 (a 0, .inr (0, ([.ref (a 1), .ref (a 5), .ref (a 15), .ref (a 16), .int (x_opn st), .int (x_pla st)] : List Value).set 4 (.int v))) = x_W cs a (x_opn_s st v) := by
  simp only [x_W, x_opn, x_pla, x_cN, x_fN, x_pri, x_mem, x_lea, x_tN, x_cst, x_nee, x_tab, x_nod, x_tho, x_val, x_pic, x_wei, x_nT, x_nL, x_nA, x_opn_s, List.set]
theorem x_pla_put (cs : Nat → ClassId) (a : Nat → Nat) (st : XS) (v : Int32) : (x_W cs a st).set 0 (a 0, .inr (0, ([.ref (a 1), .ref (a 5), .ref (a 15), .ref (a 16), .int (x_opn st), .int (x_pla st)] : List Value).set 5 (.int v))) = x_W cs a (x_pla_s st v) := by
  simp only [x_W, x_opn, x_pla, x_cN, x_fN, x_pri, x_mem, x_lea, x_tN, x_cst, x_nee, x_tab, x_nod, x_tho, x_val, x_pic, x_wei, x_nT, x_nL, x_nA, x_pla_s, List.set]
theorem x_cN_put (cs : Nat → ClassId) (a : Nat → Nat) (st : XS) (v : Int32) : (x_W cs a st).set 1 (a 1, .inr (1, ([.ref (a 2), .ref (a 3), .ref (a 4), .int (x_cN st), .int (x_fN st)] : List Value).set 3 (.int v))) = x_W cs a (x_cN_s st v) := by
  simp only [x_W, x_opn, x_pla, x_cN, x_fN, x_pri, x_mem, x_lea, x_tN, x_cst, x_nee, x_tab, x_nod, x_tho, x_val, x_pic, x_wei, x_nT, x_nL, x_nA, x_cN_s, List.set]
theorem x_fN_put (cs : Nat → ClassId) (a : Nat → Nat) (st : XS) (v : Int32) : (x_W cs a st).set 1 (a 1, .inr (1, ([.ref (a 2), .ref (a 3), .ref (a 4), .int (x_cN st), .int (x_fN st)] : List Value).set 4 (.int v))) = x_W cs a (x_fN_s st v) := by
  simp only [x_W, x_opn, x_pla, x_cN, x_fN, x_pri, x_mem, x_lea, x_tN, x_cst, x_nee, x_tab, x_nod, x_tho, x_val, x_pic, x_wei, x_nT, x_nL, x_nA, x_fN_s, List.set]
theorem x_pri_put (cs : Nat → ClassId) (a : Nat → Nat) (st : XS) (j : Nat) (v : Int64) : (x_W cs a st).set 2 (a 2, .inl (cs 0, 13, .inr (.inl (vp_updL (x_pri st) j v)))) = x_W cs a (x_pri_s st j v) := by
  simp only [x_W, x_opn, x_pla, x_cN, x_fN, x_pri, x_mem, x_lea, x_tN, x_cst, x_nee, x_tab, x_nod, x_tho, x_val, x_pic, x_wei, x_nT, x_nL, x_nA, x_pri_s, List.set]
theorem x_pri_all (cs : Nat → ClassId) (a : Nat → Nat) (st : XS) (f : Nat → Int64) : (x_W cs a st).set 2 (a 2, .inl (cs 0, 13, .inr (.inl (f)))) = x_W cs a (x_pri_f st f) := by
  simp only [x_W, x_opn, x_pla, x_cN, x_fN, x_pri, x_mem, x_lea, x_tN, x_cst, x_nee, x_tab, x_nod, x_tho, x_val, x_pic, x_wei, x_nT, x_nL, x_nA, x_pri_f, List.set]
theorem x_mem_put (cs : Nat → ClassId) (a : Nat → Nat) (st : XS) (j : Nat) (v : Int32) : (x_W cs a st).set 3 (a 3, .inl (cs 1, 13, .inl (upd (x_mem st) j v))) = x_W cs a (x_mem_s st j v) := by
  simp only [x_W, x_opn, x_pla, x_cN, x_fN, x_pri, x_mem, x_lea, x_tN, x_cst, x_nee, x_tab, x_nod, x_tho, x_val, x_pic, x_wei, x_nT, x_nL, x_nA, x_mem_s, List.set]
theorem x_mem_all (cs : Nat → ClassId) (a : Nat → Nat) (st : XS) (f : Nat → Int32) : (x_W cs a st).set 3 (a 3, .inl (cs 1, 13, .inl (f))) = x_W cs a (x_mem_f st f) := by
  simp only [x_W, x_opn, x_pla, x_cN, x_fN, x_pri, x_mem, x_lea, x_tN, x_cst, x_nee, x_tab, x_nod, x_tho, x_val, x_pic, x_wei, x_nT, x_nL, x_nA, x_mem_f, List.set]
theorem x_lea_put (cs : Nat → ClassId) (a : Nat → Nat) (st : XS) (j : Nat) (v : Int32) : (x_W cs a st).set 4 (a 4, .inl (cs 1, 13, .inl (upd (x_lea st) j v))) = x_W cs a (x_lea_s st j v) := by
  simp only [x_W, x_opn, x_pla, x_cN, x_fN, x_pri, x_mem, x_lea, x_tN, x_cst, x_nee, x_tab, x_nod, x_tho, x_val, x_pic, x_wei, x_nT, x_nL, x_nA, x_lea_s, List.set]
theorem x_lea_all (cs : Nat → ClassId) (a : Nat → Nat) (st : XS) (f : Nat → Int32) : (x_W cs a st).set 4 (a 4, .inl (cs 1, 13, .inl (f))) = x_W cs a (x_lea_f st f) := by
  simp only [x_W, x_opn, x_pla, x_cN, x_fN, x_pri, x_mem, x_lea, x_tN, x_cst, x_nee, x_tab, x_nod, x_tho, x_val, x_pic, x_wei, x_nT, x_nL, x_nA, x_lea_f, List.set]
theorem x_tN_put (cs : Nat → ClassId) (a : Nat → Nat) (st : XS) (v : Int32) : (x_W cs a st).set 5 (a 5, .inr (2, ([.ref (a 6), .ref (a 7), .ref (a 8), .int (x_tN st)] : List Value).set 3 (.int v))) = x_W cs a (x_tN_s st v) := by
  simp only [x_W, x_opn, x_pla, x_cN, x_fN, x_pri, x_mem, x_lea, x_tN, x_cst, x_nee, x_tab, x_nod, x_tho, x_val, x_pic, x_wei, x_nT, x_nL, x_nA, x_tN_s, List.set]
theorem x_cst_put (cs : Nat → ClassId) (a : Nat → Nat) (st : XS) (j : Nat) (v : Int32) : (x_W cs a st).set 6 (a 6, .inl (cs 1, 6, .inl (upd (x_cst st) j v))) = x_W cs a (x_cst_s st j v) := by
  simp only [x_W, x_opn, x_pla, x_cN, x_fN, x_pri, x_mem, x_lea, x_tN, x_cst, x_nee, x_tab, x_nod, x_tho, x_val, x_pic, x_wei, x_nT, x_nL, x_nA, x_cst_s, List.set]
theorem x_cst_all (cs : Nat → ClassId) (a : Nat → Nat) (st : XS) (f : Nat → Int32) : (x_W cs a st).set 6 (a 6, .inl (cs 1, 6, .inl (f))) = x_W cs a (x_cst_f st f) := by
  simp only [x_W, x_opn, x_pla, x_cN, x_fN, x_pri, x_mem, x_lea, x_tN, x_cst, x_nee, x_tab, x_nod, x_tho, x_val, x_pic, x_wei, x_nT, x_nL, x_nA, x_cst_f, List.set]
theorem x_nee_put (cs : Nat → ClassId) (a : Nat → Nat) (st : XS) (j : Nat) (v : Int32) : (x_W cs a st).set 7 (a 7, .inl (cs 1, 6, .inl (upd (x_nee st) j v))) = x_W cs a (x_nee_s st j v) := by
  simp only [x_W, x_opn, x_pla, x_cN, x_fN, x_pri, x_mem, x_lea, x_tN, x_cst, x_nee, x_tab, x_nod, x_tho, x_val, x_pic, x_wei, x_nT, x_nL, x_nA, x_nee_s, List.set]
theorem x_nee_all (cs : Nat → ClassId) (a : Nat → Nat) (st : XS) (f : Nat → Int32) : (x_W cs a st).set 7 (a 7, .inl (cs 1, 6, .inl (f))) = x_W cs a (x_nee_f st f) := by
  simp only [x_W, x_opn, x_pla, x_cN, x_fN, x_pri, x_mem, x_lea, x_tN, x_cst, x_nee, x_tab, x_nod, x_tho, x_val, x_pic, x_wei, x_nT, x_nL, x_nA, x_nee_f, List.set]
theorem x_nod_put (cs : Nat → ClassId) (a : Nat → Nat) (st : XS) (v : Int32) : (x_W cs a st).set 16 (a 16, .inr (4, ([.ref (a 15), .ref (a 17), .ref (a 18), .ref (a 19), .ref (a 26), .ref (a 27), .ref (a 28), .int (x_nod st), .long (x_tho st)] : List Value).set 7 (.int v))) = x_W cs a (x_nod_s st v) := by
  simp only [x_W, x_opn, x_pla, x_cN, x_fN, x_pri, x_mem, x_lea, x_tN, x_cst, x_nee, x_tab, x_nod, x_tho, x_val, x_pic, x_wei, x_nT, x_nL, x_nA, x_nod_s, List.set]
theorem x_tho_put (cs : Nat → ClassId) (a : Nat → Nat) (st : XS) (v : Int64) : (x_W cs a st).set 16 (a 16, .inr (4, ([.ref (a 15), .ref (a 17), .ref (a 18), .ref (a 19), .ref (a 26), .ref (a 27), .ref (a 28), .int (x_nod st), .long (x_tho st)] : List Value).set 8 (.long v))) = x_W cs a (x_tho_s st v) := by
  simp only [x_W, x_opn, x_pla, x_cN, x_fN, x_pri, x_mem, x_lea, x_tN, x_cst, x_nee, x_tab, x_nod, x_tho, x_val, x_pic, x_wei, x_nT, x_nL, x_nA, x_tho_s, List.set]
theorem x_val_put (cs : Nat → ClassId) (a : Nat → Nat) (st : XS) (j : Nat) (v : Int64) : (x_W cs a st).set 17 (a 17, .inl (cs 0, 1024, .inr (.inl (vp_updL (x_val st) j v)))) = x_W cs a (x_val_s st j v) := by
  simp only [x_W, x_opn, x_pla, x_cN, x_fN, x_pri, x_mem, x_lea, x_tN, x_cst, x_nee, x_tab, x_nod, x_tho, x_val, x_pic, x_wei, x_nT, x_nL, x_nA, x_val_s, List.set]
theorem x_val_all (cs : Nat → ClassId) (a : Nat → Nat) (st : XS) (f : Nat → Int64) : (x_W cs a st).set 17 (a 17, .inl (cs 0, 1024, .inr (.inl (f)))) = x_W cs a (x_val_f st f) := by
  simp only [x_W, x_opn, x_pla, x_cN, x_fN, x_pri, x_mem, x_lea, x_tN, x_cst, x_nee, x_tab, x_nod, x_tho, x_val, x_pic, x_wei, x_nT, x_nL, x_nA, x_val_f, List.set]
theorem x_pic_put (cs : Nat → ClassId) (a : Nat → Nat) (st : XS) (j : Nat) (v : Int32) : (x_W cs a st).set 18 (a 18, .inl (cs 2, 1024, .inl (upd (x_pic st) j v))) = x_W cs a (x_pic_s st j v) := by
  simp only [x_W, x_opn, x_pla, x_cN, x_fN, x_pri, x_mem, x_lea, x_tN, x_cst, x_nee, x_tab, x_nod, x_tho, x_val, x_pic, x_wei, x_nT, x_nL, x_nA, x_pic_s, List.set]
theorem x_pic_all (cs : Nat → ClassId) (a : Nat → Nat) (st : XS) (f : Nat → Int32) : (x_W cs a st).set 18 (a 18, .inl (cs 2, 1024, .inl (f))) = x_W cs a (x_pic_f st f) := by
  simp only [x_W, x_opn, x_pla, x_cN, x_fN, x_pri, x_mem, x_lea, x_tN, x_cst, x_nee, x_tab, x_nod, x_tho, x_val, x_pic, x_wei, x_nT, x_nL, x_nA, x_pic_f, List.set]
theorem x_nT_put (cs : Nat → ClassId) (a : Nat → Nat) (st : XS) (j : Nat) (v : Int32) : (x_W cs a st).set 26 (a 26, .inl (cs 2, 300, .inl (upd (x_nT st) j v))) = x_W cs a (x_nT_s st j v) := by
  simp only [x_W, x_opn, x_pla, x_cN, x_fN, x_pri, x_mem, x_lea, x_tN, x_cst, x_nee, x_tab, x_nod, x_tho, x_val, x_pic, x_wei, x_nT, x_nL, x_nA, x_nT_s, List.set]
theorem x_nT_all (cs : Nat → ClassId) (a : Nat → Nat) (st : XS) (f : Nat → Int32) : (x_W cs a st).set 26 (a 26, .inl (cs 2, 300, .inl (f))) = x_W cs a (x_nT_f st f) := by
  simp only [x_W, x_opn, x_pla, x_cN, x_fN, x_pri, x_mem, x_lea, x_tN, x_cst, x_nee, x_tab, x_nod, x_tho, x_val, x_pic, x_wei, x_nT, x_nL, x_nA, x_nT_f, List.set]
theorem x_nL_put (cs : Nat → ClassId) (a : Nat → Nat) (st : XS) (j : Nat) (v : Int32) : (x_W cs a st).set 27 (a 27, .inl (cs 2, 300, .inl (upd (x_nL st) j v))) = x_W cs a (x_nL_s st j v) := by
  simp only [x_W, x_opn, x_pla, x_cN, x_fN, x_pri, x_mem, x_lea, x_tN, x_cst, x_nee, x_tab, x_nod, x_tho, x_val, x_pic, x_wei, x_nT, x_nL, x_nA, x_nL_s, List.set]
theorem x_nL_all (cs : Nat → ClassId) (a : Nat → Nat) (st : XS) (f : Nat → Int32) : (x_W cs a st).set 27 (a 27, .inl (cs 2, 300, .inl (f))) = x_W cs a (x_nL_f st f) := by
  simp only [x_W, x_opn, x_pla, x_cN, x_fN, x_pri, x_mem, x_lea, x_tN, x_cst, x_nee, x_tab, x_nod, x_tho, x_val, x_pic, x_wei, x_nT, x_nL, x_nA, x_nL_f, List.set]
theorem x_nA_put (cs : Nat → ClassId) (a : Nat → Nat) (st : XS) (j : Nat) (v : Int32) : (x_W cs a st).set 28 (a 28, .inl (cs 2, 300, .inl (upd (x_nA st) j v))) = x_W cs a (x_nA_s st j v) := by
  simp only [x_W, x_opn, x_pla, x_cN, x_fN, x_pri, x_mem, x_lea, x_tN, x_cst, x_nee, x_tab, x_nod, x_tho, x_val, x_pic, x_wei, x_nT, x_nL, x_nA, x_nA_s, List.set]
theorem x_nA_all (cs : Nat → ClassId) (a : Nat → Nat) (st : XS) (f : Nat → Int32) : (x_W cs a st).set 28 (a 28, .inl (cs 2, 300, .inl (f))) = x_W cs a (x_nA_f st f) := by
  simp only [x_W, x_opn, x_pla, x_cN, x_fN, x_pri, x_mem, x_lea, x_tN, x_cst, x_nee, x_tab, x_nod, x_tho, x_val, x_pic, x_wei, x_nT, x_nL, x_nA, x_nA_f, List.set]
theorem x_tab_row (cs : Nat → ClassId) (a : Nat → Nat) (st : XS) {d : Nat} (h : d < 6) : (x_W cs a st)[9 + d]? = some (a (9 + d), .inl (cs 1, 13, .inl (x_tab st d))) := by
  match d, h with
  | 0, _ => rfl
  | 1, _ => rfl
  | 2, _ => rfl
  | 3, _ => rfl
  | 4, _ => rfl
  | 5, _ => rfl
theorem x_tab_set (cs : Nat → ClassId) (a : Nat → Nat) (st : XS) {d : Nat} (h : d < 6) (f : Nat → Int32) : (x_W cs a st).set (9 + d) (a (9 + d), .inl (cs 1, 13, .inl (f))) = x_W cs a (x_tab_f st d f) := by
  match d, h with
  | 0, _ => rfl
  | 1, _ => rfl
  | 2, _ => rfl
  | 3, _ => rfl
  | 4, _ => rfl
  | 5, _ => rfl
theorem x_tab_put (cs : Nat → ClassId) (a : Nat → Nat) (st : XS) {d : Nat} (h : d < 6) (j : Nat) (v : Int32) : (x_W cs a st).set (9 + d) (a (9 + d), .inl (cs 1, 13, .inl (upd (x_tab st d) j v))) = x_W cs a (x_tab_s st d j v) := x_tab_set cs a st h _
theorem x_wei_row (cs : Nat → ClassId) (a : Nat → Nat) (st : XS) {d : Nat} (h : d < 6) : (x_W cs a st)[20 + d]? = some (a (20 + d), .inl (cs 0, 13, .inr (.inl (x_wei st d)))) := by
  match d, h with
  | 0, _ => rfl
  | 1, _ => rfl
  | 2, _ => rfl
  | 3, _ => rfl
  | 4, _ => rfl
  | 5, _ => rfl
theorem x_wei_set (cs : Nat → ClassId) (a : Nat → Nat) (st : XS) {d : Nat} (h : d < 6) (f : Nat → Int64) : (x_W cs a st).set (20 + d) (a (20 + d), .inl (cs 0, 13, .inr (.inl (f)))) = x_W cs a (x_wei_f st d f) := by
  match d, h with
  | 0, _ => rfl
  | 1, _ => rfl
  | 2, _ => rfl
  | 3, _ => rfl
  | 4, _ => rfl
  | 5, _ => rfl
theorem x_wei_put (cs : Nat → ClassId) (a : Nat → Nat) (st : XS) {d : Nat} (h : d < 6) (j : Nat) (v : Int64) : (x_W cs a st).set (20 + d) (a (20 + d), .inl (cs 0, 13, .inr (.inl (vp_updL (x_wei st d) j v)))) = x_W cs a (x_wei_s st d j v) := x_wei_set cs a st h _
abbrev g_ty (cs : Nat → ClassId) : List (ClassId × FieldType) := [(cs 0, .long), (cs 1, .int), (cs 2, .byte), (cs 3, .array .int), (cs 4, .array .long), (cs 5, .boolean)]
abbrev x_pre (dC : Nat → ClassId) (dI : Nat → Nat → Nat) (cs : Nat → ClassId) (a : Nat → Nat) (st : XS) : State → Prop := fun U => va_P (dC, dI) vwCl (x_W cs a st) U.heap ∧ va_K (dC, dI) vwCl (g_ty cs) U ∧ NW U
end
section
abbrev MS : Type := Int32 × Int32 × Int32 × Int32 × Int32 × Int32 × Int64 × Int32 × (Nat → Int32) × (Nat → Int32) × (Nat → Int64) × (Nat → Int32) × (Nat → Int64) × (Nat → Int32) × (Nat → Int32) × (Nat → Int32) × (Nat → Int32) × (Nat → Int64) × (Nat → Int32) × (Nat → Int32) × (Nat → Int64) × (Nat → Int32) × (Nat → Int32) × (Nat → Int32) × (Nat → Int32)
def m_code (st : MS) : Int32 := st.1
def m_causes (st : MS) : Int32 := st.2.1
def m_faults (st : MS) : Int32 := st.2.2.1
def m_strangers (st : MS) : Int32 := st.2.2.2.1
def m_tests (st : MS) : Int32 := st.2.2.2.2.1
def m_exact (st : MS) : Int32 := st.2.2.2.2.2.1
def m_cost (st : MS) : Int64 := st.2.2.2.2.2.2.1
def m_nodes (st : MS) : Int32 := st.2.2.2.2.2.2.2.1
def m_one (st : MS) : Nat → Int32 := st.2.2.2.2.2.2.2.2.1
def m_two (st : MS) : Nat → Int32 := st.2.2.2.2.2.2.2.2.2.1
def m_prior (st : MS) : Nat → Int64 := st.2.2.2.2.2.2.2.2.2.2.1
def m_learned (st : MS) : Nat → Int32 := st.2.2.2.2.2.2.2.2.2.2.2.1
def m_price (st : MS) : Nat → Int64 := st.2.2.2.2.2.2.2.2.2.2.2.2.1
def m_needs (st : MS) : Nat → Int32 := st.2.2.2.2.2.2.2.2.2.2.2.2.2.1
def m_odds (st : MS) : Nat → Int32 := st.2.2.2.2.2.2.2.2.2.2.2.2.2.2.1
def m_given (st : MS) : Nat → Int32 := st.2.2.2.2.2.2.2.2.2.2.2.2.2.2.2.1
def m_node (st : MS) : Nat → Int32 := st.2.2.2.2.2.2.2.2.2.2.2.2.2.2.2.2.1
def m_value (st : MS) : Nat → Int64 := st.2.2.2.2.2.2.2.2.2.2.2.2.2.2.2.2.2.1
def m_best (st : MS) : Nat → Int32 := st.2.2.2.2.2.2.2.2.2.2.2.2.2.2.2.2.2.2.1
def m_digit (st : MS) : Nat → Int32 := st.2.2.2.2.2.2.2.2.2.2.2.2.2.2.2.2.2.2.2.1
def m_weight (st : MS) : Nat → Int64 := st.2.2.2.2.2.2.2.2.2.2.2.2.2.2.2.2.2.2.2.2.1
def m_wait (st : MS) : Nat → Int32 := st.2.2.2.2.2.2.2.2.2.2.2.2.2.2.2.2.2.2.2.2.2.1
def m_by (st : MS) : Nat → Int32 := st.2.2.2.2.2.2.2.2.2.2.2.2.2.2.2.2.2.2.2.2.2.2.1
def m_found (st : MS) : Nat → Int32 := st.2.2.2.2.2.2.2.2.2.2.2.2.2.2.2.2.2.2.2.2.2.2.2.1
def m_use (st : MS) : Nat → Int32 := st.2.2.2.2.2.2.2.2.2.2.2.2.2.2.2.2.2.2.2.2.2.2.2.2
def m_code_s (st : MS) (v : Int32) : MS := (v, st.2)
def m_causes_s (st : MS) (v : Int32) : MS := (st.1, v, st.2.2)
def m_faults_s (st : MS) (v : Int32) : MS := (st.1, st.2.1, v, st.2.2.2)
def m_strangers_s (st : MS) (v : Int32) : MS := (st.1, st.2.1, st.2.2.1, v, st.2.2.2.2)
def m_tests_s (st : MS) (v : Int32) : MS := (st.1, st.2.1, st.2.2.1, st.2.2.2.1, v, st.2.2.2.2.2)
def m_exact_s (st : MS) (v : Int32) : MS := (st.1, st.2.1, st.2.2.1, st.2.2.2.1, st.2.2.2.2.1, v, st.2.2.2.2.2.2)
def m_cost_s (st : MS) (v : Int64) : MS := (st.1, st.2.1, st.2.2.1, st.2.2.2.1, st.2.2.2.2.1, st.2.2.2.2.2.1, v, st.2.2.2.2.2.2.2)
def m_nodes_s (st : MS) (v : Int32) : MS := (st.1, st.2.1, st.2.2.1, st.2.2.2.1, st.2.2.2.2.1, st.2.2.2.2.2.1, st.2.2.2.2.2.2.1, v, st.2.2.2.2.2.2.2.2)
def m_one_s (st : MS) (j : Nat) (v : Int32) : MS := (st.1, st.2.1, st.2.2.1, st.2.2.2.1, st.2.2.2.2.1, st.2.2.2.2.2.1, st.2.2.2.2.2.2.1, st.2.2.2.2.2.2.2.1, upd (st.2.2.2.2.2.2.2.2.1) j v, st.2.2.2.2.2.2.2.2.2)
def m_one_f (st : MS) (f : Nat → Int32) : MS := (st.1, st.2.1, st.2.2.1, st.2.2.2.1, st.2.2.2.2.1, st.2.2.2.2.2.1, st.2.2.2.2.2.2.1, st.2.2.2.2.2.2.2.1, f, st.2.2.2.2.2.2.2.2.2)
def m_two_s (st : MS) (j : Nat) (v : Int32) : MS := (st.1, st.2.1, st.2.2.1, st.2.2.2.1, st.2.2.2.2.1, st.2.2.2.2.2.1, st.2.2.2.2.2.2.1, st.2.2.2.2.2.2.2.1, st.2.2.2.2.2.2.2.2.1, upd (st.2.2.2.2.2.2.2.2.2.1) j v, st.2.2.2.2.2.2.2.2.2.2)
def m_two_f (st : MS) (f : Nat → Int32) : MS := (st.1, st.2.1, st.2.2.1, st.2.2.2.1, st.2.2.2.2.1, st.2.2.2.2.2.1, st.2.2.2.2.2.2.1, st.2.2.2.2.2.2.2.1, st.2.2.2.2.2.2.2.2.1, f, st.2.2.2.2.2.2.2.2.2.2)
def m_prior_s (st : MS) (j : Nat) (v : Int64) : MS := (st.1, st.2.1, st.2.2.1, st.2.2.2.1, st.2.2.2.2.1, st.2.2.2.2.2.1, st.2.2.2.2.2.2.1, st.2.2.2.2.2.2.2.1, st.2.2.2.2.2.2.2.2.1, st.2.2.2.2.2.2.2.2.2.1, vp_updL (st.2.2.2.2.2.2.2.2.2.2.1) j v, st.2.2.2.2.2.2.2.2.2.2.2)
def m_prior_f (st : MS) (f : Nat → Int64) : MS := (st.1, st.2.1, st.2.2.1, st.2.2.2.1, st.2.2.2.2.1, st.2.2.2.2.2.1, st.2.2.2.2.2.2.1, st.2.2.2.2.2.2.2.1, st.2.2.2.2.2.2.2.2.1, st.2.2.2.2.2.2.2.2.2.1, f, st.2.2.2.2.2.2.2.2.2.2.2)
def m_learned_s (st : MS) (j : Nat) (v : Int32) : MS := (st.1, st.2.1, st.2.2.1, st.2.2.2.1, st.2.2.2.2.1, st.2.2.2.2.2.1, st.2.2.2.2.2.2.1, st.2.2.2.2.2.2.2.1, st.2.2.2.2.2.2.2.2.1, st.2.2.2.2.2.2.2.2.2.1, st.2.2.2.2.2.2.2.2.2.2.1, upd (st.2.2.2.2.2.2.2.2.2.2.2.1) j v, st.2.2.2.2.2.2.2.2.2.2.2.2)
def m_learned_f (st : MS) (f : Nat → Int32) : MS := (st.1, st.2.1, st.2.2.1, st.2.2.2.1, st.2.2.2.2.1, st.2.2.2.2.2.1, st.2.2.2.2.2.2.1, st.2.2.2.2.2.2.2.1, st.2.2.2.2.2.2.2.2.1, st.2.2.2.2.2.2.2.2.2.1, st.2.2.2.2.2.2.2.2.2.2.1, f, st.2.2.2.2.2.2.2.2.2.2.2.2)
def m_price_s (st : MS) (j : Nat) (v : Int64) : MS := (st.1, st.2.1, st.2.2.1, st.2.2.2.1, st.2.2.2.2.1, st.2.2.2.2.2.1, st.2.2.2.2.2.2.1, st.2.2.2.2.2.2.2.1, st.2.2.2.2.2.2.2.2.1, st.2.2.2.2.2.2.2.2.2.1, st.2.2.2.2.2.2.2.2.2.2.1, st.2.2.2.2.2.2.2.2.2.2.2.1, vp_updL (st.2.2.2.2.2.2.2.2.2.2.2.2.1) j v, st.2.2.2.2.2.2.2.2.2.2.2.2.2)
def m_price_f (st : MS) (f : Nat → Int64) : MS := (st.1, st.2.1, st.2.2.1, st.2.2.2.1, st.2.2.2.2.1, st.2.2.2.2.2.1, st.2.2.2.2.2.2.1, st.2.2.2.2.2.2.2.1, st.2.2.2.2.2.2.2.2.1, st.2.2.2.2.2.2.2.2.2.1, st.2.2.2.2.2.2.2.2.2.2.1, st.2.2.2.2.2.2.2.2.2.2.2.1, f, st.2.2.2.2.2.2.2.2.2.2.2.2.2)
def m_needs_s (st : MS) (j : Nat) (v : Int32) : MS := (st.1, st.2.1, st.2.2.1, st.2.2.2.1, st.2.2.2.2.1, st.2.2.2.2.2.1, st.2.2.2.2.2.2.1, st.2.2.2.2.2.2.2.1, st.2.2.2.2.2.2.2.2.1, st.2.2.2.2.2.2.2.2.2.1, st.2.2.2.2.2.2.2.2.2.2.1, st.2.2.2.2.2.2.2.2.2.2.2.1, st.2.2.2.2.2.2.2.2.2.2.2.2.1, upd (st.2.2.2.2.2.2.2.2.2.2.2.2.2.1) j v, st.2.2.2.2.2.2.2.2.2.2.2.2.2.2)
def m_needs_f (st : MS) (f : Nat → Int32) : MS := (st.1, st.2.1, st.2.2.1, st.2.2.2.1, st.2.2.2.2.1, st.2.2.2.2.2.1, st.2.2.2.2.2.2.1, st.2.2.2.2.2.2.2.1, st.2.2.2.2.2.2.2.2.1, st.2.2.2.2.2.2.2.2.2.1, st.2.2.2.2.2.2.2.2.2.2.1, st.2.2.2.2.2.2.2.2.2.2.2.1, st.2.2.2.2.2.2.2.2.2.2.2.2.1, f, st.2.2.2.2.2.2.2.2.2.2.2.2.2.2)
def m_odds_s (st : MS) (j : Nat) (v : Int32) : MS := (st.1, st.2.1, st.2.2.1, st.2.2.2.1, st.2.2.2.2.1, st.2.2.2.2.2.1, st.2.2.2.2.2.2.1, st.2.2.2.2.2.2.2.1, st.2.2.2.2.2.2.2.2.1, st.2.2.2.2.2.2.2.2.2.1, st.2.2.2.2.2.2.2.2.2.2.1, st.2.2.2.2.2.2.2.2.2.2.2.1, st.2.2.2.2.2.2.2.2.2.2.2.2.1, st.2.2.2.2.2.2.2.2.2.2.2.2.2.1, upd (st.2.2.2.2.2.2.2.2.2.2.2.2.2.2.1) j v, st.2.2.2.2.2.2.2.2.2.2.2.2.2.2.2)
def m_odds_f (st : MS) (f : Nat → Int32) : MS := (st.1, st.2.1, st.2.2.1, st.2.2.2.1, st.2.2.2.2.1, st.2.2.2.2.2.1, st.2.2.2.2.2.2.1, st.2.2.2.2.2.2.2.1, st.2.2.2.2.2.2.2.2.1, st.2.2.2.2.2.2.2.2.2.1, st.2.2.2.2.2.2.2.2.2.2.1, st.2.2.2.2.2.2.2.2.2.2.2.1, st.2.2.2.2.2.2.2.2.2.2.2.2.1, st.2.2.2.2.2.2.2.2.2.2.2.2.2.1, f, st.2.2.2.2.2.2.2.2.2.2.2.2.2.2.2)
def m_given_s (st : MS) (j : Nat) (v : Int32) : MS := (st.1, st.2.1, st.2.2.1, st.2.2.2.1, st.2.2.2.2.1, st.2.2.2.2.2.1, st.2.2.2.2.2.2.1, st.2.2.2.2.2.2.2.1, st.2.2.2.2.2.2.2.2.1, st.2.2.2.2.2.2.2.2.2.1, st.2.2.2.2.2.2.2.2.2.2.1, st.2.2.2.2.2.2.2.2.2.2.2.1, st.2.2.2.2.2.2.2.2.2.2.2.2.1, st.2.2.2.2.2.2.2.2.2.2.2.2.2.1, st.2.2.2.2.2.2.2.2.2.2.2.2.2.2.1, upd (st.2.2.2.2.2.2.2.2.2.2.2.2.2.2.2.1) j v, st.2.2.2.2.2.2.2.2.2.2.2.2.2.2.2.2)
def m_given_f (st : MS) (f : Nat → Int32) : MS := (st.1, st.2.1, st.2.2.1, st.2.2.2.1, st.2.2.2.2.1, st.2.2.2.2.2.1, st.2.2.2.2.2.2.1, st.2.2.2.2.2.2.2.1, st.2.2.2.2.2.2.2.2.1, st.2.2.2.2.2.2.2.2.2.1, st.2.2.2.2.2.2.2.2.2.2.1, st.2.2.2.2.2.2.2.2.2.2.2.1, st.2.2.2.2.2.2.2.2.2.2.2.2.1, st.2.2.2.2.2.2.2.2.2.2.2.2.2.1, st.2.2.2.2.2.2.2.2.2.2.2.2.2.2.1, f, st.2.2.2.2.2.2.2.2.2.2.2.2.2.2.2.2)
def m_node_s (st : MS) (j : Nat) (v : Int32) : MS := (st.1, st.2.1, st.2.2.1, st.2.2.2.1, st.2.2.2.2.1, st.2.2.2.2.2.1, st.2.2.2.2.2.2.1, st.2.2.2.2.2.2.2.1, st.2.2.2.2.2.2.2.2.1, st.2.2.2.2.2.2.2.2.2.1, st.2.2.2.2.2.2.2.2.2.2.1, st.2.2.2.2.2.2.2.2.2.2.2.1, st.2.2.2.2.2.2.2.2.2.2.2.2.1, st.2.2.2.2.2.2.2.2.2.2.2.2.2.1, st.2.2.2.2.2.2.2.2.2.2.2.2.2.2.1, st.2.2.2.2.2.2.2.2.2.2.2.2.2.2.2.1, upd (st.2.2.2.2.2.2.2.2.2.2.2.2.2.2.2.2.1) j v, st.2.2.2.2.2.2.2.2.2.2.2.2.2.2.2.2.2)
def m_node_f (st : MS) (f : Nat → Int32) : MS := (st.1, st.2.1, st.2.2.1, st.2.2.2.1, st.2.2.2.2.1, st.2.2.2.2.2.1, st.2.2.2.2.2.2.1, st.2.2.2.2.2.2.2.1, st.2.2.2.2.2.2.2.2.1, st.2.2.2.2.2.2.2.2.2.1, st.2.2.2.2.2.2.2.2.2.2.1, st.2.2.2.2.2.2.2.2.2.2.2.1, st.2.2.2.2.2.2.2.2.2.2.2.2.1, st.2.2.2.2.2.2.2.2.2.2.2.2.2.1, st.2.2.2.2.2.2.2.2.2.2.2.2.2.2.1, st.2.2.2.2.2.2.2.2.2.2.2.2.2.2.2.1, f, st.2.2.2.2.2.2.2.2.2.2.2.2.2.2.2.2.2)
def m_value_s (st : MS) (j : Nat) (v : Int64) : MS := (st.1, st.2.1, st.2.2.1, st.2.2.2.1, st.2.2.2.2.1, st.2.2.2.2.2.1, st.2.2.2.2.2.2.1, st.2.2.2.2.2.2.2.1, st.2.2.2.2.2.2.2.2.1, st.2.2.2.2.2.2.2.2.2.1, st.2.2.2.2.2.2.2.2.2.2.1, st.2.2.2.2.2.2.2.2.2.2.2.1, st.2.2.2.2.2.2.2.2.2.2.2.2.1, st.2.2.2.2.2.2.2.2.2.2.2.2.2.1, st.2.2.2.2.2.2.2.2.2.2.2.2.2.2.1, st.2.2.2.2.2.2.2.2.2.2.2.2.2.2.2.1, st.2.2.2.2.2.2.2.2.2.2.2.2.2.2.2.2.1, vp_updL (st.2.2.2.2.2.2.2.2.2.2.2.2.2.2.2.2.2.1) j v, st.2.2.2.2.2.2.2.2.2.2.2.2.2.2.2.2.2.2)
def m_value_f (st : MS) (f : Nat → Int64) : MS := (st.1, st.2.1, st.2.2.1, st.2.2.2.1, st.2.2.2.2.1, st.2.2.2.2.2.1, st.2.2.2.2.2.2.1, st.2.2.2.2.2.2.2.1, st.2.2.2.2.2.2.2.2.1, st.2.2.2.2.2.2.2.2.2.1, st.2.2.2.2.2.2.2.2.2.2.1, st.2.2.2.2.2.2.2.2.2.2.2.1, st.2.2.2.2.2.2.2.2.2.2.2.2.1, st.2.2.2.2.2.2.2.2.2.2.2.2.2.1, st.2.2.2.2.2.2.2.2.2.2.2.2.2.2.1, st.2.2.2.2.2.2.2.2.2.2.2.2.2.2.2.1, st.2.2.2.2.2.2.2.2.2.2.2.2.2.2.2.2.1, f, st.2.2.2.2.2.2.2.2.2.2.2.2.2.2.2.2.2.2)
def m_best_s (st : MS) (j : Nat) (v : Int32) : MS := (st.1, st.2.1, st.2.2.1, st.2.2.2.1, st.2.2.2.2.1, st.2.2.2.2.2.1, st.2.2.2.2.2.2.1, st.2.2.2.2.2.2.2.1, st.2.2.2.2.2.2.2.2.1, st.2.2.2.2.2.2.2.2.2.1, st.2.2.2.2.2.2.2.2.2.2.1, st.2.2.2.2.2.2.2.2.2.2.2.1, st.2.2.2.2.2.2.2.2.2.2.2.2.1, st.2.2.2.2.2.2.2.2.2.2.2.2.2.1, st.2.2.2.2.2.2.2.2.2.2.2.2.2.2.1, st.2.2.2.2.2.2.2.2.2.2.2.2.2.2.2.1, st.2.2.2.2.2.2.2.2.2.2.2.2.2.2.2.2.1, st.2.2.2.2.2.2.2.2.2.2.2.2.2.2.2.2.2.1, upd (st.2.2.2.2.2.2.2.2.2.2.2.2.2.2.2.2.2.2.1) j v, st.2.2.2.2.2.2.2.2.2.2.2.2.2.2.2.2.2.2.2)
def m_best_f (st : MS) (f : Nat → Int32) : MS := (st.1, st.2.1, st.2.2.1, st.2.2.2.1, st.2.2.2.2.1, st.2.2.2.2.2.1, st.2.2.2.2.2.2.1, st.2.2.2.2.2.2.2.1, st.2.2.2.2.2.2.2.2.1, st.2.2.2.2.2.2.2.2.2.1, st.2.2.2.2.2.2.2.2.2.2.1, st.2.2.2.2.2.2.2.2.2.2.2.1, st.2.2.2.2.2.2.2.2.2.2.2.2.1, st.2.2.2.2.2.2.2.2.2.2.2.2.2.1, st.2.2.2.2.2.2.2.2.2.2.2.2.2.2.1, st.2.2.2.2.2.2.2.2.2.2.2.2.2.2.2.1, st.2.2.2.2.2.2.2.2.2.2.2.2.2.2.2.2.1, st.2.2.2.2.2.2.2.2.2.2.2.2.2.2.2.2.2.1, f, st.2.2.2.2.2.2.2.2.2.2.2.2.2.2.2.2.2.2.2)
def m_digit_s (st : MS) (j : Nat) (v : Int32) : MS := (st.1, st.2.1, st.2.2.1, st.2.2.2.1, st.2.2.2.2.1, st.2.2.2.2.2.1, st.2.2.2.2.2.2.1, st.2.2.2.2.2.2.2.1, st.2.2.2.2.2.2.2.2.1, st.2.2.2.2.2.2.2.2.2.1, st.2.2.2.2.2.2.2.2.2.2.1, st.2.2.2.2.2.2.2.2.2.2.2.1, st.2.2.2.2.2.2.2.2.2.2.2.2.1, st.2.2.2.2.2.2.2.2.2.2.2.2.2.1, st.2.2.2.2.2.2.2.2.2.2.2.2.2.2.1, st.2.2.2.2.2.2.2.2.2.2.2.2.2.2.2.1, st.2.2.2.2.2.2.2.2.2.2.2.2.2.2.2.2.1, st.2.2.2.2.2.2.2.2.2.2.2.2.2.2.2.2.2.1, st.2.2.2.2.2.2.2.2.2.2.2.2.2.2.2.2.2.2.1, upd (st.2.2.2.2.2.2.2.2.2.2.2.2.2.2.2.2.2.2.2.1) j v, st.2.2.2.2.2.2.2.2.2.2.2.2.2.2.2.2.2.2.2.2)
def m_digit_f (st : MS) (f : Nat → Int32) : MS := (st.1, st.2.1, st.2.2.1, st.2.2.2.1, st.2.2.2.2.1, st.2.2.2.2.2.1, st.2.2.2.2.2.2.1, st.2.2.2.2.2.2.2.1, st.2.2.2.2.2.2.2.2.1, st.2.2.2.2.2.2.2.2.2.1, st.2.2.2.2.2.2.2.2.2.2.1, st.2.2.2.2.2.2.2.2.2.2.2.1, st.2.2.2.2.2.2.2.2.2.2.2.2.1, st.2.2.2.2.2.2.2.2.2.2.2.2.2.1, st.2.2.2.2.2.2.2.2.2.2.2.2.2.2.1, st.2.2.2.2.2.2.2.2.2.2.2.2.2.2.2.1, st.2.2.2.2.2.2.2.2.2.2.2.2.2.2.2.2.1, st.2.2.2.2.2.2.2.2.2.2.2.2.2.2.2.2.2.1, st.2.2.2.2.2.2.2.2.2.2.2.2.2.2.2.2.2.2.1, f, st.2.2.2.2.2.2.2.2.2.2.2.2.2.2.2.2.2.2.2.2)
def m_weight_s (st : MS) (j : Nat) (v : Int64) : MS := (st.1, st.2.1, st.2.2.1, st.2.2.2.1, st.2.2.2.2.1, st.2.2.2.2.2.1, st.2.2.2.2.2.2.1, st.2.2.2.2.2.2.2.1, st.2.2.2.2.2.2.2.2.1, st.2.2.2.2.2.2.2.2.2.1, st.2.2.2.2.2.2.2.2.2.2.1, st.2.2.2.2.2.2.2.2.2.2.2.1, st.2.2.2.2.2.2.2.2.2.2.2.2.1, st.2.2.2.2.2.2.2.2.2.2.2.2.2.1, st.2.2.2.2.2.2.2.2.2.2.2.2.2.2.1, st.2.2.2.2.2.2.2.2.2.2.2.2.2.2.2.1, st.2.2.2.2.2.2.2.2.2.2.2.2.2.2.2.2.1, st.2.2.2.2.2.2.2.2.2.2.2.2.2.2.2.2.2.1, st.2.2.2.2.2.2.2.2.2.2.2.2.2.2.2.2.2.2.1, st.2.2.2.2.2.2.2.2.2.2.2.2.2.2.2.2.2.2.2.1, vp_updL (st.2.2.2.2.2.2.2.2.2.2.2.2.2.2.2.2.2.2.2.2.1) j v, st.2.2.2.2.2.2.2.2.2.2.2.2.2.2.2.2.2.2.2.2.2)
def m_weight_f (st : MS) (f : Nat → Int64) : MS := (st.1, st.2.1, st.2.2.1, st.2.2.2.1, st.2.2.2.2.1, st.2.2.2.2.2.1, st.2.2.2.2.2.2.1, st.2.2.2.2.2.2.2.1, st.2.2.2.2.2.2.2.2.1, st.2.2.2.2.2.2.2.2.2.1, st.2.2.2.2.2.2.2.2.2.2.1, st.2.2.2.2.2.2.2.2.2.2.2.1, st.2.2.2.2.2.2.2.2.2.2.2.2.1, st.2.2.2.2.2.2.2.2.2.2.2.2.2.1, st.2.2.2.2.2.2.2.2.2.2.2.2.2.2.1, st.2.2.2.2.2.2.2.2.2.2.2.2.2.2.2.1, st.2.2.2.2.2.2.2.2.2.2.2.2.2.2.2.2.1, st.2.2.2.2.2.2.2.2.2.2.2.2.2.2.2.2.2.1, st.2.2.2.2.2.2.2.2.2.2.2.2.2.2.2.2.2.2.1, st.2.2.2.2.2.2.2.2.2.2.2.2.2.2.2.2.2.2.2.1, f, st.2.2.2.2.2.2.2.2.2.2.2.2.2.2.2.2.2.2.2.2.2)
def m_wait_s (st : MS) (j : Nat) (v : Int32) : MS := (st.1, st.2.1, st.2.2.1, st.2.2.2.1, st.2.2.2.2.1, st.2.2.2.2.2.1, st.2.2.2.2.2.2.1, st.2.2.2.2.2.2.2.1, st.2.2.2.2.2.2.2.2.1, st.2.2.2.2.2.2.2.2.2.1, st.2.2.2.2.2.2.2.2.2.2.1, st.2.2.2.2.2.2.2.2.2.2.2.1, st.2.2.2.2.2.2.2.2.2.2.2.2.1, st.2.2.2.2.2.2.2.2.2.2.2.2.2.1, st.2.2.2.2.2.2.2.2.2.2.2.2.2.2.1, st.2.2.2.2.2.2.2.2.2.2.2.2.2.2.2.1, st.2.2.2.2.2.2.2.2.2.2.2.2.2.2.2.2.1, st.2.2.2.2.2.2.2.2.2.2.2.2.2.2.2.2.2.1, st.2.2.2.2.2.2.2.2.2.2.2.2.2.2.2.2.2.2.1, st.2.2.2.2.2.2.2.2.2.2.2.2.2.2.2.2.2.2.2.1, st.2.2.2.2.2.2.2.2.2.2.2.2.2.2.2.2.2.2.2.2.1, upd (st.2.2.2.2.2.2.2.2.2.2.2.2.2.2.2.2.2.2.2.2.2.1) j v, st.2.2.2.2.2.2.2.2.2.2.2.2.2.2.2.2.2.2.2.2.2.2)
def m_wait_f (st : MS) (f : Nat → Int32) : MS := (st.1, st.2.1, st.2.2.1, st.2.2.2.1, st.2.2.2.2.1, st.2.2.2.2.2.1, st.2.2.2.2.2.2.1, st.2.2.2.2.2.2.2.1, st.2.2.2.2.2.2.2.2.1, st.2.2.2.2.2.2.2.2.2.1, st.2.2.2.2.2.2.2.2.2.2.1, st.2.2.2.2.2.2.2.2.2.2.2.1, st.2.2.2.2.2.2.2.2.2.2.2.2.1, st.2.2.2.2.2.2.2.2.2.2.2.2.2.1, st.2.2.2.2.2.2.2.2.2.2.2.2.2.2.1, st.2.2.2.2.2.2.2.2.2.2.2.2.2.2.2.1, st.2.2.2.2.2.2.2.2.2.2.2.2.2.2.2.2.1, st.2.2.2.2.2.2.2.2.2.2.2.2.2.2.2.2.2.1, st.2.2.2.2.2.2.2.2.2.2.2.2.2.2.2.2.2.2.1, st.2.2.2.2.2.2.2.2.2.2.2.2.2.2.2.2.2.2.2.1, st.2.2.2.2.2.2.2.2.2.2.2.2.2.2.2.2.2.2.2.2.1, f, st.2.2.2.2.2.2.2.2.2.2.2.2.2.2.2.2.2.2.2.2.2.2)
def m_by_s (st : MS) (j : Nat) (v : Int32) : MS := (st.1, st.2.1, st.2.2.1, st.2.2.2.1, st.2.2.2.2.1, st.2.2.2.2.2.1, st.2.2.2.2.2.2.1, st.2.2.2.2.2.2.2.1, st.2.2.2.2.2.2.2.2.1, st.2.2.2.2.2.2.2.2.2.1, st.2.2.2.2.2.2.2.2.2.2.1, st.2.2.2.2.2.2.2.2.2.2.2.1, st.2.2.2.2.2.2.2.2.2.2.2.2.1, st.2.2.2.2.2.2.2.2.2.2.2.2.2.1, st.2.2.2.2.2.2.2.2.2.2.2.2.2.2.1, st.2.2.2.2.2.2.2.2.2.2.2.2.2.2.2.1, st.2.2.2.2.2.2.2.2.2.2.2.2.2.2.2.2.1, st.2.2.2.2.2.2.2.2.2.2.2.2.2.2.2.2.2.1, st.2.2.2.2.2.2.2.2.2.2.2.2.2.2.2.2.2.2.1, st.2.2.2.2.2.2.2.2.2.2.2.2.2.2.2.2.2.2.2.1, st.2.2.2.2.2.2.2.2.2.2.2.2.2.2.2.2.2.2.2.2.1, st.2.2.2.2.2.2.2.2.2.2.2.2.2.2.2.2.2.2.2.2.2.1, upd (st.2.2.2.2.2.2.2.2.2.2.2.2.2.2.2.2.2.2.2.2.2.2.1) j v, st.2.2.2.2.2.2.2.2.2.2.2.2.2.2.2.2.2.2.2.2.2.2.2)
def m_by_f (st : MS) (f : Nat → Int32) : MS := (st.1, st.2.1, st.2.2.1, st.2.2.2.1, st.2.2.2.2.1, st.2.2.2.2.2.1, st.2.2.2.2.2.2.1, st.2.2.2.2.2.2.2.1, st.2.2.2.2.2.2.2.2.1, st.2.2.2.2.2.2.2.2.2.1, st.2.2.2.2.2.2.2.2.2.2.1, st.2.2.2.2.2.2.2.2.2.2.2.1, st.2.2.2.2.2.2.2.2.2.2.2.2.1, st.2.2.2.2.2.2.2.2.2.2.2.2.2.1, st.2.2.2.2.2.2.2.2.2.2.2.2.2.2.1, st.2.2.2.2.2.2.2.2.2.2.2.2.2.2.2.1, st.2.2.2.2.2.2.2.2.2.2.2.2.2.2.2.2.1, st.2.2.2.2.2.2.2.2.2.2.2.2.2.2.2.2.2.1, st.2.2.2.2.2.2.2.2.2.2.2.2.2.2.2.2.2.2.1, st.2.2.2.2.2.2.2.2.2.2.2.2.2.2.2.2.2.2.2.1, st.2.2.2.2.2.2.2.2.2.2.2.2.2.2.2.2.2.2.2.2.1, st.2.2.2.2.2.2.2.2.2.2.2.2.2.2.2.2.2.2.2.2.2.1, f, st.2.2.2.2.2.2.2.2.2.2.2.2.2.2.2.2.2.2.2.2.2.2.2)
def m_found_s (st : MS) (j : Nat) (v : Int32) : MS := (st.1, st.2.1, st.2.2.1, st.2.2.2.1, st.2.2.2.2.1, st.2.2.2.2.2.1, st.2.2.2.2.2.2.1, st.2.2.2.2.2.2.2.1, st.2.2.2.2.2.2.2.2.1, st.2.2.2.2.2.2.2.2.2.1, st.2.2.2.2.2.2.2.2.2.2.1, st.2.2.2.2.2.2.2.2.2.2.2.1, st.2.2.2.2.2.2.2.2.2.2.2.2.1, st.2.2.2.2.2.2.2.2.2.2.2.2.2.1, st.2.2.2.2.2.2.2.2.2.2.2.2.2.2.1, st.2.2.2.2.2.2.2.2.2.2.2.2.2.2.2.1, st.2.2.2.2.2.2.2.2.2.2.2.2.2.2.2.2.1, st.2.2.2.2.2.2.2.2.2.2.2.2.2.2.2.2.2.1, st.2.2.2.2.2.2.2.2.2.2.2.2.2.2.2.2.2.2.1, st.2.2.2.2.2.2.2.2.2.2.2.2.2.2.2.2.2.2.2.1, st.2.2.2.2.2.2.2.2.2.2.2.2.2.2.2.2.2.2.2.2.1, st.2.2.2.2.2.2.2.2.2.2.2.2.2.2.2.2.2.2.2.2.2.1, st.2.2.2.2.2.2.2.2.2.2.2.2.2.2.2.2.2.2.2.2.2.2.1, upd (st.2.2.2.2.2.2.2.2.2.2.2.2.2.2.2.2.2.2.2.2.2.2.2.1) j v, st.2.2.2.2.2.2.2.2.2.2.2.2.2.2.2.2.2.2.2.2.2.2.2.2)
def m_found_f (st : MS) (f : Nat → Int32) : MS := (st.1, st.2.1, st.2.2.1, st.2.2.2.1, st.2.2.2.2.1, st.2.2.2.2.2.1, st.2.2.2.2.2.2.1, st.2.2.2.2.2.2.2.1, st.2.2.2.2.2.2.2.2.1, st.2.2.2.2.2.2.2.2.2.1, st.2.2.2.2.2.2.2.2.2.2.1, st.2.2.2.2.2.2.2.2.2.2.2.1, st.2.2.2.2.2.2.2.2.2.2.2.2.1, st.2.2.2.2.2.2.2.2.2.2.2.2.2.1, st.2.2.2.2.2.2.2.2.2.2.2.2.2.2.1, st.2.2.2.2.2.2.2.2.2.2.2.2.2.2.2.1, st.2.2.2.2.2.2.2.2.2.2.2.2.2.2.2.2.1, st.2.2.2.2.2.2.2.2.2.2.2.2.2.2.2.2.2.1, st.2.2.2.2.2.2.2.2.2.2.2.2.2.2.2.2.2.2.1, st.2.2.2.2.2.2.2.2.2.2.2.2.2.2.2.2.2.2.2.1, st.2.2.2.2.2.2.2.2.2.2.2.2.2.2.2.2.2.2.2.2.1, st.2.2.2.2.2.2.2.2.2.2.2.2.2.2.2.2.2.2.2.2.2.1, st.2.2.2.2.2.2.2.2.2.2.2.2.2.2.2.2.2.2.2.2.2.2.1, f, st.2.2.2.2.2.2.2.2.2.2.2.2.2.2.2.2.2.2.2.2.2.2.2.2)
def m_use_s (st : MS) (j : Nat) (v : Int32) : MS := (st.1, st.2.1, st.2.2.1, st.2.2.2.1, st.2.2.2.2.1, st.2.2.2.2.2.1, st.2.2.2.2.2.2.1, st.2.2.2.2.2.2.2.1, st.2.2.2.2.2.2.2.2.1, st.2.2.2.2.2.2.2.2.2.1, st.2.2.2.2.2.2.2.2.2.2.1, st.2.2.2.2.2.2.2.2.2.2.2.1, st.2.2.2.2.2.2.2.2.2.2.2.2.1, st.2.2.2.2.2.2.2.2.2.2.2.2.2.1, st.2.2.2.2.2.2.2.2.2.2.2.2.2.2.1, st.2.2.2.2.2.2.2.2.2.2.2.2.2.2.2.1, st.2.2.2.2.2.2.2.2.2.2.2.2.2.2.2.2.1, st.2.2.2.2.2.2.2.2.2.2.2.2.2.2.2.2.2.1, st.2.2.2.2.2.2.2.2.2.2.2.2.2.2.2.2.2.2.1, st.2.2.2.2.2.2.2.2.2.2.2.2.2.2.2.2.2.2.2.1, st.2.2.2.2.2.2.2.2.2.2.2.2.2.2.2.2.2.2.2.2.1, st.2.2.2.2.2.2.2.2.2.2.2.2.2.2.2.2.2.2.2.2.2.1, st.2.2.2.2.2.2.2.2.2.2.2.2.2.2.2.2.2.2.2.2.2.2.1, st.2.2.2.2.2.2.2.2.2.2.2.2.2.2.2.2.2.2.2.2.2.2.2.1, upd (st.2.2.2.2.2.2.2.2.2.2.2.2.2.2.2.2.2.2.2.2.2.2.2.2) j v)
def m_use_f (st : MS) (f : Nat → Int32) : MS := (st.1, st.2.1, st.2.2.1, st.2.2.2.1, st.2.2.2.2.1, st.2.2.2.2.2.1, st.2.2.2.2.2.2.1, st.2.2.2.2.2.2.2.1, st.2.2.2.2.2.2.2.2.1, st.2.2.2.2.2.2.2.2.2.1, st.2.2.2.2.2.2.2.2.2.2.1, st.2.2.2.2.2.2.2.2.2.2.2.1, st.2.2.2.2.2.2.2.2.2.2.2.2.1, st.2.2.2.2.2.2.2.2.2.2.2.2.2.1, st.2.2.2.2.2.2.2.2.2.2.2.2.2.2.1, st.2.2.2.2.2.2.2.2.2.2.2.2.2.2.2.1, st.2.2.2.2.2.2.2.2.2.2.2.2.2.2.2.2.1, st.2.2.2.2.2.2.2.2.2.2.2.2.2.2.2.2.2.1, st.2.2.2.2.2.2.2.2.2.2.2.2.2.2.2.2.2.2.1, st.2.2.2.2.2.2.2.2.2.2.2.2.2.2.2.2.2.2.2.1, st.2.2.2.2.2.2.2.2.2.2.2.2.2.2.2.2.2.2.2.2.1, st.2.2.2.2.2.2.2.2.2.2.2.2.2.2.2.2.2.2.2.2.2.1, st.2.2.2.2.2.2.2.2.2.2.2.2.2.2.2.2.2.2.2.2.2.2.1, st.2.2.2.2.2.2.2.2.2.2.2.2.2.2.2.2.2.2.2.2.2.2.2.1, f)
def m_W (cs : Nat → ClassId) (a : Nat → Nat) (st : MS) : va_W := [
  (a 0, .inr (5, [.int (m_code st), .int (m_causes st), .int (m_faults st), .ref (a 1), .ref (a 2), .ref (a 3), .ref (a 4), .int (m_strangers st), .int (m_tests st), .ref (a 5), .ref (a 6), .ref (a 7), .ref (a 8), .int (m_exact st), .long (m_cost st), .int (m_nodes st), .ref (a 9), .ref (a 10), .ref (a 11), .ref (a 12), .ref (a 13), .ref (a 14), .ref (a 15), .ref (a 16), .ref (a 17)])),
  (a 1, .inl (cs 1, 13, .inl (m_one st))),
  (a 2, .inl (cs 1, 13, .inl (m_two st))),
  (a 3, .inl (cs 0, 13, .inr (.inl (m_prior st)))),
  (a 4, .inl (cs 1, 13, .inl (m_learned st))),
  (a 5, .inl (cs 0, 7, .inr (.inl (m_price st)))),
  (a 6, .inl (cs 5, 49, .inl (m_needs st))),
  (a 7, .inl (cs 1, 273, .inl (m_odds st))),
  (a 8, .inl (cs 1, 7, .inl (m_given st))),
  (a 9, .inl (cs 1, 900, .inl (m_node st))),
  (a 10, .inl (cs 0, 4096, .inr (.inl (m_value st)))),
  (a 11, .inl (cs 1, 4096, .inl (m_best st))),
  (a 12, .inl (cs 1, 7, .inl (m_digit st))),
  (a 13, .inl (cs 0, 13, .inr (.inl (m_weight st)))),
  (a 14, .inl (cs 1, 64, .inl (m_wait st))),
  (a 15, .inl (cs 1, 64, .inl (m_by st))),
  (a 16, .inl (cs 5, 7, .inl (m_found st))),
  (a 17, .inl (cs 5, 7, .inl (m_use st)))]
def m_A (a : Nat → Nat) : Nat → Prop := fun q => ∃ k : Nat, k < 18 ∧ q = a k
theorem m_W_len (cs : Nat → ClassId) (a : Nat → Nat) (st : MS) : (m_W cs a st).length = 18 := rfl
theorem m_W_at (cs : Nat → ClassId) (a : Nat → Nat) (st : MS) : ∀ (k : Nat) (q : Nat × va_E), (m_W cs a st)[k]? = some q → k < 18 ∧ q.1 = a k := by
  intro k q h
  have hk : k < 18 := (List.getElem?_eq_some_iff.mp h).1
  refine ⟨hk, ?_⟩
  match k, hk with
  | 0, _ => cases h; rfl
  | 1, _ => cases h; rfl
  | 2, _ => cases h; rfl
  | 3, _ => cases h; rfl
  | 4, _ => cases h; rfl
  | 5, _ => cases h; rfl
  | 6, _ => cases h; rfl
  | 7, _ => cases h; rfl
  | 8, _ => cases h; rfl
  | 9, _ => cases h; rfl
  | 10, _ => cases h; rfl
  | 11, _ => cases h; rfl
  | 12, _ => cases h; rfl
  | 13, _ => cases h; rfl
  | 14, _ => cases h; rfl
  | 15, _ => cases h; rfl
  | 16, _ => cases h; rfl
  | 17, _ => cases h; rfl
theorem m_D {a : Nat → Nat} (hi : ∀ i j : Nat, i < 18 → j < 18 → a i = a j → i = j) (cs : Nat → ClassId) (st : MS) : va_D (m_A a) (m_W cs a st) :=
  ⟨fun i j p q hp hq e => by
    obtain ⟨h1, e1⟩ := m_W_at cs a st i p hp
    obtain ⟨h2, e2⟩ := m_W_at cs a st j q hq
    exact hi i j h1 h2 (by rw [← e1, ← e2, e]), fun k q h => ⟨k, m_W_at cs a st k q h⟩⟩
theorem m_fin {D : va_G} {cl : List vw_C} {cs : Nat → ClassId} {a : Nat → Nat} {st st2 : MS} {t : State} {H : Heap} (ht : t.heap = H) (e : st = st2) (hP : va_P D cl (m_W cs a st) H) : va_P D cl (m_W cs a st2) t.heap := by rw [ht, ← e]; exact hP
theorem m_code_put (cs : Nat → ClassId) (a : Nat → Nat) (st : MS) (v : Int32) : (m_W cs a st).set 0 (a 0, .inr (5, ([.int (m_code st), .int (m_causes st), .int (m_faults st), .ref (a 1), .ref (a 2), .ref (a 3), .ref (a 4), .int (m_strangers st), .int (m_tests st), .ref (a 5), .ref (a 6), .ref (a 7), .ref (a 8), .int (m_exact st), .long (m_cost st), .int (m_nodes st), .ref (a 9), .ref (a 10), .ref (a 11), .ref (a 12), .ref (a 13), .ref (a 14), .ref (a 15), .ref (a 16), .ref (a 17)] : List Value).set 0 (.int v))) = m_W cs a (m_code_s st v) := by
  simp only [m_W, m_code, m_causes, m_faults, m_strangers, m_tests, m_exact, m_cost, m_nodes, m_one, m_two, m_prior, m_learned, m_price, m_needs, m_odds, m_given, m_node, m_value, m_best, m_digit, m_weight, m_wait, m_by, m_found, m_use, m_code_s, List.set]
theorem m_causes_put (cs : Nat → ClassId) (a : Nat → Nat) (st : MS) (v : Int32) : (m_W cs a st).set 0 (a 0, .inr (5, ([.int (m_code st), .int (m_causes st), .int (m_faults st), .ref (a 1), .ref (a 2), .ref (a 3), .ref (a 4), .int (m_strangers st), .int (m_tests st), .ref (a 5), .ref (a 6), .ref (a 7), .ref (a 8), .int (m_exact st), .long (m_cost st), .int (m_nodes st), .ref (a 9), .ref (a 10), .ref (a 11), .ref (a 12), .ref (a 13), .ref (a 14), .ref (a 15), .ref (a 16), .ref (a 17)] : List Value).set 1 (.int v))) = m_W cs a (m_causes_s st v) := by
  simp only [m_W, m_code, m_causes, m_faults, m_strangers, m_tests, m_exact, m_cost, m_nodes, m_one, m_two, m_prior, m_learned, m_price, m_needs, m_odds, m_given, m_node, m_value, m_best, m_digit, m_weight, m_wait, m_by, m_found, m_use, m_causes_s, List.set]
theorem m_faults_put (cs : Nat → ClassId) (a : Nat → Nat) (st : MS) (v : Int32) : (m_W cs a st).set 0 (a 0, .inr (5, ([.int (m_code st), .int (m_causes st), .int (m_faults st), .ref (a 1), .ref (a 2), .ref (a 3), .ref (a 4), .int (m_strangers st), .int (m_tests st), .ref (a 5), .ref (a 6), .ref (a 7), .ref (a 8), .int (m_exact st), .long (m_cost st), .int (m_nodes st), .ref (a 9), .ref (a 10), .ref (a 11), .ref (a 12), .ref (a 13), .ref (a 14), .ref (a 15), .ref (a 16), .ref (a 17)] : List Value).set 2 (.int v))) = m_W cs a (m_faults_s st v) := by
  simp only [m_W, m_code, m_causes, m_faults, m_strangers, m_tests, m_exact, m_cost, m_nodes, m_one, m_two, m_prior, m_learned, m_price, m_needs, m_odds, m_given, m_node, m_value, m_best, m_digit, m_weight, m_wait, m_by, m_found, m_use, m_faults_s, List.set]
theorem m_strangers_put (cs : Nat → ClassId) (a : Nat → Nat) (st : MS) (v : Int32) : (m_W cs a st).set 0 (a 0, .inr (5, ([.int (m_code st), .int (m_causes st), .int (m_faults st), .ref (a 1), .ref (a 2), .ref (a 3), .ref (a 4), .int (m_strangers st), .int (m_tests st), .ref (a 5), .ref (a 6), .ref (a 7), .ref (a 8), .int (m_exact st), .long (m_cost st), .int (m_nodes st), .ref (a 9), .ref (a 10), .ref (a 11), .ref (a 12), .ref (a 13), .ref (a 14), .ref (a 15), .ref (a 16), .ref (a 17)] : List Value).set 7 (.int v))) = m_W cs a (m_strangers_s st v) := by
  simp only [m_W, m_code, m_causes, m_faults, m_strangers, m_tests, m_exact, m_cost, m_nodes, m_one, m_two, m_prior, m_learned, m_price, m_needs, m_odds, m_given, m_node, m_value, m_best, m_digit, m_weight, m_wait, m_by, m_found, m_use, m_strangers_s, List.set]
theorem m_tests_put (cs : Nat → ClassId) (a : Nat → Nat) (st : MS) (v : Int32) : (m_W cs a st).set 0 (a 0, .inr (5, ([.int (m_code st), .int (m_causes st), .int (m_faults st), .ref (a 1), .ref (a 2), .ref (a 3), .ref (a 4), .int (m_strangers st), .int (m_tests st), .ref (a 5), .ref (a 6), .ref (a 7), .ref (a 8), .int (m_exact st), .long (m_cost st), .int (m_nodes st), .ref (a 9), .ref (a 10), .ref (a 11), .ref (a 12), .ref (a 13), .ref (a 14), .ref (a 15), .ref (a 16), .ref (a 17)] : List Value).set 8 (.int v))) = m_W cs a (m_tests_s st v) := by
  simp only [m_W, m_code, m_causes, m_faults, m_strangers, m_tests, m_exact, m_cost, m_nodes, m_one, m_two, m_prior, m_learned, m_price, m_needs, m_odds, m_given, m_node, m_value, m_best, m_digit, m_weight, m_wait, m_by, m_found, m_use, m_tests_s, List.set]
theorem m_exact_put (cs : Nat → ClassId) (a : Nat → Nat) (st : MS) (v : Int32) : (m_W cs a st).set 0 (a 0, .inr (5, ([.int (m_code st), .int (m_causes st), .int (m_faults st), .ref (a 1), .ref (a 2), .ref (a 3), .ref (a 4), .int (m_strangers st), .int (m_tests st), .ref (a 5), .ref (a 6), .ref (a 7), .ref (a 8), .int (m_exact st), .long (m_cost st), .int (m_nodes st), .ref (a 9), .ref (a 10), .ref (a 11), .ref (a 12), .ref (a 13), .ref (a 14), .ref (a 15), .ref (a 16), .ref (a 17)] : List Value).set 13 (.int v))) = m_W cs a (m_exact_s st v) := by
  simp only [m_W, m_code, m_causes, m_faults, m_strangers, m_tests, m_exact, m_cost, m_nodes, m_one, m_two, m_prior, m_learned, m_price, m_needs, m_odds, m_given, m_node, m_value, m_best, m_digit, m_weight, m_wait, m_by, m_found, m_use, m_exact_s, List.set]
theorem m_cost_put (cs : Nat → ClassId) (a : Nat → Nat) (st : MS) (v : Int64) : (m_W cs a st).set 0 (a 0, .inr (5, ([.int (m_code st), .int (m_causes st), .int (m_faults st), .ref (a 1), .ref (a 2), .ref (a 3), .ref (a 4), .int (m_strangers st), .int (m_tests st), .ref (a 5), .ref (a 6), .ref (a 7), .ref (a 8), .int (m_exact st), .long (m_cost st), .int (m_nodes st), .ref (a 9), .ref (a 10), .ref (a 11), .ref (a 12), .ref (a 13), .ref (a 14), .ref (a 15), .ref (a 16), .ref (a 17)] : List Value).set 14 (.long v))) = m_W cs a (m_cost_s st v) := by
  simp only [m_W, m_code, m_causes, m_faults, m_strangers, m_tests, m_exact, m_cost, m_nodes, m_one, m_two, m_prior, m_learned, m_price, m_needs, m_odds, m_given, m_node, m_value, m_best, m_digit, m_weight, m_wait, m_by, m_found, m_use, m_cost_s, List.set]
theorem m_nodes_put (cs : Nat → ClassId) (a : Nat → Nat) (st : MS) (v : Int32) : (m_W cs a st).set 0 (a 0, .inr (5, ([.int (m_code st), .int (m_causes st), .int (m_faults st), .ref (a 1), .ref (a 2), .ref (a 3), .ref (a 4), .int (m_strangers st), .int (m_tests st), .ref (a 5), .ref (a 6), .ref (a 7), .ref (a 8), .int (m_exact st), .long (m_cost st), .int (m_nodes st), .ref (a 9), .ref (a 10), .ref (a 11), .ref (a 12), .ref (a 13), .ref (a 14), .ref (a 15), .ref (a 16), .ref (a 17)] : List Value).set 15 (.int v))) = m_W cs a (m_nodes_s st v) := by
  simp only [m_W, m_code, m_causes, m_faults, m_strangers, m_tests, m_exact, m_cost, m_nodes, m_one, m_two, m_prior, m_learned, m_price, m_needs, m_odds, m_given, m_node, m_value, m_best, m_digit, m_weight, m_wait, m_by, m_found, m_use, m_nodes_s, List.set]
theorem m_one_put (cs : Nat → ClassId) (a : Nat → Nat) (st : MS) (j : Nat) (v : Int32) : (m_W cs a st).set 1 (a 1, .inl (cs 1, 13, .inl (upd (m_one st) j v))) = m_W cs a (m_one_s st j v) := by
  simp only [m_W, m_code, m_causes, m_faults, m_strangers, m_tests, m_exact, m_cost, m_nodes, m_one, m_two, m_prior, m_learned, m_price, m_needs, m_odds, m_given, m_node, m_value, m_best, m_digit, m_weight, m_wait, m_by, m_found, m_use, m_one_s, List.set]
theorem m_one_all (cs : Nat → ClassId) (a : Nat → Nat) (st : MS) (f : Nat → Int32) : (m_W cs a st).set 1 (a 1, .inl (cs 1, 13, .inl (f))) = m_W cs a (m_one_f st f) := by
  simp only [m_W, m_code, m_causes, m_faults, m_strangers, m_tests, m_exact, m_cost, m_nodes, m_one, m_two, m_prior, m_learned, m_price, m_needs, m_odds, m_given, m_node, m_value, m_best, m_digit, m_weight, m_wait, m_by, m_found, m_use, m_one_f, List.set]
theorem m_two_put (cs : Nat → ClassId) (a : Nat → Nat) (st : MS) (j : Nat) (v : Int32) : (m_W cs a st).set 2 (a 2, .inl (cs 1, 13, .inl (upd (m_two st) j v))) = m_W cs a (m_two_s st j v) := by
  simp only [m_W, m_code, m_causes, m_faults, m_strangers, m_tests, m_exact, m_cost, m_nodes, m_one, m_two, m_prior, m_learned, m_price, m_needs, m_odds, m_given, m_node, m_value, m_best, m_digit, m_weight, m_wait, m_by, m_found, m_use, m_two_s, List.set]
theorem m_two_all (cs : Nat → ClassId) (a : Nat → Nat) (st : MS) (f : Nat → Int32) : (m_W cs a st).set 2 (a 2, .inl (cs 1, 13, .inl (f))) = m_W cs a (m_two_f st f) := by
  simp only [m_W, m_code, m_causes, m_faults, m_strangers, m_tests, m_exact, m_cost, m_nodes, m_one, m_two, m_prior, m_learned, m_price, m_needs, m_odds, m_given, m_node, m_value, m_best, m_digit, m_weight, m_wait, m_by, m_found, m_use, m_two_f, List.set]
theorem m_prior_put (cs : Nat → ClassId) (a : Nat → Nat) (st : MS) (j : Nat) (v : Int64) : (m_W cs a st).set 3 (a 3, .inl (cs 0, 13, .inr (.inl (vp_updL (m_prior st) j v)))) = m_W cs a (m_prior_s st j v) := by
  simp only [m_W, m_code, m_causes, m_faults, m_strangers, m_tests, m_exact, m_cost, m_nodes, m_one, m_two, m_prior, m_learned, m_price, m_needs, m_odds, m_given, m_node, m_value, m_best, m_digit, m_weight, m_wait, m_by, m_found, m_use, m_prior_s, List.set]
theorem m_prior_all (cs : Nat → ClassId) (a : Nat → Nat) (st : MS) (f : Nat → Int64) : (m_W cs a st).set 3 (a 3, .inl (cs 0, 13, .inr (.inl (f)))) = m_W cs a (m_prior_f st f) := by
  simp only [m_W, m_code, m_causes, m_faults, m_strangers, m_tests, m_exact, m_cost, m_nodes, m_one, m_two, m_prior, m_learned, m_price, m_needs, m_odds, m_given, m_node, m_value, m_best, m_digit, m_weight, m_wait, m_by, m_found, m_use, m_prior_f, List.set]
theorem m_learned_put (cs : Nat → ClassId) (a : Nat → Nat) (st : MS) (j : Nat) (v : Int32) : (m_W cs a st).set 4 (a 4, .inl (cs 1, 13, .inl (upd (m_learned st) j v))) = m_W cs a (m_learned_s st j v) := by
  simp only [m_W, m_code, m_causes, m_faults, m_strangers, m_tests, m_exact, m_cost, m_nodes, m_one, m_two, m_prior, m_learned, m_price, m_needs, m_odds, m_given, m_node, m_value, m_best, m_digit, m_weight, m_wait, m_by, m_found, m_use, m_learned_s, List.set]
theorem m_learned_all (cs : Nat → ClassId) (a : Nat → Nat) (st : MS) (f : Nat → Int32) : (m_W cs a st).set 4 (a 4, .inl (cs 1, 13, .inl (f))) = m_W cs a (m_learned_f st f) := by
  simp only [m_W, m_code, m_causes, m_faults, m_strangers, m_tests, m_exact, m_cost, m_nodes, m_one, m_two, m_prior, m_learned, m_price, m_needs, m_odds, m_given, m_node, m_value, m_best, m_digit, m_weight, m_wait, m_by, m_found, m_use, m_learned_f, List.set]
theorem m_price_put (cs : Nat → ClassId) (a : Nat → Nat) (st : MS) (j : Nat) (v : Int64) : (m_W cs a st).set 5 (a 5, .inl (cs 0, 7, .inr (.inl (vp_updL (m_price st) j v)))) = m_W cs a (m_price_s st j v) := by
  simp only [m_W, m_code, m_causes, m_faults, m_strangers, m_tests, m_exact, m_cost, m_nodes, m_one, m_two, m_prior, m_learned, m_price, m_needs, m_odds, m_given, m_node, m_value, m_best, m_digit, m_weight, m_wait, m_by, m_found, m_use, m_price_s, List.set]
theorem m_price_all (cs : Nat → ClassId) (a : Nat → Nat) (st : MS) (f : Nat → Int64) : (m_W cs a st).set 5 (a 5, .inl (cs 0, 7, .inr (.inl (f)))) = m_W cs a (m_price_f st f) := by
  simp only [m_W, m_code, m_causes, m_faults, m_strangers, m_tests, m_exact, m_cost, m_nodes, m_one, m_two, m_prior, m_learned, m_price, m_needs, m_odds, m_given, m_node, m_value, m_best, m_digit, m_weight, m_wait, m_by, m_found, m_use, m_price_f, List.set]
theorem m_needs_put (cs : Nat → ClassId) (a : Nat → Nat) (st : MS) (j : Nat) (v : Int32) : (m_W cs a st).set 6 (a 6, .inl (cs 5, 49, .inl (upd (m_needs st) j v))) = m_W cs a (m_needs_s st j v) := by
  simp only [m_W, m_code, m_causes, m_faults, m_strangers, m_tests, m_exact, m_cost, m_nodes, m_one, m_two, m_prior, m_learned, m_price, m_needs, m_odds, m_given, m_node, m_value, m_best, m_digit, m_weight, m_wait, m_by, m_found, m_use, m_needs_s, List.set]
theorem m_needs_all (cs : Nat → ClassId) (a : Nat → Nat) (st : MS) (f : Nat → Int32) : (m_W cs a st).set 6 (a 6, .inl (cs 5, 49, .inl (f))) = m_W cs a (m_needs_f st f) := by
  simp only [m_W, m_code, m_causes, m_faults, m_strangers, m_tests, m_exact, m_cost, m_nodes, m_one, m_two, m_prior, m_learned, m_price, m_needs, m_odds, m_given, m_node, m_value, m_best, m_digit, m_weight, m_wait, m_by, m_found, m_use, m_needs_f, List.set]
theorem m_odds_put (cs : Nat → ClassId) (a : Nat → Nat) (st : MS) (j : Nat) (v : Int32) : (m_W cs a st).set 7 (a 7, .inl (cs 1, 273, .inl (upd (m_odds st) j v))) = m_W cs a (m_odds_s st j v) := by
  simp only [m_W, m_code, m_causes, m_faults, m_strangers, m_tests, m_exact, m_cost, m_nodes, m_one, m_two, m_prior, m_learned, m_price, m_needs, m_odds, m_given, m_node, m_value, m_best, m_digit, m_weight, m_wait, m_by, m_found, m_use, m_odds_s, List.set]
theorem m_odds_all (cs : Nat → ClassId) (a : Nat → Nat) (st : MS) (f : Nat → Int32) : (m_W cs a st).set 7 (a 7, .inl (cs 1, 273, .inl (f))) = m_W cs a (m_odds_f st f) := by
  simp only [m_W, m_code, m_causes, m_faults, m_strangers, m_tests, m_exact, m_cost, m_nodes, m_one, m_two, m_prior, m_learned, m_price, m_needs, m_odds, m_given, m_node, m_value, m_best, m_digit, m_weight, m_wait, m_by, m_found, m_use, m_odds_f, List.set]
theorem m_given_put (cs : Nat → ClassId) (a : Nat → Nat) (st : MS) (j : Nat) (v : Int32) : (m_W cs a st).set 8 (a 8, .inl (cs 1, 7, .inl (upd (m_given st) j v))) = m_W cs a (m_given_s st j v) := by
  simp only [m_W, m_code, m_causes, m_faults, m_strangers, m_tests, m_exact, m_cost, m_nodes, m_one, m_two, m_prior, m_learned, m_price, m_needs, m_odds, m_given, m_node, m_value, m_best, m_digit, m_weight, m_wait, m_by, m_found, m_use, m_given_s, List.set]
theorem m_given_all (cs : Nat → ClassId) (a : Nat → Nat) (st : MS) (f : Nat → Int32) : (m_W cs a st).set 8 (a 8, .inl (cs 1, 7, .inl (f))) = m_W cs a (m_given_f st f) := by
  simp only [m_W, m_code, m_causes, m_faults, m_strangers, m_tests, m_exact, m_cost, m_nodes, m_one, m_two, m_prior, m_learned, m_price, m_needs, m_odds, m_given, m_node, m_value, m_best, m_digit, m_weight, m_wait, m_by, m_found, m_use, m_given_f, List.set]
theorem m_node_put (cs : Nat → ClassId) (a : Nat → Nat) (st : MS) (j : Nat) (v : Int32) : (m_W cs a st).set 9 (a 9, .inl (cs 1, 900, .inl (upd (m_node st) j v))) = m_W cs a (m_node_s st j v) := by
  simp only [m_W, m_code, m_causes, m_faults, m_strangers, m_tests, m_exact, m_cost, m_nodes, m_one, m_two, m_prior, m_learned, m_price, m_needs, m_odds, m_given, m_node, m_value, m_best, m_digit, m_weight, m_wait, m_by, m_found, m_use, m_node_s, List.set]
theorem m_node_all (cs : Nat → ClassId) (a : Nat → Nat) (st : MS) (f : Nat → Int32) : (m_W cs a st).set 9 (a 9, .inl (cs 1, 900, .inl (f))) = m_W cs a (m_node_f st f) := by
  simp only [m_W, m_code, m_causes, m_faults, m_strangers, m_tests, m_exact, m_cost, m_nodes, m_one, m_two, m_prior, m_learned, m_price, m_needs, m_odds, m_given, m_node, m_value, m_best, m_digit, m_weight, m_wait, m_by, m_found, m_use, m_node_f, List.set]
theorem m_value_put (cs : Nat → ClassId) (a : Nat → Nat) (st : MS) (j : Nat) (v : Int64) : (m_W cs a st).set 10 (a 10, .inl (cs 0, 4096, .inr (.inl (vp_updL (m_value st) j v)))) = m_W cs a (m_value_s st j v) := by
  simp only [m_W, m_code, m_causes, m_faults, m_strangers, m_tests, m_exact, m_cost, m_nodes, m_one, m_two, m_prior, m_learned, m_price, m_needs, m_odds, m_given, m_node, m_value, m_best, m_digit, m_weight, m_wait, m_by, m_found, m_use, m_value_s, List.set]
theorem m_value_all (cs : Nat → ClassId) (a : Nat → Nat) (st : MS) (f : Nat → Int64) : (m_W cs a st).set 10 (a 10, .inl (cs 0, 4096, .inr (.inl (f)))) = m_W cs a (m_value_f st f) := by
  simp only [m_W, m_code, m_causes, m_faults, m_strangers, m_tests, m_exact, m_cost, m_nodes, m_one, m_two, m_prior, m_learned, m_price, m_needs, m_odds, m_given, m_node, m_value, m_best, m_digit, m_weight, m_wait, m_by, m_found, m_use, m_value_f, List.set]
theorem m_best_put (cs : Nat → ClassId) (a : Nat → Nat) (st : MS) (j : Nat) (v : Int32) : (m_W cs a st).set 11 (a 11, .inl (cs 1, 4096, .inl (upd (m_best st) j v))) = m_W cs a (m_best_s st j v) := by
  simp only [m_W, m_code, m_causes, m_faults, m_strangers, m_tests, m_exact, m_cost, m_nodes, m_one, m_two, m_prior, m_learned, m_price, m_needs, m_odds, m_given, m_node, m_value, m_best, m_digit, m_weight, m_wait, m_by, m_found, m_use, m_best_s, List.set]
theorem m_best_all (cs : Nat → ClassId) (a : Nat → Nat) (st : MS) (f : Nat → Int32) : (m_W cs a st).set 11 (a 11, .inl (cs 1, 4096, .inl (f))) = m_W cs a (m_best_f st f) := by
  simp only [m_W, m_code, m_causes, m_faults, m_strangers, m_tests, m_exact, m_cost, m_nodes, m_one, m_two, m_prior, m_learned, m_price, m_needs, m_odds, m_given, m_node, m_value, m_best, m_digit, m_weight, m_wait, m_by, m_found, m_use, m_best_f, List.set]
theorem m_digit_put (cs : Nat → ClassId) (a : Nat → Nat) (st : MS) (j : Nat) (v : Int32) : (m_W cs a st).set 12 (a 12, .inl (cs 1, 7, .inl (upd (m_digit st) j v))) = m_W cs a (m_digit_s st j v) := by
  simp only [m_W, m_code, m_causes, m_faults, m_strangers, m_tests, m_exact, m_cost, m_nodes, m_one, m_two, m_prior, m_learned, m_price, m_needs, m_odds, m_given, m_node, m_value, m_best, m_digit, m_weight, m_wait, m_by, m_found, m_use, m_digit_s, List.set]
theorem m_digit_all (cs : Nat → ClassId) (a : Nat → Nat) (st : MS) (f : Nat → Int32) : (m_W cs a st).set 12 (a 12, .inl (cs 1, 7, .inl (f))) = m_W cs a (m_digit_f st f) := by
  simp only [m_W, m_code, m_causes, m_faults, m_strangers, m_tests, m_exact, m_cost, m_nodes, m_one, m_two, m_prior, m_learned, m_price, m_needs, m_odds, m_given, m_node, m_value, m_best, m_digit, m_weight, m_wait, m_by, m_found, m_use, m_digit_f, List.set]
theorem m_weight_put (cs : Nat → ClassId) (a : Nat → Nat) (st : MS) (j : Nat) (v : Int64) : (m_W cs a st).set 13 (a 13, .inl (cs 0, 13, .inr (.inl (vp_updL (m_weight st) j v)))) = m_W cs a (m_weight_s st j v) := by
  simp only [m_W, m_code, m_causes, m_faults, m_strangers, m_tests, m_exact, m_cost, m_nodes, m_one, m_two, m_prior, m_learned, m_price, m_needs, m_odds, m_given, m_node, m_value, m_best, m_digit, m_weight, m_wait, m_by, m_found, m_use, m_weight_s, List.set]
theorem m_weight_all (cs : Nat → ClassId) (a : Nat → Nat) (st : MS) (f : Nat → Int64) : (m_W cs a st).set 13 (a 13, .inl (cs 0, 13, .inr (.inl (f)))) = m_W cs a (m_weight_f st f) := by
  simp only [m_W, m_code, m_causes, m_faults, m_strangers, m_tests, m_exact, m_cost, m_nodes, m_one, m_two, m_prior, m_learned, m_price, m_needs, m_odds, m_given, m_node, m_value, m_best, m_digit, m_weight, m_wait, m_by, m_found, m_use, m_weight_f, List.set]
theorem m_wait_put (cs : Nat → ClassId) (a : Nat → Nat) (st : MS) (j : Nat) (v : Int32) : (m_W cs a st).set 14 (a 14, .inl (cs 1, 64, .inl (upd (m_wait st) j v))) = m_W cs a (m_wait_s st j v) := by
  simp only [m_W, m_code, m_causes, m_faults, m_strangers, m_tests, m_exact, m_cost, m_nodes, m_one, m_two, m_prior, m_learned, m_price, m_needs, m_odds, m_given, m_node, m_value, m_best, m_digit, m_weight, m_wait, m_by, m_found, m_use, m_wait_s, List.set]
theorem m_wait_all (cs : Nat → ClassId) (a : Nat → Nat) (st : MS) (f : Nat → Int32) : (m_W cs a st).set 14 (a 14, .inl (cs 1, 64, .inl (f))) = m_W cs a (m_wait_f st f) := by
  simp only [m_W, m_code, m_causes, m_faults, m_strangers, m_tests, m_exact, m_cost, m_nodes, m_one, m_two, m_prior, m_learned, m_price, m_needs, m_odds, m_given, m_node, m_value, m_best, m_digit, m_weight, m_wait, m_by, m_found, m_use, m_wait_f, List.set]
theorem m_by_put (cs : Nat → ClassId) (a : Nat → Nat) (st : MS) (j : Nat) (v : Int32) : (m_W cs a st).set 15 (a 15, .inl (cs 1, 64, .inl (upd (m_by st) j v))) = m_W cs a (m_by_s st j v) := by
  simp only [m_W, m_code, m_causes, m_faults, m_strangers, m_tests, m_exact, m_cost, m_nodes, m_one, m_two, m_prior, m_learned, m_price, m_needs, m_odds, m_given, m_node, m_value, m_best, m_digit, m_weight, m_wait, m_by, m_found, m_use, m_by_s, List.set]
theorem m_by_all (cs : Nat → ClassId) (a : Nat → Nat) (st : MS) (f : Nat → Int32) : (m_W cs a st).set 15 (a 15, .inl (cs 1, 64, .inl (f))) = m_W cs a (m_by_f st f) := by
  simp only [m_W, m_code, m_causes, m_faults, m_strangers, m_tests, m_exact, m_cost, m_nodes, m_one, m_two, m_prior, m_learned, m_price, m_needs, m_odds, m_given, m_node, m_value, m_best, m_digit, m_weight, m_wait, m_by, m_found, m_use, m_by_f, List.set]
theorem m_found_put (cs : Nat → ClassId) (a : Nat → Nat) (st : MS) (j : Nat) (v : Int32) : (m_W cs a st).set 16 (a 16, .inl (cs 5, 7, .inl (upd (m_found st) j v))) = m_W cs a (m_found_s st j v) := by
  simp only [m_W, m_code, m_causes, m_faults, m_strangers, m_tests, m_exact, m_cost, m_nodes, m_one, m_two, m_prior, m_learned, m_price, m_needs, m_odds, m_given, m_node, m_value, m_best, m_digit, m_weight, m_wait, m_by, m_found, m_use, m_found_s, List.set]
theorem m_found_all (cs : Nat → ClassId) (a : Nat → Nat) (st : MS) (f : Nat → Int32) : (m_W cs a st).set 16 (a 16, .inl (cs 5, 7, .inl (f))) = m_W cs a (m_found_f st f) := by
  simp only [m_W, m_code, m_causes, m_faults, m_strangers, m_tests, m_exact, m_cost, m_nodes, m_one, m_two, m_prior, m_learned, m_price, m_needs, m_odds, m_given, m_node, m_value, m_best, m_digit, m_weight, m_wait, m_by, m_found, m_use, m_found_f, List.set]
theorem m_use_put (cs : Nat → ClassId) (a : Nat → Nat) (st : MS) (j : Nat) (v : Int32) : (m_W cs a st).set 17 (a 17, .inl (cs 5, 7, .inl (upd (m_use st) j v))) = m_W cs a (m_use_s st j v) := by
  simp only [m_W, m_code, m_causes, m_faults, m_strangers, m_tests, m_exact, m_cost, m_nodes, m_one, m_two, m_prior, m_learned, m_price, m_needs, m_odds, m_given, m_node, m_value, m_best, m_digit, m_weight, m_wait, m_by, m_found, m_use, m_use_s, List.set]
theorem m_use_all (cs : Nat → ClassId) (a : Nat → Nat) (st : MS) (f : Nat → Int32) : (m_W cs a st).set 17 (a 17, .inl (cs 5, 7, .inl (f))) = m_W cs a (m_use_f st f) := by
  simp only [m_W, m_code, m_causes, m_faults, m_strangers, m_tests, m_exact, m_cost, m_nodes, m_one, m_two, m_prior, m_learned, m_price, m_needs, m_odds, m_given, m_node, m_value, m_best, m_digit, m_weight, m_wait, m_by, m_found, m_use, m_use_f, List.set]
abbrev m_pre (dC : Nat → ClassId) (dI : Nat → Nat → Nat) (cs : Nat → ClassId) (a : Nat → Nat) (st : MS) : State → Prop := fun U => va_P (dC, dI) vwCl (m_W cs a st) U.heap ∧ va_K (dC, dI) vwCl (g_ty cs) U ∧ NW U
end
section
theorem d_G_isAnswer_0 : decode prog_1_method_15_code 0 = .ok (.iload_n 0, 1) := by decide +kernel
theorem d_G_isAnswer_1 : decode prog_1_method_15_code 1 = .ok (.ifCond .lt 12, 3) := by decide +kernel
theorem d_G_isAnswer_4 : decode prog_1_method_15_code 4 = .ok (.iload_n 0, 1) := by decide +kernel
theorem d_G_isAnswer_5 : decode prog_1_method_15_code 5 = .ok (.iconst 3, 1) := by decide +kernel
theorem d_G_isAnswer_6 : decode prog_1_method_15_code 6 = .ok (.if_icmp .ge 7, 3) := by decide +kernel
theorem d_G_isAnswer_9 : decode prog_1_method_15_code 9 = .ok (.iconst 1, 1) := by decide +kernel
theorem d_G_isAnswer_10 : decode prog_1_method_15_code 10 = .ok (.goto 4, 3) := by decide +kernel
theorem d_G_isAnswer_13 : decode prog_1_method_15_code 13 = .ok (.iconst 0, 1) := by decide +kernel
theorem d_G_isAnswer_14 : decode prog_1_method_15_code 14 = .ok (.ireturn, 1) := by decide +kernel
theorem d_G_isPartOfTwelve_0 : decode prog_1_method_16_code 0 = .ok (.lload_n 2, 1) := by decide +kernel
theorem d_G_isPartOfTwelve_1 : decode prog_1_method_16_code 1 = .ok (.lconst 1, 1) := by decide +kernel
theorem d_G_isPartOfTwelve_2 : decode prog_1_method_16_code 2 = .ok (.lcmp, 1) := by decide +kernel
theorem d_G_isPartOfTwelve_3 : decode prog_1_method_16_code 3 = .ok (.ifCond .lt 29, 3) := by decide +kernel
theorem d_G_isPartOfTwelve_6 : decode prog_1_method_16_code 6 = .ok (.ldc2_w 82, 3) := by decide +kernel
theorem d_G_isPartOfTwelve_9 : decode prog_1_method_16_code 9 = .ok (.lload_n 2, 1) := by decide +kernel
theorem d_G_isPartOfTwelve_10 : decode prog_1_method_16_code 10 = .ok (.lrem, 1) := by decide +kernel
theorem d_G_isPartOfTwelve_11 : decode prog_1_method_16_code 11 = .ok (.lconst 0, 1) := by decide +kernel
theorem d_G_isPartOfTwelve_12 : decode prog_1_method_16_code 12 = .ok (.lcmp, 1) := by decide +kernel
theorem d_G_isPartOfTwelve_13 : decode prog_1_method_16_code 13 = .ok (.ifCond .ne 19, 3) := by decide +kernel
theorem d_G_isPartOfTwelve_16 : decode prog_1_method_16_code 16 = .ok (.lload_n 0, 1) := by decide +kernel
theorem d_G_isPartOfTwelve_17 : decode prog_1_method_16_code 17 = .ok (.lconst 0, 1) := by decide +kernel
theorem d_G_isPartOfTwelve_18 : decode prog_1_method_16_code 18 = .ok (.lcmp, 1) := by decide +kernel
theorem d_G_isPartOfTwelve_19 : decode prog_1_method_16_code 19 = .ok (.ifCond .lt 13, 3) := by decide +kernel
theorem d_G_isPartOfTwelve_22 : decode prog_1_method_16_code 22 = .ok (.lload_n 0, 1) := by decide +kernel
theorem d_G_isPartOfTwelve_23 : decode prog_1_method_16_code 23 = .ok (.lload_n 2, 1) := by decide +kernel
theorem d_G_isPartOfTwelve_24 : decode prog_1_method_16_code 24 = .ok (.lcmp, 1) := by decide +kernel
theorem d_G_isPartOfTwelve_25 : decode prog_1_method_16_code 25 = .ok (.ifCond .gt 7, 3) := by decide +kernel
theorem d_G_isPartOfTwelve_28 : decode prog_1_method_16_code 28 = .ok (.iconst 1, 1) := by decide +kernel
theorem d_G_isPartOfTwelve_29 : decode prog_1_method_16_code 29 = .ok (.goto 4, 3) := by decide +kernel
theorem d_G_isPartOfTwelve_32 : decode prog_1_method_16_code 32 = .ok (.iconst 0, 1) := by decide +kernel
theorem d_G_isPartOfTwelve_33 : decode prog_1_method_16_code 33 = .ok (.ireturn, 1) := by decide +kernel
theorem d_G_answerIn_0 : decode prog_1_method_19_code 0 = .ok (.iload_n 0, 1) := by decide +kernel
theorem d_G_answerIn_1 : decode prog_1_method_19_code 1 = .ok (.iconst 2, 1) := by decide +kernel
theorem d_G_answerIn_2 : decode prog_1_method_19_code 2 = .ok (.iload_n 1, 1) := by decide +kernel
theorem d_G_answerIn_3 : decode prog_1_method_19_code 3 = .ok (.iconst 1, 1) := by decide +kernel
theorem d_G_answerIn_4 : decode prog_1_method_19_code 4 = .ok (.isub, 1) := by decide +kernel
theorem d_G_answerIn_5 : decode prog_1_method_19_code 5 = .ok (.imul, 1) := by decide +kernel
theorem d_G_answerIn_6 : decode prog_1_method_19_code 6 = .ok (.ishr, 1) := by decide +kernel
theorem d_G_answerIn_7 : decode prog_1_method_19_code 7 = .ok (.iconst 3, 1) := by decide +kernel
theorem d_G_answerIn_8 : decode prog_1_method_19_code 8 = .ok (.iand, 1) := by decide +kernel
theorem d_G_answerIn_9 : decode prog_1_method_19_code 9 = .ok (.iconst 1, 1) := by decide +kernel
theorem d_G_answerIn_10 : decode prog_1_method_19_code 10 = .ok (.isub, 1) := by decide +kernel
theorem d_G_answerIn_11 : decode prog_1_method_19_code 11 = .ok (.ireturn, 1) := by decide +kernel
theorem d_G_bit_0 : decode prog_1_method_17_code 0 = .ok (.iconst 1, 1) := by decide +kernel
theorem d_G_bit_1 : decode prog_1_method_17_code 1 = .ok (.iload_n 0, 1) := by decide +kernel
theorem d_G_bit_2 : decode prog_1_method_17_code 2 = .ok (.ishl, 1) := by decide +kernel
theorem d_G_bit_3 : decode prog_1_method_17_code 3 = .ok (.ireturn, 1) := by decide +kernel
theorem d_G_holds_0 : decode prog_1_method_18_code 0 = .ok (.iload_n 0, 1) := by decide +kernel
theorem d_G_holds_1 : decode prog_1_method_18_code 1 = .ok (.iload_n 1, 1) := by decide +kernel
theorem d_G_holds_2 : decode prog_1_method_18_code 2 = .ok (.invokestatic 102, 3) := by decide +kernel
theorem d_G_holds_5 : decode prog_1_method_18_code 5 = .ok (.iand, 1) := by decide +kernel
theorem d_G_holds_6 : decode prog_1_method_18_code 6 = .ok (.ifCond .eq 7, 3) := by decide +kernel
theorem d_G_holds_9 : decode prog_1_method_18_code 9 = .ok (.iconst 1, 1) := by decide +kernel
theorem d_G_holds_10 : decode prog_1_method_18_code 10 = .ok (.goto 4, 3) := by decide +kernel
theorem d_G_holds_13 : decode prog_1_method_18_code 13 = .ok (.iconst 0, 1) := by decide +kernel
theorem d_G_holds_14 : decode prog_1_method_18_code 14 = .ok (.ireturn, 1) := by decide +kernel
theorem d_JI_bitCount_0 : decode prog_10_method_49_code 0 = .ok (.iload_n 0, 1) := by decide +kernel
theorem d_JI_bitCount_1 : decode prog_10_method_49_code 1 = .ok (.iload_n 0, 1) := by decide +kernel
theorem d_JI_bitCount_2 : decode prog_10_method_49_code 2 = .ok (.iconst 1, 1) := by decide +kernel
theorem d_JI_bitCount_3 : decode prog_10_method_49_code 3 = .ok (.iushr, 1) := by decide +kernel
theorem d_JI_bitCount_4 : decode prog_10_method_49_code 4 = .ok (.ldc_w 265, 3) := by decide +kernel
theorem d_JI_bitCount_7 : decode prog_10_method_49_code 7 = .ok (.iand, 1) := by decide +kernel
theorem d_JI_bitCount_8 : decode prog_10_method_49_code 8 = .ok (.isub, 1) := by decide +kernel
theorem d_JI_bitCount_9 : decode prog_10_method_49_code 9 = .ok (.istore_n 0, 1) := by decide +kernel
theorem d_JI_bitCount_10 : decode prog_10_method_49_code 10 = .ok (.iload_n 0, 1) := by decide +kernel
theorem d_JI_bitCount_11 : decode prog_10_method_49_code 11 = .ok (.ldc_w 266, 3) := by decide +kernel
theorem d_JI_bitCount_14 : decode prog_10_method_49_code 14 = .ok (.iand, 1) := by decide +kernel
theorem d_JI_bitCount_15 : decode prog_10_method_49_code 15 = .ok (.iload_n 0, 1) := by decide +kernel
theorem d_JI_bitCount_16 : decode prog_10_method_49_code 16 = .ok (.iconst 2, 1) := by decide +kernel
theorem d_JI_bitCount_17 : decode prog_10_method_49_code 17 = .ok (.iushr, 1) := by decide +kernel
theorem d_JI_bitCount_18 : decode prog_10_method_49_code 18 = .ok (.ldc_w 266, 3) := by decide +kernel
theorem d_JI_bitCount_21 : decode prog_10_method_49_code 21 = .ok (.iand, 1) := by decide +kernel
theorem d_JI_bitCount_22 : decode prog_10_method_49_code 22 = .ok (.iadd, 1) := by decide +kernel
theorem d_JI_bitCount_23 : decode prog_10_method_49_code 23 = .ok (.istore_n 0, 1) := by decide +kernel
theorem d_JI_bitCount_24 : decode prog_10_method_49_code 24 = .ok (.iload_n 0, 1) := by decide +kernel
theorem d_JI_bitCount_25 : decode prog_10_method_49_code 25 = .ok (.iload_n 0, 1) := by decide +kernel
theorem d_JI_bitCount_26 : decode prog_10_method_49_code 26 = .ok (.iconst 4, 1) := by decide +kernel
theorem d_JI_bitCount_27 : decode prog_10_method_49_code 27 = .ok (.iushr, 1) := by decide +kernel
theorem d_JI_bitCount_28 : decode prog_10_method_49_code 28 = .ok (.iadd, 1) := by decide +kernel
theorem d_JI_bitCount_29 : decode prog_10_method_49_code 29 = .ok (.ldc_w 267, 3) := by decide +kernel
theorem d_JI_bitCount_32 : decode prog_10_method_49_code 32 = .ok (.iand, 1) := by decide +kernel
theorem d_JI_bitCount_33 : decode prog_10_method_49_code 33 = .ok (.istore_n 0, 1) := by decide +kernel
theorem d_JI_bitCount_34 : decode prog_10_method_49_code 34 = .ok (.iload_n 0, 1) := by decide +kernel
theorem d_JI_bitCount_35 : decode prog_10_method_49_code 35 = .ok (.iload_n 0, 1) := by decide +kernel
theorem d_JI_bitCount_36 : decode prog_10_method_49_code 36 = .ok (.bipush 8, 2) := by decide +kernel
theorem d_JI_bitCount_38 : decode prog_10_method_49_code 38 = .ok (.iushr, 1) := by decide +kernel
theorem d_JI_bitCount_39 : decode prog_10_method_49_code 39 = .ok (.iadd, 1) := by decide +kernel
theorem d_JI_bitCount_40 : decode prog_10_method_49_code 40 = .ok (.istore_n 0, 1) := by decide +kernel
theorem d_JI_bitCount_41 : decode prog_10_method_49_code 41 = .ok (.iload_n 0, 1) := by decide +kernel
theorem d_JI_bitCount_42 : decode prog_10_method_49_code 42 = .ok (.iload_n 0, 1) := by decide +kernel
theorem d_JI_bitCount_43 : decode prog_10_method_49_code 43 = .ok (.bipush 16, 2) := by decide +kernel
theorem d_JI_bitCount_45 : decode prog_10_method_49_code 45 = .ok (.iushr, 1) := by decide +kernel
theorem d_JI_bitCount_46 : decode prog_10_method_49_code 46 = .ok (.iadd, 1) := by decide +kernel
theorem d_JI_bitCount_47 : decode prog_10_method_49_code 47 = .ok (.istore_n 0, 1) := by decide +kernel
theorem d_JI_bitCount_48 : decode prog_10_method_49_code 48 = .ok (.iload_n 0, 1) := by decide +kernel
theorem d_JI_bitCount_49 : decode prog_10_method_49_code 49 = .ok (.bipush 63, 2) := by decide +kernel
theorem d_JI_bitCount_51 : decode prog_10_method_49_code 51 = .ok (.iand, 1) := by decide +kernel
theorem d_JI_bitCount_52 : decode prog_10_method_49_code 52 = .ok (.ireturn, 1) := by decide +kernel
theorem d_G_withAnswer_0 : decode prog_1_method_20_code 0 = .ok (.iload_n 0, 1) := by decide +kernel
theorem d_G_withAnswer_1 : decode prog_1_method_20_code 1 = .ok (.iload_n 2, 1) := by decide +kernel
theorem d_G_withAnswer_2 : decode prog_1_method_20_code 2 = .ok (.iconst 1, 1) := by decide +kernel
theorem d_G_withAnswer_3 : decode prog_1_method_20_code 3 = .ok (.iadd, 1) := by decide +kernel
theorem d_G_withAnswer_4 : decode prog_1_method_20_code 4 = .ok (.iconst 2, 1) := by decide +kernel
theorem d_G_withAnswer_5 : decode prog_1_method_20_code 5 = .ok (.iload_n 1, 1) := by decide +kernel
theorem d_G_withAnswer_6 : decode prog_1_method_20_code 6 = .ok (.iconst 1, 1) := by decide +kernel
theorem d_G_withAnswer_7 : decode prog_1_method_20_code 7 = .ok (.isub, 1) := by decide +kernel
theorem d_G_withAnswer_8 : decode prog_1_method_20_code 8 = .ok (.imul, 1) := by decide +kernel
theorem d_G_withAnswer_9 : decode prog_1_method_20_code 9 = .ok (.ishl, 1) := by decide +kernel
theorem d_G_withAnswer_10 : decode prog_1_method_20_code 10 = .ok (.ior, 1) := by decide +kernel
theorem d_G_withAnswer_11 : decode prog_1_method_20_code 11 = .ok (.ireturn, 1) := by decide +kernel
theorem d_G_commonDivisor_0 : decode prog_1_method_21_code 0 = .ok (.lload_n 0, 1) := by decide +kernel
theorem d_G_commonDivisor_1 : decode prog_1_method_21_code 1 = .ok (.lstore 4, 2) := by decide +kernel
theorem d_G_commonDivisor_3 : decode prog_1_method_21_code 3 = .ok (.lload_n 2, 1) := by decide +kernel
theorem d_G_commonDivisor_4 : decode prog_1_method_21_code 4 = .ok (.lstore 6, 2) := by decide +kernel
theorem d_G_commonDivisor_6 : decode prog_1_method_21_code 6 = .ok (.iconst 0, 1) := by decide +kernel
theorem d_G_commonDivisor_7 : decode prog_1_method_21_code 7 = .ok (.istore 8, 2) := by decide +kernel
theorem d_G_commonDivisor_9 : decode prog_1_method_21_code 9 = .ok (.iload 8, 2) := by decide +kernel
theorem d_G_commonDivisor_11 : decode prog_1_method_21_code 11 = .ok (.sipush 200, 3) := by decide +kernel
theorem d_G_commonDivisor_14 : decode prog_1_method_21_code 14 = .ok (.if_icmp .ge 31, 3) := by decide +kernel
theorem d_G_commonDivisor_17 : decode prog_1_method_21_code 17 = .ok (.lload 6, 2) := by decide +kernel
theorem d_G_commonDivisor_19 : decode prog_1_method_21_code 19 = .ok (.lconst 0, 1) := by decide +kernel
theorem d_G_commonDivisor_20 : decode prog_1_method_21_code 20 = .ok (.lcmp, 1) := by decide +kernel
theorem d_G_commonDivisor_21 : decode prog_1_method_21_code 21 = .ok (.ifCond .eq 24, 3) := by decide +kernel
theorem d_G_commonDivisor_24 : decode prog_1_method_21_code 24 = .ok (.lload 4, 2) := by decide +kernel
theorem d_G_commonDivisor_26 : decode prog_1_method_21_code 26 = .ok (.lload 6, 2) := by decide +kernel
theorem d_G_commonDivisor_28 : decode prog_1_method_21_code 28 = .ok (.lrem, 1) := by decide +kernel
theorem d_G_commonDivisor_29 : decode prog_1_method_21_code 29 = .ok (.lstore 9, 2) := by decide +kernel
theorem d_G_commonDivisor_31 : decode prog_1_method_21_code 31 = .ok (.lload 6, 2) := by decide +kernel
theorem d_G_commonDivisor_33 : decode prog_1_method_21_code 33 = .ok (.lstore 4, 2) := by decide +kernel
theorem d_G_commonDivisor_35 : decode prog_1_method_21_code 35 = .ok (.lload 9, 2) := by decide +kernel
theorem d_G_commonDivisor_37 : decode prog_1_method_21_code 37 = .ok (.lstore 6, 2) := by decide +kernel
theorem d_G_commonDivisor_39 : decode prog_1_method_21_code 39 = .ok (.iinc 8 1, 3) := by decide +kernel
theorem d_G_commonDivisor_42 : decode prog_1_method_21_code 42 = .ok (.goto (-33), 3) := by decide +kernel
theorem d_G_commonDivisor_45 : decode prog_1_method_21_code 45 = .ok (.lload 4, 2) := by decide +kernel
theorem d_G_commonDivisor_47 : decode prog_1_method_21_code 47 = .ok (.lreturn, 1) := by decide +kernel
end
section
def x_G_isAnswer (p0 : Int32) : Option (Int32) :=
  if p0 < 0 then
    some (0 : Int32)
  else
    if (3 : Int32) ≤ p0 then
      some (0 : Int32)
    else
      some (1 : Int32)
def x_G_isPartOfTwelve (p0 : Int64) (p2 : Int64) : Option (Int32) :=
  if p2 < (1 : Int64) then
    some (0 : Int32)
  else
    dzl p2 <|
    if ((12 : Int64) - (12 : Int64) / p2 * p2) = (0 : Int64) then
      if p0 < (0 : Int64) then
        some (0 : Int32)
      else
        if p2 < p0 then
          some (0 : Int32)
        else
          some (1 : Int32)
    else
      some (0 : Int32)
def x_G_answerIn (p0 : Int32) (p1 : Int32) : Option (Int32) :=
  some (((p0 >>> (((2 : Int32) * (p1 - (1 : Int32))) &&& 31)) &&& (3 : Int32)) - (1 : Int32))
def x_G_bit (p0 : Int32) : Option (Int32) :=
  some ((1 : Int32) <<< (p0 &&& 31))
def x_G_holds (p0 : Int32) (p1 : Int32) : Option (Int32) :=
  (x_G_bit p1).bind fun r2 =>
  if (p0 &&& r2) = 0 then
    some (0 : Int32)
  else
    some (1 : Int32)
def x_JI_bitCount (p0 : Int32) : Option (Int32) :=
  some ((((((((p0 - ((p0.toUInt32 >>> ((1 : Int32).toUInt32 &&& Int32.toUInt32 31)).toInt32 &&& (1431655765 : Int32))) &&& (858993459 : Int32)) + (((p0 - ((p0.toUInt32 >>> ((1 : Int32).toUInt32 &&& Int32.toUInt32 31)).toInt32 &&& (1431655765 : Int32))).toUInt32 >>> ((2 : Int32).toUInt32 &&& Int32.toUInt32 31)).toInt32 &&& (858993459 : Int32))) + ((((p0 - ((p0.toUInt32 >>> ((1 : Int32).toUInt32 &&& Int32.toUInt32 31)).toInt32 &&& (1431655765 : Int32))) &&& (858993459 : Int32)) + (((p0 - ((p0.toUInt32 >>> ((1 : Int32).toUInt32 &&& Int32.toUInt32 31)).toInt32 &&& (1431655765 : Int32))).toUInt32 >>> ((2 : Int32).toUInt32 &&& Int32.toUInt32 31)).toInt32 &&& (858993459 : Int32))).toUInt32 >>> ((4 : Int32).toUInt32 &&& Int32.toUInt32 31)).toInt32) &&& (252645135 : Int32)) + ((((((p0 - ((p0.toUInt32 >>> ((1 : Int32).toUInt32 &&& Int32.toUInt32 31)).toInt32 &&& (1431655765 : Int32))) &&& (858993459 : Int32)) + (((p0 - ((p0.toUInt32 >>> ((1 : Int32).toUInt32 &&& Int32.toUInt32 31)).toInt32 &&& (1431655765 : Int32))).toUInt32 >>> ((2 : Int32).toUInt32 &&& Int32.toUInt32 31)).toInt32 &&& (858993459 : Int32))) + ((((p0 - ((p0.toUInt32 >>> ((1 : Int32).toUInt32 &&& Int32.toUInt32 31)).toInt32 &&& (1431655765 : Int32))) &&& (858993459 : Int32)) + (((p0 - ((p0.toUInt32 >>> ((1 : Int32).toUInt32 &&& Int32.toUInt32 31)).toInt32 &&& (1431655765 : Int32))).toUInt32 >>> ((2 : Int32).toUInt32 &&& Int32.toUInt32 31)).toInt32 &&& (858993459 : Int32))).toUInt32 >>> ((4 : Int32).toUInt32 &&& Int32.toUInt32 31)).toInt32) &&& (252645135 : Int32)).toUInt32 >>> ((8 : Int32).toUInt32 &&& Int32.toUInt32 31)).toInt32) + (((((((p0 - ((p0.toUInt32 >>> ((1 : Int32).toUInt32 &&& Int32.toUInt32 31)).toInt32 &&& (1431655765 : Int32))) &&& (858993459 : Int32)) + (((p0 - ((p0.toUInt32 >>> ((1 : Int32).toUInt32 &&& Int32.toUInt32 31)).toInt32 &&& (1431655765 : Int32))).toUInt32 >>> ((2 : Int32).toUInt32 &&& Int32.toUInt32 31)).toInt32 &&& (858993459 : Int32))) + ((((p0 - ((p0.toUInt32 >>> ((1 : Int32).toUInt32 &&& Int32.toUInt32 31)).toInt32 &&& (1431655765 : Int32))) &&& (858993459 : Int32)) + (((p0 - ((p0.toUInt32 >>> ((1 : Int32).toUInt32 &&& Int32.toUInt32 31)).toInt32 &&& (1431655765 : Int32))).toUInt32 >>> ((2 : Int32).toUInt32 &&& Int32.toUInt32 31)).toInt32 &&& (858993459 : Int32))).toUInt32 >>> ((4 : Int32).toUInt32 &&& Int32.toUInt32 31)).toInt32) &&& (252645135 : Int32)) + ((((((p0 - ((p0.toUInt32 >>> ((1 : Int32).toUInt32 &&& Int32.toUInt32 31)).toInt32 &&& (1431655765 : Int32))) &&& (858993459 : Int32)) + (((p0 - ((p0.toUInt32 >>> ((1 : Int32).toUInt32 &&& Int32.toUInt32 31)).toInt32 &&& (1431655765 : Int32))).toUInt32 >>> ((2 : Int32).toUInt32 &&& Int32.toUInt32 31)).toInt32 &&& (858993459 : Int32))) + ((((p0 - ((p0.toUInt32 >>> ((1 : Int32).toUInt32 &&& Int32.toUInt32 31)).toInt32 &&& (1431655765 : Int32))) &&& (858993459 : Int32)) + (((p0 - ((p0.toUInt32 >>> ((1 : Int32).toUInt32 &&& Int32.toUInt32 31)).toInt32 &&& (1431655765 : Int32))).toUInt32 >>> ((2 : Int32).toUInt32 &&& Int32.toUInt32 31)).toInt32 &&& (858993459 : Int32))).toUInt32 >>> ((4 : Int32).toUInt32 &&& Int32.toUInt32 31)).toInt32) &&& (252645135 : Int32)).toUInt32 >>> ((8 : Int32).toUInt32 &&& Int32.toUInt32 31)).toInt32).toUInt32 >>> ((16 : Int32).toUInt32 &&& Int32.toUInt32 31)).toInt32) &&& (63 : Int32))
def x_G_withAnswer (p0 : Int32) (p1 : Int32) (p2 : Int32) : Option (Int32) :=
  some (p0 ||| ((p2 + (1 : Int32)) <<< (((2 : Int32) * (p1 - (1 : Int32))) &&& 31)))
def x_G_commonDivisor_B1 (self1 : Int32 → Int64 → Int64 → Option (Int64)) (v1 : Int32) (v2 : Int64) (v3 : Int64) : Option (Int64) :=
  if (200 : Int32) ≤ v1 then
    some v3
  else
    if v2 = (0 : Int64) then
      some v3
    else
      dzl v2 <|
      self1 (v1 + 1) (v3 - v3 / v2 * v2) v2
def x_G_commonDivisor (p0 : Int64) (p2 : Int64) : Option (Int64) :=
  xl3 x_G_commonDivisor_B1 202 (0 : Int32) p2 p0
end
section
set_option maxHeartbeats 4000000 in
set_option maxRecDepth 100000 in
theorem c_G_isAnswer (l : Launch) (p0 : Int32) (res : Int32) (hf : x_G_isAnswer p0 = some res) : Met l (⟨"GuideSearch", "isAnswer", "(I)Z"⟩ : MethodName) (Cond.code (⟨"GuideSearch", "isAnswer", "(I)Z"⟩ : MethodName) prog_1_method_15_code 1 (some .boolean) :: wg) { frames := 0, cells := 0, slots := 0, locals := 0 } (va_Pc ([.int p0] : List Value) (fun _ => True)) (vp_Si (fun r => r = res)) 0 0 (fun _ => False) := by
  refine ro_start (cc := prog_1_method_15_code) (maxL := 1) (ret := (some .boolean)) (by decide) (Nat.le_of_ble_eq_true rfl) ?_
  intro p e s m below meth c hx hb hr hml hT hown hlocks hB ls hl
  replace hown : s.vm.findClass "GuideSearch" = some m.cls := hown
  replace hl : lv_has ls 1 [(0, .int p0)] := hl
  unfold x_G_isAnswer at hf
  refine lv_iload_n hx hb d_G_isAnswer_0 rfl (lv_at hl 0 rfl) ?_
  refine lv_if_lt (tgt := 13) hx hb d_G_isAnswer_1 (by decide) (fun c1 => ?_) (fun c1 => ?_)
  · rw [if_pos c1] at hf
    refine lv_iconst (v := (0 : Int32)) hx hb d_G_isAnswer_13 (by decide) ?_
    exact W.zret (ty := .boolean) hx hb hr (rfl) (fun t ht _ => ⟨_, rfl, Option.some.inj hf, ht⟩) (fun _ h => absurd h List.not_mem_nil) d_G_isAnswer_14
  · rw [if_neg c1] at hf
    refine lv_iload_n hx hb d_G_isAnswer_4 rfl (lv_at hl 0 rfl) ?_
    refine lv_iconst (v := (3 : Int32)) hx hb d_G_isAnswer_5 (by decide) ?_
    refine lv_icmp_ge (tgt := 13) hx hb d_G_isAnswer_6 (by decide) (fun c2 => ?_) (fun c2 => ?_)
    · rw [if_pos c2] at hf
      refine lv_iconst (v := (0 : Int32)) hx hb d_G_isAnswer_13 (by decide) ?_
      exact W.zret (ty := .boolean) hx hb hr (rfl) (fun t ht _ => ⟨_, rfl, Option.some.inj hf, ht⟩) (fun _ h => absurd h List.not_mem_nil) d_G_isAnswer_14
    · rw [if_neg c2] at hf
      refine lv_iconst (v := (1 : Int32)) hx hb d_G_isAnswer_9 (by decide) ?_
      refine lv_goto (tgt := 14) hx hb d_G_isAnswer_10 (by decide) ?_
      exact W.zret (ty := .boolean) hx hb hr (rfl) (fun t ht _ => ⟨_, rfl, Option.some.inj hf, ht⟩) (fun _ h => absurd h List.not_mem_nil) d_G_isAnswer_14
set_option maxHeartbeats 4000000 in
set_option maxRecDepth 100000 in
theorem c_G_isPartOfTwelve (l : Launch) (p0 : Int64) (p2 : Int64) (res : Int32) (hf : x_G_isPartOfTwelve p0 p2 = some res) : Met l (⟨"GuideSearch", "isPartOfTwelve", "(JJ)Z"⟩ : MethodName) (Cond.code (⟨"GuideSearch", "isPartOfTwelve", "(JJ)Z"⟩ : MethodName) prog_1_method_16_code 4 (some .boolean) :: wg) { frames := 0, cells := 0, slots := 0, locals := 0 } (va_Pc ([.long p0, .long p2] : List Value) (fun _ => True)) (vp_Si (fun r => r = res)) 0 0 (fun _ => False) := by
  refine ro_start (cc := prog_1_method_16_code) (maxL := 4) (ret := (some .boolean)) (by decide) (Nat.le_of_ble_eq_true rfl) ?_
  intro p e s m below meth c hx hb hr hml hT hown hlocks hB ls hl
  replace hown : s.vm.findClass "GuideSearch" = some m.cls := hown
  replace hl : lv_has ls 4 [(0, .long p0), (2, .long p2)] := hl
  unfold x_G_isPartOfTwelve at hf
  refine lv_lload_n hx hb d_G_isPartOfTwelve_0 rfl (lv_at hl 1 rfl) ?_
  refine lv_lconst (v := (1 : Int64)) hx hb d_G_isPartOfTwelve_1 (by decide) ?_
  refine W.lcmp hx hb d_G_isPartOfTwelve_2 ?_
  refine lv_if_lt (tgt := 32) hx hb d_G_isPartOfTwelve_3 (by decide) (fun c1 => ?_) (fun c1 => ?_)
  · rw [if_pos ((lg_cmp_lt _ _).mp c1)] at hf
    refine lv_iconst (v := (0 : Int32)) hx hb d_G_isPartOfTwelve_32 (by decide) ?_
    exact W.zret (ty := .boolean) hx hb hr (rfl) (fun t ht _ => ⟨_, rfl, Option.some.inj hf, ht⟩) (fun _ h => absurd h List.not_mem_nil) d_G_isPartOfTwelve_33
  · rw [if_neg (mt (lg_cmp_lt _ _).mpr c1)] at hf
    refine lv_ldc2 (v := (12 : Int64)) hx hb hown (hT _ k_186) d_G_isPartOfTwelve_6 ?_
    refine lv_lload_n hx hb d_G_isPartOfTwelve_9 rfl (lv_at hl 1 rfl) ?_
    obtain ⟨hz2, hf⟩ := dzl_some hf
    refine lv_lrem hx hb d_G_isPartOfTwelve_10 hz2 ?_
    refine lv_lconst (v := (0 : Int64)) hx hb d_G_isPartOfTwelve_11 (by decide) ?_
    refine W.lcmp hx hb d_G_isPartOfTwelve_12 ?_
    refine lv_if_ne (tgt := 32) hx hb d_G_isPartOfTwelve_13 (by decide) (fun c3 => ?_) (fun c3 => ?_)
    · rw [if_neg (mt (lg_cmp_eq _ _).mpr c3)] at hf
      refine lv_iconst (v := (0 : Int32)) hx hb d_G_isPartOfTwelve_32 (by decide) ?_
      exact W.zret (ty := .boolean) hx hb hr (rfl) (fun t ht _ => ⟨_, rfl, Option.some.inj hf, ht⟩) (fun _ h => absurd h List.not_mem_nil) d_G_isPartOfTwelve_33
    · rw [if_pos ((lg_cmp_eq _ _).mp c3)] at hf
      refine lv_lload_n hx hb d_G_isPartOfTwelve_16 rfl (lv_at hl 0 rfl) ?_
      refine lv_lconst (v := (0 : Int64)) hx hb d_G_isPartOfTwelve_17 (by decide) ?_
      refine W.lcmp hx hb d_G_isPartOfTwelve_18 ?_
      refine lv_if_lt (tgt := 32) hx hb d_G_isPartOfTwelve_19 (by decide) (fun c4 => ?_) (fun c4 => ?_)
      · rw [if_pos ((lg_cmp_lt _ _).mp c4)] at hf
        refine lv_iconst (v := (0 : Int32)) hx hb d_G_isPartOfTwelve_32 (by decide) ?_
        exact W.zret (ty := .boolean) hx hb hr (rfl) (fun t ht _ => ⟨_, rfl, Option.some.inj hf, ht⟩) (fun _ h => absurd h List.not_mem_nil) d_G_isPartOfTwelve_33
      · rw [if_neg (mt (lg_cmp_lt _ _).mpr c4)] at hf
        refine lv_lload_n hx hb d_G_isPartOfTwelve_22 rfl (lv_at hl 0 rfl) ?_
        refine lv_lload_n hx hb d_G_isPartOfTwelve_23 rfl (lv_at hl 1 rfl) ?_
        refine W.lcmp hx hb d_G_isPartOfTwelve_24 ?_
        refine lv_if_gt (tgt := 32) hx hb d_G_isPartOfTwelve_25 (by decide) (fun c5 => ?_) (fun c5 => ?_)
        · rw [if_pos ((lg_cmp_gt _ _).mp c5)] at hf
          refine lv_iconst (v := (0 : Int32)) hx hb d_G_isPartOfTwelve_32 (by decide) ?_
          exact W.zret (ty := .boolean) hx hb hr (rfl) (fun t ht _ => ⟨_, rfl, Option.some.inj hf, ht⟩) (fun _ h => absurd h List.not_mem_nil) d_G_isPartOfTwelve_33
        · rw [if_neg (mt (lg_cmp_gt _ _).mpr c5)] at hf
          refine lv_iconst (v := (1 : Int32)) hx hb d_G_isPartOfTwelve_28 (by decide) ?_
          refine lv_goto (tgt := 33) hx hb d_G_isPartOfTwelve_29 (by decide) ?_
          exact W.zret (ty := .boolean) hx hb hr (rfl) (fun t ht _ => ⟨_, rfl, Option.some.inj hf, ht⟩) (fun _ h => absurd h List.not_mem_nil) d_G_isPartOfTwelve_33
set_option maxHeartbeats 4000000 in
set_option maxRecDepth 100000 in
theorem c_G_answerIn (l : Launch) (p0 : Int32) (p1 : Int32) (res : Int32) (hf : x_G_answerIn p0 p1 = some res) : Met l (⟨"GuideSearch", "answerIn", "(II)I"⟩ : MethodName) (Cond.code (⟨"GuideSearch", "answerIn", "(II)I"⟩ : MethodName) prog_1_method_19_code 2 (some .int) :: wg) { frames := 0, cells := 0, slots := 0, locals := 0 } (va_Pc ([.int p0, .int p1] : List Value) (fun _ => True)) (vp_Si (fun r => r = res)) 0 0 (fun _ => False) := by
  refine ro_start (cc := prog_1_method_19_code) (maxL := 2) (ret := (some .int)) (by decide) (Nat.le_of_ble_eq_true rfl) ?_
  intro p e s m below meth c hx hb hr hml hT hown hlocks hB ls hl
  replace hown : s.vm.findClass "GuideSearch" = some m.cls := hown
  replace hl : lv_has ls 2 [(0, .int p0), (1, .int p1)] := hl
  unfold x_G_answerIn at hf
  refine lv_iload_n hx hb d_G_answerIn_0 rfl (lv_at hl 0 rfl) ?_
  refine lv_iconst (v := (2 : Int32)) hx hb d_G_answerIn_1 (by decide) ?_
  refine lv_iload_n hx hb d_G_answerIn_2 rfl (lv_at hl 1 rfl) ?_
  refine lv_iconst (v := (1 : Int32)) hx hb d_G_answerIn_3 (by decide) ?_
  refine lv_isub hx hb d_G_answerIn_4 ?_
  refine lv_imul hx hb d_G_answerIn_5 ?_
  refine lv_ishr hx hb d_G_answerIn_6 ?_
  refine lv_iconst (v := (3 : Int32)) hx hb d_G_answerIn_7 (by decide) ?_
  refine lv_iand hx hb d_G_answerIn_8 ?_
  refine lv_iconst (v := (1 : Int32)) hx hb d_G_answerIn_9 (by decide) ?_
  refine lv_isub hx hb d_G_answerIn_10 ?_
  exact W.iret hx hb hr (fun t ht _ => ⟨_, rfl, Option.some.inj hf, ht⟩) (fun _ h => absurd h List.not_mem_nil) d_G_answerIn_11
set_option maxHeartbeats 4000000 in
set_option maxRecDepth 100000 in
theorem c_G_bit (l : Launch) (p0 : Int32) (res : Int32) (hf : x_G_bit p0 = some res) : Met l (⟨"GuideSearch", "bit", "(I)I"⟩ : MethodName) (Cond.code (⟨"GuideSearch", "bit", "(I)I"⟩ : MethodName) prog_1_method_17_code 1 (some .int) :: wg) { frames := 0, cells := 0, slots := 0, locals := 0 } (va_Pc ([.int p0] : List Value) (fun _ => True)) (vp_Si (fun r => r = res)) 0 0 (fun _ => False) := by
  refine ro_start (cc := prog_1_method_17_code) (maxL := 1) (ret := (some .int)) (by decide) (Nat.le_of_ble_eq_true rfl) ?_
  intro p e s m below meth c hx hb hr hml hT hown hlocks hB ls hl
  replace hown : s.vm.findClass "GuideSearch" = some m.cls := hown
  replace hl : lv_has ls 1 [(0, .int p0)] := hl
  unfold x_G_bit at hf
  refine lv_iconst (v := (1 : Int32)) hx hb d_G_bit_0 (by decide) ?_
  refine lv_iload_n hx hb d_G_bit_1 rfl (lv_at hl 0 rfl) ?_
  refine lv_ishl hx hb d_G_bit_2 ?_
  exact W.iret hx hb hr (fun t ht _ => ⟨_, rfl, Option.some.inj hf, ht⟩) (fun _ h => absurd h List.not_mem_nil) d_G_bit_3
set_option maxHeartbeats 4000000 in
set_option maxRecDepth 100000 in
theorem c_G_holds (l : Launch) (p0 : Int32) (p1 : Int32) (res : Int32) (hf : x_G_holds p0 p1 = some res) : Met l (⟨"GuideSearch", "holds", "(II)Z"⟩ : MethodName) (Cond.code (⟨"GuideSearch", "holds", "(II)Z"⟩ : MethodName) prog_1_method_18_code 2 (some .boolean) :: wg) { frames := 1, cells := 0, slots := 0, locals := 20 } (va_Pc ([.int p0, .int p1] : List Value) (fun _ => True)) (vp_Si (fun r => r = res)) 0 0 (fun _ => False) := by
  refine ro_start (cc := prog_1_method_18_code) (maxL := 2) (ret := (some .boolean)) (by decide) (Nat.le_of_ble_eq_true rfl) ?_
  intro p e s m below meth c hx hb hr hml hT hown hlocks hB ls hl
  replace hown : s.vm.findClass "GuideSearch" = some m.cls := hown
  replace hl : lv_has ls 2 [(0, .int p0), (1, .int p1)] := hl
  unfold x_G_holds at hf
  refine lv_iload_n hx hb d_G_holds_0 rfl (lv_at hl 0 rfl) ?_
  refine lv_iload_n hx hb d_G_holds_1 rfl (lv_at hl 1 rfl) ?_
  obtain ⟨r2, hr1, hf⟩ := ob hf
  refine ro_calli (va_runS (As := [.int p1]) (rest := [.int p0]) ⟨hx, hb, hml, hown, hT⟩ (c_G_bit l p1 r2 hr1) (va_cwS 1 hT (gS k_219 k_220 k_1 k_221) rfl rfl rfl (by decide +kernel) ⟨Nat.le_of_ble_eq_true rfl, Nat.le_of_ble_eq_true rfl⟩) ⟨fun _ _ _ _ q => q, fun _ _ _ => ⟨rfl, trivial⟩⟩ rfl rfl hl.1 rfl (lv_room (Nat.le_of_ble_eq_true rfl)) d_G_holds_2 ⟨Nat.le_of_ble_eq_true rfl, Nat.le_of_ble_eq_true rfl⟩) ?_
  refine lv_iand hx hb d_G_holds_5 ?_
  refine lv_if_eq (tgt := 13) hx hb d_G_holds_6 (by decide) (fun c3 => ?_) (fun c3 => ?_)
  · rw [if_pos c3] at hf
    refine lv_iconst (v := (0 : Int32)) hx hb d_G_holds_13 (by decide) ?_
    exact W.zret (ty := .boolean) hx hb hr (rfl) (fun t ht _ => ⟨_, rfl, Option.some.inj hf, ht⟩) (fun _ h => absurd h List.not_mem_nil) d_G_holds_14
  · rw [if_neg c3] at hf
    refine lv_iconst (v := (1 : Int32)) hx hb d_G_holds_9 (by decide) ?_
    refine lv_goto (tgt := 14) hx hb d_G_holds_10 (by decide) ?_
    exact W.zret (ty := .boolean) hx hb hr (rfl) (fun t ht _ => ⟨_, rfl, Option.some.inj hf, ht⟩) (fun _ h => absurd h List.not_mem_nil) d_G_holds_14
set_option maxHeartbeats 4000000 in
set_option maxRecDepth 100000 in
theorem c_JI_bitCount (l : Launch) (p0 : Int32) (res : Int32) (hf : x_JI_bitCount p0 = some res) : Met l (⟨"java/lang/Integer", "bitCount", "(I)I"⟩ : MethodName) (Cond.code (⟨"java/lang/Integer", "bitCount", "(I)I"⟩ : MethodName) prog_10_method_49_code 1 (some .int) :: wg) { frames := 0, cells := 0, slots := 0, locals := 0 } (va_Pc ([.int p0] : List Value) (fun _ => True)) (vp_Si (fun r => r = res)) 0 0 (fun _ => False) := by
  refine ro_start (cc := prog_10_method_49_code) (maxL := 1) (ret := (some .int)) (by decide) (Nat.le_of_ble_eq_true rfl) ?_
  intro p e s m below meth c hx hb hr hml hT hown hlocks hB ls hl
  replace hown : s.vm.findClass "java/lang/Integer" = some m.cls := hown
  replace hl : lv_has ls 1 [(0, .int p0)] := hl
  unfold x_JI_bitCount at hf
  refine lv_iload_n hx hb d_JI_bitCount_0 rfl (lv_at hl 0 rfl) ?_
  refine lv_iload_n hx hb d_JI_bitCount_1 rfl (lv_at hl 0 rfl) ?_
  refine lv_iconst (v := (1 : Int32)) hx hb d_JI_bitCount_2 (by decide) ?_
  refine lv_iushr (v := (p0.toUInt32 >>> ((1 : Int32).toUInt32 &&& Int32.toUInt32 31)).toInt32) hx hb d_JI_bitCount_3 rfl ?_
  refine lv_ldcw (v := (1431655765 : Int32)) hx hb hown (hT _ k_230) d_JI_bitCount_4 ?_
  refine lv_iand hx hb d_JI_bitCount_7 ?_
  refine lv_isub hx hb d_JI_bitCount_8 ?_
  refine lv_istore_n (lv' := [(0, .int (p0 - ((p0.toUInt32 >>> ((1 : Int32).toUInt32 &&& Int32.toUInt32 31)).toInt32 &&& (1431655765 : Int32))))]) hx hb d_JI_bitCount_9 rfl hl (by decide) rfl (fun ls hl => ?_)
  refine lv_iload_n hx hb d_JI_bitCount_10 rfl (lv_at hl 0 rfl) ?_
  refine lv_ldcw (v := (858993459 : Int32)) hx hb hown (hT _ k_231) d_JI_bitCount_11 ?_
  refine lv_iand hx hb d_JI_bitCount_14 ?_
  refine lv_iload_n hx hb d_JI_bitCount_15 rfl (lv_at hl 0 rfl) ?_
  refine lv_iconst (v := (2 : Int32)) hx hb d_JI_bitCount_16 (by decide) ?_
  refine lv_iushr (v := ((p0 - ((p0.toUInt32 >>> ((1 : Int32).toUInt32 &&& Int32.toUInt32 31)).toInt32 &&& (1431655765 : Int32))).toUInt32 >>> ((2 : Int32).toUInt32 &&& Int32.toUInt32 31)).toInt32) hx hb d_JI_bitCount_17 rfl ?_
  refine lv_ldcw (v := (858993459 : Int32)) hx hb hown (hT _ k_231) d_JI_bitCount_18 ?_
  refine lv_iand hx hb d_JI_bitCount_21 ?_
  refine lv_iadd hx hb d_JI_bitCount_22 ?_
  refine lv_istore_n (lv' := [(0, .int (((p0 - ((p0.toUInt32 >>> ((1 : Int32).toUInt32 &&& Int32.toUInt32 31)).toInt32 &&& (1431655765 : Int32))) &&& (858993459 : Int32)) + (((p0 - ((p0.toUInt32 >>> ((1 : Int32).toUInt32 &&& Int32.toUInt32 31)).toInt32 &&& (1431655765 : Int32))).toUInt32 >>> ((2 : Int32).toUInt32 &&& Int32.toUInt32 31)).toInt32 &&& (858993459 : Int32))))]) hx hb d_JI_bitCount_23 rfl hl (by decide) rfl (fun ls hl => ?_)
  refine lv_iload_n hx hb d_JI_bitCount_24 rfl (lv_at hl 0 rfl) ?_
  refine lv_iload_n hx hb d_JI_bitCount_25 rfl (lv_at hl 0 rfl) ?_
  refine lv_iconst (v := (4 : Int32)) hx hb d_JI_bitCount_26 (by decide) ?_
  refine lv_iushr (v := ((((p0 - ((p0.toUInt32 >>> ((1 : Int32).toUInt32 &&& Int32.toUInt32 31)).toInt32 &&& (1431655765 : Int32))) &&& (858993459 : Int32)) + (((p0 - ((p0.toUInt32 >>> ((1 : Int32).toUInt32 &&& Int32.toUInt32 31)).toInt32 &&& (1431655765 : Int32))).toUInt32 >>> ((2 : Int32).toUInt32 &&& Int32.toUInt32 31)).toInt32 &&& (858993459 : Int32))).toUInt32 >>> ((4 : Int32).toUInt32 &&& Int32.toUInt32 31)).toInt32) hx hb d_JI_bitCount_27 rfl ?_
  refine lv_iadd hx hb d_JI_bitCount_28 ?_
  refine lv_ldcw (v := (252645135 : Int32)) hx hb hown (hT _ k_232) d_JI_bitCount_29 ?_
  refine lv_iand hx hb d_JI_bitCount_32 ?_
  refine lv_istore_n (lv' := [(0, .int (((((p0 - ((p0.toUInt32 >>> ((1 : Int32).toUInt32 &&& Int32.toUInt32 31)).toInt32 &&& (1431655765 : Int32))) &&& (858993459 : Int32)) + (((p0 - ((p0.toUInt32 >>> ((1 : Int32).toUInt32 &&& Int32.toUInt32 31)).toInt32 &&& (1431655765 : Int32))).toUInt32 >>> ((2 : Int32).toUInt32 &&& Int32.toUInt32 31)).toInt32 &&& (858993459 : Int32))) + ((((p0 - ((p0.toUInt32 >>> ((1 : Int32).toUInt32 &&& Int32.toUInt32 31)).toInt32 &&& (1431655765 : Int32))) &&& (858993459 : Int32)) + (((p0 - ((p0.toUInt32 >>> ((1 : Int32).toUInt32 &&& Int32.toUInt32 31)).toInt32 &&& (1431655765 : Int32))).toUInt32 >>> ((2 : Int32).toUInt32 &&& Int32.toUInt32 31)).toInt32 &&& (858993459 : Int32))).toUInt32 >>> ((4 : Int32).toUInt32 &&& Int32.toUInt32 31)).toInt32) &&& (252645135 : Int32)))]) hx hb d_JI_bitCount_33 rfl hl (by decide) rfl (fun ls hl => ?_)
  refine lv_iload_n hx hb d_JI_bitCount_34 rfl (lv_at hl 0 rfl) ?_
  refine lv_iload_n hx hb d_JI_bitCount_35 rfl (lv_at hl 0 rfl) ?_
  refine lv_bipush (v := (8 : Int32)) hx hb d_JI_bitCount_36 (by decide) ?_
  refine lv_iushr (v := ((((((p0 - ((p0.toUInt32 >>> ((1 : Int32).toUInt32 &&& Int32.toUInt32 31)).toInt32 &&& (1431655765 : Int32))) &&& (858993459 : Int32)) + (((p0 - ((p0.toUInt32 >>> ((1 : Int32).toUInt32 &&& Int32.toUInt32 31)).toInt32 &&& (1431655765 : Int32))).toUInt32 >>> ((2 : Int32).toUInt32 &&& Int32.toUInt32 31)).toInt32 &&& (858993459 : Int32))) + ((((p0 - ((p0.toUInt32 >>> ((1 : Int32).toUInt32 &&& Int32.toUInt32 31)).toInt32 &&& (1431655765 : Int32))) &&& (858993459 : Int32)) + (((p0 - ((p0.toUInt32 >>> ((1 : Int32).toUInt32 &&& Int32.toUInt32 31)).toInt32 &&& (1431655765 : Int32))).toUInt32 >>> ((2 : Int32).toUInt32 &&& Int32.toUInt32 31)).toInt32 &&& (858993459 : Int32))).toUInt32 >>> ((4 : Int32).toUInt32 &&& Int32.toUInt32 31)).toInt32) &&& (252645135 : Int32)).toUInt32 >>> ((8 : Int32).toUInt32 &&& Int32.toUInt32 31)).toInt32) hx hb d_JI_bitCount_38 rfl ?_
  refine lv_iadd hx hb d_JI_bitCount_39 ?_
  refine lv_istore_n (lv' := [(0, .int ((((((p0 - ((p0.toUInt32 >>> ((1 : Int32).toUInt32 &&& Int32.toUInt32 31)).toInt32 &&& (1431655765 : Int32))) &&& (858993459 : Int32)) + (((p0 - ((p0.toUInt32 >>> ((1 : Int32).toUInt32 &&& Int32.toUInt32 31)).toInt32 &&& (1431655765 : Int32))).toUInt32 >>> ((2 : Int32).toUInt32 &&& Int32.toUInt32 31)).toInt32 &&& (858993459 : Int32))) + ((((p0 - ((p0.toUInt32 >>> ((1 : Int32).toUInt32 &&& Int32.toUInt32 31)).toInt32 &&& (1431655765 : Int32))) &&& (858993459 : Int32)) + (((p0 - ((p0.toUInt32 >>> ((1 : Int32).toUInt32 &&& Int32.toUInt32 31)).toInt32 &&& (1431655765 : Int32))).toUInt32 >>> ((2 : Int32).toUInt32 &&& Int32.toUInt32 31)).toInt32 &&& (858993459 : Int32))).toUInt32 >>> ((4 : Int32).toUInt32 &&& Int32.toUInt32 31)).toInt32) &&& (252645135 : Int32)) + ((((((p0 - ((p0.toUInt32 >>> ((1 : Int32).toUInt32 &&& Int32.toUInt32 31)).toInt32 &&& (1431655765 : Int32))) &&& (858993459 : Int32)) + (((p0 - ((p0.toUInt32 >>> ((1 : Int32).toUInt32 &&& Int32.toUInt32 31)).toInt32 &&& (1431655765 : Int32))).toUInt32 >>> ((2 : Int32).toUInt32 &&& Int32.toUInt32 31)).toInt32 &&& (858993459 : Int32))) + ((((p0 - ((p0.toUInt32 >>> ((1 : Int32).toUInt32 &&& Int32.toUInt32 31)).toInt32 &&& (1431655765 : Int32))) &&& (858993459 : Int32)) + (((p0 - ((p0.toUInt32 >>> ((1 : Int32).toUInt32 &&& Int32.toUInt32 31)).toInt32 &&& (1431655765 : Int32))).toUInt32 >>> ((2 : Int32).toUInt32 &&& Int32.toUInt32 31)).toInt32 &&& (858993459 : Int32))).toUInt32 >>> ((4 : Int32).toUInt32 &&& Int32.toUInt32 31)).toInt32) &&& (252645135 : Int32)).toUInt32 >>> ((8 : Int32).toUInt32 &&& Int32.toUInt32 31)).toInt32))]) hx hb d_JI_bitCount_40 rfl hl (by decide) rfl (fun ls hl => ?_)
  refine lv_iload_n hx hb d_JI_bitCount_41 rfl (lv_at hl 0 rfl) ?_
  refine lv_iload_n hx hb d_JI_bitCount_42 rfl (lv_at hl 0 rfl) ?_
  refine lv_bipush (v := (16 : Int32)) hx hb d_JI_bitCount_43 (by decide) ?_
  refine lv_iushr (v := (((((((p0 - ((p0.toUInt32 >>> ((1 : Int32).toUInt32 &&& Int32.toUInt32 31)).toInt32 &&& (1431655765 : Int32))) &&& (858993459 : Int32)) + (((p0 - ((p0.toUInt32 >>> ((1 : Int32).toUInt32 &&& Int32.toUInt32 31)).toInt32 &&& (1431655765 : Int32))).toUInt32 >>> ((2 : Int32).toUInt32 &&& Int32.toUInt32 31)).toInt32 &&& (858993459 : Int32))) + ((((p0 - ((p0.toUInt32 >>> ((1 : Int32).toUInt32 &&& Int32.toUInt32 31)).toInt32 &&& (1431655765 : Int32))) &&& (858993459 : Int32)) + (((p0 - ((p0.toUInt32 >>> ((1 : Int32).toUInt32 &&& Int32.toUInt32 31)).toInt32 &&& (1431655765 : Int32))).toUInt32 >>> ((2 : Int32).toUInt32 &&& Int32.toUInt32 31)).toInt32 &&& (858993459 : Int32))).toUInt32 >>> ((4 : Int32).toUInt32 &&& Int32.toUInt32 31)).toInt32) &&& (252645135 : Int32)) + ((((((p0 - ((p0.toUInt32 >>> ((1 : Int32).toUInt32 &&& Int32.toUInt32 31)).toInt32 &&& (1431655765 : Int32))) &&& (858993459 : Int32)) + (((p0 - ((p0.toUInt32 >>> ((1 : Int32).toUInt32 &&& Int32.toUInt32 31)).toInt32 &&& (1431655765 : Int32))).toUInt32 >>> ((2 : Int32).toUInt32 &&& Int32.toUInt32 31)).toInt32 &&& (858993459 : Int32))) + ((((p0 - ((p0.toUInt32 >>> ((1 : Int32).toUInt32 &&& Int32.toUInt32 31)).toInt32 &&& (1431655765 : Int32))) &&& (858993459 : Int32)) + (((p0 - ((p0.toUInt32 >>> ((1 : Int32).toUInt32 &&& Int32.toUInt32 31)).toInt32 &&& (1431655765 : Int32))).toUInt32 >>> ((2 : Int32).toUInt32 &&& Int32.toUInt32 31)).toInt32 &&& (858993459 : Int32))).toUInt32 >>> ((4 : Int32).toUInt32 &&& Int32.toUInt32 31)).toInt32) &&& (252645135 : Int32)).toUInt32 >>> ((8 : Int32).toUInt32 &&& Int32.toUInt32 31)).toInt32).toUInt32 >>> ((16 : Int32).toUInt32 &&& Int32.toUInt32 31)).toInt32) hx hb d_JI_bitCount_45 rfl ?_
  refine lv_iadd hx hb d_JI_bitCount_46 ?_
  refine lv_istore_n (lv' := [(0, .int (((((((p0 - ((p0.toUInt32 >>> ((1 : Int32).toUInt32 &&& Int32.toUInt32 31)).toInt32 &&& (1431655765 : Int32))) &&& (858993459 : Int32)) + (((p0 - ((p0.toUInt32 >>> ((1 : Int32).toUInt32 &&& Int32.toUInt32 31)).toInt32 &&& (1431655765 : Int32))).toUInt32 >>> ((2 : Int32).toUInt32 &&& Int32.toUInt32 31)).toInt32 &&& (858993459 : Int32))) + ((((p0 - ((p0.toUInt32 >>> ((1 : Int32).toUInt32 &&& Int32.toUInt32 31)).toInt32 &&& (1431655765 : Int32))) &&& (858993459 : Int32)) + (((p0 - ((p0.toUInt32 >>> ((1 : Int32).toUInt32 &&& Int32.toUInt32 31)).toInt32 &&& (1431655765 : Int32))).toUInt32 >>> ((2 : Int32).toUInt32 &&& Int32.toUInt32 31)).toInt32 &&& (858993459 : Int32))).toUInt32 >>> ((4 : Int32).toUInt32 &&& Int32.toUInt32 31)).toInt32) &&& (252645135 : Int32)) + ((((((p0 - ((p0.toUInt32 >>> ((1 : Int32).toUInt32 &&& Int32.toUInt32 31)).toInt32 &&& (1431655765 : Int32))) &&& (858993459 : Int32)) + (((p0 - ((p0.toUInt32 >>> ((1 : Int32).toUInt32 &&& Int32.toUInt32 31)).toInt32 &&& (1431655765 : Int32))).toUInt32 >>> ((2 : Int32).toUInt32 &&& Int32.toUInt32 31)).toInt32 &&& (858993459 : Int32))) + ((((p0 - ((p0.toUInt32 >>> ((1 : Int32).toUInt32 &&& Int32.toUInt32 31)).toInt32 &&& (1431655765 : Int32))) &&& (858993459 : Int32)) + (((p0 - ((p0.toUInt32 >>> ((1 : Int32).toUInt32 &&& Int32.toUInt32 31)).toInt32 &&& (1431655765 : Int32))).toUInt32 >>> ((2 : Int32).toUInt32 &&& Int32.toUInt32 31)).toInt32 &&& (858993459 : Int32))).toUInt32 >>> ((4 : Int32).toUInt32 &&& Int32.toUInt32 31)).toInt32) &&& (252645135 : Int32)).toUInt32 >>> ((8 : Int32).toUInt32 &&& Int32.toUInt32 31)).toInt32) + (((((((p0 - ((p0.toUInt32 >>> ((1 : Int32).toUInt32 &&& Int32.toUInt32 31)).toInt32 &&& (1431655765 : Int32))) &&& (858993459 : Int32)) + (((p0 - ((p0.toUInt32 >>> ((1 : Int32).toUInt32 &&& Int32.toUInt32 31)).toInt32 &&& (1431655765 : Int32))).toUInt32 >>> ((2 : Int32).toUInt32 &&& Int32.toUInt32 31)).toInt32 &&& (858993459 : Int32))) + ((((p0 - ((p0.toUInt32 >>> ((1 : Int32).toUInt32 &&& Int32.toUInt32 31)).toInt32 &&& (1431655765 : Int32))) &&& (858993459 : Int32)) + (((p0 - ((p0.toUInt32 >>> ((1 : Int32).toUInt32 &&& Int32.toUInt32 31)).toInt32 &&& (1431655765 : Int32))).toUInt32 >>> ((2 : Int32).toUInt32 &&& Int32.toUInt32 31)).toInt32 &&& (858993459 : Int32))).toUInt32 >>> ((4 : Int32).toUInt32 &&& Int32.toUInt32 31)).toInt32) &&& (252645135 : Int32)) + ((((((p0 - ((p0.toUInt32 >>> ((1 : Int32).toUInt32 &&& Int32.toUInt32 31)).toInt32 &&& (1431655765 : Int32))) &&& (858993459 : Int32)) + (((p0 - ((p0.toUInt32 >>> ((1 : Int32).toUInt32 &&& Int32.toUInt32 31)).toInt32 &&& (1431655765 : Int32))).toUInt32 >>> ((2 : Int32).toUInt32 &&& Int32.toUInt32 31)).toInt32 &&& (858993459 : Int32))) + ((((p0 - ((p0.toUInt32 >>> ((1 : Int32).toUInt32 &&& Int32.toUInt32 31)).toInt32 &&& (1431655765 : Int32))) &&& (858993459 : Int32)) + (((p0 - ((p0.toUInt32 >>> ((1 : Int32).toUInt32 &&& Int32.toUInt32 31)).toInt32 &&& (1431655765 : Int32))).toUInt32 >>> ((2 : Int32).toUInt32 &&& Int32.toUInt32 31)).toInt32 &&& (858993459 : Int32))).toUInt32 >>> ((4 : Int32).toUInt32 &&& Int32.toUInt32 31)).toInt32) &&& (252645135 : Int32)).toUInt32 >>> ((8 : Int32).toUInt32 &&& Int32.toUInt32 31)).toInt32).toUInt32 >>> ((16 : Int32).toUInt32 &&& Int32.toUInt32 31)).toInt32))]) hx hb d_JI_bitCount_47 rfl hl (by decide) rfl (fun ls hl => ?_)
  refine lv_iload_n hx hb d_JI_bitCount_48 rfl (lv_at hl 0 rfl) ?_
  refine lv_bipush (v := (63 : Int32)) hx hb d_JI_bitCount_49 (by decide) ?_
  refine lv_iand hx hb d_JI_bitCount_51 ?_
  exact W.iret hx hb hr (fun t ht _ => ⟨_, rfl, Option.some.inj hf, ht⟩) (fun _ h => absurd h List.not_mem_nil) d_JI_bitCount_52
set_option maxHeartbeats 4000000 in
set_option maxRecDepth 100000 in
theorem c_G_withAnswer (l : Launch) (p0 : Int32) (p1 : Int32) (p2 : Int32) (res : Int32) (hf : x_G_withAnswer p0 p1 p2 = some res) : Met l (⟨"GuideSearch", "withAnswer", "(III)I"⟩ : MethodName) (Cond.code (⟨"GuideSearch", "withAnswer", "(III)I"⟩ : MethodName) prog_1_method_20_code 3 (some .int) :: wg) { frames := 0, cells := 0, slots := 0, locals := 0 } (va_Pc ([.int p0, .int p1, .int p2] : List Value) (fun _ => True)) (vp_Si (fun r => r = res)) 0 0 (fun _ => False) := by
  refine ro_start (cc := prog_1_method_20_code) (maxL := 3) (ret := (some .int)) (by decide) (Nat.le_of_ble_eq_true rfl) ?_
  intro p e s m below meth c hx hb hr hml hT hown hlocks hB ls hl
  replace hown : s.vm.findClass "GuideSearch" = some m.cls := hown
  replace hl : lv_has ls 3 [(0, .int p0), (1, .int p1), (2, .int p2)] := hl
  unfold x_G_withAnswer at hf
  refine lv_iload_n hx hb d_G_withAnswer_0 rfl (lv_at hl 0 rfl) ?_
  refine lv_iload_n hx hb d_G_withAnswer_1 rfl (lv_at hl 2 rfl) ?_
  refine lv_iconst (v := (1 : Int32)) hx hb d_G_withAnswer_2 (by decide) ?_
  refine lv_iadd hx hb d_G_withAnswer_3 ?_
  refine lv_iconst (v := (2 : Int32)) hx hb d_G_withAnswer_4 (by decide) ?_
  refine lv_iload_n hx hb d_G_withAnswer_5 rfl (lv_at hl 1 rfl) ?_
  refine lv_iconst (v := (1 : Int32)) hx hb d_G_withAnswer_6 (by decide) ?_
  refine lv_isub hx hb d_G_withAnswer_7 ?_
  refine lv_imul hx hb d_G_withAnswer_8 ?_
  refine lv_ishl hx hb d_G_withAnswer_9 ?_
  refine lv_ior hx hb d_G_withAnswer_10 ?_
  exact W.iret hx hb hr (fun t ht _ => ⟨_, rfl, Option.some.inj hf, ht⟩) (fun _ h => absurd h List.not_mem_nil) d_G_withAnswer_11
set_option maxHeartbeats 4000000 in
set_option maxRecDepth 100000 in
theorem c_G_commonDivisor (l : Launch) (p0 : Int64) (p2 : Int64) (res : Int64) (hf : x_G_commonDivisor p0 p2 = some res) : Met l (⟨"GuideSearch", "commonDivisor", "(JJ)J"⟩ : MethodName) (Cond.code (⟨"GuideSearch", "commonDivisor", "(JJ)J"⟩ : MethodName) prog_1_method_21_code 11 (some .long) :: wg) { frames := 0, cells := 0, slots := 0, locals := 0 } (va_Pc ([.long p0, .long p2] : List Value) (fun _ => True)) (vp_Sl (fun r => r = res)) 0 0 (fun _ => False) := by
  refine ro_start (cc := prog_1_method_21_code) (maxL := 11) (ret := (some .long)) (by decide) (Nat.le_of_ble_eq_true rfl) ?_
  intro p e s m below meth c hx hb hr hml hT hown hlocks hB ls hl
  replace hown : s.vm.findClass "GuideSearch" = some m.cls := hown
  replace hl : lv_has ls 11 [(0, .long p0), (2, .long p2)] := hl
  unfold x_G_commonDivisor at hf
  refine lv_lload_n hx hb d_G_commonDivisor_0 rfl (lv_at hl 0 rfl) ?_
  refine lv_lstore (lv' := [(4, .long p0), (0, .long p0), (2, .long p2)]) hx hb d_G_commonDivisor_1 hl (by decide) rfl (fun ls hl => ?_)
  refine lv_lload_n hx hb d_G_commonDivisor_3 rfl (lv_at hl 2 rfl) ?_
  refine lv_lstore (lv' := [(6, .long p2), (4, .long p0), (0, .long p0), (2, .long p2)]) hx hb d_G_commonDivisor_4 hl (by decide) rfl (fun ls hl => ?_)
  refine lv_iconst (v := (0 : Int32)) hx hb d_G_commonDivisor_6 (by decide) ?_
  refine lv_istore (lv' := [(8, .int (0 : Int32)), (6, .long p2), (4, .long p0), (0, .long p0), (2, .long p2)]) hx hb d_G_commonDivisor_7 hl (by decide) rfl (fun ls hl => ?_)
  have loop1 : ∀ (n : Nat) (v1 : Int32) (v2 : Int64) (v3 : Int64), xl3 x_G_commonDivisor_B1 n v1 v2 v3 = some res → ∀ (ls : Array Slot), lv_has ls 11 [(8, .int v1), (6, .long v2), (4, .long v3)] → W p l e { frames := 0, cells := 0, slots := 0, locals := 0 } s m ([.long p0, .long p2] : List Value).toArray below meth c s.heap [] 0 0 (MQ below (vp_Sl (fun r => r = res)) ([.long p0, .long p2] : List Value).toArray s 0 0 (fun _ => False)) (F0 m 9 ls []) := by
    intro n
    induction n with
    | zero => intro v1 v2 v3 hf; exact absurd hf (by simp [xl3])
    | succ n ih1 =>
      intro v1 v2 v3 hf ls hl
      replace hf : x_G_commonDivisor_B1 (xl3 x_G_commonDivisor_B1 n) v1 v2 v3 = some res := hf
      generalize xl3 x_G_commonDivisor_B1 n = self1 at hf ih1
      unfold x_G_commonDivisor_B1 at hf
      refine lv_iload hx hb d_G_commonDivisor_9 (lv_at hl 0 rfl) ?_
      refine lv_sipush (v := (200 : Int32)) hx hb d_G_commonDivisor_11 (by decide) ?_
      refine lv_icmp_ge (tgt := 45) hx hb d_G_commonDivisor_14 (by decide) (fun c4 => ?_) (fun c4 => ?_)
      · rw [if_pos c4] at hf
        refine lv_lload hx hb d_G_commonDivisor_45 (lv_at hl 2 rfl) ?_
        exact W.lret hx hb hr (fun t ht _ => ⟨_, rfl, Option.some.inj hf, ht⟩) (fun _ h => absurd h List.not_mem_nil) d_G_commonDivisor_47
      · rw [if_neg c4] at hf
        refine lv_lload hx hb d_G_commonDivisor_17 (lv_at hl 1 rfl) ?_
        refine lv_lconst (v := (0 : Int64)) hx hb d_G_commonDivisor_19 (by decide) ?_
        refine W.lcmp hx hb d_G_commonDivisor_20 ?_
        refine lv_if_eq (tgt := 45) hx hb d_G_commonDivisor_21 (by decide) (fun c5 => ?_) (fun c5 => ?_)
        · rw [if_pos ((lg_cmp_eq _ _).mp c5)] at hf
          refine lv_lload hx hb d_G_commonDivisor_45 (lv_at hl 2 rfl) ?_
          exact W.lret hx hb hr (fun t ht _ => ⟨_, rfl, Option.some.inj hf, ht⟩) (fun _ h => absurd h List.not_mem_nil) d_G_commonDivisor_47
        · rw [if_neg (mt (lg_cmp_eq _ _).mpr c5)] at hf
          refine lv_lload hx hb d_G_commonDivisor_24 (lv_at hl 2 rfl) ?_
          refine lv_lload hx hb d_G_commonDivisor_26 (lv_at hl 1 rfl) ?_
          obtain ⟨hz6, hf⟩ := dzl_some hf
          refine lv_lrem hx hb d_G_commonDivisor_28 hz6 ?_
          refine lv_lstore (lv' := [(9, .long (v3 - v3 / v2 * v2)), (8, .int v1), (6, .long v2), (4, .long v3)]) hx hb d_G_commonDivisor_29 hl (by decide) rfl (fun ls hl => ?_)
          refine lv_lload hx hb d_G_commonDivisor_31 (lv_at hl 2 rfl) ?_
          refine lv_lstore (lv' := [(4, .long v2), (9, .long (v3 - v3 / v2 * v2)), (8, .int v1), (6, .long v2)]) hx hb d_G_commonDivisor_33 hl (by decide) rfl (fun ls hl => ?_)
          refine lv_lload hx hb d_G_commonDivisor_35 (lv_at hl 1 rfl) ?_
          refine lv_lstore (lv' := [(6, .long (v3 - v3 / v2 * v2)), (4, .long v2), (9, .long (v3 - v3 / v2 * v2)), (8, .int v1)]) hx hb d_G_commonDivisor_37 hl (by decide) rfl (fun ls hl => ?_)
          refine lv_iinc (v := (v1 + 1)) (lv' := [(8, .int (v1 + 1)), (6, .long (v3 - v3 / v2 * v2)), (4, .long v2), (9, .long (v3 - v3 / v2 * v2))]) hx hb d_G_commonDivisor_39 hl (k := 3) rfl rfl (by decide) rfl (fun ls hl => ?_)
          refine lv_goto (tgt := 9) hx hb d_G_commonDivisor_42 (by decide) ?_
          exact ih1 (v1 + 1) (v3 - v3 / v2 * v2) v2 hf ls (lv_sub hl [0, 1, 2] rfl)
  exact loop1 _ (0 : Int32) p2 p0 hf ls (lv_sub hl [0, 1, 2] rfl)
end
section
theorem d_C_addFault_0 : decode prog_3_method_5_code 0 = .ok (.aload_n 0, 1) := by decide +kernel
theorem d_C_addFault_1 : decode prog_3_method_5_code 1 = .ok (.getfield 22, 3) := by decide +kernel
theorem d_C_addFault_4 : decode prog_3_method_5_code 4 = .ok (.bipush 12, 2) := by decide +kernel
theorem d_C_addFault_6 : decode prog_3_method_5_code 6 = .ok (.if_icmp .lt 6, 3) := by decide +kernel
theorem d_C_addFault_9 : decode prog_3_method_5_code 9 = .ok (.bipush (-4), 2) := by decide +kernel
theorem d_C_addFault_11 : decode prog_3_method_5_code 11 = .ok (.ireturn, 1) := by decide +kernel
theorem d_C_addFault_12 : decode prog_3_method_5_code 12 = .ok (.aload_n 0, 1) := by decide +kernel
theorem d_C_addFault_13 : decode prog_3_method_5_code 13 = .ok (.dup, 1) := by decide +kernel
theorem d_C_addFault_14 : decode prog_3_method_5_code 14 = .ok (.getfield 22, 3) := by decide +kernel
theorem d_C_addFault_17 : decode prog_3_method_5_code 17 = .ok (.iconst 1, 1) := by decide +kernel
theorem d_C_addFault_18 : decode prog_3_method_5_code 18 = .ok (.iadd, 1) := by decide +kernel
theorem d_C_addFault_19 : decode prog_3_method_5_code 19 = .ok (.putfield 22, 3) := by decide +kernel
theorem d_C_addFault_22 : decode prog_3_method_5_code 22 = .ok (.aload_n 0, 1) := by decide +kernel
theorem d_C_addFault_23 : decode prog_3_method_5_code 23 = .ok (.dup, 1) := by decide +kernel
theorem d_C_addFault_24 : decode prog_3_method_5_code 24 = .ok (.getfield 26, 3) := by decide +kernel
theorem d_C_addFault_27 : decode prog_3_method_5_code 27 = .ok (.iconst 1, 1) := by decide +kernel
theorem d_C_addFault_28 : decode prog_3_method_5_code 28 = .ok (.iadd, 1) := by decide +kernel
theorem d_C_addFault_29 : decode prog_3_method_5_code 29 = .ok (.putfield 26, 3) := by decide +kernel
theorem d_C_addFault_32 : decode prog_3_method_5_code 32 = .ok (.aload_n 0, 1) := by decide +kernel
theorem d_C_addFault_33 : decode prog_3_method_5_code 33 = .ok (.getfield 9, 3) := by decide +kernel
theorem d_C_addFault_36 : decode prog_3_method_5_code 36 = .ok (.aload_n 0, 1) := by decide +kernel
theorem d_C_addFault_37 : decode prog_3_method_5_code 37 = .ok (.getfield 22, 3) := by decide +kernel
theorem d_C_addFault_40 : decode prog_3_method_5_code 40 = .ok (.lload_n 1, 1) := by decide +kernel
theorem d_C_addFault_41 : decode prog_3_method_5_code 41 = .ok (.ldc2_w 33, 3) := by decide +kernel
theorem d_C_addFault_44 : decode prog_3_method_5_code 44 = .ok (.lmul, 1) := by decide +kernel
theorem d_C_addFault_45 : decode prog_3_method_5_code 45 = .ok (.lastore, 1) := by decide +kernel
theorem d_C_addFault_46 : decode prog_3_method_5_code 46 = .ok (.aload_n 0, 1) := by decide +kernel
theorem d_C_addFault_47 : decode prog_3_method_5_code 47 = .ok (.getfield 22, 3) := by decide +kernel
theorem d_C_addFault_50 : decode prog_3_method_5_code 50 = .ok (.ireturn, 1) := by decide +kernel
theorem d_C_knows_0 : decode prog_3_method_2_code 0 = .ok (.iload_n 1, 1) := by decide +kernel
theorem d_C_knows_1 : decode prog_3_method_2_code 1 = .ok (.iconst 1, 1) := by decide +kernel
theorem d_C_knows_2 : decode prog_3_method_2_code 2 = .ok (.if_icmp .lt 21, 3) := by decide +kernel
theorem d_C_knows_5 : decode prog_3_method_2_code 5 = .ok (.iload_n 1, 1) := by decide +kernel
theorem d_C_knows_6 : decode prog_3_method_2_code 6 = .ok (.aload_n 0, 1) := by decide +kernel
theorem d_C_knows_7 : decode prog_3_method_2_code 7 = .ok (.getfield 22, 3) := by decide +kernel
theorem d_C_knows_10 : decode prog_3_method_2_code 10 = .ok (.if_icmp .gt 13, 3) := by decide +kernel
theorem d_C_knows_13 : decode prog_3_method_2_code 13 = .ok (.iload_n 1, 1) := by decide +kernel
theorem d_C_knows_14 : decode prog_3_method_2_code 14 = .ok (.bipush 12, 2) := by decide +kernel
theorem d_C_knows_16 : decode prog_3_method_2_code 16 = .ok (.if_icmp .gt 7, 3) := by decide +kernel
theorem d_C_knows_19 : decode prog_3_method_2_code 19 = .ok (.iconst 1, 1) := by decide +kernel
theorem d_C_knows_20 : decode prog_3_method_2_code 20 = .ok (.goto 4, 3) := by decide +kernel
theorem d_C_knows_23 : decode prog_3_method_2_code 23 = .ok (.iconst 0, 1) := by decide +kernel
theorem d_C_knows_24 : decode prog_3_method_2_code 24 = .ok (.ireturn, 1) := by decide +kernel
theorem d_C_prior_0 : decode prog_3_method_8_code 0 = .ok (.aload_n 0, 1) := by decide +kernel
theorem d_C_prior_1 : decode prog_3_method_8_code 1 = .ok (.iload_n 1, 1) := by decide +kernel
theorem d_C_prior_2 : decode prog_3_method_8_code 2 = .ok (.invokevirtual 29, 3) := by decide +kernel
theorem d_C_prior_5 : decode prog_3_method_8_code 5 = .ok (.ifCond .ne 5, 3) := by decide +kernel
theorem d_C_prior_8 : decode prog_3_method_8_code 8 = .ok (.lconst 0, 1) := by decide +kernel
theorem d_C_prior_9 : decode prog_3_method_8_code 9 = .ok (.lreturn, 1) := by decide +kernel
theorem d_C_prior_10 : decode prog_3_method_8_code 10 = .ok (.aload_n 0, 1) := by decide +kernel
theorem d_C_prior_11 : decode prog_3_method_8_code 11 = .ok (.getfield 9, 3) := by decide +kernel
theorem d_C_prior_14 : decode prog_3_method_8_code 14 = .ok (.iload_n 1, 1) := by decide +kernel
theorem d_C_prior_15 : decode prog_3_method_8_code 15 = .ok (.laload, 1) := by decide +kernel
theorem d_C_prior_16 : decode prog_3_method_8_code 16 = .ok (.aload_n 0, 1) := by decide +kernel
theorem d_C_prior_17 : decode prog_3_method_8_code 17 = .ok (.getfield 19, 3) := by decide +kernel
theorem d_C_prior_20 : decode prog_3_method_8_code 20 = .ok (.iload_n 1, 1) := by decide +kernel
theorem d_C_prior_21 : decode prog_3_method_8_code 21 = .ok (.iaload, 1) := by decide +kernel
theorem d_C_prior_22 : decode prog_3_method_8_code 22 = .ok (.iconst 5, 1) := by decide +kernel
theorem d_C_prior_23 : decode prog_3_method_8_code 23 = .ok (.invokestatic 39, 3) := by decide +kernel
theorem d_C_prior_26 : decode prog_3_method_8_code 26 = .ok (.iconst 1, 1) := by decide +kernel
theorem d_C_prior_27 : decode prog_3_method_8_code 27 = .ok (.iadd, 1) := by decide +kernel
theorem d_C_prior_28 : decode prog_3_method_8_code 28 = .ok (.i2l, 1) := by decide +kernel
theorem d_C_prior_29 : decode prog_3_method_8_code 29 = .ok (.lmul, 1) := by decide +kernel
theorem d_C_prior_30 : decode prog_3_method_8_code 30 = .ok (.lreturn, 1) := by decide +kernel
theorem d_C_isFault_0 : decode prog_3_method_3_code 0 = .ok (.aload_n 0, 1) := by decide +kernel
theorem d_C_isFault_1 : decode prog_3_method_3_code 1 = .ok (.iload_n 1, 1) := by decide +kernel
theorem d_C_isFault_2 : decode prog_3_method_3_code 2 = .ok (.invokevirtual 29, 3) := by decide +kernel
theorem d_C_isFault_5 : decode prog_3_method_3_code 5 = .ok (.ifCond .eq 16, 3) := by decide +kernel
theorem d_C_isFault_8 : decode prog_3_method_3_code 8 = .ok (.aload_n 0, 1) := by decide +kernel
theorem d_C_isFault_9 : decode prog_3_method_3_code 9 = .ok (.getfield 15, 3) := by decide +kernel
theorem d_C_isFault_12 : decode prog_3_method_3_code 12 = .ok (.iload_n 1, 1) := by decide +kernel
theorem d_C_isFault_13 : decode prog_3_method_3_code 13 = .ok (.iaload, 1) := by decide +kernel
theorem d_C_isFault_14 : decode prog_3_method_3_code 14 = .ok (.ifCond .ne 7, 3) := by decide +kernel
theorem d_C_isFault_17 : decode prog_3_method_3_code 17 = .ok (.iconst 1, 1) := by decide +kernel
theorem d_C_isFault_18 : decode prog_3_method_3_code 18 = .ok (.goto 4, 3) := by decide +kernel
theorem d_C_isFault_21 : decode prog_3_method_3_code 21 = .ok (.iconst 0, 1) := by decide +kernel
theorem d_C_isFault_22 : decode prog_3_method_3_code 22 = .ok (.ireturn, 1) := by decide +kernel
theorem d_C_hasPair_0 : decode prog_3_method_4_code 0 = .ok (.iconst 1, 1) := by decide +kernel
theorem d_C_hasPair_1 : decode prog_3_method_4_code 1 = .ok (.istore_n 2, 1) := by decide +kernel
theorem d_C_hasPair_2 : decode prog_3_method_4_code 2 = .ok (.iload_n 2, 1) := by decide +kernel
theorem d_C_hasPair_3 : decode prog_3_method_4_code 3 = .ok (.bipush 12, 2) := by decide +kernel
theorem d_C_hasPair_5 : decode prog_3_method_4_code 5 = .ok (.if_icmp .gt 21, 3) := by decide +kernel
theorem d_C_hasPair_8 : decode prog_3_method_4_code 8 = .ok (.aload_n 0, 1) := by decide +kernel
theorem d_C_hasPair_9 : decode prog_3_method_4_code 9 = .ok (.getfield 15, 3) := by decide +kernel
theorem d_C_hasPair_12 : decode prog_3_method_4_code 12 = .ok (.iload_n 2, 1) := by decide +kernel
theorem d_C_hasPair_13 : decode prog_3_method_4_code 13 = .ok (.iaload, 1) := by decide +kernel
theorem d_C_hasPair_14 : decode prog_3_method_4_code 14 = .ok (.iload_n 1, 1) := by decide +kernel
theorem d_C_hasPair_15 : decode prog_3_method_4_code 15 = .ok (.if_icmp .ne 5, 3) := by decide +kernel
theorem d_C_hasPair_18 : decode prog_3_method_4_code 18 = .ok (.iconst 1, 1) := by decide +kernel
theorem d_C_hasPair_19 : decode prog_3_method_4_code 19 = .ok (.ireturn, 1) := by decide +kernel
theorem d_C_hasPair_20 : decode prog_3_method_4_code 20 = .ok (.iinc 2 1, 3) := by decide +kernel
theorem d_C_hasPair_23 : decode prog_3_method_4_code 23 = .ok (.goto (-21), 3) := by decide +kernel
theorem d_C_hasPair_26 : decode prog_3_method_4_code 26 = .ok (.iconst 0, 1) := by decide +kernel
theorem d_C_hasPair_27 : decode prog_3_method_4_code 27 = .ok (.ireturn, 1) := by decide +kernel
theorem d_C_addPair_0 : decode prog_3_method_6_code 0 = .ok (.aload_n 0, 1) := by decide +kernel
theorem d_C_addPair_1 : decode prog_3_method_6_code 1 = .ok (.getfield 22, 3) := by decide +kernel
theorem d_C_addPair_4 : decode prog_3_method_6_code 4 = .ok (.bipush 12, 2) := by decide +kernel
theorem d_C_addPair_6 : decode prog_3_method_6_code 6 = .ok (.if_icmp .ge 19, 3) := by decide +kernel
theorem d_C_addPair_9 : decode prog_3_method_6_code 9 = .ok (.aload_n 0, 1) := by decide +kernel
theorem d_C_addPair_10 : decode prog_3_method_6_code 10 = .ok (.iload_n 1, 1) := by decide +kernel
theorem d_C_addPair_11 : decode prog_3_method_6_code 11 = .ok (.invokevirtual 29, 3) := by decide +kernel
theorem d_C_addPair_14 : decode prog_3_method_6_code 14 = .ok (.ifCond .eq 11, 3) := by decide +kernel
theorem d_C_addPair_17 : decode prog_3_method_6_code 17 = .ok (.aload_n 0, 1) := by decide +kernel
theorem d_C_addPair_18 : decode prog_3_method_6_code 18 = .ok (.iload_n 2, 1) := by decide +kernel
theorem d_C_addPair_19 : decode prog_3_method_6_code 19 = .ok (.invokevirtual 29, 3) := by decide +kernel
theorem d_C_addPair_22 : decode prog_3_method_6_code 22 = .ok (.ifCond .ne 6, 3) := by decide +kernel
theorem d_C_addPair_25 : decode prog_3_method_6_code 25 = .ok (.bipush (-4), 2) := by decide +kernel
theorem d_C_addPair_27 : decode prog_3_method_6_code 27 = .ok (.ireturn, 1) := by decide +kernel
theorem d_C_addPair_28 : decode prog_3_method_6_code 28 = .ok (.aload_n 0, 1) := by decide +kernel
theorem d_C_addPair_29 : decode prog_3_method_6_code 29 = .ok (.dup, 1) := by decide +kernel
theorem d_C_addPair_30 : decode prog_3_method_6_code 30 = .ok (.getfield 22, 3) := by decide +kernel
theorem d_C_addPair_33 : decode prog_3_method_6_code 33 = .ok (.iconst 1, 1) := by decide +kernel
theorem d_C_addPair_34 : decode prog_3_method_6_code 34 = .ok (.iadd, 1) := by decide +kernel
theorem d_C_addPair_35 : decode prog_3_method_6_code 35 = .ok (.putfield 22, 3) := by decide +kernel
theorem d_C_addPair_38 : decode prog_3_method_6_code 38 = .ok (.aload_n 0, 1) := by decide +kernel
theorem d_C_addPair_39 : decode prog_3_method_6_code 39 = .ok (.getfield 9, 3) := by decide +kernel
theorem d_C_addPair_42 : decode prog_3_method_6_code 42 = .ok (.aload_n 0, 1) := by decide +kernel
theorem d_C_addPair_43 : decode prog_3_method_6_code 43 = .ok (.getfield 22, 3) := by decide +kernel
theorem d_C_addPair_46 : decode prog_3_method_6_code 46 = .ok (.aload_n 0, 1) := by decide +kernel
theorem d_C_addPair_47 : decode prog_3_method_6_code 47 = .ok (.getfield 9, 3) := by decide +kernel
theorem d_C_addPair_50 : decode prog_3_method_6_code 50 = .ok (.iload_n 1, 1) := by decide +kernel
theorem d_C_addPair_51 : decode prog_3_method_6_code 51 = .ok (.laload, 1) := by decide +kernel
theorem d_C_addPair_52 : decode prog_3_method_6_code 52 = .ok (.ldc2_w 33, 3) := by decide +kernel
theorem d_C_addPair_55 : decode prog_3_method_6_code 55 = .ok (.ldiv, 1) := by decide +kernel
theorem d_C_addPair_56 : decode prog_3_method_6_code 56 = .ok (.aload_n 0, 1) := by decide +kernel
theorem d_C_addPair_57 : decode prog_3_method_6_code 57 = .ok (.getfield 9, 3) := by decide +kernel
theorem d_C_addPair_60 : decode prog_3_method_6_code 60 = .ok (.iload_n 2, 1) := by decide +kernel
theorem d_C_addPair_61 : decode prog_3_method_6_code 61 = .ok (.laload, 1) := by decide +kernel
theorem d_C_addPair_62 : decode prog_3_method_6_code 62 = .ok (.ldc2_w 33, 3) := by decide +kernel
theorem d_C_addPair_65 : decode prog_3_method_6_code 65 = .ok (.ldiv, 1) := by decide +kernel
theorem d_C_addPair_66 : decode prog_3_method_6_code 66 = .ok (.lmul, 1) := by decide +kernel
theorem d_C_addPair_67 : decode prog_3_method_6_code 67 = .ok (.lastore, 1) := by decide +kernel
theorem d_C_addPair_68 : decode prog_3_method_6_code 68 = .ok (.aload_n 0, 1) := by decide +kernel
theorem d_C_addPair_69 : decode prog_3_method_6_code 69 = .ok (.getfield 15, 3) := by decide +kernel
theorem d_C_addPair_72 : decode prog_3_method_6_code 72 = .ok (.aload_n 0, 1) := by decide +kernel
theorem d_C_addPair_73 : decode prog_3_method_6_code 73 = .ok (.getfield 22, 3) := by decide +kernel
theorem d_C_addPair_76 : decode prog_3_method_6_code 76 = .ok (.iload_n 1, 1) := by decide +kernel
theorem d_C_addPair_77 : decode prog_3_method_6_code 77 = .ok (.invokestatic 35, 3) := by decide +kernel
theorem d_C_addPair_80 : decode prog_3_method_6_code 80 = .ok (.iload_n 2, 1) := by decide +kernel
theorem d_C_addPair_81 : decode prog_3_method_6_code 81 = .ok (.invokestatic 35, 3) := by decide +kernel
theorem d_C_addPair_84 : decode prog_3_method_6_code 84 = .ok (.ior, 1) := by decide +kernel
theorem d_C_addPair_85 : decode prog_3_method_6_code 85 = .ok (.iastore, 1) := by decide +kernel
theorem d_C_addPair_86 : decode prog_3_method_6_code 86 = .ok (.aload_n 0, 1) := by decide +kernel
theorem d_C_addPair_87 : decode prog_3_method_6_code 87 = .ok (.getfield 22, 3) := by decide +kernel
theorem d_C_addPair_90 : decode prog_3_method_6_code 90 = .ok (.ireturn, 1) := by decide +kernel
theorem d_C_countLearned_0 : decode prog_3_method_7_code 0 = .ok (.iload_n 1, 1) := by decide +kernel
theorem d_C_countLearned_1 : decode prog_3_method_7_code 1 = .ok (.ifCond .lt 9, 3) := by decide +kernel
theorem d_C_countLearned_4 : decode prog_3_method_7_code 4 = .ok (.iload_n 1, 1) := by decide +kernel
theorem d_C_countLearned_5 : decode prog_3_method_7_code 5 = .ok (.bipush 12, 2) := by decide +kernel
theorem d_C_countLearned_7 : decode prog_3_method_7_code 7 = .ok (.if_icmp .le 5, 3) := by decide +kernel
theorem d_C_countLearned_10 : decode prog_3_method_7_code 10 = .ok (.iconst (-1), 1) := by decide +kernel
theorem d_C_countLearned_11 : decode prog_3_method_7_code 11 = .ok (.ireturn, 1) := by decide +kernel
theorem d_C_countLearned_12 : decode prog_3_method_7_code 12 = .ok (.aload_n 0, 1) := by decide +kernel
theorem d_C_countLearned_13 : decode prog_3_method_7_code 13 = .ok (.getfield 19, 3) := by decide +kernel
theorem d_C_countLearned_16 : decode prog_3_method_7_code 16 = .ok (.iload_n 1, 1) := by decide +kernel
theorem d_C_countLearned_17 : decode prog_3_method_7_code 17 = .ok (.dup2, 1) := by decide +kernel
theorem d_C_countLearned_18 : decode prog_3_method_7_code 18 = .ok (.iaload, 1) := by decide +kernel
theorem d_C_countLearned_19 : decode prog_3_method_7_code 19 = .ok (.iconst 1, 1) := by decide +kernel
theorem d_C_countLearned_20 : decode prog_3_method_7_code 20 = .ok (.iadd, 1) := by decide +kernel
theorem d_C_countLearned_21 : decode prog_3_method_7_code 21 = .ok (.iastore, 1) := by decide +kernel
theorem d_C_countLearned_22 : decode prog_3_method_7_code 22 = .ok (.aload_n 0, 1) := by decide +kernel
theorem d_C_countLearned_23 : decode prog_3_method_7_code 23 = .ok (.getfield 19, 3) := by decide +kernel
theorem d_C_countLearned_26 : decode prog_3_method_7_code 26 = .ok (.iload_n 1, 1) := by decide +kernel
theorem d_C_countLearned_27 : decode prog_3_method_7_code 27 = .ok (.iaload, 1) := by decide +kernel
theorem d_C_countLearned_28 : decode prog_3_method_7_code 28 = .ok (.ireturn, 1) := by decide +kernel
end
section
def x_C_addFault (st : XS) (p1 : Int64) : Option (Int32 × XS) :=
  if (x_cN st) < (12 : Int32) then
    ix (x_cN (x_fN_s (x_cN_s st ((x_cN st) + (1 : Int32))) ((x_fN (x_cN_s st ((x_cN st) + (1 : Int32)))) + (1 : Int32)))) 13 fun j2 =>
    some ((x_cN (x_pri_s (x_fN_s (x_cN_s st ((x_cN st) + (1 : Int32))) ((x_fN (x_cN_s st ((x_cN st) + (1 : Int32)))) + (1 : Int32))) j2 (p1 * (2520 : Int64)))), (x_pri_s (x_fN_s (x_cN_s st ((x_cN st) + (1 : Int32))) ((x_fN (x_cN_s st ((x_cN st) + (1 : Int32)))) + (1 : Int32))) j2 (p1 * (2520 : Int64))))
  else
    some ((-4 : Int32), st)
def x_C_knows (st : XS) (p1 : Int32) : Option (Int32) :=
  if p1 < (1 : Int32) then
    some (0 : Int32)
  else
    if (x_cN st) < p1 then
      some (0 : Int32)
    else
      if (12 : Int32) < p1 then
        some (0 : Int32)
      else
        some (1 : Int32)
def x_C_prior (st : XS) (p1 : Int32) : Option (Int64) :=
  (x_C_knows st p1).bind fun r2 =>
  if r2 = 0 then
    some (0 : Int64)
  else
    ix p1 13 fun j4 =>
    ix p1 13 fun j7 =>
    some ((x_pri st j4) * ((if (5 : Int32) < (x_lea st j7) then (5 : Int32) else (x_lea st j7)) + (1 : Int32)).toInt64)
def x_C_isFault (st : XS) (p1 : Int32) : Option (Int32) :=
  (x_C_knows st p1).bind fun r2 =>
  if r2 = 0 then
    some (0 : Int32)
  else
    ix p1 13 fun j4 =>
    if (x_mem st j4) = 0 then
      some (1 : Int32)
    else
      some (0 : Int32)
def x_C_hasPair_B1 (st : XS) (p1 : Int32) (self1 : Int32 → Option (Int32)) (v1 : Int32) : Option (Int32) :=
  if (12 : Int32) < v1 then
    some (0 : Int32)
  else
    ix v1 13 fun j3 =>
    if (x_mem st j3) = p1 then
      some (1 : Int32)
    else
      self1 (v1 + 1)
def x_C_hasPair (st : XS) (p1 : Int32) : Option (Int32) :=
  xl1 (x_C_hasPair_B1 st p1) 14 (1 : Int32)
def x_C_addPair (st : XS) (p1 : Int32) (p2 : Int32) : Option (Int32 × XS) :=
  if (12 : Int32) ≤ (x_cN st) then
    some ((-4 : Int32), st)
  else
    (x_C_knows st p1).bind fun r3 =>
    if r3 = 0 then
      some ((-4 : Int32), st)
    else
      (x_C_knows st p2).bind fun r6 =>
      if r6 = 0 then
        some ((-4 : Int32), st)
      else
        ix p1 13 fun j8 =>
        ix p2 13 fun j11 =>
        ix (x_cN (x_cN_s st ((x_cN st) + (1 : Int32)))) 13 fun j14 =>
        (x_G_bit p1).bind fun r18 =>
        (x_G_bit p2).bind fun r20 =>
        ix (x_cN (x_pri_s (x_cN_s st ((x_cN st) + (1 : Int32))) j14 (((x_pri (x_cN_s st ((x_cN st) + (1 : Int32))) j8) / (2520 : Int64)) * ((x_pri (x_cN_s st ((x_cN st) + (1 : Int32))) j11) / (2520 : Int64))))) 13 fun j21 =>
        some ((x_cN (x_mem_s (x_pri_s (x_cN_s st ((x_cN st) + (1 : Int32))) j14 (((x_pri (x_cN_s st ((x_cN st) + (1 : Int32))) j8) / (2520 : Int64)) * ((x_pri (x_cN_s st ((x_cN st) + (1 : Int32))) j11) / (2520 : Int64)))) j21 (r18 ||| r20))), (x_mem_s (x_pri_s (x_cN_s st ((x_cN st) + (1 : Int32))) j14 (((x_pri (x_cN_s st ((x_cN st) + (1 : Int32))) j8) / (2520 : Int64)) * ((x_pri (x_cN_s st ((x_cN st) + (1 : Int32))) j11) / (2520 : Int64)))) j21 (r18 ||| r20)))
def x_C_countLearned (st : XS) (p1 : Int32) : Option (Int32 × XS) :=
  if p1 < 0 then
    some ((-1 : Int32), st)
  else
    if p1 ≤ (12 : Int32) then
      ix p1 13 fun j3 =>
      ix p1 13 fun j6 =>
      ix p1 13 fun j9 =>
      some ((x_lea (x_lea_s st j6 ((x_lea st j3) + (1 : Int32))) j9), (x_lea_s st j6 ((x_lea st j3) + (1 : Int32))))
    else
      some ((-1 : Int32), st)
end
section
set_option maxHeartbeats 4000000 in
set_option maxRecDepth 100000 in
theorem c_C_addFault (l : Launch) (dC : Nat → ClassId) (dI : Nat → Nat → Nat) (cs : Nat → ClassId) (a : Nat → Nat) (hi : ∀ i j : Nat, i < 29 → j < 29 → a i = a j → i = j) (st : XS) (p1 : Int64) (res : Int32 × XS) (hf : x_C_addFault st p1 = some res) : Met l (⟨"GuideSearch$Causes", "addFault", "(J)I"⟩ : MethodName) (Cond.code (⟨"GuideSearch$Causes", "addFault", "(J)I"⟩ : MethodName) prog_3_method_5_code 3 (some .int) :: wg) { frames := 0, cells := 0, slots := 0, locals := 0 } (va_Pc ([.ref (a 1), .long p1] : List Value) (x_pre dC dI cs a st)) (va_Qi (fun r (_ : Unit) => r = res.1) (fun _ t => va_P (dC, dI) vwCl (x_W cs a res.2) t.heap) (x_A a)) 0 0 (x_A a) := by
  refine ro_start (cc := prog_3_method_5_code) (maxL := 3) (ret := (some .int)) (by decide) (Nat.le_of_ble_eq_true rfl) ?_
  intro p e s m below meth c hx hb hr hml hT hown hlocks hB ls hl
  replace hown : s.vm.findClass "GuideSearch$Causes" = some m.cls := hown
  obtain ⟨hP, hK, hN⟩ := hB
  replace hl : lv_has ls 3 [(0, .ref (a 1)), (1, .long p1)] := hl
  unfold x_C_addFault at hf
  have hD : ∀ st : XS, va_D (x_A a) (x_W cs a st) := fun st => x_D hi cs st
  have main : ∀ (H : Heap) (locs : List Loc), va_P (dC, dI) vwCl (x_W cs a st) H → va_S (x_A a) s.heap H locs → W p l e { frames := 0, cells := 0, slots := 0, locals := 0 } s m ([.ref (a 1), .long p1] : List Value).toArray below meth c H locs 0 0 (MQ below (va_Qi (fun r (_ : Unit) => r = res.1) (fun _ t => va_P (dC, dI) vwCl (x_W cs a res.2) t.heap) (x_A a)) ([.ref (a 1), .long p1] : List Value).toArray s 0 0 (x_A a)) (F0 m 0 ls []) := by
    intro H locs hP hS
    refine lv_aload_n hx hb d_C_addFault_0 rfl (lv_at hl 0 rfl) ?_
    refine va_get (D := (dC, dI)) (ci := 1) (v := .int (x_cN st)) (C := "GuideSearch$Causes") (T := F_C) (N := 5) hx hb hT i_C hown hK hP 1 rfl rfl 3 (by decide) (hT _ k_31) (fun _ h9 => h9) rfl d_C_addFault_1 ?_
    refine lv_bipush (v := (12 : Int32)) hx hb d_C_addFault_4 (by decide) ?_
    refine lv_icmp_lt (tgt := 12) hx hb d_C_addFault_6 (by decide) (fun c1 => ?_) (fun c1 => ?_)
    · rw [if_pos c1] at hf
      refine lv_aload_n hx hb d_C_addFault_12 rfl (lv_at hl 0 rfl) ?_
      refine lv_dup hx hb d_C_addFault_13 rfl ?_
      refine va_get (D := (dC, dI)) (ci := 1) (v := .int (x_cN st)) (C := "GuideSearch$Causes") (T := F_C) (N := 5) hx hb hT i_C hown hK hP 1 rfl rfl 3 (by decide) (hT _ k_31) (fun _ h9 => h9) rfl d_C_addFault_14 ?_
      refine lv_iconst (v := (1 : Int32)) hx hb d_C_addFault_17 (by decide) ?_
      refine lv_iadd hx hb d_C_addFault_18 ?_
      refine va_put (D := (dC, dI)) (ci := 1) (v := .int ((x_cN st) + (1 : Int32))) (ty := .int) (C := "GuideSearch$Causes") (T := F_C) (N := 5) hx hb hT i_C ft_C ft_C_ok n_C hown hK hP (hD _) hS 1 rfl rfl 3 (by decide) (hT _ k_31) (fun _ h9 => h9) rfl (by decide +kernel) rfl rfl (Nat.le_of_ble_eq_true rfl) d_C_addFault_19 (fun H locs hP _ hS => ?_)
      rw [x_cN_put cs a st ((x_cN st) + (1 : Int32))] at hP
      refine lv_aload_n hx hb d_C_addFault_22 rfl (lv_at hl 0 rfl) ?_
      refine lv_dup hx hb d_C_addFault_23 rfl ?_
      refine va_get (D := (dC, dI)) (ci := 1) (v := .int (x_fN (x_cN_s st ((x_cN st) + (1 : Int32))))) (C := "GuideSearch$Causes") (T := F_C) (N := 5) hx hb hT i_C hown hK hP 1 rfl rfl 4 (by decide) (hT _ k_34) (fun _ h9 => h9) rfl d_C_addFault_24 ?_
      refine lv_iconst (v := (1 : Int32)) hx hb d_C_addFault_27 (by decide) ?_
      refine lv_iadd hx hb d_C_addFault_28 ?_
      refine va_put (D := (dC, dI)) (ci := 1) (v := .int ((x_fN (x_cN_s st ((x_cN st) + (1 : Int32)))) + (1 : Int32))) (ty := .int) (C := "GuideSearch$Causes") (T := F_C) (N := 5) hx hb hT i_C ft_C ft_C_ok n_C hown hK hP (hD _) hS 1 rfl rfl 4 (by decide) (hT _ k_34) (fun _ h9 => h9) rfl (by decide +kernel) rfl rfl (Nat.le_of_ble_eq_true rfl) d_C_addFault_29 (fun H locs hP _ hS => ?_)
      rw [x_fN_put cs a (x_cN_s st ((x_cN st) + (1 : Int32))) ((x_fN (x_cN_s st ((x_cN st) + (1 : Int32)))) + (1 : Int32))] at hP
      refine lv_aload_n hx hb d_C_addFault_32 rfl (lv_at hl 0 rfl) ?_
      refine va_get (D := (dC, dI)) (ci := 1) (v := .ref (a 2)) (C := "GuideSearch$Causes") (T := F_C) (N := 5) hx hb hT i_C hown hK hP 1 rfl rfl 0 (by decide) (hT _ k_28) (fun _ h9 => h9) rfl d_C_addFault_33 ?_
      refine lv_aload_n hx hb d_C_addFault_36 rfl (lv_at hl 0 rfl) ?_
      refine va_get (D := (dC, dI)) (ci := 1) (v := .int (x_cN (x_fN_s (x_cN_s st ((x_cN st) + (1 : Int32))) ((x_fN (x_cN_s st ((x_cN st) + (1 : Int32)))) + (1 : Int32))))) (C := "GuideSearch$Causes") (T := F_C) (N := 5) hx hb hT i_C hown hK hP 1 rfl rfl 3 (by decide) (hT _ k_31) (fun _ h9 => h9) rfl d_C_addFault_37 ?_
      refine lv_lload_n hx hb d_C_addFault_40 rfl (lv_at hl 1 rfl) ?_
      refine lv_ldc2 (v := (2520 : Int64)) hx hb hown (hT _ k_158) d_C_addFault_41 ?_
      refine lv_lmul hx hb d_C_addFault_44 ?_
      obtain ⟨j2, ej4, hi3, hf⟩ := ix_some hf
      refine xa_last hx hb hK hP (hD _) hS 2 0 rfl rfl ej4 hi3 d_C_addFault_45 (fun H locs hP hS => ?_)
      rw [x_pri_put cs a (x_fN_s (x_cN_s st ((x_cN st) + (1 : Int32))) ((x_fN (x_cN_s st ((x_cN st) + (1 : Int32)))) + (1 : Int32))) j2 (p1 * (2520 : Int64))] at hP
      refine lv_aload_n hx hb d_C_addFault_46 rfl (lv_at hl 0 rfl) ?_
      refine va_get (D := (dC, dI)) (ci := 1) (v := .int (x_cN (x_pri_s (x_fN_s (x_cN_s st ((x_cN st) + (1 : Int32))) ((x_fN (x_cN_s st ((x_cN st) + (1 : Int32)))) + (1 : Int32))) j2 (p1 * (2520 : Int64))))) (C := "GuideSearch$Causes") (T := F_C) (N := 5) hx hb hT i_C hown hK hP 1 rfl rfl 3 (by decide) (hT _ k_31) (fun _ h9 => h9) rfl d_C_addFault_47 ?_
      exact W.iret hx hb hr (fun t ht _ => ⟨⟨_, (), rfl, congrArg Prod.fst (Option.some.inj hf), x_fin ht (congrArg Prod.snd (Option.some.inj hf)) hP⟩, hS.F ht⟩) hS.2.2 d_C_addFault_50
    · rw [if_neg c1] at hf
      refine lv_bipush (v := (-4 : Int32)) hx hb d_C_addFault_9 (by decide) ?_
      exact W.iret hx hb hr (fun t ht _ => ⟨⟨_, (), rfl, congrArg Prod.fst (Option.some.inj hf), x_fin ht (congrArg Prod.snd (Option.some.inj hf)) hP⟩, hS.F ht⟩) hS.2.2 d_C_addFault_11
  exact main _ _ hP va_S.rf
set_option maxHeartbeats 4000000 in
set_option maxRecDepth 100000 in
theorem c_C_knows (l : Launch) (dC : Nat → ClassId) (dI : Nat → Nat → Nat) (cs : Nat → ClassId) (a : Nat → Nat) (st : XS) (p1 : Int32) (res : Int32) (hf : x_C_knows st p1 = some res) : Met l (⟨"GuideSearch$Causes", "knows", "(I)Z"⟩ : MethodName) (Cond.code (⟨"GuideSearch$Causes", "knows", "(I)Z"⟩ : MethodName) prog_3_method_2_code 2 (some .boolean) :: wg) { frames := 0, cells := 0, slots := 0, locals := 0 } (va_Pc ([.ref (a 1), .int p1] : List Value) (x_pre dC dI cs a st)) (vp_Si (fun r => r = res)) 0 0 (fun _ => False) := by
  refine ro_start (cc := prog_3_method_2_code) (maxL := 2) (ret := (some .boolean)) (by decide) (Nat.le_of_ble_eq_true rfl) ?_
  intro p e s m below meth c hx hb hr hml hT hown hlocks hB ls hl
  replace hown : s.vm.findClass "GuideSearch$Causes" = some m.cls := hown
  obtain ⟨hP, hK, hN⟩ := hB
  replace hl : lv_has ls 2 [(0, .ref (a 1)), (1, .int p1)] := hl
  unfold x_C_knows at hf
  refine lv_iload_n hx hb d_C_knows_0 rfl (lv_at hl 1 rfl) ?_
  refine lv_iconst (v := (1 : Int32)) hx hb d_C_knows_1 (by decide) ?_
  refine lv_icmp_lt (tgt := 23) hx hb d_C_knows_2 (by decide) (fun c1 => ?_) (fun c1 => ?_)
  · rw [if_pos c1] at hf
    refine lv_iconst (v := (0 : Int32)) hx hb d_C_knows_23 (by decide) ?_
    exact W.zret (ty := .boolean) hx hb hr (rfl) (fun t ht _ => ⟨_, rfl, Option.some.inj hf, ht⟩) (fun _ h => absurd h List.not_mem_nil) d_C_knows_24
  · rw [if_neg c1] at hf
    refine lv_iload_n hx hb d_C_knows_5 rfl (lv_at hl 1 rfl) ?_
    refine lv_aload_n hx hb d_C_knows_6 rfl (lv_at hl 0 rfl) ?_
    refine va_get (D := (dC, dI)) (ci := 1) (v := .int (x_cN st)) (C := "GuideSearch$Causes") (T := F_C) (N := 5) hx hb hT i_C hown hK hP 1 rfl rfl 3 (by decide) (hT _ k_31) (fun _ h9 => h9) rfl d_C_knows_7 ?_
    refine lv_icmp_gt (tgt := 23) hx hb d_C_knows_10 (by decide) (fun c2 => ?_) (fun c2 => ?_)
    · rw [if_pos c2] at hf
      refine lv_iconst (v := (0 : Int32)) hx hb d_C_knows_23 (by decide) ?_
      exact W.zret (ty := .boolean) hx hb hr (rfl) (fun t ht _ => ⟨_, rfl, Option.some.inj hf, ht⟩) (fun _ h => absurd h List.not_mem_nil) d_C_knows_24
    · rw [if_neg c2] at hf
      refine lv_iload_n hx hb d_C_knows_13 rfl (lv_at hl 1 rfl) ?_
      refine lv_bipush (v := (12 : Int32)) hx hb d_C_knows_14 (by decide) ?_
      refine lv_icmp_gt (tgt := 23) hx hb d_C_knows_16 (by decide) (fun c3 => ?_) (fun c3 => ?_)
      · rw [if_pos c3] at hf
        refine lv_iconst (v := (0 : Int32)) hx hb d_C_knows_23 (by decide) ?_
        exact W.zret (ty := .boolean) hx hb hr (rfl) (fun t ht _ => ⟨_, rfl, Option.some.inj hf, ht⟩) (fun _ h => absurd h List.not_mem_nil) d_C_knows_24
      · rw [if_neg c3] at hf
        refine lv_iconst (v := (1 : Int32)) hx hb d_C_knows_19 (by decide) ?_
        refine lv_goto (tgt := 24) hx hb d_C_knows_20 (by decide) ?_
        exact W.zret (ty := .boolean) hx hb hr (rfl) (fun t ht _ => ⟨_, rfl, Option.some.inj hf, ht⟩) (fun _ h => absurd h List.not_mem_nil) d_C_knows_24
set_option maxHeartbeats 4000000 in
set_option maxRecDepth 100000 in
theorem c_C_prior (l : Launch) (dC : Nat → ClassId) (dI : Nat → Nat → Nat) (cs : Nat → ClassId) (a : Nat → Nat) (st : XS) (p1 : Int32) (res : Int64) (hf : x_C_prior st p1 = some res) : Met l (⟨"GuideSearch$Causes", "prior", "(I)J"⟩ : MethodName) (Cond.code (⟨"GuideSearch$Causes", "prior", "(I)J"⟩ : MethodName) prog_3_method_8_code 2 (some .long) :: wg) { frames := 1, cells := 0, slots := 0, locals := 24 } (va_Pc ([.ref (a 1), .int p1] : List Value) (x_pre dC dI cs a st)) (vp_Sl (fun r => r = res)) 0 0 (fun _ => False) := by
  refine ro_start (cc := prog_3_method_8_code) (maxL := 2) (ret := (some .long)) (by decide) (Nat.le_of_ble_eq_true rfl) ?_
  intro p e s m below meth c hx hb hr hml hT hown hlocks hB ls hl
  replace hown : s.vm.findClass "GuideSearch$Causes" = some m.cls := hown
  obtain ⟨hP, hK, hN⟩ := hB
  replace hl : lv_has ls 2 [(0, .ref (a 1)), (1, .int p1)] := hl
  unfold x_C_prior at hf
  refine lv_aload_n hx hb d_C_prior_0 rfl (lv_at hl 0 rfl) ?_
  refine lv_iload_n hx hb d_C_prior_1 rfl (lv_at hl 1 rfl) ?_
  obtain ⟨r2, hr1, hf⟩ := ob hf
  refine ro_calli (va_runV (C := "GuideSearch$Causes") (As := [.int p1]) (rest := []) ⟨hx, hb, hml, hown, hT⟩ (c_C_knows l dC dI cs a st p1 r2 hr1) (cwV 1 hT (gV k_265 k_177 k_178 k_2 k_179) rfl rfl rfl (by decide +kernel) ⟨Nat.le_of_ble_eq_true rfl, Nat.le_of_ble_eq_true rfl⟩) (ro_preV hP hK hN (va_recv hK hP (ci := 1) (q0 := 1) rfl rfl)) rfl rfl hl.1 rfl (lv_room (Nat.le_of_ble_eq_true rfl)) d_C_prior_2 ⟨Nat.le_of_ble_eq_true rfl, Nat.le_of_ble_eq_true rfl⟩) ?_
  refine lv_if_ne (tgt := 10) hx hb d_C_prior_5 (by decide) (fun c3 => ?_) (fun c3 => ?_)
  · rw [if_neg c3] at hf
    refine lv_aload_n hx hb d_C_prior_10 rfl (lv_at hl 0 rfl) ?_
    refine va_get (D := (dC, dI)) (ci := 1) (v := .ref (a 2)) (C := "GuideSearch$Causes") (T := F_C) (N := 5) hx hb hT i_C hown hK hP 1 rfl rfl 0 (by decide) (hT _ k_28) (fun _ h9 => h9) rfl d_C_prior_11 ?_
    refine lv_iload_n hx hb d_C_prior_14 rfl (lv_at hl 1 rfl) ?_
    obtain ⟨j4, ej6, hi5, hf⟩ := ix_some hf
    refine xa_lald hx hb hK hP 2 0 rfl rfl ej6 hi5 d_C_prior_15 ?_
    refine lv_aload_n hx hb d_C_prior_16 rfl (lv_at hl 0 rfl) ?_
    refine va_get (D := (dC, dI)) (ci := 1) (v := .ref (a 4)) (C := "GuideSearch$Causes") (T := F_C) (N := 5) hx hb hT i_C hown hK hP 1 rfl rfl 2 (by decide) (hT _ k_30) (fun _ h9 => h9) rfl d_C_prior_17 ?_
    refine lv_iload_n hx hb d_C_prior_20 rfl (lv_at hl 1 rfl) ?_
    obtain ⟨j7, ej9, hi8, hf⟩ := ix_some hf
    refine xa_iald hx hb hK hP 4 1 rfl rfl ej9 hi8 d_C_prior_21 ?_
    refine lv_iconst (v := (5 : Int32)) hx hb d_C_prior_22 (by decide) ?_
    refine va_mmin hx hb (hml.trans hl.1.symm) hown (hT _ k_266) (hT _ k_267) (hT _ k_9) (hT _ k_268) (Nat.le_of_ble_eq_true rfl) (Nat.le_of_ble_eq_true rfl) (Nat.le_of_ble_eq_true rfl) (Nat.le_of_ble_eq_true rfl) d_C_prior_23 ?_
    refine lv_iconst (v := (1 : Int32)) hx hb d_C_prior_26 (by decide) ?_
    refine lv_iadd hx hb d_C_prior_27 ?_
    refine lv_i2l (v := ((if (5 : Int32) < (x_lea st j7) then (5 : Int32) else (x_lea st j7)) + (1 : Int32)).toInt64) hx hb d_C_prior_28 rfl ?_
    refine lv_lmul hx hb d_C_prior_29 ?_
    exact W.lret hx hb hr (fun t ht _ => ⟨_, rfl, Option.some.inj hf, ht⟩) (fun _ h => absurd h List.not_mem_nil) d_C_prior_30
  · rw [if_pos c3] at hf
    refine lv_lconst (v := (0 : Int64)) hx hb d_C_prior_8 (by decide) ?_
    exact W.lret hx hb hr (fun t ht _ => ⟨_, rfl, Option.some.inj hf, ht⟩) (fun _ h => absurd h List.not_mem_nil) d_C_prior_9
set_option maxHeartbeats 4000000 in
set_option maxRecDepth 100000 in
theorem c_C_isFault (l : Launch) (dC : Nat → ClassId) (dI : Nat → Nat → Nat) (cs : Nat → ClassId) (a : Nat → Nat) (st : XS) (p1 : Int32) (res : Int32) (hf : x_C_isFault st p1 = some res) : Met l (⟨"GuideSearch$Causes", "isFault", "(I)Z"⟩ : MethodName) (Cond.code (⟨"GuideSearch$Causes", "isFault", "(I)Z"⟩ : MethodName) prog_3_method_3_code 2 (some .boolean) :: wg) { frames := 1, cells := 0, slots := 0, locals := 21 } (va_Pc ([.ref (a 1), .int p1] : List Value) (x_pre dC dI cs a st)) (vp_Si (fun r => r = res)) 0 0 (fun _ => False) := by
  refine ro_start (cc := prog_3_method_3_code) (maxL := 2) (ret := (some .boolean)) (by decide) (Nat.le_of_ble_eq_true rfl) ?_
  intro p e s m below meth c hx hb hr hml hT hown hlocks hB ls hl
  replace hown : s.vm.findClass "GuideSearch$Causes" = some m.cls := hown
  obtain ⟨hP, hK, hN⟩ := hB
  replace hl : lv_has ls 2 [(0, .ref (a 1)), (1, .int p1)] := hl
  unfold x_C_isFault at hf
  refine lv_aload_n hx hb d_C_isFault_0 rfl (lv_at hl 0 rfl) ?_
  refine lv_iload_n hx hb d_C_isFault_1 rfl (lv_at hl 1 rfl) ?_
  obtain ⟨r2, hr1, hf⟩ := ob hf
  refine ro_calli (va_runV (C := "GuideSearch$Causes") (As := [.int p1]) (rest := []) ⟨hx, hb, hml, hown, hT⟩ (c_C_knows l dC dI cs a st p1 r2 hr1) (cwV 1 hT (gV k_265 k_177 k_178 k_2 k_179) rfl rfl rfl (by decide +kernel) ⟨Nat.le_of_ble_eq_true rfl, Nat.le_of_ble_eq_true rfl⟩) (ro_preV hP hK hN (va_recv hK hP (ci := 1) (q0 := 1) rfl rfl)) rfl rfl hl.1 rfl (lv_room (Nat.le_of_ble_eq_true rfl)) d_C_isFault_2 ⟨Nat.le_of_ble_eq_true rfl, Nat.le_of_ble_eq_true rfl⟩) ?_
  refine lv_if_eq (tgt := 21) hx hb d_C_isFault_5 (by decide) (fun c3 => ?_) (fun c3 => ?_)
  · rw [if_pos c3] at hf
    refine lv_iconst (v := (0 : Int32)) hx hb d_C_isFault_21 (by decide) ?_
    exact W.zret (ty := .boolean) hx hb hr (rfl) (fun t ht _ => ⟨_, rfl, Option.some.inj hf, ht⟩) (fun _ h => absurd h List.not_mem_nil) d_C_isFault_22
  · rw [if_neg c3] at hf
    refine lv_aload_n hx hb d_C_isFault_8 rfl (lv_at hl 0 rfl) ?_
    refine va_get (D := (dC, dI)) (ci := 1) (v := .ref (a 3)) (C := "GuideSearch$Causes") (T := F_C) (N := 5) hx hb hT i_C hown hK hP 1 rfl rfl 1 (by decide) (hT _ k_29) (fun _ h9 => h9) rfl d_C_isFault_9 ?_
    refine lv_iload_n hx hb d_C_isFault_12 rfl (lv_at hl 1 rfl) ?_
    obtain ⟨j4, ej6, hi5, hf⟩ := ix_some hf
    refine xa_iald hx hb hK hP 3 1 rfl rfl ej6 hi5 d_C_isFault_13 ?_
    refine lv_if_ne (tgt := 21) hx hb d_C_isFault_14 (by decide) (fun c7 => ?_) (fun c7 => ?_)
    · rw [if_neg c7] at hf
      refine lv_iconst (v := (0 : Int32)) hx hb d_C_isFault_21 (by decide) ?_
      exact W.zret (ty := .boolean) hx hb hr (rfl) (fun t ht _ => ⟨_, rfl, Option.some.inj hf, ht⟩) (fun _ h => absurd h List.not_mem_nil) d_C_isFault_22
    · rw [if_pos c7] at hf
      refine lv_iconst (v := (1 : Int32)) hx hb d_C_isFault_17 (by decide) ?_
      refine lv_goto (tgt := 22) hx hb d_C_isFault_18 (by decide) ?_
      exact W.zret (ty := .boolean) hx hb hr (rfl) (fun t ht _ => ⟨_, rfl, Option.some.inj hf, ht⟩) (fun _ h => absurd h List.not_mem_nil) d_C_isFault_22
set_option maxHeartbeats 4000000 in
set_option maxRecDepth 100000 in
theorem c_C_hasPair (l : Launch) (dC : Nat → ClassId) (dI : Nat → Nat → Nat) (cs : Nat → ClassId) (a : Nat → Nat) (st : XS) (p1 : Int32) (res : Int32) (hf : x_C_hasPair st p1 = some res) : Met l (⟨"GuideSearch$Causes", "hasPair", "(I)Z"⟩ : MethodName) (Cond.code (⟨"GuideSearch$Causes", "hasPair", "(I)Z"⟩ : MethodName) prog_3_method_4_code 3 (some .boolean) :: wg) { frames := 0, cells := 0, slots := 0, locals := 0 } (va_Pc ([.ref (a 1), .int p1] : List Value) (x_pre dC dI cs a st)) (vp_Si (fun r => r = res)) 0 0 (fun _ => False) := by
  refine ro_start (cc := prog_3_method_4_code) (maxL := 3) (ret := (some .boolean)) (by decide) (Nat.le_of_ble_eq_true rfl) ?_
  intro p e s m below meth c hx hb hr hml hT hown hlocks hB ls hl
  replace hown : s.vm.findClass "GuideSearch$Causes" = some m.cls := hown
  obtain ⟨hP, hK, hN⟩ := hB
  replace hl : lv_has ls 3 [(0, .ref (a 1)), (1, .int p1)] := hl
  unfold x_C_hasPair at hf
  refine lv_iconst (v := (1 : Int32)) hx hb d_C_hasPair_0 (by decide) ?_
  refine lv_istore_n (lv' := [(2, .int (1 : Int32)), (0, .ref (a 1)), (1, .int p1)]) hx hb d_C_hasPair_1 rfl hl (by decide) rfl (fun ls hl => ?_)
  have loop1 : ∀ (n : Nat) (v1 : Int32), xl1 (x_C_hasPair_B1 st p1) n v1 = some res → ∀ (ls : Array Slot), lv_has ls 3 [(2, .int v1), (0, .ref (a 1)), (1, .int p1)] → W p l e { frames := 0, cells := 0, slots := 0, locals := 0 } s m ([.ref (a 1), .int p1] : List Value).toArray below meth c s.heap [] 0 0 (MQ below (vp_Si (fun r => r = res)) ([.ref (a 1), .int p1] : List Value).toArray s 0 0 (fun _ => False)) (F0 m 2 ls []) := by
    intro n
    induction n with
    | zero => intro v1 hf; exact absurd hf (by simp [xl1])
    | succ n ih1 =>
      intro v1 hf ls hl
      replace hf : (x_C_hasPair_B1 st p1) (xl1 (x_C_hasPair_B1 st p1) n) v1 = some res := hf
      generalize xl1 (x_C_hasPair_B1 st p1) n = self1 at hf ih1
      unfold x_C_hasPair_B1 at hf
      refine lv_iload_n hx hb d_C_hasPair_2 rfl (lv_at hl 0 rfl) ?_
      refine lv_bipush (v := (12 : Int32)) hx hb d_C_hasPair_3 (by decide) ?_
      refine lv_icmp_gt (tgt := 26) hx hb d_C_hasPair_5 (by decide) (fun c2 => ?_) (fun c2 => ?_)
      · rw [if_pos c2] at hf
        refine lv_iconst (v := (0 : Int32)) hx hb d_C_hasPair_26 (by decide) ?_
        exact W.zret (ty := .boolean) hx hb hr (rfl) (fun t ht _ => ⟨_, rfl, Option.some.inj hf, ht⟩) (fun _ h => absurd h List.not_mem_nil) d_C_hasPair_27
      · rw [if_neg c2] at hf
        refine lv_aload_n hx hb d_C_hasPair_8 rfl (lv_at hl 1 rfl) ?_
        refine va_get (D := (dC, dI)) (ci := 1) (v := .ref (a 3)) (C := "GuideSearch$Causes") (T := F_C) (N := 5) hx hb hT i_C hown hK hP 1 rfl rfl 1 (by decide) (hT _ k_29) (fun _ h9 => h9) rfl d_C_hasPair_9 ?_
        refine lv_iload_n hx hb d_C_hasPair_12 rfl (lv_at hl 0 rfl) ?_
        obtain ⟨j3, ej5, hi4, hf⟩ := ix_some hf
        refine xa_iald hx hb hK hP 3 1 rfl rfl ej5 hi4 d_C_hasPair_13 ?_
        refine lv_iload_n hx hb d_C_hasPair_14 rfl (lv_at hl 2 rfl) ?_
        refine lv_icmp_ne (tgt := 20) hx hb d_C_hasPair_15 (by decide) (fun c6 => ?_) (fun c6 => ?_)
        · rw [if_neg c6] at hf
          refine lv_iinc (v := (v1 + 1)) (lv' := [(2, .int (v1 + 1)), (0, .ref (a 1)), (1, .int p1)]) hx hb d_C_hasPair_20 hl (k := 0) rfl rfl (by decide) rfl (fun ls hl => ?_)
          refine lv_goto (tgt := 2) hx hb d_C_hasPair_23 (by decide) ?_
          exact ih1 (v1 + 1) hf ls (lv_sub hl [0, 1, 2] rfl)
        · rw [if_pos c6] at hf
          refine lv_iconst (v := (1 : Int32)) hx hb d_C_hasPair_18 (by decide) ?_
          exact W.zret (ty := .boolean) hx hb hr (rfl) (fun t ht _ => ⟨_, rfl, Option.some.inj hf, ht⟩) (fun _ h => absurd h List.not_mem_nil) d_C_hasPair_19
  exact loop1 _ (1 : Int32) hf ls (lv_sub hl [0, 1, 2] rfl)
set_option maxHeartbeats 4000000 in
set_option maxRecDepth 100000 in
theorem c_C_addPair (l : Launch) (dC : Nat → ClassId) (dI : Nat → Nat → Nat) (cs : Nat → ClassId) (a : Nat → Nat) (hi : ∀ i j : Nat, i < 29 → j < 29 → a i = a j → i = j) (st : XS) (p1 : Int32) (p2 : Int32) (res : Int32 × XS) (hf : x_C_addPair st p1 p2 = some res) : Met l (⟨"GuideSearch$Causes", "addPair", "(II)I"⟩ : MethodName) (Cond.code (⟨"GuideSearch$Causes", "addPair", "(II)I"⟩ : MethodName) prog_3_method_6_code 3 (some .int) :: wg) { frames := 1, cells := 0, slots := 0, locals := 21 } (va_Pc ([.ref (a 1), .int p1, .int p2] : List Value) (x_pre dC dI cs a st)) (va_Qi (fun r (_ : Unit) => r = res.1) (fun _ t => va_P (dC, dI) vwCl (x_W cs a res.2) t.heap) (x_A a)) 0 0 (x_A a) := by
  refine ro_start (cc := prog_3_method_6_code) (maxL := 3) (ret := (some .int)) (by decide) (Nat.le_of_ble_eq_true rfl) ?_
  intro p e s m below meth c hx hb hr hml hT hown hlocks hB ls hl
  replace hown : s.vm.findClass "GuideSearch$Causes" = some m.cls := hown
  obtain ⟨hP, hK, hN⟩ := hB
  replace hl : lv_has ls 3 [(0, .ref (a 1)), (1, .int p1), (2, .int p2)] := hl
  unfold x_C_addPair at hf
  have hD : ∀ st : XS, va_D (x_A a) (x_W cs a st) := fun st => x_D hi cs st
  have main : ∀ (H : Heap) (locs : List Loc), va_P (dC, dI) vwCl (x_W cs a st) H → va_S (x_A a) s.heap H locs → W p l e { frames := 1, cells := 0, slots := 0, locals := 21 } s m ([.ref (a 1), .int p1, .int p2] : List Value).toArray below meth c H locs 0 0 (MQ below (va_Qi (fun r (_ : Unit) => r = res.1) (fun _ t => va_P (dC, dI) vwCl (x_W cs a res.2) t.heap) (x_A a)) ([.ref (a 1), .int p1, .int p2] : List Value).toArray s 0 0 (x_A a)) (F0 m 0 ls []) := by
    intro H locs hP hS
    refine lv_aload_n hx hb d_C_addPair_0 rfl (lv_at hl 0 rfl) ?_
    refine va_get (D := (dC, dI)) (ci := 1) (v := .int (x_cN st)) (C := "GuideSearch$Causes") (T := F_C) (N := 5) hx hb hT i_C hown hK hP 1 rfl rfl 3 (by decide) (hT _ k_31) (fun _ h9 => h9) rfl d_C_addPair_1 ?_
    refine lv_bipush (v := (12 : Int32)) hx hb d_C_addPair_4 (by decide) ?_
    refine lv_icmp_ge (tgt := 25) hx hb d_C_addPair_6 (by decide) (fun c1 => ?_) (fun c1 => ?_)
    · rw [if_pos c1] at hf
      refine lv_bipush (v := (-4 : Int32)) hx hb d_C_addPair_25 (by decide) ?_
      exact W.iret hx hb hr (fun t ht _ => ⟨⟨_, (), rfl, congrArg Prod.fst (Option.some.inj hf), x_fin ht (congrArg Prod.snd (Option.some.inj hf)) hP⟩, hS.F ht⟩) hS.2.2 d_C_addPair_27
    · rw [if_neg c1] at hf
      refine lv_aload_n hx hb d_C_addPair_9 rfl (lv_at hl 0 rfl) ?_
      refine lv_iload_n hx hb d_C_addPair_10 rfl (lv_at hl 1 rfl) ?_
      obtain ⟨r3, hr2, hf⟩ := ob hf
      refine ro_calli (va_runV (C := "GuideSearch$Causes") (As := [.int p1]) (rest := []) ⟨hx, hb, hml, hown, hT⟩ (c_C_knows l dC dI cs a st p1 r3 hr2) (cwV 1 hT (gV k_265 k_177 k_178 k_2 k_179) rfl rfl rfl (by decide +kernel) ⟨Nat.le_of_ble_eq_true rfl, Nat.le_of_ble_eq_true rfl⟩) (ro_preV hP hK hN (va_recv hK hP (ci := 1) (q0 := 1) rfl rfl)) rfl rfl hl.1 rfl (lv_room (Nat.le_of_ble_eq_true rfl)) d_C_addPair_11 ⟨Nat.le_of_ble_eq_true rfl, Nat.le_of_ble_eq_true rfl⟩) ?_
      refine lv_if_eq (tgt := 25) hx hb d_C_addPair_14 (by decide) (fun c4 => ?_) (fun c4 => ?_)
      · rw [if_pos c4] at hf
        refine lv_bipush (v := (-4 : Int32)) hx hb d_C_addPair_25 (by decide) ?_
        exact W.iret hx hb hr (fun t ht _ => ⟨⟨_, (), rfl, congrArg Prod.fst (Option.some.inj hf), x_fin ht (congrArg Prod.snd (Option.some.inj hf)) hP⟩, hS.F ht⟩) hS.2.2 d_C_addPair_27
      · rw [if_neg c4] at hf
        refine lv_aload_n hx hb d_C_addPair_17 rfl (lv_at hl 0 rfl) ?_
        refine lv_iload_n hx hb d_C_addPair_18 rfl (lv_at hl 2 rfl) ?_
        obtain ⟨r6, hr5, hf⟩ := ob hf
        refine ro_calli (va_runV (C := "GuideSearch$Causes") (As := [.int p2]) (rest := []) ⟨hx, hb, hml, hown, hT⟩ (c_C_knows l dC dI cs a st p2 r6 hr5) (cwV 1 hT (gV k_265 k_177 k_178 k_2 k_179) rfl rfl rfl (by decide +kernel) ⟨Nat.le_of_ble_eq_true rfl, Nat.le_of_ble_eq_true rfl⟩) (ro_preV hP hK hN (va_recv hK hP (ci := 1) (q0 := 1) rfl rfl)) rfl rfl hl.1 rfl (lv_room (Nat.le_of_ble_eq_true rfl)) d_C_addPair_19 ⟨Nat.le_of_ble_eq_true rfl, Nat.le_of_ble_eq_true rfl⟩) ?_
        refine lv_if_ne (tgt := 28) hx hb d_C_addPair_22 (by decide) (fun c7 => ?_) (fun c7 => ?_)
        · rw [if_neg c7] at hf
          refine lv_aload_n hx hb d_C_addPair_28 rfl (lv_at hl 0 rfl) ?_
          refine lv_dup hx hb d_C_addPair_29 rfl ?_
          refine va_get (D := (dC, dI)) (ci := 1) (v := .int (x_cN st)) (C := "GuideSearch$Causes") (T := F_C) (N := 5) hx hb hT i_C hown hK hP 1 rfl rfl 3 (by decide) (hT _ k_31) (fun _ h9 => h9) rfl d_C_addPair_30 ?_
          refine lv_iconst (v := (1 : Int32)) hx hb d_C_addPair_33 (by decide) ?_
          refine lv_iadd hx hb d_C_addPair_34 ?_
          refine va_put (D := (dC, dI)) (ci := 1) (v := .int ((x_cN st) + (1 : Int32))) (ty := .int) (C := "GuideSearch$Causes") (T := F_C) (N := 5) hx hb hT i_C ft_C ft_C_ok n_C hown hK hP (hD _) hS 1 rfl rfl 3 (by decide) (hT _ k_31) (fun _ h9 => h9) rfl (by decide +kernel) rfl rfl (Nat.le_of_ble_eq_true rfl) d_C_addPair_35 (fun H locs hP _ hS => ?_)
          rw [x_cN_put cs a st ((x_cN st) + (1 : Int32))] at hP
          refine lv_aload_n hx hb d_C_addPair_38 rfl (lv_at hl 0 rfl) ?_
          refine va_get (D := (dC, dI)) (ci := 1) (v := .ref (a 2)) (C := "GuideSearch$Causes") (T := F_C) (N := 5) hx hb hT i_C hown hK hP 1 rfl rfl 0 (by decide) (hT _ k_28) (fun _ h9 => h9) rfl d_C_addPair_39 ?_
          refine lv_aload_n hx hb d_C_addPair_42 rfl (lv_at hl 0 rfl) ?_
          refine va_get (D := (dC, dI)) (ci := 1) (v := .int (x_cN (x_cN_s st ((x_cN st) + (1 : Int32))))) (C := "GuideSearch$Causes") (T := F_C) (N := 5) hx hb hT i_C hown hK hP 1 rfl rfl 3 (by decide) (hT _ k_31) (fun _ h9 => h9) rfl d_C_addPair_43 ?_
          refine lv_aload_n hx hb d_C_addPair_46 rfl (lv_at hl 0 rfl) ?_
          refine va_get (D := (dC, dI)) (ci := 1) (v := .ref (a 2)) (C := "GuideSearch$Causes") (T := F_C) (N := 5) hx hb hT i_C hown hK hP 1 rfl rfl 0 (by decide) (hT _ k_28) (fun _ h9 => h9) rfl d_C_addPair_47 ?_
          refine lv_iload_n hx hb d_C_addPair_50 rfl (lv_at hl 1 rfl) ?_
          obtain ⟨j8, ej10, hi9, hf⟩ := ix_some hf
          refine xa_lald hx hb hK hP 2 0 rfl rfl ej10 hi9 d_C_addPair_51 ?_
          refine lv_ldc2 (v := (2520 : Int64)) hx hb hown (hT _ k_158) d_C_addPair_52 ?_
          refine lv_ldiv hx hb d_C_addPair_55 (by decide) ?_
          refine lv_aload_n hx hb d_C_addPair_56 rfl (lv_at hl 0 rfl) ?_
          refine va_get (D := (dC, dI)) (ci := 1) (v := .ref (a 2)) (C := "GuideSearch$Causes") (T := F_C) (N := 5) hx hb hT i_C hown hK hP 1 rfl rfl 0 (by decide) (hT _ k_28) (fun _ h9 => h9) rfl d_C_addPair_57 ?_
          refine lv_iload_n hx hb d_C_addPair_60 rfl (lv_at hl 2 rfl) ?_
          obtain ⟨j11, ej13, hi12, hf⟩ := ix_some hf
          refine xa_lald hx hb hK hP 2 0 rfl rfl ej13 hi12 d_C_addPair_61 ?_
          refine lv_ldc2 (v := (2520 : Int64)) hx hb hown (hT _ k_158) d_C_addPair_62 ?_
          refine lv_ldiv hx hb d_C_addPair_65 (by decide) ?_
          refine lv_lmul hx hb d_C_addPair_66 ?_
          obtain ⟨j14, ej16, hi15, hf⟩ := ix_some hf
          refine xa_last hx hb hK hP (hD _) hS 2 0 rfl rfl ej16 hi15 d_C_addPair_67 (fun H locs hP hS => ?_)
          rw [x_pri_put cs a (x_cN_s st ((x_cN st) + (1 : Int32))) j14 (((x_pri (x_cN_s st ((x_cN st) + (1 : Int32))) j8) / (2520 : Int64)) * ((x_pri (x_cN_s st ((x_cN st) + (1 : Int32))) j11) / (2520 : Int64)))] at hP
          refine lv_aload_n hx hb d_C_addPair_68 rfl (lv_at hl 0 rfl) ?_
          refine va_get (D := (dC, dI)) (ci := 1) (v := .ref (a 3)) (C := "GuideSearch$Causes") (T := F_C) (N := 5) hx hb hT i_C hown hK hP 1 rfl rfl 1 (by decide) (hT _ k_29) (fun _ h9 => h9) rfl d_C_addPair_69 ?_
          refine lv_aload_n hx hb d_C_addPair_72 rfl (lv_at hl 0 rfl) ?_
          refine va_get (D := (dC, dI)) (ci := 1) (v := .int (x_cN (x_pri_s (x_cN_s st ((x_cN st) + (1 : Int32))) j14 (((x_pri (x_cN_s st ((x_cN st) + (1 : Int32))) j8) / (2520 : Int64)) * ((x_pri (x_cN_s st ((x_cN st) + (1 : Int32))) j11) / (2520 : Int64)))))) (C := "GuideSearch$Causes") (T := F_C) (N := 5) hx hb hT i_C hown hK hP 1 rfl rfl 3 (by decide) (hT _ k_31) (fun _ h9 => h9) rfl d_C_addPair_73 ?_
          refine lv_iload_n hx hb d_C_addPair_76 rfl (lv_at hl 1 rfl) ?_
          obtain ⟨r18, hr17, hf⟩ := ob hf
          refine ro_calli (va_runSN (As := [.int p1]) (rest := [.int (x_cN (x_pri_s (x_cN_s st ((x_cN st) + (1 : Int32))) j14 (((x_pri (x_cN_s st ((x_cN st) + (1 : Int32))) j8) / (2520 : Int64)) * ((x_pri (x_cN_s st ((x_cN st) + (1 : Int32))) j11) / (2520 : Int64))))), .ref (a 3)]) ⟨hx, hb, hml, hown, hT⟩ (c_G_bit l p1 r18 hr17) ⟨va_cnB 1 hT (gcode k_221) rfl rfl rfl (hN _ k_393) (hT _ k_1) (by decide +kernel) ⟨Nat.le_of_ble_eq_true rfl, Nat.le_of_ble_eq_true rfl⟩, hT _ k_220, trivial⟩ ⟨fun _ _ _ _ q => q, fun _ _ _ => ⟨rfl, trivial⟩⟩ rfl rfl hl.1 rfl (lv_room (Nat.le_of_ble_eq_true rfl)) d_C_addPair_77 ⟨Nat.le_of_ble_eq_true rfl, Nat.le_of_ble_eq_true rfl⟩) ?_
          refine lv_iload_n hx hb d_C_addPair_80 rfl (lv_at hl 2 rfl) ?_
          obtain ⟨r20, hr19, hf⟩ := ob hf
          refine ro_calli (va_runSN (As := [.int p2]) (rest := [.int r18, .int (x_cN (x_pri_s (x_cN_s st ((x_cN st) + (1 : Int32))) j14 (((x_pri (x_cN_s st ((x_cN st) + (1 : Int32))) j8) / (2520 : Int64)) * ((x_pri (x_cN_s st ((x_cN st) + (1 : Int32))) j11) / (2520 : Int64))))), .ref (a 3)]) ⟨hx, hb, hml, hown, hT⟩ (c_G_bit l p2 r20 hr19) ⟨va_cnB 1 hT (gcode k_221) rfl rfl rfl (hN _ k_393) (hT _ k_1) (by decide +kernel) ⟨Nat.le_of_ble_eq_true rfl, Nat.le_of_ble_eq_true rfl⟩, hT _ k_220, trivial⟩ ⟨fun _ _ _ _ q => q, fun _ _ _ => ⟨rfl, trivial⟩⟩ rfl rfl hl.1 rfl (lv_room (Nat.le_of_ble_eq_true rfl)) d_C_addPair_81 ⟨Nat.le_of_ble_eq_true rfl, Nat.le_of_ble_eq_true rfl⟩) ?_
          refine lv_ior hx hb d_C_addPair_84 ?_
          obtain ⟨j21, ej23, hi22, hf⟩ := ix_some hf
          refine xa_iast hx hb hK hP (hD _) hS 3 1 rfl rfl ej23 hi22 d_C_addPair_85 (fun H locs hP hS => ?_)
          rw [x_mem_put cs a (x_pri_s (x_cN_s st ((x_cN st) + (1 : Int32))) j14 (((x_pri (x_cN_s st ((x_cN st) + (1 : Int32))) j8) / (2520 : Int64)) * ((x_pri (x_cN_s st ((x_cN st) + (1 : Int32))) j11) / (2520 : Int64)))) j21 (r18 ||| r20)] at hP
          refine lv_aload_n hx hb d_C_addPair_86 rfl (lv_at hl 0 rfl) ?_
          refine va_get (D := (dC, dI)) (ci := 1) (v := .int (x_cN (x_mem_s (x_pri_s (x_cN_s st ((x_cN st) + (1 : Int32))) j14 (((x_pri (x_cN_s st ((x_cN st) + (1 : Int32))) j8) / (2520 : Int64)) * ((x_pri (x_cN_s st ((x_cN st) + (1 : Int32))) j11) / (2520 : Int64)))) j21 (r18 ||| r20)))) (C := "GuideSearch$Causes") (T := F_C) (N := 5) hx hb hT i_C hown hK hP 1 rfl rfl 3 (by decide) (hT _ k_31) (fun _ h9 => h9) rfl d_C_addPair_87 ?_
          exact W.iret hx hb hr (fun t ht _ => ⟨⟨_, (), rfl, congrArg Prod.fst (Option.some.inj hf), x_fin ht (congrArg Prod.snd (Option.some.inj hf)) hP⟩, hS.F ht⟩) hS.2.2 d_C_addPair_90
        · rw [if_pos c7] at hf
          refine lv_bipush (v := (-4 : Int32)) hx hb d_C_addPair_25 (by decide) ?_
          exact W.iret hx hb hr (fun t ht _ => ⟨⟨_, (), rfl, congrArg Prod.fst (Option.some.inj hf), x_fin ht (congrArg Prod.snd (Option.some.inj hf)) hP⟩, hS.F ht⟩) hS.2.2 d_C_addPair_27
  exact main _ _ hP va_S.rf
set_option maxHeartbeats 4000000 in
set_option maxRecDepth 100000 in
theorem c_C_countLearned (l : Launch) (dC : Nat → ClassId) (dI : Nat → Nat → Nat) (cs : Nat → ClassId) (a : Nat → Nat) (hi : ∀ i j : Nat, i < 29 → j < 29 → a i = a j → i = j) (st : XS) (p1 : Int32) (res : Int32 × XS) (hf : x_C_countLearned st p1 = some res) : Met l (⟨"GuideSearch$Causes", "countLearned", "(I)I"⟩ : MethodName) (Cond.code (⟨"GuideSearch$Causes", "countLearned", "(I)I"⟩ : MethodName) prog_3_method_7_code 2 (some .int) :: wg) { frames := 0, cells := 0, slots := 0, locals := 0 } (va_Pc ([.ref (a 1), .int p1] : List Value) (x_pre dC dI cs a st)) (va_Qi (fun r (_ : Unit) => r = res.1) (fun _ t => va_P (dC, dI) vwCl (x_W cs a res.2) t.heap) (x_A a)) 0 0 (x_A a) := by
  refine ro_start (cc := prog_3_method_7_code) (maxL := 2) (ret := (some .int)) (by decide) (Nat.le_of_ble_eq_true rfl) ?_
  intro p e s m below meth c hx hb hr hml hT hown hlocks hB ls hl
  replace hown : s.vm.findClass "GuideSearch$Causes" = some m.cls := hown
  obtain ⟨hP, hK, hN⟩ := hB
  replace hl : lv_has ls 2 [(0, .ref (a 1)), (1, .int p1)] := hl
  unfold x_C_countLearned at hf
  have hD : ∀ st : XS, va_D (x_A a) (x_W cs a st) := fun st => x_D hi cs st
  have main : ∀ (H : Heap) (locs : List Loc), va_P (dC, dI) vwCl (x_W cs a st) H → va_S (x_A a) s.heap H locs → W p l e { frames := 0, cells := 0, slots := 0, locals := 0 } s m ([.ref (a 1), .int p1] : List Value).toArray below meth c H locs 0 0 (MQ below (va_Qi (fun r (_ : Unit) => r = res.1) (fun _ t => va_P (dC, dI) vwCl (x_W cs a res.2) t.heap) (x_A a)) ([.ref (a 1), .int p1] : List Value).toArray s 0 0 (x_A a)) (F0 m 0 ls []) := by
    intro H locs hP hS
    refine lv_iload_n hx hb d_C_countLearned_0 rfl (lv_at hl 1 rfl) ?_
    refine lv_if_lt (tgt := 10) hx hb d_C_countLearned_1 (by decide) (fun c1 => ?_) (fun c1 => ?_)
    · rw [if_pos c1] at hf
      refine lv_iconst (v := (-1 : Int32)) hx hb d_C_countLearned_10 (by decide) ?_
      exact W.iret hx hb hr (fun t ht _ => ⟨⟨_, (), rfl, congrArg Prod.fst (Option.some.inj hf), x_fin ht (congrArg Prod.snd (Option.some.inj hf)) hP⟩, hS.F ht⟩) hS.2.2 d_C_countLearned_11
    · rw [if_neg c1] at hf
      refine lv_iload_n hx hb d_C_countLearned_4 rfl (lv_at hl 1 rfl) ?_
      refine lv_bipush (v := (12 : Int32)) hx hb d_C_countLearned_5 (by decide) ?_
      refine lv_icmp_le (tgt := 12) hx hb d_C_countLearned_7 (by decide) (fun c2 => ?_) (fun c2 => ?_)
      · rw [if_pos c2] at hf
        refine lv_aload_n hx hb d_C_countLearned_12 rfl (lv_at hl 0 rfl) ?_
        refine va_get (D := (dC, dI)) (ci := 1) (v := .ref (a 4)) (C := "GuideSearch$Causes") (T := F_C) (N := 5) hx hb hT i_C hown hK hP 1 rfl rfl 2 (by decide) (hT _ k_30) (fun _ h9 => h9) rfl d_C_countLearned_13 ?_
        refine lv_iload_n hx hb d_C_countLearned_16 rfl (lv_at hl 1 rfl) ?_
        refine lv_dup2_11 hx hb d_C_countLearned_17 rfl rfl ?_
        obtain ⟨j3, ej5, hi4, hf⟩ := ix_some hf
        refine xa_iald hx hb hK hP 4 1 rfl rfl ej5 hi4 d_C_countLearned_18 ?_
        refine lv_iconst (v := (1 : Int32)) hx hb d_C_countLearned_19 (by decide) ?_
        refine lv_iadd hx hb d_C_countLearned_20 ?_
        obtain ⟨j6, ej8, hi7, hf⟩ := ix_some hf
        refine xa_iast hx hb hK hP (hD _) hS 4 1 rfl rfl ej8 hi7 d_C_countLearned_21 (fun H locs hP hS => ?_)
        rw [x_lea_put cs a st j6 ((x_lea st j3) + (1 : Int32))] at hP
        refine lv_aload_n hx hb d_C_countLearned_22 rfl (lv_at hl 0 rfl) ?_
        refine va_get (D := (dC, dI)) (ci := 1) (v := .ref (a 4)) (C := "GuideSearch$Causes") (T := F_C) (N := 5) hx hb hT i_C hown hK hP 1 rfl rfl 2 (by decide) (hT _ k_30) (fun _ h9 => h9) rfl d_C_countLearned_23 ?_
        refine lv_iload_n hx hb d_C_countLearned_26 rfl (lv_at hl 1 rfl) ?_
        obtain ⟨j9, ej11, hi10, hf⟩ := ix_some hf
        refine xa_iald hx hb hK hP 4 1 rfl rfl ej11 hi10 d_C_countLearned_27 ?_
        exact W.iret hx hb hr (fun t ht _ => ⟨⟨_, (), rfl, congrArg Prod.fst (Option.some.inj hf), x_fin ht (congrArg Prod.snd (Option.some.inj hf)) hP⟩, hS.F ht⟩) hS.2.2 d_C_countLearned_28
      · rw [if_neg c2] at hf
        refine lv_iconst (v := (-1 : Int32)) hx hb d_C_countLearned_10 (by decide) ?_
        exact W.iret hx hb hr (fun t ht _ => ⟨⟨_, (), rfl, congrArg Prod.fst (Option.some.inj hf), x_fin ht (congrArg Prod.snd (Option.some.inj hf)) hP⟩, hS.F ht⟩) hS.2.2 d_C_countLearned_11
  exact main _ _ hP va_S.rf
end
section
theorem d_T_add_0 : decode prog_5_method_3_code 0 = .ok (.aload_n 0, 1) := by decide +kernel
theorem d_T_add_1 : decode prog_5_method_3_code 1 = .ok (.getfield 23, 3) := by decide +kernel
theorem d_T_add_4 : decode prog_5_method_3_code 4 = .ok (.iconst 5, 1) := by decide +kernel
theorem d_T_add_5 : decode prog_5_method_3_code 5 = .ok (.if_icmp .lt 6, 3) := by decide +kernel
theorem d_T_add_8 : decode prog_5_method_3_code 8 = .ok (.bipush (-4), 2) := by decide +kernel
theorem d_T_add_10 : decode prog_5_method_3_code 10 = .ok (.ireturn, 1) := by decide +kernel
theorem d_T_add_11 : decode prog_5_method_3_code 11 = .ok (.aload_n 0, 1) := by decide +kernel
theorem d_T_add_12 : decode prog_5_method_3_code 12 = .ok (.dup, 1) := by decide +kernel
theorem d_T_add_13 : decode prog_5_method_3_code 13 = .ok (.getfield 23, 3) := by decide +kernel
theorem d_T_add_16 : decode prog_5_method_3_code 16 = .ok (.iconst 1, 1) := by decide +kernel
theorem d_T_add_17 : decode prog_5_method_3_code 17 = .ok (.iadd, 1) := by decide +kernel
theorem d_T_add_18 : decode prog_5_method_3_code 18 = .ok (.putfield 23, 3) := by decide +kernel
theorem d_T_add_21 : decode prog_5_method_3_code 21 = .ok (.aload_n 0, 1) := by decide +kernel
theorem d_T_add_22 : decode prog_5_method_3_code 22 = .ok (.getfield 9, 3) := by decide +kernel
theorem d_T_add_25 : decode prog_5_method_3_code 25 = .ok (.aload_n 0, 1) := by decide +kernel
theorem d_T_add_26 : decode prog_5_method_3_code 26 = .ok (.getfield 23, 3) := by decide +kernel
theorem d_T_add_29 : decode prog_5_method_3_code 29 = .ok (.iload_n 1, 1) := by decide +kernel
theorem d_T_add_30 : decode prog_5_method_3_code 30 = .ok (.iastore, 1) := by decide +kernel
theorem d_T_add_31 : decode prog_5_method_3_code 31 = .ok (.aload_n 0, 1) := by decide +kernel
theorem d_T_add_32 : decode prog_5_method_3_code 32 = .ok (.getfield 23, 3) := by decide +kernel
theorem d_T_add_35 : decode prog_5_method_3_code 35 = .ok (.ireturn, 1) := by decide +kernel
theorem d_T_knows_0 : decode prog_5_method_2_code 0 = .ok (.iload_n 1, 1) := by decide +kernel
theorem d_T_knows_1 : decode prog_5_method_2_code 1 = .ok (.iconst 1, 1) := by decide +kernel
theorem d_T_knows_2 : decode prog_5_method_2_code 2 = .ok (.if_icmp .lt 20, 3) := by decide +kernel
theorem d_T_knows_5 : decode prog_5_method_2_code 5 = .ok (.iload_n 1, 1) := by decide +kernel
theorem d_T_knows_6 : decode prog_5_method_2_code 6 = .ok (.aload_n 0, 1) := by decide +kernel
theorem d_T_knows_7 : decode prog_5_method_2_code 7 = .ok (.getfield 23, 3) := by decide +kernel
theorem d_T_knows_10 : decode prog_5_method_2_code 10 = .ok (.if_icmp .gt 12, 3) := by decide +kernel
theorem d_T_knows_13 : decode prog_5_method_2_code 13 = .ok (.iload_n 1, 1) := by decide +kernel
theorem d_T_knows_14 : decode prog_5_method_2_code 14 = .ok (.iconst 5, 1) := by decide +kernel
theorem d_T_knows_15 : decode prog_5_method_2_code 15 = .ok (.if_icmp .gt 7, 3) := by decide +kernel
theorem d_T_knows_18 : decode prog_5_method_2_code 18 = .ok (.iconst 1, 1) := by decide +kernel
theorem d_T_knows_19 : decode prog_5_method_2_code 19 = .ok (.goto 4, 3) := by decide +kernel
theorem d_T_knows_22 : decode prog_5_method_2_code 22 = .ok (.iconst 0, 1) := by decide +kernel
theorem d_T_knows_23 : decode prog_5_method_2_code 23 = .ok (.ireturn, 1) := by decide +kernel
theorem d_T_hasPlace_0 : decode prog_5_method_14_code 0 = .ok (.aload_n 0, 1) := by decide +kernel
theorem d_T_hasPlace_1 : decode prog_5_method_14_code 1 = .ok (.iload_n 1, 1) := by decide +kernel
theorem d_T_hasPlace_2 : decode prog_5_method_14_code 2 = .ok (.invokevirtual 33, 3) := by decide +kernel
theorem d_T_hasPlace_5 : decode prog_5_method_14_code 5 = .ok (.ifCond .eq 18, 3) := by decide +kernel
theorem d_T_hasPlace_8 : decode prog_5_method_14_code 8 = .ok (.iload_n 2, 1) := by decide +kernel
theorem d_T_hasPlace_9 : decode prog_5_method_14_code 9 = .ok (.iconst 1, 1) := by decide +kernel
theorem d_T_hasPlace_10 : decode prog_5_method_14_code 10 = .ok (.if_icmp .lt 13, 3) := by decide +kernel
theorem d_T_hasPlace_13 : decode prog_5_method_14_code 13 = .ok (.iload_n 2, 1) := by decide +kernel
theorem d_T_hasPlace_14 : decode prog_5_method_14_code 14 = .ok (.bipush 12, 2) := by decide +kernel
theorem d_T_hasPlace_16 : decode prog_5_method_14_code 16 = .ok (.if_icmp .gt 7, 3) := by decide +kernel
theorem d_T_hasPlace_19 : decode prog_5_method_14_code 19 = .ok (.iconst 1, 1) := by decide +kernel
theorem d_T_hasPlace_20 : decode prog_5_method_14_code 20 = .ok (.goto 4, 3) := by decide +kernel
theorem d_T_hasPlace_23 : decode prog_5_method_14_code 23 = .ok (.iconst 0, 1) := by decide +kernel
theorem d_T_hasPlace_24 : decode prog_5_method_14_code 24 = .ok (.ireturn, 1) := by decide +kernel
theorem d_T_twelfths_0 : decode prog_5_method_5_code 0 = .ok (.aload_n 0, 1) := by decide +kernel
theorem d_T_twelfths_1 : decode prog_5_method_5_code 1 = .ok (.iload_n 1, 1) := by decide +kernel
theorem d_T_twelfths_2 : decode prog_5_method_5_code 2 = .ok (.iload_n 2, 1) := by decide +kernel
theorem d_T_twelfths_3 : decode prog_5_method_5_code 3 = .ok (.invokevirtual 37, 3) := by decide +kernel
theorem d_T_twelfths_6 : decode prog_5_method_5_code 6 = .ok (.ifCond .ne 5, 3) := by decide +kernel
theorem d_T_twelfths_9 : decode prog_5_method_5_code 9 = .ok (.iconst 0, 1) := by decide +kernel
theorem d_T_twelfths_10 : decode prog_5_method_5_code 10 = .ok (.ireturn, 1) := by decide +kernel
theorem d_T_twelfths_11 : decode prog_5_method_5_code 11 = .ok (.aload_n 0, 1) := by decide +kernel
theorem d_T_twelfths_12 : decode prog_5_method_5_code 12 = .ok (.getfield 20, 3) := by decide +kernel
theorem d_T_twelfths_15 : decode prog_5_method_5_code 15 = .ok (.iload_n 1, 1) := by decide +kernel
theorem d_T_twelfths_16 : decode prog_5_method_5_code 16 = .ok (.aaload, 1) := by decide +kernel
theorem d_T_twelfths_17 : decode prog_5_method_5_code 17 = .ok (.iload_n 2, 1) := by decide +kernel
theorem d_T_twelfths_18 : decode prog_5_method_5_code 18 = .ok (.iaload, 1) := by decide +kernel
theorem d_T_twelfths_19 : decode prog_5_method_5_code 19 = .ok (.iconst 4, 1) := by decide +kernel
theorem d_T_twelfths_20 : decode prog_5_method_5_code 20 = .ok (.iload_n 3, 1) := by decide +kernel
theorem d_T_twelfths_21 : decode prog_5_method_5_code 21 = .ok (.imul, 1) := by decide +kernel
theorem d_T_twelfths_22 : decode prog_5_method_5_code 22 = .ok (.ishr, 1) := by decide +kernel
theorem d_T_twelfths_23 : decode prog_5_method_5_code 23 = .ok (.bipush 15, 2) := by decide +kernel
theorem d_T_twelfths_25 : decode prog_5_method_5_code 25 = .ok (.iand, 1) := by decide +kernel
theorem d_T_twelfths_26 : decode prog_5_method_5_code 26 = .ok (.ireturn, 1) := by decide +kernel
theorem d_T_together_0 : decode prog_5_method_7_code 0 = .ok (.iconst 0, 1) := by decide +kernel
theorem d_T_together_1 : decode prog_5_method_7_code 1 = .ok (.istore_n 3, 1) := by decide +kernel
theorem d_T_together_2 : decode prog_5_method_7_code 2 = .ok (.iconst 0, 1) := by decide +kernel
theorem d_T_together_3 : decode prog_5_method_7_code 3 = .ok (.istore 4, 2) := by decide +kernel
theorem d_T_together_5 : decode prog_5_method_7_code 5 = .ok (.iload 4, 2) := by decide +kernel
theorem d_T_together_7 : decode prog_5_method_7_code 7 = .ok (.iconst 3, 1) := by decide +kernel
theorem d_T_together_8 : decode prog_5_method_7_code 8 = .ok (.if_icmp .ge 20, 3) := by decide +kernel
theorem d_T_together_11 : decode prog_5_method_7_code 11 = .ok (.iload_n 3, 1) := by decide +kernel
theorem d_T_together_12 : decode prog_5_method_7_code 12 = .ok (.aload_n 0, 1) := by decide +kernel
theorem d_T_together_13 : decode prog_5_method_7_code 13 = .ok (.iload_n 1, 1) := by decide +kernel
theorem d_T_together_14 : decode prog_5_method_7_code 14 = .ok (.iload_n 2, 1) := by decide +kernel
theorem d_T_together_15 : decode prog_5_method_7_code 15 = .ok (.iload 4, 2) := by decide +kernel
theorem d_T_together_17 : decode prog_5_method_7_code 17 = .ok (.invokevirtual 41, 3) := by decide +kernel
theorem d_T_together_20 : decode prog_5_method_7_code 20 = .ok (.iadd, 1) := by decide +kernel
theorem d_T_together_21 : decode prog_5_method_7_code 21 = .ok (.istore_n 3, 1) := by decide +kernel
theorem d_T_together_22 : decode prog_5_method_7_code 22 = .ok (.iinc 4 1, 3) := by decide +kernel
theorem d_T_together_25 : decode prog_5_method_7_code 25 = .ok (.goto (-20), 3) := by decide +kernel
theorem d_T_together_28 : decode prog_5_method_7_code 28 = .ok (.iload_n 3, 1) := by decide +kernel
theorem d_T_together_29 : decode prog_5_method_7_code 29 = .ok (.ireturn, 1) := by decide +kernel
theorem d_T_setTwelfths_0 : decode prog_5_method_6_code 0 = .ok (.aload_n 0, 1) := by decide +kernel
theorem d_T_setTwelfths_1 : decode prog_5_method_6_code 1 = .ok (.iload_n 1, 1) := by decide +kernel
theorem d_T_setTwelfths_2 : decode prog_5_method_6_code 2 = .ok (.iload_n 2, 1) := by decide +kernel
theorem d_T_setTwelfths_3 : decode prog_5_method_6_code 3 = .ok (.invokevirtual 37, 3) := by decide +kernel
theorem d_T_setTwelfths_6 : decode prog_5_method_6_code 6 = .ok (.ifCond .ne 4, 3) := by decide +kernel
theorem d_T_setTwelfths_9 : decode prog_5_method_6_code 9 = .ok (.return_, 1) := by decide +kernel
theorem d_T_setTwelfths_10 : decode prog_5_method_6_code 10 = .ok (.aload_n 0, 1) := by decide +kernel
theorem d_T_setTwelfths_11 : decode prog_5_method_6_code 11 = .ok (.getfield 20, 3) := by decide +kernel
theorem d_T_setTwelfths_14 : decode prog_5_method_6_code 14 = .ok (.iload_n 1, 1) := by decide +kernel
theorem d_T_setTwelfths_15 : decode prog_5_method_6_code 15 = .ok (.aaload, 1) := by decide +kernel
theorem d_T_setTwelfths_16 : decode prog_5_method_6_code 16 = .ok (.iload_n 2, 1) := by decide +kernel
theorem d_T_setTwelfths_17 : decode prog_5_method_6_code 17 = .ok (.iaload, 1) := by decide +kernel
theorem d_T_setTwelfths_18 : decode prog_5_method_6_code 18 = .ok (.bipush 15, 2) := by decide +kernel
theorem d_T_setTwelfths_20 : decode prog_5_method_6_code 20 = .ok (.iconst 4, 1) := by decide +kernel
theorem d_T_setTwelfths_21 : decode prog_5_method_6_code 21 = .ok (.iload_n 3, 1) := by decide +kernel
theorem d_T_setTwelfths_22 : decode prog_5_method_6_code 22 = .ok (.imul, 1) := by decide +kernel
theorem d_T_setTwelfths_23 : decode prog_5_method_6_code 23 = .ok (.ishl, 1) := by decide +kernel
theorem d_T_setTwelfths_24 : decode prog_5_method_6_code 24 = .ok (.iconst (-1), 1) := by decide +kernel
theorem d_T_setTwelfths_25 : decode prog_5_method_6_code 25 = .ok (.ixor, 1) := by decide +kernel
theorem d_T_setTwelfths_26 : decode prog_5_method_6_code 26 = .ok (.iand, 1) := by decide +kernel
theorem d_T_setTwelfths_27 : decode prog_5_method_6_code 27 = .ok (.istore 5, 2) := by decide +kernel
theorem d_T_setTwelfths_29 : decode prog_5_method_6_code 29 = .ok (.aload_n 0, 1) := by decide +kernel
theorem d_T_setTwelfths_30 : decode prog_5_method_6_code 30 = .ok (.getfield 20, 3) := by decide +kernel
theorem d_T_setTwelfths_33 : decode prog_5_method_6_code 33 = .ok (.iload_n 1, 1) := by decide +kernel
theorem d_T_setTwelfths_34 : decode prog_5_method_6_code 34 = .ok (.aaload, 1) := by decide +kernel
theorem d_T_setTwelfths_35 : decode prog_5_method_6_code 35 = .ok (.iload_n 2, 1) := by decide +kernel
theorem d_T_setTwelfths_36 : decode prog_5_method_6_code 36 = .ok (.iload 5, 2) := by decide +kernel
theorem d_T_setTwelfths_38 : decode prog_5_method_6_code 38 = .ok (.iload 4, 2) := by decide +kernel
theorem d_T_setTwelfths_40 : decode prog_5_method_6_code 40 = .ok (.iconst 4, 1) := by decide +kernel
theorem d_T_setTwelfths_41 : decode prog_5_method_6_code 41 = .ok (.iload_n 3, 1) := by decide +kernel
theorem d_T_setTwelfths_42 : decode prog_5_method_6_code 42 = .ok (.imul, 1) := by decide +kernel
theorem d_T_setTwelfths_43 : decode prog_5_method_6_code 43 = .ok (.ishl, 1) := by decide +kernel
theorem d_T_setTwelfths_44 : decode prog_5_method_6_code 44 = .ok (.ior, 1) := by decide +kernel
theorem d_T_setTwelfths_45 : decode prog_5_method_6_code 45 = .ok (.iastore, 1) := by decide +kernel
theorem d_T_setTwelfths_46 : decode prog_5_method_6_code 46 = .ok (.return_, 1) := by decide +kernel
theorem d_T_allNeededBy_0 : decode prog_5_method_9_code 0 = .ok (.aload_n 0, 1) := by decide +kernel
theorem d_T_allNeededBy_1 : decode prog_5_method_9_code 1 = .ok (.iload_n 1, 1) := by decide +kernel
theorem d_T_allNeededBy_2 : decode prog_5_method_9_code 2 = .ok (.invokevirtual 33, 3) := by decide +kernel
theorem d_T_allNeededBy_5 : decode prog_5_method_9_code 5 = .ok (.ifCond .eq 12, 3) := by decide +kernel
theorem d_T_allNeededBy_8 : decode prog_5_method_9_code 8 = .ok (.aload_n 0, 1) := by decide +kernel
theorem d_T_allNeededBy_9 : decode prog_5_method_9_code 9 = .ok (.getfield 15, 3) := by decide +kernel
theorem d_T_allNeededBy_12 : decode prog_5_method_9_code 12 = .ok (.iload_n 1, 1) := by decide +kernel
theorem d_T_allNeededBy_13 : decode prog_5_method_9_code 13 = .ok (.iaload, 1) := by decide +kernel
theorem d_T_allNeededBy_14 : decode prog_5_method_9_code 14 = .ok (.goto 4, 3) := by decide +kernel
theorem d_T_allNeededBy_17 : decode prog_5_method_9_code 17 = .ok (.iconst 0, 1) := by decide +kernel
theorem d_T_allNeededBy_18 : decode prog_5_method_9_code 18 = .ok (.istore_n 2, 1) := by decide +kernel
theorem d_T_allNeededBy_19 : decode prog_5_method_9_code 19 = .ok (.iconst 0, 1) := by decide +kernel
theorem d_T_allNeededBy_20 : decode prog_5_method_9_code 20 = .ok (.istore_n 3, 1) := by decide +kernel
theorem d_T_allNeededBy_21 : decode prog_5_method_9_code 21 = .ok (.iload_n 3, 1) := by decide +kernel
theorem d_T_allNeededBy_22 : decode prog_5_method_9_code 22 = .ok (.iconst 5, 1) := by decide +kernel
theorem d_T_allNeededBy_23 : decode prog_5_method_9_code 23 = .ok (.if_icmp .ge 47, 3) := by decide +kernel
theorem d_T_allNeededBy_26 : decode prog_5_method_9_code 26 = .ok (.iconst 1, 1) := by decide +kernel
theorem d_T_allNeededBy_27 : decode prog_5_method_9_code 27 = .ok (.istore 4, 2) := by decide +kernel
theorem d_T_allNeededBy_29 : decode prog_5_method_9_code 29 = .ok (.iload 4, 2) := by decide +kernel
theorem d_T_allNeededBy_31 : decode prog_5_method_9_code 31 = .ok (.iconst 5, 1) := by decide +kernel
theorem d_T_allNeededBy_32 : decode prog_5_method_9_code 32 = .ok (.if_icmp .gt 32, 3) := by decide +kernel
theorem d_T_allNeededBy_35 : decode prog_5_method_9_code 35 = .ok (.iload_n 2, 1) := by decide +kernel
theorem d_T_allNeededBy_36 : decode prog_5_method_9_code 36 = .ok (.iload_n 2, 1) := by decide +kernel
theorem d_T_allNeededBy_37 : decode prog_5_method_9_code 37 = .ok (.iload 4, 2) := by decide +kernel
theorem d_T_allNeededBy_39 : decode prog_5_method_9_code 39 = .ok (.invokestatic 54, 3) := by decide +kernel
theorem d_T_allNeededBy_42 : decode prog_5_method_9_code 42 = .ok (.ifCond .eq 13, 3) := by decide +kernel
theorem d_T_allNeededBy_45 : decode prog_5_method_9_code 45 = .ok (.aload_n 0, 1) := by decide +kernel
theorem d_T_allNeededBy_46 : decode prog_5_method_9_code 46 = .ok (.getfield 15, 3) := by decide +kernel
theorem d_T_allNeededBy_49 : decode prog_5_method_9_code 49 = .ok (.iload 4, 2) := by decide +kernel
theorem d_T_allNeededBy_51 : decode prog_5_method_9_code 51 = .ok (.iaload, 1) := by decide +kernel
theorem d_T_allNeededBy_52 : decode prog_5_method_9_code 52 = .ok (.goto 4, 3) := by decide +kernel
theorem d_T_allNeededBy_55 : decode prog_5_method_9_code 55 = .ok (.iconst 0, 1) := by decide +kernel
theorem d_T_allNeededBy_56 : decode prog_5_method_9_code 56 = .ok (.ior, 1) := by decide +kernel
theorem d_T_allNeededBy_57 : decode prog_5_method_9_code 57 = .ok (.istore_n 2, 1) := by decide +kernel
theorem d_T_allNeededBy_58 : decode prog_5_method_9_code 58 = .ok (.iinc 4 1, 3) := by decide +kernel
theorem d_T_allNeededBy_61 : decode prog_5_method_9_code 61 = .ok (.goto (-32), 3) := by decide +kernel
theorem d_T_allNeededBy_64 : decode prog_5_method_9_code 64 = .ok (.iinc 3 1, 3) := by decide +kernel
theorem d_T_allNeededBy_67 : decode prog_5_method_9_code 67 = .ok (.goto (-46), 3) := by decide +kernel
theorem d_T_allNeededBy_70 : decode prog_5_method_9_code 70 = .ok (.iload_n 2, 1) := by decide +kernel
theorem d_T_allNeededBy_71 : decode prog_5_method_9_code 71 = .ok (.ireturn, 1) := by decide +kernel
theorem d_T_addNeed_0 : decode prog_5_method_8_code 0 = .ok (.aload_n 0, 1) := by decide +kernel
theorem d_T_addNeed_1 : decode prog_5_method_8_code 1 = .ok (.iload_n 1, 1) := by decide +kernel
theorem d_T_addNeed_2 : decode prog_5_method_8_code 2 = .ok (.invokevirtual 33, 3) := by decide +kernel
theorem d_T_addNeed_5 : decode prog_5_method_8_code 5 = .ok (.ifCond .ne 5, 3) := by decide +kernel
theorem d_T_addNeed_8 : decode prog_5_method_8_code 8 = .ok (.iconst (-1), 1) := by decide +kernel
theorem d_T_addNeed_9 : decode prog_5_method_8_code 9 = .ok (.ireturn, 1) := by decide +kernel
theorem d_T_addNeed_10 : decode prog_5_method_8_code 10 = .ok (.aload_n 0, 1) := by decide +kernel
theorem d_T_addNeed_11 : decode prog_5_method_8_code 11 = .ok (.getfield 15, 3) := by decide +kernel
theorem d_T_addNeed_14 : decode prog_5_method_8_code 14 = .ok (.iload_n 1, 1) := by decide +kernel
theorem d_T_addNeed_15 : decode prog_5_method_8_code 15 = .ok (.dup2, 1) := by decide +kernel
theorem d_T_addNeed_16 : decode prog_5_method_8_code 16 = .ok (.iaload, 1) := by decide +kernel
theorem d_T_addNeed_17 : decode prog_5_method_8_code 17 = .ok (.iload_n 2, 1) := by decide +kernel
theorem d_T_addNeed_18 : decode prog_5_method_8_code 18 = .ok (.invokestatic 45, 3) := by decide +kernel
theorem d_T_addNeed_21 : decode prog_5_method_8_code 21 = .ok (.ior, 1) := by decide +kernel
theorem d_T_addNeed_22 : decode prog_5_method_8_code 22 = .ok (.iastore, 1) := by decide +kernel
theorem d_T_addNeed_23 : decode prog_5_method_8_code 23 = .ok (.aload_n 0, 1) := by decide +kernel
theorem d_T_addNeed_24 : decode prog_5_method_8_code 24 = .ok (.getfield 15, 3) := by decide +kernel
theorem d_T_addNeed_27 : decode prog_5_method_8_code 27 = .ok (.iload_n 1, 1) := by decide +kernel
theorem d_T_addNeed_28 : decode prog_5_method_8_code 28 = .ok (.iaload, 1) := by decide +kernel
theorem d_T_addNeed_29 : decode prog_5_method_8_code 29 = .ok (.invokestatic 49, 3) := by decide +kernel
theorem d_T_addNeed_32 : decode prog_5_method_8_code 32 = .ok (.ireturn, 1) := by decide +kernel
theorem d_T_isOpen_0 : decode prog_5_method_11_code 0 = .ok (.aload_n 0, 1) := by decide +kernel
theorem d_T_isOpen_1 : decode prog_5_method_11_code 1 = .ok (.iload_n 1, 1) := by decide +kernel
theorem d_T_isOpen_2 : decode prog_5_method_11_code 2 = .ok (.invokevirtual 33, 3) := by decide +kernel
theorem d_T_isOpen_5 : decode prog_5_method_11_code 5 = .ok (.ifCond .eq 12, 3) := by decide +kernel
theorem d_T_isOpen_8 : decode prog_5_method_11_code 8 = .ok (.iload_n 2, 1) := by decide +kernel
theorem d_T_isOpen_9 : decode prog_5_method_11_code 9 = .ok (.iload_n 1, 1) := by decide +kernel
theorem d_T_isOpen_10 : decode prog_5_method_11_code 10 = .ok (.invokestatic 57, 3) := by decide +kernel
theorem d_T_isOpen_13 : decode prog_5_method_11_code 13 = .ok (.iconst (-1), 1) := by decide +kernel
theorem d_T_isOpen_14 : decode prog_5_method_11_code 14 = .ok (.if_icmp .eq 5, 3) := by decide +kernel
theorem d_T_isOpen_17 : decode prog_5_method_11_code 17 = .ok (.iconst 0, 1) := by decide +kernel
theorem d_T_isOpen_18 : decode prog_5_method_11_code 18 = .ok (.ireturn, 1) := by decide +kernel
theorem d_T_isOpen_19 : decode prog_5_method_11_code 19 = .ok (.iconst 1, 1) := by decide +kernel
theorem d_T_isOpen_20 : decode prog_5_method_11_code 20 = .ok (.istore_n 3, 1) := by decide +kernel
theorem d_T_isOpen_21 : decode prog_5_method_11_code 21 = .ok (.iload_n 3, 1) := by decide +kernel
theorem d_T_isOpen_22 : decode prog_5_method_11_code 22 = .ok (.iconst 5, 1) := by decide +kernel
theorem d_T_isOpen_23 : decode prog_5_method_11_code 23 = .ok (.if_icmp .gt 33, 3) := by decide +kernel
theorem d_T_isOpen_26 : decode prog_5_method_11_code 26 = .ok (.aload_n 0, 1) := by decide +kernel
theorem d_T_isOpen_27 : decode prog_5_method_11_code 27 = .ok (.getfield 15, 3) := by decide +kernel
theorem d_T_isOpen_30 : decode prog_5_method_11_code 30 = .ok (.iload_n 1, 1) := by decide +kernel
theorem d_T_isOpen_31 : decode prog_5_method_11_code 31 = .ok (.iaload, 1) := by decide +kernel
theorem d_T_isOpen_32 : decode prog_5_method_11_code 32 = .ok (.iload_n 3, 1) := by decide +kernel
theorem d_T_isOpen_33 : decode prog_5_method_11_code 33 = .ok (.invokestatic 54, 3) := by decide +kernel
theorem d_T_isOpen_36 : decode prog_5_method_11_code 36 = .ok (.ifCond .eq 14, 3) := by decide +kernel
theorem d_T_isOpen_39 : decode prog_5_method_11_code 39 = .ok (.iload_n 2, 1) := by decide +kernel
theorem d_T_isOpen_40 : decode prog_5_method_11_code 40 = .ok (.iload_n 3, 1) := by decide +kernel
theorem d_T_isOpen_41 : decode prog_5_method_11_code 41 = .ok (.invokestatic 57, 3) := by decide +kernel
theorem d_T_isOpen_44 : decode prog_5_method_11_code 44 = .ok (.iconst (-1), 1) := by decide +kernel
theorem d_T_isOpen_45 : decode prog_5_method_11_code 45 = .ok (.if_icmp .ne 5, 3) := by decide +kernel
theorem d_T_isOpen_48 : decode prog_5_method_11_code 48 = .ok (.iconst 0, 1) := by decide +kernel
theorem d_T_isOpen_49 : decode prog_5_method_11_code 49 = .ok (.ireturn, 1) := by decide +kernel
theorem d_T_isOpen_50 : decode prog_5_method_11_code 50 = .ok (.iinc 3 1, 3) := by decide +kernel
theorem d_T_isOpen_53 : decode prog_5_method_11_code 53 = .ok (.goto (-32), 3) := by decide +kernel
theorem d_T_isOpen_56 : decode prog_5_method_11_code 56 = .ok (.iconst 1, 1) := by decide +kernel
theorem d_T_isOpen_57 : decode prog_5_method_11_code 57 = .ok (.ireturn, 1) := by decide +kernel
theorem d_T_canAnswer_0 : decode prog_5_method_12_code 0 = .ok (.iconst 1, 1) := by decide +kernel
theorem d_T_canAnswer_1 : decode prog_5_method_12_code 1 = .ok (.istore 4, 2) := by decide +kernel
theorem d_T_canAnswer_3 : decode prog_5_method_12_code 3 = .ok (.iload 4, 2) := by decide +kernel
theorem d_T_canAnswer_5 : decode prog_5_method_12_code 5 = .ok (.iload_n 3, 1) := by decide +kernel
theorem d_T_canAnswer_6 : decode prog_5_method_12_code 6 = .ok (.if_icmp .gt 22, 3) := by decide +kernel
theorem d_T_canAnswer_9 : decode prog_5_method_12_code 9 = .ok (.aload_n 0, 1) := by decide +kernel
theorem d_T_canAnswer_10 : decode prog_5_method_12_code 10 = .ok (.iload_n 1, 1) := by decide +kernel
theorem d_T_canAnswer_11 : decode prog_5_method_12_code 11 = .ok (.iload 4, 2) := by decide +kernel
theorem d_T_canAnswer_13 : decode prog_5_method_12_code 13 = .ok (.iload_n 2, 1) := by decide +kernel
theorem d_T_canAnswer_14 : decode prog_5_method_12_code 14 = .ok (.invokevirtual 41, 3) := by decide +kernel
theorem d_T_canAnswer_17 : decode prog_5_method_12_code 17 = .ok (.ifCond .le 5, 3) := by decide +kernel
theorem d_T_canAnswer_20 : decode prog_5_method_12_code 20 = .ok (.iconst 1, 1) := by decide +kernel
theorem d_T_canAnswer_21 : decode prog_5_method_12_code 21 = .ok (.ireturn, 1) := by decide +kernel
theorem d_T_canAnswer_22 : decode prog_5_method_12_code 22 = .ok (.iinc 4 1, 3) := by decide +kernel
theorem d_T_canAnswer_25 : decode prog_5_method_12_code 25 = .ok (.goto (-22), 3) := by decide +kernel
theorem d_T_canAnswer_28 : decode prog_5_method_12_code 28 = .ok (.iconst 0, 1) := by decide +kernel
theorem d_T_canAnswer_29 : decode prog_5_method_12_code 29 = .ok (.ireturn, 1) := by decide +kernel
theorem d_T_price_0 : decode prog_5_method_4_code 0 = .ok (.aload_n 0, 1) := by decide +kernel
theorem d_T_price_1 : decode prog_5_method_4_code 1 = .ok (.iload_n 1, 1) := by decide +kernel
theorem d_T_price_2 : decode prog_5_method_4_code 2 = .ok (.invokevirtual 33, 3) := by decide +kernel
theorem d_T_price_5 : decode prog_5_method_4_code 5 = .ok (.ifCond .eq 12, 3) := by decide +kernel
theorem d_T_price_8 : decode prog_5_method_4_code 8 = .ok (.aload_n 0, 1) := by decide +kernel
theorem d_T_price_9 : decode prog_5_method_4_code 9 = .ok (.getfield 9, 3) := by decide +kernel
theorem d_T_price_12 : decode prog_5_method_4_code 12 = .ok (.iload_n 1, 1) := by decide +kernel
theorem d_T_price_13 : decode prog_5_method_4_code 13 = .ok (.iaload, 1) := by decide +kernel
theorem d_T_price_14 : decode prog_5_method_4_code 14 = .ok (.goto 4, 3) := by decide +kernel
theorem d_T_price_17 : decode prog_5_method_4_code 17 = .ok (.iconst 0, 1) := by decide +kernel
theorem d_T_price_18 : decode prog_5_method_4_code 18 = .ok (.ireturn, 1) := by decide +kernel
theorem d_T_unanswered_0 : decode prog_5_method_10_code 0 = .ok (.iconst 0, 1) := by decide +kernel
theorem d_T_unanswered_1 : decode prog_5_method_10_code 1 = .ok (.istore_n 2, 1) := by decide +kernel
theorem d_T_unanswered_2 : decode prog_5_method_10_code 2 = .ok (.iconst 1, 1) := by decide +kernel
theorem d_T_unanswered_3 : decode prog_5_method_10_code 3 = .ok (.istore_n 3, 1) := by decide +kernel
theorem d_T_unanswered_4 : decode prog_5_method_10_code 4 = .ok (.iload_n 3, 1) := by decide +kernel
theorem d_T_unanswered_5 : decode prog_5_method_10_code 5 = .ok (.aload_n 0, 1) := by decide +kernel
theorem d_T_unanswered_6 : decode prog_5_method_10_code 6 = .ok (.getfield 23, 3) := by decide +kernel
theorem d_T_unanswered_9 : decode prog_5_method_10_code 9 = .ok (.if_icmp .gt 26, 3) := by decide +kernel
theorem d_T_unanswered_12 : decode prog_5_method_10_code 12 = .ok (.iload_n 2, 1) := by decide +kernel
theorem d_T_unanswered_13 : decode prog_5_method_10_code 13 = .ok (.iload_n 1, 1) := by decide +kernel
theorem d_T_unanswered_14 : decode prog_5_method_10_code 14 = .ok (.iload_n 3, 1) := by decide +kernel
theorem d_T_unanswered_15 : decode prog_5_method_10_code 15 = .ok (.invokestatic 57, 3) := by decide +kernel
theorem d_T_unanswered_18 : decode prog_5_method_10_code 18 = .ok (.iconst (-1), 1) := by decide +kernel
theorem d_T_unanswered_19 : decode prog_5_method_10_code 19 = .ok (.if_icmp .ne 7, 3) := by decide +kernel
theorem d_T_unanswered_22 : decode prog_5_method_10_code 22 = .ok (.iconst 1, 1) := by decide +kernel
theorem d_T_unanswered_23 : decode prog_5_method_10_code 23 = .ok (.goto 4, 3) := by decide +kernel
theorem d_T_unanswered_26 : decode prog_5_method_10_code 26 = .ok (.iconst 0, 1) := by decide +kernel
theorem d_T_unanswered_27 : decode prog_5_method_10_code 27 = .ok (.iadd, 1) := by decide +kernel
theorem d_T_unanswered_28 : decode prog_5_method_10_code 28 = .ok (.istore_n 2, 1) := by decide +kernel
theorem d_T_unanswered_29 : decode prog_5_method_10_code 29 = .ok (.iinc 3 1, 3) := by decide +kernel
theorem d_T_unanswered_32 : decode prog_5_method_10_code 32 = .ok (.goto (-28), 3) := by decide +kernel
theorem d_T_unanswered_35 : decode prog_5_method_10_code 35 = .ok (.iload_n 2, 1) := by decide +kernel
theorem d_T_unanswered_36 : decode prog_5_method_10_code 36 = .ok (.ireturn, 1) := by decide +kernel
theorem d_T_tellsApart_0 : decode prog_5_method_13_code 0 = .ok (.aload_n 0, 1) := by decide +kernel
theorem d_T_tellsApart_1 : decode prog_5_method_13_code 1 = .ok (.iload_n 1, 1) := by decide +kernel
theorem d_T_tellsApart_2 : decode prog_5_method_13_code 2 = .ok (.invokevirtual 33, 3) := by decide +kernel
theorem d_T_tellsApart_5 : decode prog_5_method_13_code 5 = .ok (.ifCond .ne 5, 3) := by decide +kernel
theorem d_T_tellsApart_8 : decode prog_5_method_13_code 8 = .ok (.iconst 0, 1) := by decide +kernel
theorem d_T_tellsApart_9 : decode prog_5_method_13_code 9 = .ok (.ireturn, 1) := by decide +kernel
theorem d_T_tellsApart_10 : decode prog_5_method_13_code 10 = .ok (.iconst 0, 1) := by decide +kernel
theorem d_T_tellsApart_11 : decode prog_5_method_13_code 11 = .ok (.istore_n 3, 1) := by decide +kernel
theorem d_T_tellsApart_12 : decode prog_5_method_13_code 12 = .ok (.iconst 1, 1) := by decide +kernel
theorem d_T_tellsApart_13 : decode prog_5_method_13_code 13 = .ok (.istore 4, 2) := by decide +kernel
theorem d_T_tellsApart_15 : decode prog_5_method_13_code 15 = .ok (.iload 4, 2) := by decide +kernel
theorem d_T_tellsApart_17 : decode prog_5_method_13_code 17 = .ok (.bipush 12, 2) := by decide +kernel
theorem d_T_tellsApart_19 : decode prog_5_method_13_code 19 = .ok (.if_icmp .gt 53, 3) := by decide +kernel
theorem d_T_tellsApart_22 : decode prog_5_method_13_code 22 = .ok (.iload_n 2, 1) := by decide +kernel
theorem d_T_tellsApart_23 : decode prog_5_method_13_code 23 = .ok (.iload 4, 2) := by decide +kernel
theorem d_T_tellsApart_25 : decode prog_5_method_13_code 25 = .ok (.invokestatic 54, 3) := by decide +kernel
theorem d_T_tellsApart_28 : decode prog_5_method_13_code 28 = .ok (.ifCond .ne 6, 3) := by decide +kernel
theorem d_T_tellsApart_31 : decode prog_5_method_13_code 31 = .ok (.goto 35, 3) := by decide +kernel
theorem d_T_tellsApart_34 : decode prog_5_method_13_code 34 = .ok (.iload_n 3, 1) := by decide +kernel
theorem d_T_tellsApart_35 : decode prog_5_method_13_code 35 = .ok (.ifCond .ne 9, 3) := by decide +kernel
theorem d_T_tellsApart_38 : decode prog_5_method_13_code 38 = .ok (.iload 4, 2) := by decide +kernel
theorem d_T_tellsApart_40 : decode prog_5_method_13_code 40 = .ok (.istore_n 3, 1) := by decide +kernel
theorem d_T_tellsApart_41 : decode prog_5_method_13_code 41 = .ok (.goto 25, 3) := by decide +kernel
theorem d_T_tellsApart_44 : decode prog_5_method_13_code 44 = .ok (.aload_n 0, 1) := by decide +kernel
theorem d_T_tellsApart_45 : decode prog_5_method_13_code 45 = .ok (.getfield 20, 3) := by decide +kernel
theorem d_T_tellsApart_48 : decode prog_5_method_13_code 48 = .ok (.iload_n 1, 1) := by decide +kernel
theorem d_T_tellsApart_49 : decode prog_5_method_13_code 49 = .ok (.aaload, 1) := by decide +kernel
theorem d_T_tellsApart_50 : decode prog_5_method_13_code 50 = .ok (.iload 4, 2) := by decide +kernel
theorem d_T_tellsApart_52 : decode prog_5_method_13_code 52 = .ok (.iaload, 1) := by decide +kernel
theorem d_T_tellsApart_53 : decode prog_5_method_13_code 53 = .ok (.aload_n 0, 1) := by decide +kernel
theorem d_T_tellsApart_54 : decode prog_5_method_13_code 54 = .ok (.getfield 20, 3) := by decide +kernel
theorem d_T_tellsApart_57 : decode prog_5_method_13_code 57 = .ok (.iload_n 1, 1) := by decide +kernel
theorem d_T_tellsApart_58 : decode prog_5_method_13_code 58 = .ok (.aaload, 1) := by decide +kernel
theorem d_T_tellsApart_59 : decode prog_5_method_13_code 59 = .ok (.iload_n 3, 1) := by decide +kernel
theorem d_T_tellsApart_60 : decode prog_5_method_13_code 60 = .ok (.iaload, 1) := by decide +kernel
theorem d_T_tellsApart_61 : decode prog_5_method_13_code 61 = .ok (.if_icmp .eq 5, 3) := by decide +kernel
theorem d_T_tellsApart_64 : decode prog_5_method_13_code 64 = .ok (.iconst 1, 1) := by decide +kernel
theorem d_T_tellsApart_65 : decode prog_5_method_13_code 65 = .ok (.ireturn, 1) := by decide +kernel
theorem d_T_tellsApart_66 : decode prog_5_method_13_code 66 = .ok (.iinc 4 1, 3) := by decide +kernel
theorem d_T_tellsApart_69 : decode prog_5_method_13_code 69 = .ok (.goto (-54), 3) := by decide +kernel
theorem d_T_tellsApart_72 : decode prog_5_method_13_code 72 = .ok (.iconst 0, 1) := by decide +kernel
theorem d_T_tellsApart_73 : decode prog_5_method_13_code 73 = .ok (.ireturn, 1) := by decide +kernel
end
section
def x_T_add (st : XS) (p1 : Int32) : Option (Int32 × XS) :=
  if (x_tN st) < (5 : Int32) then
    ix (x_tN (x_tN_s st ((x_tN st) + (1 : Int32)))) 6 fun j2 =>
    some ((x_tN (x_cst_s (x_tN_s st ((x_tN st) + (1 : Int32))) j2 p1)), (x_cst_s (x_tN_s st ((x_tN st) + (1 : Int32))) j2 p1))
  else
    some ((-4 : Int32), st)
def x_T_knows (st : XS) (p1 : Int32) : Option (Int32) :=
  if p1 < (1 : Int32) then
    some (0 : Int32)
  else
    if (x_tN st) < p1 then
      some (0 : Int32)
    else
      if (5 : Int32) < p1 then
        some (0 : Int32)
      else
        some (1 : Int32)
def x_T_hasPlace (st : XS) (p1 : Int32) (p2 : Int32) : Option (Int32) :=
  (x_T_knows st p1).bind fun r2 =>
  if r2 = 0 then
    some (0 : Int32)
  else
    if p2 < (1 : Int32) then
      some (0 : Int32)
    else
      if (12 : Int32) < p2 then
        some (0 : Int32)
      else
        some (1 : Int32)
def x_T_twelfths (st : XS) (p1 : Int32) (p2 : Int32) (p3 : Int32) : Option (Int32) :=
  (x_T_hasPlace st p1 p2).bind fun r2 =>
  if r2 = 0 then
    some (0 : Int32)
  else
    ix p1 6 fun j4 =>
    ix p2 13 fun j8 =>
    some (((x_tab st j4 j8) >>> (((4 : Int32) * p3) &&& 31)) &&& (15 : Int32))
def x_T_together_B1 (st : XS) (p1 : Int32) (p2 : Int32) (self1 : Int32 → Int32 → Option (Int32)) (v1 : Int32) (v2 : Int32) : Option (Int32) :=
  if (3 : Int32) ≤ v1 then
    some v2
  else
    (x_T_twelfths st p1 p2 v1).bind fun r5 =>
    self1 (v1 + 1) (v2 + r5)
def x_T_together (st : XS) (p1 : Int32) (p2 : Int32) : Option (Int32) :=
  xl2 (x_T_together_B1 st p1 p2) 14 (0 : Int32) (0 : Int32)
def x_T_setTwelfths (st : XS) (p1 : Int32) (p2 : Int32) (p3 : Int32) (p4 : Int32) : Option (XS) :=
  (x_T_hasPlace st p1 p2).bind fun r2 =>
  if r2 = 0 then
    some st
  else
    ix p1 6 fun j4 =>
    ix p2 13 fun j8 =>
    ix p1 6 fun j11 =>
    ix p2 13 fun j15 =>
    some (x_tab_s st j11 j15 (((x_tab st j4 j8) &&& (((15 : Int32) <<< (((4 : Int32) * p3) &&& 31)) ^^^ (-1 : Int32))) ||| (p4 <<< (((4 : Int32) * p3) &&& 31))))
def x_T_allNeededBy_B3 (st : XS) (v4 : Int32) (self2 : Int32 → Int32 → Option (Int32)) (self3 : Int32 → Int32 → Option (Int32)) (v7 : Int32) (v8 : Int32) : Option (Int32) :=
  if (5 : Int32) < v7 then
    self2 (v4 + 1) v8
  else
    (x_G_holds v8 v7).bind fun r11 =>
    if r11 = 0 then
      self3 (v7 + 1) (v8 ||| (0 : Int32))
    else
      ix v7 6 fun j13 =>
      self3 (v7 + 1) (v8 ||| (x_nee st j13))
def x_T_allNeededBy_B2 (st : XS) (self2 : Int32 → Int32 → Option (Int32)) (v4 : Int32) (v5 : Int32) : Option (Int32) :=
  if (5 : Int32) ≤ v4 then
    some v5
  else
    xl2 (x_T_allNeededBy_B3 st v4 self2) 14 (1 : Int32) v5
def x_T_allNeededBy_J1 (st : XS) (v3 : Int32) : Option (Int32) :=
  xl2 (x_T_allNeededBy_B2 st) 14 (0 : Int32) v3
def x_T_allNeededBy (st : XS) (p1 : Int32) : Option (Int32) :=
  (x_T_knows st p1).bind fun r2 =>
  if r2 = 0 then
    x_T_allNeededBy_J1 st (0 : Int32)
  else
    ix p1 6 fun j17 =>
    x_T_allNeededBy_J1 st (x_nee st j17)
def x_T_addNeed (st : XS) (p1 : Int32) (p2 : Int32) : Option (Int32 × XS) :=
  (x_T_knows st p1).bind fun r2 =>
  if r2 = 0 then
    some ((-1 : Int32), st)
  else
    ix p1 6 fun j4 =>
    (x_G_bit p2).bind fun r8 =>
    ix p1 6 fun j9 =>
    ix p1 6 fun j12 =>
    (x_JI_bitCount (x_nee (x_nee_s st j9 ((x_nee st j4) ||| r8)) j12)).bind fun r16 =>
    some (r16, (x_nee_s st j9 ((x_nee st j4) ||| r8)))
def x_T_isOpen_B1 (st : XS) (p1 : Int32) (p2 : Int32) (self1 : Int32 → Option (Int32)) (v7 : Int32) : Option (Int32) :=
  if (5 : Int32) < v7 then
    some (1 : Int32)
  else
    ix p1 6 fun j9 =>
    (x_G_holds (x_nee st j9) v7).bind fun r13 =>
    if r13 = 0 then
      self1 (v7 + 1)
    else
      (x_G_answerIn p2 v7).bind fun r16 =>
      if r16 = (-1 : Int32) then
        some (0 : Int32)
      else
        self1 (v7 + 1)
def x_T_isOpen (st : XS) (p1 : Int32) (p2 : Int32) : Option (Int32) :=
  (x_T_knows st p1).bind fun r2 =>
  if r2 = 0 then
    some (0 : Int32)
  else
    (x_G_answerIn p2 p1).bind fun r5 =>
    if r5 = (-1 : Int32) then
      xl1 (x_T_isOpen_B1 st p1 p2) 14 (1 : Int32)
    else
      some (0 : Int32)
def x_T_canAnswer_B1 (st : XS) (p1 : Int32) (p2 : Int32) (p3 : Int32) (self1 : Int32 → Option (Int32)) (v1 : Int32) : Option (Int32) :=
  if p3 < v1 then
    some (0 : Int32)
  else
    (x_T_twelfths st p1 v1 p2).bind fun r4 =>
    if r4 ≤ 0 then
      self1 (v1 + 1)
    else
      some (1 : Int32)
def x_T_canAnswer (st : XS) (p1 : Int32) (p2 : Int32) (p3 : Int32) : Option (Int32) :=
  xl1 (x_T_canAnswer_B1 st p1 p2 p3) 14 (1 : Int32)
def x_T_price (st : XS) (p1 : Int32) : Option (Int32) :=
  (x_T_knows st p1).bind fun r2 =>
  if r2 = 0 then
    some (0 : Int32)
  else
    ix p1 6 fun j4 =>
    some (x_cst st j4)
def x_T_unanswered_B1 (st : XS) (p1 : Int32) (self1 : Int32 → Int32 → Option (Int32)) (v1 : Int32) (v2 : Int32) : Option (Int32) :=
  if (x_tN st) < v1 then
    some v2
  else
    (x_G_answerIn p1 v1).bind fun r5 =>
    if r5 = (-1 : Int32) then
      self1 (v1 + 1) (v2 + (1 : Int32))
    else
      self1 (v1 + 1) (v2 + (0 : Int32))
def x_T_unanswered (st : XS) (p1 : Int32) : Option (Int32) :=
  xl2 (x_T_unanswered_B1 st p1) 14 (1 : Int32) (0 : Int32)
def x_T_tellsApart_B1 (st : XS) (p1 : Int32) (p2 : Int32) (self1 : Int32 → Int32 → Option (Int32)) (v4 : Int32) (v5 : Int32) : Option (Int32) :=
  if (12 : Int32) < v4 then
    some (0 : Int32)
  else
    (x_G_holds p2 v4).bind fun r8 =>
    if r8 = 0 then
      self1 (v4 + 1) v5
    else
      if v5 = 0 then
        self1 (v4 + 1) v4
      else
        ix p1 6 fun j11 =>
        ix v4 13 fun j15 =>
        ix p1 6 fun j18 =>
        ix v5 13 fun j22 =>
        if (x_tab st j11 j15) = (x_tab st j18 j22) then
          self1 (v4 + 1) v5
        else
          some (1 : Int32)
def x_T_tellsApart (st : XS) (p1 : Int32) (p2 : Int32) : Option (Int32) :=
  (x_T_knows st p1).bind fun r2 =>
  if r2 = 0 then
    some (0 : Int32)
  else
    xl2 (x_T_tellsApart_B1 st p1 p2) 14 (1 : Int32) (0 : Int32)
end
section
set_option maxHeartbeats 4000000 in
set_option maxRecDepth 100000 in
theorem c_T_add (l : Launch) (dC : Nat → ClassId) (dI : Nat → Nat → Nat) (cs : Nat → ClassId) (a : Nat → Nat) (hi : ∀ i j : Nat, i < 29 → j < 29 → a i = a j → i = j) (st : XS) (p1 : Int32) (res : Int32 × XS) (hf : x_T_add st p1 = some res) : Met l (⟨"GuideSearch$Tests", "add", "(I)I"⟩ : MethodName) (Cond.code (⟨"GuideSearch$Tests", "add", "(I)I"⟩ : MethodName) prog_5_method_3_code 2 (some .int) :: wg) { frames := 0, cells := 0, slots := 0, locals := 0 } (va_Pc ([.ref (a 5), .int p1] : List Value) (x_pre dC dI cs a st)) (va_Qi (fun r (_ : Unit) => r = res.1) (fun _ t => va_P (dC, dI) vwCl (x_W cs a res.2) t.heap) (x_A a)) 0 0 (x_A a) := by
  refine ro_start (cc := prog_5_method_3_code) (maxL := 2) (ret := (some .int)) (by decide) (Nat.le_of_ble_eq_true rfl) ?_
  intro p e s m below meth c hx hb hr hml hT hown hlocks hB ls hl
  replace hown : s.vm.findClass "GuideSearch$Tests" = some m.cls := hown
  obtain ⟨hP, hK, hN⟩ := hB
  replace hl : lv_has ls 2 [(0, .ref (a 5)), (1, .int p1)] := hl
  unfold x_T_add at hf
  have hD : ∀ st : XS, va_D (x_A a) (x_W cs a st) := fun st => x_D hi cs st
  have main : ∀ (H : Heap) (locs : List Loc), va_P (dC, dI) vwCl (x_W cs a st) H → va_S (x_A a) s.heap H locs → W p l e { frames := 0, cells := 0, slots := 0, locals := 0 } s m ([.ref (a 5), .int p1] : List Value).toArray below meth c H locs 0 0 (MQ below (va_Qi (fun r (_ : Unit) => r = res.1) (fun _ t => va_P (dC, dI) vwCl (x_W cs a res.2) t.heap) (x_A a)) ([.ref (a 5), .int p1] : List Value).toArray s 0 0 (x_A a)) (F0 m 0 ls []) := by
    intro H locs hP hS
    refine lv_aload_n hx hb d_T_add_0 rfl (lv_at hl 0 rfl) ?_
    refine va_get (D := (dC, dI)) (ci := 2) (v := .int (x_tN st)) (C := "GuideSearch$Tests") (T := F_T) (N := 4) hx hb hT i_T hown hK hP 5 rfl rfl 3 (by decide) (hT _ k_63) (fun _ h9 => h9) rfl d_T_add_1 ?_
    refine lv_iconst (v := (5 : Int32)) hx hb d_T_add_4 (by decide) ?_
    refine lv_icmp_lt (tgt := 11) hx hb d_T_add_5 (by decide) (fun c1 => ?_) (fun c1 => ?_)
    · rw [if_pos c1] at hf
      refine lv_aload_n hx hb d_T_add_11 rfl (lv_at hl 0 rfl) ?_
      refine lv_dup hx hb d_T_add_12 rfl ?_
      refine va_get (D := (dC, dI)) (ci := 2) (v := .int (x_tN st)) (C := "GuideSearch$Tests") (T := F_T) (N := 4) hx hb hT i_T hown hK hP 5 rfl rfl 3 (by decide) (hT _ k_63) (fun _ h9 => h9) rfl d_T_add_13 ?_
      refine lv_iconst (v := (1 : Int32)) hx hb d_T_add_16 (by decide) ?_
      refine lv_iadd hx hb d_T_add_17 ?_
      refine va_put (D := (dC, dI)) (ci := 2) (v := .int ((x_tN st) + (1 : Int32))) (ty := .int) (C := "GuideSearch$Tests") (T := F_T) (N := 4) hx hb hT i_T ft_T ft_T_ok n_T hown hK hP (hD _) hS 5 rfl rfl 3 (by decide) (hT _ k_63) (fun _ h9 => h9) rfl (by decide +kernel) rfl rfl (Nat.le_of_ble_eq_true rfl) d_T_add_18 (fun H locs hP _ hS => ?_)
      rw [x_tN_put cs a st ((x_tN st) + (1 : Int32))] at hP
      refine lv_aload_n hx hb d_T_add_21 rfl (lv_at hl 0 rfl) ?_
      refine va_get (D := (dC, dI)) (ci := 2) (v := .ref (a 6)) (C := "GuideSearch$Tests") (T := F_T) (N := 4) hx hb hT i_T hown hK hP 5 rfl rfl 0 (by decide) (hT _ k_60) (fun _ h9 => h9) rfl d_T_add_22 ?_
      refine lv_aload_n hx hb d_T_add_25 rfl (lv_at hl 0 rfl) ?_
      refine va_get (D := (dC, dI)) (ci := 2) (v := .int (x_tN (x_tN_s st ((x_tN st) + (1 : Int32))))) (C := "GuideSearch$Tests") (T := F_T) (N := 4) hx hb hT i_T hown hK hP 5 rfl rfl 3 (by decide) (hT _ k_63) (fun _ h9 => h9) rfl d_T_add_26 ?_
      refine lv_iload_n hx hb d_T_add_29 rfl (lv_at hl 1 rfl) ?_
      obtain ⟨j2, ej4, hi3, hf⟩ := ix_some hf
      refine xa_iast hx hb hK hP (hD _) hS 6 1 rfl rfl ej4 hi3 d_T_add_30 (fun H locs hP hS => ?_)
      rw [x_cst_put cs a (x_tN_s st ((x_tN st) + (1 : Int32))) j2 p1] at hP
      refine lv_aload_n hx hb d_T_add_31 rfl (lv_at hl 0 rfl) ?_
      refine va_get (D := (dC, dI)) (ci := 2) (v := .int (x_tN (x_cst_s (x_tN_s st ((x_tN st) + (1 : Int32))) j2 p1))) (C := "GuideSearch$Tests") (T := F_T) (N := 4) hx hb hT i_T hown hK hP 5 rfl rfl 3 (by decide) (hT _ k_63) (fun _ h9 => h9) rfl d_T_add_32 ?_
      exact W.iret hx hb hr (fun t ht _ => ⟨⟨_, (), rfl, congrArg Prod.fst (Option.some.inj hf), x_fin ht (congrArg Prod.snd (Option.some.inj hf)) hP⟩, hS.F ht⟩) hS.2.2 d_T_add_35
    · rw [if_neg c1] at hf
      refine lv_bipush (v := (-4 : Int32)) hx hb d_T_add_8 (by decide) ?_
      exact W.iret hx hb hr (fun t ht _ => ⟨⟨_, (), rfl, congrArg Prod.fst (Option.some.inj hf), x_fin ht (congrArg Prod.snd (Option.some.inj hf)) hP⟩, hS.F ht⟩) hS.2.2 d_T_add_10
  exact main _ _ hP va_S.rf
set_option maxHeartbeats 4000000 in
set_option maxRecDepth 100000 in
theorem c_T_knows (l : Launch) (dC : Nat → ClassId) (dI : Nat → Nat → Nat) (cs : Nat → ClassId) (a : Nat → Nat) (st : XS) (p1 : Int32) (res : Int32) (hf : x_T_knows st p1 = some res) : Met l (⟨"GuideSearch$Tests", "knows", "(I)Z"⟩ : MethodName) (Cond.code (⟨"GuideSearch$Tests", "knows", "(I)Z"⟩ : MethodName) prog_5_method_2_code 2 (some .boolean) :: wg) { frames := 0, cells := 0, slots := 0, locals := 0 } (va_Pc ([.ref (a 5), .int p1] : List Value) (x_pre dC dI cs a st)) (vp_Si (fun r => r = res)) 0 0 (fun _ => False) := by
  refine ro_start (cc := prog_5_method_2_code) (maxL := 2) (ret := (some .boolean)) (by decide) (Nat.le_of_ble_eq_true rfl) ?_
  intro p e s m below meth c hx hb hr hml hT hown hlocks hB ls hl
  replace hown : s.vm.findClass "GuideSearch$Tests" = some m.cls := hown
  obtain ⟨hP, hK, hN⟩ := hB
  replace hl : lv_has ls 2 [(0, .ref (a 5)), (1, .int p1)] := hl
  unfold x_T_knows at hf
  refine lv_iload_n hx hb d_T_knows_0 rfl (lv_at hl 1 rfl) ?_
  refine lv_iconst (v := (1 : Int32)) hx hb d_T_knows_1 (by decide) ?_
  refine lv_icmp_lt (tgt := 22) hx hb d_T_knows_2 (by decide) (fun c1 => ?_) (fun c1 => ?_)
  · rw [if_pos c1] at hf
    refine lv_iconst (v := (0 : Int32)) hx hb d_T_knows_22 (by decide) ?_
    exact W.zret (ty := .boolean) hx hb hr (rfl) (fun t ht _ => ⟨_, rfl, Option.some.inj hf, ht⟩) (fun _ h => absurd h List.not_mem_nil) d_T_knows_23
  · rw [if_neg c1] at hf
    refine lv_iload_n hx hb d_T_knows_5 rfl (lv_at hl 1 rfl) ?_
    refine lv_aload_n hx hb d_T_knows_6 rfl (lv_at hl 0 rfl) ?_
    refine va_get (D := (dC, dI)) (ci := 2) (v := .int (x_tN st)) (C := "GuideSearch$Tests") (T := F_T) (N := 4) hx hb hT i_T hown hK hP 5 rfl rfl 3 (by decide) (hT _ k_63) (fun _ h9 => h9) rfl d_T_knows_7 ?_
    refine lv_icmp_gt (tgt := 22) hx hb d_T_knows_10 (by decide) (fun c2 => ?_) (fun c2 => ?_)
    · rw [if_pos c2] at hf
      refine lv_iconst (v := (0 : Int32)) hx hb d_T_knows_22 (by decide) ?_
      exact W.zret (ty := .boolean) hx hb hr (rfl) (fun t ht _ => ⟨_, rfl, Option.some.inj hf, ht⟩) (fun _ h => absurd h List.not_mem_nil) d_T_knows_23
    · rw [if_neg c2] at hf
      refine lv_iload_n hx hb d_T_knows_13 rfl (lv_at hl 1 rfl) ?_
      refine lv_iconst (v := (5 : Int32)) hx hb d_T_knows_14 (by decide) ?_
      refine lv_icmp_gt (tgt := 22) hx hb d_T_knows_15 (by decide) (fun c3 => ?_) (fun c3 => ?_)
      · rw [if_pos c3] at hf
        refine lv_iconst (v := (0 : Int32)) hx hb d_T_knows_22 (by decide) ?_
        exact W.zret (ty := .boolean) hx hb hr (rfl) (fun t ht _ => ⟨_, rfl, Option.some.inj hf, ht⟩) (fun _ h => absurd h List.not_mem_nil) d_T_knows_23
      · rw [if_neg c3] at hf
        refine lv_iconst (v := (1 : Int32)) hx hb d_T_knows_18 (by decide) ?_
        refine lv_goto (tgt := 23) hx hb d_T_knows_19 (by decide) ?_
        exact W.zret (ty := .boolean) hx hb hr (rfl) (fun t ht _ => ⟨_, rfl, Option.some.inj hf, ht⟩) (fun _ h => absurd h List.not_mem_nil) d_T_knows_23
set_option maxHeartbeats 4000000 in
set_option maxRecDepth 100000 in
theorem c_T_hasPlace (l : Launch) (dC : Nat → ClassId) (dI : Nat → Nat → Nat) (cs : Nat → ClassId) (a : Nat → Nat) (st : XS) (p1 : Int32) (p2 : Int32) (res : Int32) (hf : x_T_hasPlace st p1 p2 = some res) : Met l (⟨"GuideSearch$Tests", "hasPlace", "(II)Z"⟩ : MethodName) (Cond.code (⟨"GuideSearch$Tests", "hasPlace", "(II)Z"⟩ : MethodName) prog_5_method_14_code 3 (some .boolean) :: wg) { frames := 1, cells := 0, slots := 0, locals := 21 } (va_Pc ([.ref (a 5), .int p1, .int p2] : List Value) (x_pre dC dI cs a st)) (vp_Si (fun r => r = res)) 0 0 (fun _ => False) := by
  refine ro_start (cc := prog_5_method_14_code) (maxL := 3) (ret := (some .boolean)) (by decide) (Nat.le_of_ble_eq_true rfl) ?_
  intro p e s m below meth c hx hb hr hml hT hown hlocks hB ls hl
  replace hown : s.vm.findClass "GuideSearch$Tests" = some m.cls := hown
  obtain ⟨hP, hK, hN⟩ := hB
  replace hl : lv_has ls 3 [(0, .ref (a 5)), (1, .int p1), (2, .int p2)] := hl
  unfold x_T_hasPlace at hf
  refine lv_aload_n hx hb d_T_hasPlace_0 rfl (lv_at hl 0 rfl) ?_
  refine lv_iload_n hx hb d_T_hasPlace_1 rfl (lv_at hl 1 rfl) ?_
  obtain ⟨r2, hr1, hf⟩ := ob hf
  refine ro_calli (va_runV (C := "GuideSearch$Tests") (As := [.int p1]) (rest := []) ⟨hx, hb, hml, hown, hT⟩ (c_T_knows l dC dI cs a st p1 r2 hr1) (cwV 1 hT (gV k_199 k_173 k_174 k_3 k_175) rfl rfl rfl (by decide +kernel) ⟨Nat.le_of_ble_eq_true rfl, Nat.le_of_ble_eq_true rfl⟩) (ro_preV hP hK hN (va_recv hK hP (ci := 2) (q0 := 5) rfl rfl)) rfl rfl hl.1 rfl (lv_room (Nat.le_of_ble_eq_true rfl)) d_T_hasPlace_2 ⟨Nat.le_of_ble_eq_true rfl, Nat.le_of_ble_eq_true rfl⟩) ?_
  refine lv_if_eq (tgt := 23) hx hb d_T_hasPlace_5 (by decide) (fun c3 => ?_) (fun c3 => ?_)
  · rw [if_pos c3] at hf
    refine lv_iconst (v := (0 : Int32)) hx hb d_T_hasPlace_23 (by decide) ?_
    exact W.zret (ty := .boolean) hx hb hr (rfl) (fun t ht _ => ⟨_, rfl, Option.some.inj hf, ht⟩) (fun _ h => absurd h List.not_mem_nil) d_T_hasPlace_24
  · rw [if_neg c3] at hf
    refine lv_iload_n hx hb d_T_hasPlace_8 rfl (lv_at hl 2 rfl) ?_
    refine lv_iconst (v := (1 : Int32)) hx hb d_T_hasPlace_9 (by decide) ?_
    refine lv_icmp_lt (tgt := 23) hx hb d_T_hasPlace_10 (by decide) (fun c4 => ?_) (fun c4 => ?_)
    · rw [if_pos c4] at hf
      refine lv_iconst (v := (0 : Int32)) hx hb d_T_hasPlace_23 (by decide) ?_
      exact W.zret (ty := .boolean) hx hb hr (rfl) (fun t ht _ => ⟨_, rfl, Option.some.inj hf, ht⟩) (fun _ h => absurd h List.not_mem_nil) d_T_hasPlace_24
    · rw [if_neg c4] at hf
      refine lv_iload_n hx hb d_T_hasPlace_13 rfl (lv_at hl 2 rfl) ?_
      refine lv_bipush (v := (12 : Int32)) hx hb d_T_hasPlace_14 (by decide) ?_
      refine lv_icmp_gt (tgt := 23) hx hb d_T_hasPlace_16 (by decide) (fun c5 => ?_) (fun c5 => ?_)
      · rw [if_pos c5] at hf
        refine lv_iconst (v := (0 : Int32)) hx hb d_T_hasPlace_23 (by decide) ?_
        exact W.zret (ty := .boolean) hx hb hr (rfl) (fun t ht _ => ⟨_, rfl, Option.some.inj hf, ht⟩) (fun _ h => absurd h List.not_mem_nil) d_T_hasPlace_24
      · rw [if_neg c5] at hf
        refine lv_iconst (v := (1 : Int32)) hx hb d_T_hasPlace_19 (by decide) ?_
        refine lv_goto (tgt := 24) hx hb d_T_hasPlace_20 (by decide) ?_
        exact W.zret (ty := .boolean) hx hb hr (rfl) (fun t ht _ => ⟨_, rfl, Option.some.inj hf, ht⟩) (fun _ h => absurd h List.not_mem_nil) d_T_hasPlace_24
set_option maxHeartbeats 4000000 in
set_option maxRecDepth 100000 in
theorem c_T_twelfths (l : Launch) (dC : Nat → ClassId) (dI : Nat → Nat → Nat) (cs : Nat → ClassId) (a : Nat → Nat) (st : XS) (p1 : Int32) (p2 : Int32) (p3 : Int32) (res : Int32) (hf : x_T_twelfths st p1 p2 p3 = some res) : Met l (⟨"GuideSearch$Tests", "twelfths", "(III)I"⟩ : MethodName) (Cond.code (⟨"GuideSearch$Tests", "twelfths", "(III)I"⟩ : MethodName) prog_5_method_5_code 4 (some .int) :: wg) { frames := 2, cells := 0, slots := 0, locals := 43 } (va_Pc ([.ref (a 5), .int p1, .int p2, .int p3] : List Value) (x_pre dC dI cs a st)) (vp_Si (fun r => r = res)) 0 0 (fun _ => False) := by
  refine ro_start (cc := prog_5_method_5_code) (maxL := 4) (ret := (some .int)) (by decide) (Nat.le_of_ble_eq_true rfl) ?_
  intro p e s m below meth c hx hb hr hml hT hown hlocks hB ls hl
  replace hown : s.vm.findClass "GuideSearch$Tests" = some m.cls := hown
  obtain ⟨hP, hK, hN⟩ := hB
  replace hl : lv_has ls 4 [(0, .ref (a 5)), (1, .int p1), (2, .int p2), (3, .int p3)] := hl
  unfold x_T_twelfths at hf
  refine lv_aload_n hx hb d_T_twelfths_0 rfl (lv_at hl 0 rfl) ?_
  refine lv_iload_n hx hb d_T_twelfths_1 rfl (lv_at hl 1 rfl) ?_
  refine lv_iload_n hx hb d_T_twelfths_2 rfl (lv_at hl 2 rfl) ?_
  obtain ⟨r2, hr1, hf⟩ := ob hf
  refine ro_calli (va_runV (C := "GuideSearch$Tests") (As := [.int p1, .int p2]) (rest := []) ⟨hx, hb, hml, hown, hT⟩ (c_T_hasPlace l dC dI cs a st p1 p2 r2 hr1) (cwV 2 hT (gV k_195 k_197 ks_0 k_3 k_198) rfl rfl rfl (by decide +kernel) ⟨Nat.le_of_ble_eq_true rfl, Nat.le_of_ble_eq_true rfl⟩) (ro_preV hP hK hN (va_recv hK hP (ci := 2) (q0 := 5) rfl rfl)) rfl rfl hl.1 rfl (lv_room (Nat.le_of_ble_eq_true rfl)) d_T_twelfths_3 ⟨Nat.le_of_ble_eq_true rfl, Nat.le_of_ble_eq_true rfl⟩) ?_
  refine lv_if_ne (tgt := 11) hx hb d_T_twelfths_6 (by decide) (fun c3 => ?_) (fun c3 => ?_)
  · rw [if_neg c3] at hf
    refine lv_aload_n hx hb d_T_twelfths_11 rfl (lv_at hl 0 rfl) ?_
    refine va_get (D := (dC, dI)) (ci := 2) (v := .ref (a 8)) (C := "GuideSearch$Tests") (T := F_T) (N := 4) hx hb hT i_T hown hK hP 5 rfl rfl 2 (by decide) (hT _ k_62) (fun _ h9 => h9) rfl d_T_twelfths_12 ?_
    refine lv_iload_n hx hb d_T_twelfths_15 rfl (lv_at hl 1 rfl) ?_
    obtain ⟨j4, ej6, hi5, hf⟩ := ix_some hf
    refine xa_aald hx hb hK hP 8 3 rfl rfl ej6 hi5 (if_pos (ix_lt ej6 hi5)) d_T_twelfths_16 ?_
    have hj4 : j4 < 6 := ix_lt ej6 hi5
    refine lv_iload_n hx hb d_T_twelfths_17 rfl (lv_at hl 2 rfl) ?_
    obtain ⟨j8, ej10, hi9, hf⟩ := ix_some hf
    refine xa_iald hx hb hK hP (9 + j4) 1 (x_tab_row cs a st hj4) rfl ej10 hi9 d_T_twelfths_18 ?_
    refine lv_iconst (v := (4 : Int32)) hx hb d_T_twelfths_19 (by decide) ?_
    refine lv_iload_n hx hb d_T_twelfths_20 rfl (lv_at hl 3 rfl) ?_
    refine lv_imul hx hb d_T_twelfths_21 ?_
    refine lv_ishr hx hb d_T_twelfths_22 ?_
    refine lv_bipush (v := (15 : Int32)) hx hb d_T_twelfths_23 (by decide) ?_
    refine lv_iand hx hb d_T_twelfths_25 ?_
    exact W.iret hx hb hr (fun t ht _ => ⟨_, rfl, Option.some.inj hf, ht⟩) (fun _ h => absurd h List.not_mem_nil) d_T_twelfths_26
  · rw [if_pos c3] at hf
    refine lv_iconst (v := (0 : Int32)) hx hb d_T_twelfths_9 (by decide) ?_
    exact W.iret hx hb hr (fun t ht _ => ⟨_, rfl, Option.some.inj hf, ht⟩) (fun _ h => absurd h List.not_mem_nil) d_T_twelfths_10
set_option maxHeartbeats 4000000 in
set_option maxRecDepth 100000 in
theorem c_T_together (l : Launch) (dC : Nat → ClassId) (dI : Nat → Nat → Nat) (cs : Nat → ClassId) (a : Nat → Nat) (st : XS) (p1 : Int32) (p2 : Int32) (res : Int32) (hf : x_T_together st p1 p2 = some res) : Met l (⟨"GuideSearch$Tests", "together", "(II)I"⟩ : MethodName) (Cond.code (⟨"GuideSearch$Tests", "together", "(II)I"⟩ : MethodName) prog_5_method_7_code 5 (some .int) :: wg) { frames := 3, cells := 0, slots := 0, locals := 66 } (va_Pc ([.ref (a 5), .int p1, .int p2] : List Value) (x_pre dC dI cs a st)) (vp_Si (fun r => r = res)) 0 0 (fun _ => False) := by
  refine ro_start (cc := prog_5_method_7_code) (maxL := 5) (ret := (some .int)) (by decide) (Nat.le_of_ble_eq_true rfl) ?_
  intro p e s m below meth c hx hb hr hml hT hown hlocks hB ls hl
  replace hown : s.vm.findClass "GuideSearch$Tests" = some m.cls := hown
  obtain ⟨hP, hK, hN⟩ := hB
  replace hl : lv_has ls 5 [(0, .ref (a 5)), (1, .int p1), (2, .int p2)] := hl
  unfold x_T_together at hf
  refine lv_iconst (v := (0 : Int32)) hx hb d_T_together_0 (by decide) ?_
  refine lv_istore_n (lv' := [(3, .int (0 : Int32)), (0, .ref (a 5)), (1, .int p1), (2, .int p2)]) hx hb d_T_together_1 rfl hl (by decide) rfl (fun ls hl => ?_)
  refine lv_iconst (v := (0 : Int32)) hx hb d_T_together_2 (by decide) ?_
  refine lv_istore (lv' := [(4, .int (0 : Int32)), (3, .int (0 : Int32)), (0, .ref (a 5)), (1, .int p1), (2, .int p2)]) hx hb d_T_together_3 hl (by decide) rfl (fun ls hl => ?_)
  have loop1 : ∀ (n : Nat) (v1 : Int32) (v2 : Int32), xl2 (x_T_together_B1 st p1 p2) n v1 v2 = some res → ∀ (ls : Array Slot), lv_has ls 5 [(4, .int v1), (3, .int v2), (0, .ref (a 5)), (1, .int p1), (2, .int p2)] → W p l e { frames := 3, cells := 0, slots := 0, locals := 66 } s m ([.ref (a 5), .int p1, .int p2] : List Value).toArray below meth c s.heap [] 0 0 (MQ below (vp_Si (fun r => r = res)) ([.ref (a 5), .int p1, .int p2] : List Value).toArray s 0 0 (fun _ => False)) (F0 m 5 ls []) := by
    intro n
    induction n with
    | zero => intro v1 v2 hf; exact absurd hf (by simp [xl2])
    | succ n ih1 =>
      intro v1 v2 hf ls hl
      replace hf : (x_T_together_B1 st p1 p2) (xl2 (x_T_together_B1 st p1 p2) n) v1 v2 = some res := hf
      generalize xl2 (x_T_together_B1 st p1 p2) n = self1 at hf ih1
      unfold x_T_together_B1 at hf
      refine lv_iload hx hb d_T_together_5 (lv_at hl 0 rfl) ?_
      refine lv_iconst (v := (3 : Int32)) hx hb d_T_together_7 (by decide) ?_
      refine lv_icmp_ge (tgt := 28) hx hb d_T_together_8 (by decide) (fun c3 => ?_) (fun c3 => ?_)
      · rw [if_pos c3] at hf
        refine lv_iload_n hx hb d_T_together_28 rfl (lv_at hl 1 rfl) ?_
        exact W.iret hx hb hr (fun t ht _ => ⟨_, rfl, Option.some.inj hf, ht⟩) (fun _ h => absurd h List.not_mem_nil) d_T_together_29
      · rw [if_neg c3] at hf
        refine lv_iload_n hx hb d_T_together_11 rfl (lv_at hl 1 rfl) ?_
        refine lv_aload_n hx hb d_T_together_12 rfl (lv_at hl 2 rfl) ?_
        refine lv_iload_n hx hb d_T_together_13 rfl (lv_at hl 3 rfl) ?_
        refine lv_iload_n hx hb d_T_together_14 rfl (lv_at hl 4 rfl) ?_
        refine lv_iload hx hb d_T_together_15 (lv_at hl 0 rfl) ?_
        obtain ⟨r5, hr4, hf⟩ := ob hf
        refine ro_calli (va_runV (C := "GuideSearch$Tests") (As := [.int p1, .int p2, .int v1]) (rest := [.int v2]) ⟨hx, hb, hml, hown, hT⟩ (c_T_twelfths l dC dI cs a st p1 p2 v1 r5 hr4) (cwV 3 hT (gV k_191 k_192 k_193 k_3 k_194) rfl rfl rfl (by decide +kernel) ⟨Nat.le_of_ble_eq_true rfl, Nat.le_of_ble_eq_true rfl⟩) (ro_preV hP hK hN (va_recv hK hP (ci := 2) (q0 := 5) rfl rfl)) rfl rfl hl.1 rfl (lv_room (Nat.le_of_ble_eq_true rfl)) d_T_together_17 ⟨Nat.le_of_ble_eq_true rfl, Nat.le_of_ble_eq_true rfl⟩) ?_
        refine lv_iadd hx hb d_T_together_20 ?_
        refine lv_istore_n (lv' := [(3, .int (v2 + r5)), (4, .int v1), (0, .ref (a 5)), (1, .int p1), (2, .int p2)]) hx hb d_T_together_21 rfl hl (by decide) rfl (fun ls hl => ?_)
        refine lv_iinc (v := (v1 + 1)) (lv' := [(4, .int (v1 + 1)), (3, .int (v2 + r5)), (0, .ref (a 5)), (1, .int p1), (2, .int p2)]) hx hb d_T_together_22 hl (k := 1) rfl rfl (by decide) rfl (fun ls hl => ?_)
        refine lv_goto (tgt := 5) hx hb d_T_together_25 (by decide) ?_
        exact ih1 (v1 + 1) (v2 + r5) hf ls (lv_sub hl [0, 1, 2, 3, 4] rfl)
  exact loop1 _ (0 : Int32) (0 : Int32) hf ls (lv_sub hl [0, 1, 2, 3, 4] rfl)
set_option maxHeartbeats 4000000 in
set_option maxRecDepth 100000 in
theorem c_T_setTwelfths (l : Launch) (dC : Nat → ClassId) (dI : Nat → Nat → Nat) (cs : Nat → ClassId) (a : Nat → Nat) (hi : ∀ i j : Nat, i < 29 → j < 29 → a i = a j → i = j) (st : XS) (p1 : Int32) (p2 : Int32) (p3 : Int32) (p4 : Int32) (res : XS) (hf : x_T_setTwelfths st p1 p2 p3 p4 = some res) : Met l (⟨"GuideSearch$Tests", "setTwelfths", "(IIII)V"⟩ : MethodName) (Cond.code (⟨"GuideSearch$Tests", "setTwelfths", "(IIII)V"⟩ : MethodName) prog_5_method_6_code 6 none :: wg) { frames := 2, cells := 0, slots := 0, locals := 43 } (va_Pc ([.ref (a 5), .int p1, .int p2, .int p3, .int p4] : List Value) (x_pre dC dI cs a st)) (va_Qv (fun _ : Unit => True) (fun _ t => va_P (dC, dI) vwCl (x_W cs a res) t.heap) (x_A a)) 0 0 (x_A a) := by
  refine ro_start (cc := prog_5_method_6_code) (maxL := 6) (ret := none) (by decide) (Nat.le_of_ble_eq_true rfl) ?_
  intro p e s m below meth c hx hb hr hml hT hown hlocks hB ls hl
  replace hown : s.vm.findClass "GuideSearch$Tests" = some m.cls := hown
  obtain ⟨hP, hK, hN⟩ := hB
  replace hl : lv_has ls 6 [(0, .ref (a 5)), (1, .int p1), (2, .int p2), (3, .int p3), (4, .int p4)] := hl
  unfold x_T_setTwelfths at hf
  have hD : ∀ st : XS, va_D (x_A a) (x_W cs a st) := fun st => x_D hi cs st
  have main : ∀ (H : Heap) (locs : List Loc), va_P (dC, dI) vwCl (x_W cs a st) H → va_S (x_A a) s.heap H locs → W p l e { frames := 2, cells := 0, slots := 0, locals := 43 } s m ([.ref (a 5), .int p1, .int p2, .int p3, .int p4] : List Value).toArray below meth c H locs 0 0 (MQ below (va_Qv (fun _ : Unit => True) (fun _ t => va_P (dC, dI) vwCl (x_W cs a res) t.heap) (x_A a)) ([.ref (a 5), .int p1, .int p2, .int p3, .int p4] : List Value).toArray s 0 0 (x_A a)) (F0 m 0 ls []) := by
    intro H locs hP hS
    refine lv_aload_n hx hb d_T_setTwelfths_0 rfl (lv_at hl 0 rfl) ?_
    refine lv_iload_n hx hb d_T_setTwelfths_1 rfl (lv_at hl 1 rfl) ?_
    refine lv_iload_n hx hb d_T_setTwelfths_2 rfl (lv_at hl 2 rfl) ?_
    obtain ⟨r2, hr1, hf⟩ := ob hf
    refine ro_calli (va_runV (C := "GuideSearch$Tests") (As := [.int p1, .int p2]) (rest := []) ⟨hx, hb, hml, hown, hT⟩ (c_T_hasPlace l dC dI cs a st p1 p2 r2 hr1) (cwV 2 hT (gV k_195 k_197 ks_0 k_3 k_198) rfl rfl rfl (by decide +kernel) ⟨Nat.le_of_ble_eq_true rfl, Nat.le_of_ble_eq_true rfl⟩) (ro_preV hP hK hN (va_recv hK hP (ci := 2) (q0 := 5) rfl rfl)) rfl rfl hl.1 rfl (lv_room (Nat.le_of_ble_eq_true rfl)) d_T_setTwelfths_3 ⟨Nat.le_of_ble_eq_true rfl, Nat.le_of_ble_eq_true rfl⟩) ?_
    refine lv_if_ne (tgt := 10) hx hb d_T_setTwelfths_6 (by decide) (fun c3 => ?_) (fun c3 => ?_)
    · rw [if_neg c3] at hf
      refine lv_aload_n hx hb d_T_setTwelfths_10 rfl (lv_at hl 0 rfl) ?_
      refine va_get (D := (dC, dI)) (ci := 2) (v := .ref (a 8)) (C := "GuideSearch$Tests") (T := F_T) (N := 4) hx hb hT i_T hown hK hP 5 rfl rfl 2 (by decide) (hT _ k_62) (fun _ h9 => h9) rfl d_T_setTwelfths_11 ?_
      refine lv_iload_n hx hb d_T_setTwelfths_14 rfl (lv_at hl 1 rfl) ?_
      obtain ⟨j4, ej6, hi5, hf⟩ := ix_some hf
      refine xa_aald hx hb hK hP 8 3 rfl rfl ej6 hi5 (if_pos (ix_lt ej6 hi5)) d_T_setTwelfths_15 ?_
      have hj4 : j4 < 6 := ix_lt ej6 hi5
      refine lv_iload_n hx hb d_T_setTwelfths_16 rfl (lv_at hl 2 rfl) ?_
      obtain ⟨j8, ej10, hi9, hf⟩ := ix_some hf
      refine xa_iald hx hb hK hP (9 + j4) 1 (x_tab_row cs a st hj4) rfl ej10 hi9 d_T_setTwelfths_17 ?_
      refine lv_bipush (v := (15 : Int32)) hx hb d_T_setTwelfths_18 (by decide) ?_
      refine lv_iconst (v := (4 : Int32)) hx hb d_T_setTwelfths_20 (by decide) ?_
      refine lv_iload_n hx hb d_T_setTwelfths_21 rfl (lv_at hl 3 rfl) ?_
      refine lv_imul hx hb d_T_setTwelfths_22 ?_
      refine lv_ishl hx hb d_T_setTwelfths_23 ?_
      refine lv_iconst (v := (-1 : Int32)) hx hb d_T_setTwelfths_24 (by decide) ?_
      refine lv_ixor hx hb d_T_setTwelfths_25 ?_
      refine lv_iand hx hb d_T_setTwelfths_26 ?_
      refine lv_istore (lv' := [(5, .int ((x_tab st j4 j8) &&& (((15 : Int32) <<< (((4 : Int32) * p3) &&& 31)) ^^^ (-1 : Int32)))), (0, .ref (a 5)), (1, .int p1), (2, .int p2), (3, .int p3), (4, .int p4)]) hx hb d_T_setTwelfths_27 hl (by decide) rfl (fun ls hl => ?_)
      refine lv_aload_n hx hb d_T_setTwelfths_29 rfl (lv_at hl 1 rfl) ?_
      refine va_get (D := (dC, dI)) (ci := 2) (v := .ref (a 8)) (C := "GuideSearch$Tests") (T := F_T) (N := 4) hx hb hT i_T hown hK hP 5 rfl rfl 2 (by decide) (hT _ k_62) (fun _ h9 => h9) rfl d_T_setTwelfths_30 ?_
      refine lv_iload_n hx hb d_T_setTwelfths_33 rfl (lv_at hl 2 rfl) ?_
      obtain ⟨j11, ej13, hi12, hf⟩ := ix_some hf
      refine xa_aald hx hb hK hP 8 3 rfl rfl ej13 hi12 (if_pos (ix_lt ej13 hi12)) d_T_setTwelfths_34 ?_
      have hj11 : j11 < 6 := ix_lt ej13 hi12
      refine lv_iload_n hx hb d_T_setTwelfths_35 rfl (lv_at hl 3 rfl) ?_
      refine lv_iload hx hb d_T_setTwelfths_36 (lv_at hl 0 rfl) ?_
      refine lv_iload hx hb d_T_setTwelfths_38 (lv_at hl 5 rfl) ?_
      refine lv_iconst (v := (4 : Int32)) hx hb d_T_setTwelfths_40 (by decide) ?_
      refine lv_iload_n hx hb d_T_setTwelfths_41 rfl (lv_at hl 4 rfl) ?_
      refine lv_imul hx hb d_T_setTwelfths_42 ?_
      refine lv_ishl hx hb d_T_setTwelfths_43 ?_
      refine lv_ior hx hb d_T_setTwelfths_44 ?_
      obtain ⟨j15, ej17, hi16, hf⟩ := ix_some hf
      refine xa_iast hx hb hK hP (hD _) hS (9 + j11) 1 (x_tab_row cs a st hj11) rfl ej17 hi16 d_T_setTwelfths_45 (fun H locs hP hS => ?_)
      rw [x_tab_put cs a st hj11 j15 (((x_tab st j4 j8) &&& (((15 : Int32) <<< (((4 : Int32) * p3) &&& 31)) ^^^ (-1 : Int32))) ||| (p4 <<< (((4 : Int32) * p3) &&& 31)))] at hP
      exact W.vret hx hb hr (fun t ht _ => ⟨⟨(), rfl, trivial, x_fin ht (Option.some.inj hf) hP⟩, hS.F ht⟩) hS.2.2 d_T_setTwelfths_46
    · rw [if_pos c3] at hf
      exact W.vret hx hb hr (fun t ht _ => ⟨⟨(), rfl, trivial, x_fin ht (Option.some.inj hf) hP⟩, hS.F ht⟩) hS.2.2 d_T_setTwelfths_9
  exact main _ _ hP va_S.rf
set_option maxHeartbeats 4000000 in
set_option maxRecDepth 100000 in
theorem c_T_allNeededBy (l : Launch) (dC : Nat → ClassId) (dI : Nat → Nat → Nat) (cs : Nat → ClassId) (a : Nat → Nat) (st : XS) (p1 : Int32) (res : Int32) (hf : x_T_allNeededBy st p1 = some res) : Met l (⟨"GuideSearch$Tests", "allNeededBy", "(I)I"⟩ : MethodName) (Cond.code (⟨"GuideSearch$Tests", "allNeededBy", "(I)I"⟩ : MethodName) prog_5_method_9_code 5 (some .int) :: wg) { frames := 2, cells := 0, slots := 0, locals := 41 } (va_Pc ([.ref (a 5), .int p1] : List Value) (x_pre dC dI cs a st)) (vp_Si (fun r => r = res)) 0 0 (fun _ => False) := by
  refine ro_start (cc := prog_5_method_9_code) (maxL := 5) (ret := (some .int)) (by decide) (Nat.le_of_ble_eq_true rfl) ?_
  intro p e s m below meth c hx hb hr hml hT hown hlocks hB ls hl
  replace hown : s.vm.findClass "GuideSearch$Tests" = some m.cls := hown
  obtain ⟨hP, hK, hN⟩ := hB
  replace hl : lv_has ls 5 [(0, .ref (a 5)), (1, .int p1)] := hl
  unfold x_T_allNeededBy at hf
  refine lv_aload_n hx hb d_T_allNeededBy_0 rfl (lv_at hl 0 rfl) ?_
  refine lv_iload_n hx hb d_T_allNeededBy_1 rfl (lv_at hl 1 rfl) ?_
  obtain ⟨r2, hr1, hf⟩ := ob hf
  refine ro_calli (va_runV (C := "GuideSearch$Tests") (As := [.int p1]) (rest := []) ⟨hx, hb, hml, hown, hT⟩ (c_T_knows l dC dI cs a st p1 r2 hr1) (cwV 1 hT (gV k_199 k_173 k_174 k_3 k_175) rfl rfl rfl (by decide +kernel) ⟨Nat.le_of_ble_eq_true rfl, Nat.le_of_ble_eq_true rfl⟩) (ro_preV hP hK hN (va_recv hK hP (ci := 2) (q0 := 5) rfl rfl)) rfl rfl hl.1 rfl (lv_room (Nat.le_of_ble_eq_true rfl)) d_T_allNeededBy_2 ⟨Nat.le_of_ble_eq_true rfl, Nat.le_of_ble_eq_true rfl⟩) ?_
  have join1 : ∀ (v3 : Int32), x_T_allNeededBy_J1 st v3 = some res → ∀ (ls : Array Slot), lv_has ls 5 [(0, .ref (a 5))] → W p l e { frames := 2, cells := 0, slots := 0, locals := 41 } s m ([.ref (a 5), .int p1] : List Value).toArray below meth c s.heap [] 0 0 (MQ below (vp_Si (fun r => r = res)) ([.ref (a 5), .int p1] : List Value).toArray s 0 0 (fun _ => False)) (F0 m 18 ls [.int v3]) := by
    intro v3 hf ls hl
    unfold x_T_allNeededBy_J1 at hf
    refine lv_istore_n (lv' := [(2, .int v3), (0, .ref (a 5))]) hx hb d_T_allNeededBy_18 rfl hl (by decide) rfl (fun ls hl => ?_)
    refine lv_iconst (v := (0 : Int32)) hx hb d_T_allNeededBy_19 (by decide) ?_
    refine lv_istore_n (lv' := [(3, .int (0 : Int32)), (2, .int v3), (0, .ref (a 5))]) hx hb d_T_allNeededBy_20 rfl hl (by decide) rfl (fun ls hl => ?_)
    have loop2 : ∀ (n : Nat) (v4 : Int32) (v5 : Int32), xl2 (x_T_allNeededBy_B2 st) n v4 v5 = some res → ∀ (ls : Array Slot), lv_has ls 5 [(3, .int v4), (2, .int v5), (0, .ref (a 5))] → W p l e { frames := 2, cells := 0, slots := 0, locals := 41 } s m ([.ref (a 5), .int p1] : List Value).toArray below meth c s.heap [] 0 0 (MQ below (vp_Si (fun r => r = res)) ([.ref (a 5), .int p1] : List Value).toArray s 0 0 (fun _ => False)) (F0 m 21 ls []) := by
      intro n
      induction n with
      | zero => intro v4 v5 hf; exact absurd hf (by simp [xl2])
      | succ n ih2 =>
        intro v4 v5 hf ls hl
        replace hf : (x_T_allNeededBy_B2 st) (xl2 (x_T_allNeededBy_B2 st) n) v4 v5 = some res := hf
        generalize xl2 (x_T_allNeededBy_B2 st) n = self2 at hf ih2
        unfold x_T_allNeededBy_B2 at hf
        refine lv_iload_n hx hb d_T_allNeededBy_21 rfl (lv_at hl 0 rfl) ?_
        refine lv_iconst (v := (5 : Int32)) hx hb d_T_allNeededBy_22 (by decide) ?_
        refine lv_icmp_ge (tgt := 70) hx hb d_T_allNeededBy_23 (by decide) (fun c6 => ?_) (fun c6 => ?_)
        · rw [if_pos c6] at hf
          refine lv_iload_n hx hb d_T_allNeededBy_70 rfl (lv_at hl 1 rfl) ?_
          exact W.iret hx hb hr (fun t ht _ => ⟨_, rfl, Option.some.inj hf, ht⟩) (fun _ h => absurd h List.not_mem_nil) d_T_allNeededBy_71
        · rw [if_neg c6] at hf
          refine lv_iconst (v := (1 : Int32)) hx hb d_T_allNeededBy_26 (by decide) ?_
          refine lv_istore (lv' := [(4, .int (1 : Int32)), (3, .int v4), (2, .int v5), (0, .ref (a 5))]) hx hb d_T_allNeededBy_27 hl (by decide) rfl (fun ls hl => ?_)
          have loop3 : ∀ (n : Nat) (v7 : Int32) (v8 : Int32), xl2 (x_T_allNeededBy_B3 st v4 self2) n v7 v8 = some res → ∀ (ls : Array Slot), lv_has ls 5 [(4, .int v7), (3, .int v4), (2, .int v8), (0, .ref (a 5))] → W p l e { frames := 2, cells := 0, slots := 0, locals := 41 } s m ([.ref (a 5), .int p1] : List Value).toArray below meth c s.heap [] 0 0 (MQ below (vp_Si (fun r => r = res)) ([.ref (a 5), .int p1] : List Value).toArray s 0 0 (fun _ => False)) (F0 m 29 ls []) := by
            intro n
            induction n with
            | zero => intro v7 v8 hf; exact absurd hf (by simp [xl2])
            | succ n ih3 =>
              intro v7 v8 hf ls hl
              replace hf : (x_T_allNeededBy_B3 st v4 self2) (xl2 (x_T_allNeededBy_B3 st v4 self2) n) v7 v8 = some res := hf
              generalize xl2 (x_T_allNeededBy_B3 st v4 self2) n = self3 at hf ih3
              unfold x_T_allNeededBy_B3 at hf
              refine lv_iload hx hb d_T_allNeededBy_29 (lv_at hl 0 rfl) ?_
              refine lv_iconst (v := (5 : Int32)) hx hb d_T_allNeededBy_31 (by decide) ?_
              refine lv_icmp_gt (tgt := 64) hx hb d_T_allNeededBy_32 (by decide) (fun c9 => ?_) (fun c9 => ?_)
              · rw [if_pos c9] at hf
                refine lv_iinc (v := (v4 + 1)) (lv' := [(3, .int (v4 + 1)), (4, .int v7), (2, .int v8), (0, .ref (a 5))]) hx hb d_T_allNeededBy_64 hl (k := 1) rfl rfl (by decide) rfl (fun ls hl => ?_)
                refine lv_goto (tgt := 21) hx hb d_T_allNeededBy_67 (by decide) ?_
                exact ih2 (v4 + 1) v8 hf ls (lv_sub hl [0, 2, 3] rfl)
              · rw [if_neg c9] at hf
                refine lv_iload_n hx hb d_T_allNeededBy_35 rfl (lv_at hl 2 rfl) ?_
                refine lv_iload_n hx hb d_T_allNeededBy_36 rfl (lv_at hl 2 rfl) ?_
                refine lv_iload hx hb d_T_allNeededBy_37 (lv_at hl 0 rfl) ?_
                obtain ⟨r11, hr10, hf⟩ := ob hf
                refine ro_calli (va_runSN (As := [.int v8, .int v7]) (rest := [.int v8]) ⟨hx, hb, hml, hown, hT⟩ (c_G_holds l v8 v7 r11 hr10) ⟨va_cnB 2 hT (gcode k_218) rfl rfl rfl (hN _ k_216) (hT _ k_1) (by decide +kernel) ⟨Nat.le_of_ble_eq_true rfl, Nat.le_of_ble_eq_true rfl⟩, hT _ k_217, trivial⟩ ⟨fun _ _ _ _ q => q, fun _ _ _ => ⟨rfl, trivial⟩⟩ rfl rfl hl.1 rfl (lv_room (Nat.le_of_ble_eq_true rfl)) d_T_allNeededBy_39 ⟨Nat.le_of_ble_eq_true rfl, Nat.le_of_ble_eq_true rfl⟩) ?_
                refine lv_if_eq (tgt := 55) hx hb d_T_allNeededBy_42 (by decide) (fun c12 => ?_) (fun c12 => ?_)
                · rw [if_pos c12] at hf
                  refine lv_iconst (v := (0 : Int32)) hx hb d_T_allNeededBy_55 (by decide) ?_
                  refine lv_ior hx hb d_T_allNeededBy_56 ?_
                  refine lv_istore_n (lv' := [(2, .int (v8 ||| (0 : Int32))), (4, .int v7), (3, .int v4), (0, .ref (a 5))]) hx hb d_T_allNeededBy_57 rfl hl (by decide) rfl (fun ls hl => ?_)
                  refine lv_iinc (v := (v7 + 1)) (lv' := [(4, .int (v7 + 1)), (2, .int (v8 ||| (0 : Int32))), (3, .int v4), (0, .ref (a 5))]) hx hb d_T_allNeededBy_58 hl (k := 1) rfl rfl (by decide) rfl (fun ls hl => ?_)
                  refine lv_goto (tgt := 29) hx hb d_T_allNeededBy_61 (by decide) ?_
                  exact ih3 (v7 + 1) (v8 ||| (0 : Int32)) hf ls (lv_sub hl [0, 2, 1, 3] rfl)
                · rw [if_neg c12] at hf
                  refine lv_aload_n hx hb d_T_allNeededBy_45 rfl (lv_at hl 3 rfl) ?_
                  refine va_get (D := (dC, dI)) (ci := 2) (v := .ref (a 7)) (C := "GuideSearch$Tests") (T := F_T) (N := 4) hx hb hT i_T hown hK hP 5 rfl rfl 1 (by decide) (hT _ k_61) (fun _ h9 => h9) rfl d_T_allNeededBy_46 ?_
                  refine lv_iload hx hb d_T_allNeededBy_49 (lv_at hl 0 rfl) ?_
                  obtain ⟨j13, ej15, hi14, hf⟩ := ix_some hf
                  refine xa_iald hx hb hK hP 7 1 rfl rfl ej15 hi14 d_T_allNeededBy_51 ?_
                  refine lv_goto (tgt := 56) hx hb d_T_allNeededBy_52 (by decide) ?_
                  refine lv_ior hx hb d_T_allNeededBy_56 ?_
                  refine lv_istore_n (lv' := [(2, .int (v8 ||| (x_nee st j13))), (4, .int v7), (3, .int v4), (0, .ref (a 5))]) hx hb d_T_allNeededBy_57 rfl hl (by decide) rfl (fun ls hl => ?_)
                  refine lv_iinc (v := (v7 + 1)) (lv' := [(4, .int (v7 + 1)), (2, .int (v8 ||| (x_nee st j13))), (3, .int v4), (0, .ref (a 5))]) hx hb d_T_allNeededBy_58 hl (k := 1) rfl rfl (by decide) rfl (fun ls hl => ?_)
                  refine lv_goto (tgt := 29) hx hb d_T_allNeededBy_61 (by decide) ?_
                  exact ih3 (v7 + 1) (v8 ||| (x_nee st j13)) hf ls (lv_sub hl [0, 2, 1, 3] rfl)
          exact loop3 _ (1 : Int32) v5 hf ls (lv_sub hl [0, 1, 2, 3] rfl)
    exact loop2 _ (0 : Int32) v3 hf ls (lv_sub hl [0, 1, 2] rfl)
  refine lv_if_eq (tgt := 17) hx hb d_T_allNeededBy_5 (by decide) (fun c16 => ?_) (fun c16 => ?_)
  · rw [if_pos c16] at hf
    refine lv_iconst (v := (0 : Int32)) hx hb d_T_allNeededBy_17 (by decide) ?_
    exact join1 (0 : Int32) hf ls (lv_sub hl [0] rfl)
  · rw [if_neg c16] at hf
    refine lv_aload_n hx hb d_T_allNeededBy_8 rfl (lv_at hl 0 rfl) ?_
    refine va_get (D := (dC, dI)) (ci := 2) (v := .ref (a 7)) (C := "GuideSearch$Tests") (T := F_T) (N := 4) hx hb hT i_T hown hK hP 5 rfl rfl 1 (by decide) (hT _ k_61) (fun _ h9 => h9) rfl d_T_allNeededBy_9 ?_
    refine lv_iload_n hx hb d_T_allNeededBy_12 rfl (lv_at hl 1 rfl) ?_
    obtain ⟨j17, ej19, hi18, hf⟩ := ix_some hf
    refine xa_iald hx hb hK hP 7 1 rfl rfl ej19 hi18 d_T_allNeededBy_13 ?_
    refine lv_goto (tgt := 18) hx hb d_T_allNeededBy_14 (by decide) ?_
    exact join1 (x_nee st j17) hf ls (lv_sub hl [0] rfl)
set_option maxHeartbeats 4000000 in
set_option maxRecDepth 100000 in
theorem c_T_addNeed (l : Launch) (dC : Nat → ClassId) (dI : Nat → Nat → Nat) (cs : Nat → ClassId) (a : Nat → Nat) (hi : ∀ i j : Nat, i < 29 → j < 29 → a i = a j → i = j) (st : XS) (p1 : Int32) (p2 : Int32) (res : Int32 × XS) (hf : x_T_addNeed st p1 p2 = some res) : Met l (⟨"GuideSearch$Tests", "addNeed", "(II)I"⟩ : MethodName) (Cond.code (⟨"GuideSearch$Tests", "addNeed", "(II)I"⟩ : MethodName) prog_5_method_8_code 3 (some .int) :: wg) { frames := 1, cells := 0, slots := 0, locals := 21 } (va_Pc ([.ref (a 5), .int p1, .int p2] : List Value) (x_pre dC dI cs a st)) (va_Qi (fun r (_ : Unit) => r = res.1) (fun _ t => va_P (dC, dI) vwCl (x_W cs a res.2) t.heap) (x_A a)) 0 0 (x_A a) := by
  refine ro_start (cc := prog_5_method_8_code) (maxL := 3) (ret := (some .int)) (by decide) (Nat.le_of_ble_eq_true rfl) ?_
  intro p e s m below meth c hx hb hr hml hT hown hlocks hB ls hl
  replace hown : s.vm.findClass "GuideSearch$Tests" = some m.cls := hown
  obtain ⟨hP, hK, hN⟩ := hB
  replace hl : lv_has ls 3 [(0, .ref (a 5)), (1, .int p1), (2, .int p2)] := hl
  unfold x_T_addNeed at hf
  have hD : ∀ st : XS, va_D (x_A a) (x_W cs a st) := fun st => x_D hi cs st
  have main : ∀ (H : Heap) (locs : List Loc), va_P (dC, dI) vwCl (x_W cs a st) H → va_S (x_A a) s.heap H locs → W p l e { frames := 1, cells := 0, slots := 0, locals := 21 } s m ([.ref (a 5), .int p1, .int p2] : List Value).toArray below meth c H locs 0 0 (MQ below (va_Qi (fun r (_ : Unit) => r = res.1) (fun _ t => va_P (dC, dI) vwCl (x_W cs a res.2) t.heap) (x_A a)) ([.ref (a 5), .int p1, .int p2] : List Value).toArray s 0 0 (x_A a)) (F0 m 0 ls []) := by
    intro H locs hP hS
    refine lv_aload_n hx hb d_T_addNeed_0 rfl (lv_at hl 0 rfl) ?_
    refine lv_iload_n hx hb d_T_addNeed_1 rfl (lv_at hl 1 rfl) ?_
    obtain ⟨r2, hr1, hf⟩ := ob hf
    refine ro_calli (va_runV (C := "GuideSearch$Tests") (As := [.int p1]) (rest := []) ⟨hx, hb, hml, hown, hT⟩ (c_T_knows l dC dI cs a st p1 r2 hr1) (cwV 1 hT (gV k_199 k_173 k_174 k_3 k_175) rfl rfl rfl (by decide +kernel) ⟨Nat.le_of_ble_eq_true rfl, Nat.le_of_ble_eq_true rfl⟩) (ro_preV hP hK hN (va_recv hK hP (ci := 2) (q0 := 5) rfl rfl)) rfl rfl hl.1 rfl (lv_room (Nat.le_of_ble_eq_true rfl)) d_T_addNeed_2 ⟨Nat.le_of_ble_eq_true rfl, Nat.le_of_ble_eq_true rfl⟩) ?_
    refine lv_if_ne (tgt := 10) hx hb d_T_addNeed_5 (by decide) (fun c3 => ?_) (fun c3 => ?_)
    · rw [if_neg c3] at hf
      refine lv_aload_n hx hb d_T_addNeed_10 rfl (lv_at hl 0 rfl) ?_
      refine va_get (D := (dC, dI)) (ci := 2) (v := .ref (a 7)) (C := "GuideSearch$Tests") (T := F_T) (N := 4) hx hb hT i_T hown hK hP 5 rfl rfl 1 (by decide) (hT _ k_61) (fun _ h9 => h9) rfl d_T_addNeed_11 ?_
      refine lv_iload_n hx hb d_T_addNeed_14 rfl (lv_at hl 1 rfl) ?_
      refine lv_dup2_11 hx hb d_T_addNeed_15 rfl rfl ?_
      obtain ⟨j4, ej6, hi5, hf⟩ := ix_some hf
      refine xa_iald hx hb hK hP 7 1 rfl rfl ej6 hi5 d_T_addNeed_16 ?_
      refine lv_iload_n hx hb d_T_addNeed_17 rfl (lv_at hl 2 rfl) ?_
      obtain ⟨r8, hr7, hf⟩ := ob hf
      refine ro_calli (va_runSN (As := [.int p2]) (rest := [.int (x_nee st j4), .int p1, .ref (a 7)]) ⟨hx, hb, hml, hown, hT⟩ (c_G_bit l p2 r8 hr7) ⟨va_cnB 1 hT (gcode k_221) rfl rfl rfl (hN _ k_226) (hT _ k_1) (by decide +kernel) ⟨Nat.le_of_ble_eq_true rfl, Nat.le_of_ble_eq_true rfl⟩, hT _ k_220, trivial⟩ ⟨fun _ _ _ _ q => q, fun _ _ _ => ⟨rfl, trivial⟩⟩ rfl rfl hl.1 rfl (lv_room (Nat.le_of_ble_eq_true rfl)) d_T_addNeed_18 ⟨Nat.le_of_ble_eq_true rfl, Nat.le_of_ble_eq_true rfl⟩) ?_
      refine lv_ior hx hb d_T_addNeed_21 ?_
      obtain ⟨j9, ej11, hi10, hf⟩ := ix_some hf
      refine xa_iast hx hb hK hP (hD _) hS 7 1 rfl rfl ej11 hi10 d_T_addNeed_22 (fun H locs hP hS => ?_)
      rw [x_nee_put cs a st j9 ((x_nee st j4) ||| r8)] at hP
      refine lv_aload_n hx hb d_T_addNeed_23 rfl (lv_at hl 0 rfl) ?_
      refine va_get (D := (dC, dI)) (ci := 2) (v := .ref (a 7)) (C := "GuideSearch$Tests") (T := F_T) (N := 4) hx hb hT i_T hown hK hP 5 rfl rfl 1 (by decide) (hT _ k_61) (fun _ h9 => h9) rfl d_T_addNeed_24 ?_
      refine lv_iload_n hx hb d_T_addNeed_27 rfl (lv_at hl 1 rfl) ?_
      obtain ⟨j12, ej14, hi13, hf⟩ := ix_some hf
      refine xa_iald hx hb hK hP 7 1 rfl rfl ej14 hi13 d_T_addNeed_28 ?_
      obtain ⟨r16, hr15, hf⟩ := ob hf
      refine ro_calli (va_runS (As := [.int (x_nee (x_nee_s st j9 ((x_nee st j4) ||| r8)) j12)]) (rest := []) ⟨hx, hb, hml, hown, hT⟩ (c_JI_bitCount l (x_nee (x_nee_s st j9 ((x_nee st j4) ||| r8)) j12) r16 hr15) (va_cwS 1 hT (gS k_227 k_228 k_8 k_229) rfl rfl rfl (by decide +kernel) ⟨Nat.le_of_ble_eq_true rfl, Nat.le_of_ble_eq_true rfl⟩) ⟨fun _ _ _ _ q => q, fun _ _ _ => ⟨rfl, trivial⟩⟩ rfl rfl hl.1 rfl (lv_room (Nat.le_of_ble_eq_true rfl)) d_T_addNeed_29 ⟨Nat.le_of_ble_eq_true rfl, Nat.le_of_ble_eq_true rfl⟩) ?_
      exact W.iret hx hb hr (fun t ht _ => ⟨⟨_, (), rfl, congrArg Prod.fst (Option.some.inj hf), x_fin ht (congrArg Prod.snd (Option.some.inj hf)) hP⟩, hS.F ht⟩) hS.2.2 d_T_addNeed_32
    · rw [if_pos c3] at hf
      refine lv_iconst (v := (-1 : Int32)) hx hb d_T_addNeed_8 (by decide) ?_
      exact W.iret hx hb hr (fun t ht _ => ⟨⟨_, (), rfl, congrArg Prod.fst (Option.some.inj hf), x_fin ht (congrArg Prod.snd (Option.some.inj hf)) hP⟩, hS.F ht⟩) hS.2.2 d_T_addNeed_9
  exact main _ _ hP va_S.rf
set_option maxHeartbeats 4000000 in
set_option maxRecDepth 100000 in
theorem c_T_isOpen (l : Launch) (dC : Nat → ClassId) (dI : Nat → Nat → Nat) (cs : Nat → ClassId) (a : Nat → Nat) (st : XS) (p1 : Int32) (p2 : Int32) (res : Int32) (hf : x_T_isOpen st p1 p2 = some res) : Met l (⟨"GuideSearch$Tests", "isOpen", "(II)Z"⟩ : MethodName) (Cond.code (⟨"GuideSearch$Tests", "isOpen", "(II)Z"⟩ : MethodName) prog_5_method_11_code 4 (some .boolean) :: wg) { frames := 2, cells := 0, slots := 0, locals := 41 } (va_Pc ([.ref (a 5), .int p1, .int p2] : List Value) (x_pre dC dI cs a st)) (vp_Si (fun r => r = res)) 0 0 (fun _ => False) := by
  refine ro_start (cc := prog_5_method_11_code) (maxL := 4) (ret := (some .boolean)) (by decide) (Nat.le_of_ble_eq_true rfl) ?_
  intro p e s m below meth c hx hb hr hml hT hown hlocks hB ls hl
  replace hown : s.vm.findClass "GuideSearch$Tests" = some m.cls := hown
  obtain ⟨hP, hK, hN⟩ := hB
  replace hl : lv_has ls 4 [(0, .ref (a 5)), (1, .int p1), (2, .int p2)] := hl
  unfold x_T_isOpen at hf
  refine lv_aload_n hx hb d_T_isOpen_0 rfl (lv_at hl 0 rfl) ?_
  refine lv_iload_n hx hb d_T_isOpen_1 rfl (lv_at hl 1 rfl) ?_
  obtain ⟨r2, hr1, hf⟩ := ob hf
  refine ro_calli (va_runV (C := "GuideSearch$Tests") (As := [.int p1]) (rest := []) ⟨hx, hb, hml, hown, hT⟩ (c_T_knows l dC dI cs a st p1 r2 hr1) (cwV 1 hT (gV k_199 k_173 k_174 k_3 k_175) rfl rfl rfl (by decide +kernel) ⟨Nat.le_of_ble_eq_true rfl, Nat.le_of_ble_eq_true rfl⟩) (ro_preV hP hK hN (va_recv hK hP (ci := 2) (q0 := 5) rfl rfl)) rfl rfl hl.1 rfl (lv_room (Nat.le_of_ble_eq_true rfl)) d_T_isOpen_2 ⟨Nat.le_of_ble_eq_true rfl, Nat.le_of_ble_eq_true rfl⟩) ?_
  refine lv_if_eq (tgt := 17) hx hb d_T_isOpen_5 (by decide) (fun c3 => ?_) (fun c3 => ?_)
  · rw [if_pos c3] at hf
    refine lv_iconst (v := (0 : Int32)) hx hb d_T_isOpen_17 (by decide) ?_
    exact W.zret (ty := .boolean) hx hb hr (rfl) (fun t ht _ => ⟨_, rfl, Option.some.inj hf, ht⟩) (fun _ h => absurd h List.not_mem_nil) d_T_isOpen_18
  · rw [if_neg c3] at hf
    refine lv_iload_n hx hb d_T_isOpen_8 rfl (lv_at hl 2 rfl) ?_
    refine lv_iload_n hx hb d_T_isOpen_9 rfl (lv_at hl 1 rfl) ?_
    obtain ⟨r5, hr4, hf⟩ := ob hf
    refine ro_calli (va_runSN (As := [.int p2, .int p1]) (rest := []) ⟨hx, hb, hml, hown, hT⟩ (c_G_answerIn l p2 p1 r5 hr4) ⟨va_cnB 2 hT (gcode k_203) rfl rfl rfl (hN _ k_241) (hT _ k_1) (by decide +kernel) ⟨Nat.le_of_ble_eq_true rfl, Nat.le_of_ble_eq_true rfl⟩, hT _ k_202, trivial⟩ ⟨fun _ _ _ _ q => q, fun _ _ _ => ⟨rfl, trivial⟩⟩ rfl rfl hl.1 rfl (lv_room (Nat.le_of_ble_eq_true rfl)) d_T_isOpen_10 ⟨Nat.le_of_ble_eq_true rfl, Nat.le_of_ble_eq_true rfl⟩) ?_
    refine lv_iconst (v := (-1 : Int32)) hx hb d_T_isOpen_13 (by decide) ?_
    refine lv_icmp_eq (tgt := 19) hx hb d_T_isOpen_14 (by decide) (fun c6 => ?_) (fun c6 => ?_)
    · rw [if_pos c6] at hf
      refine lv_iconst (v := (1 : Int32)) hx hb d_T_isOpen_19 (by decide) ?_
      refine lv_istore_n (lv' := [(3, .int (1 : Int32)), (0, .ref (a 5)), (1, .int p1), (2, .int p2)]) hx hb d_T_isOpen_20 rfl hl (by decide) rfl (fun ls hl => ?_)
      have loop1 : ∀ (n : Nat) (v7 : Int32), xl1 (x_T_isOpen_B1 st p1 p2) n v7 = some res → ∀ (ls : Array Slot), lv_has ls 4 [(3, .int v7), (0, .ref (a 5)), (1, .int p1), (2, .int p2)] → W p l e { frames := 2, cells := 0, slots := 0, locals := 41 } s m ([.ref (a 5), .int p1, .int p2] : List Value).toArray below meth c s.heap [] 0 0 (MQ below (vp_Si (fun r => r = res)) ([.ref (a 5), .int p1, .int p2] : List Value).toArray s 0 0 (fun _ => False)) (F0 m 21 ls []) := by
        intro n
        induction n with
        | zero => intro v7 hf; exact absurd hf (by simp [xl1])
        | succ n ih1 =>
          intro v7 hf ls hl
          replace hf : (x_T_isOpen_B1 st p1 p2) (xl1 (x_T_isOpen_B1 st p1 p2) n) v7 = some res := hf
          generalize xl1 (x_T_isOpen_B1 st p1 p2) n = self1 at hf ih1
          unfold x_T_isOpen_B1 at hf
          refine lv_iload_n hx hb d_T_isOpen_21 rfl (lv_at hl 0 rfl) ?_
          refine lv_iconst (v := (5 : Int32)) hx hb d_T_isOpen_22 (by decide) ?_
          refine lv_icmp_gt (tgt := 56) hx hb d_T_isOpen_23 (by decide) (fun c8 => ?_) (fun c8 => ?_)
          · rw [if_pos c8] at hf
            refine lv_iconst (v := (1 : Int32)) hx hb d_T_isOpen_56 (by decide) ?_
            exact W.zret (ty := .boolean) hx hb hr (rfl) (fun t ht _ => ⟨_, rfl, Option.some.inj hf, ht⟩) (fun _ h => absurd h List.not_mem_nil) d_T_isOpen_57
          · rw [if_neg c8] at hf
            refine lv_aload_n hx hb d_T_isOpen_26 rfl (lv_at hl 1 rfl) ?_
            refine va_get (D := (dC, dI)) (ci := 2) (v := .ref (a 7)) (C := "GuideSearch$Tests") (T := F_T) (N := 4) hx hb hT i_T hown hK hP 5 rfl rfl 1 (by decide) (hT _ k_61) (fun _ h9 => h9) rfl d_T_isOpen_27 ?_
            refine lv_iload_n hx hb d_T_isOpen_30 rfl (lv_at hl 2 rfl) ?_
            obtain ⟨j9, ej11, hi10, hf⟩ := ix_some hf
            refine xa_iald hx hb hK hP 7 1 rfl rfl ej11 hi10 d_T_isOpen_31 ?_
            refine lv_iload_n hx hb d_T_isOpen_32 rfl (lv_at hl 0 rfl) ?_
            obtain ⟨r13, hr12, hf⟩ := ob hf
            refine ro_calli (va_runSN (As := [.int (x_nee st j9), .int v7]) (rest := []) ⟨hx, hb, hml, hown, hT⟩ (c_G_holds l (x_nee st j9) v7 r13 hr12) ⟨va_cnB 2 hT (gcode k_218) rfl rfl rfl (hN _ k_216) (hT _ k_1) (by decide +kernel) ⟨Nat.le_of_ble_eq_true rfl, Nat.le_of_ble_eq_true rfl⟩, hT _ k_217, trivial⟩ ⟨fun _ _ _ _ q => q, fun _ _ _ => ⟨rfl, trivial⟩⟩ rfl rfl hl.1 rfl (lv_room (Nat.le_of_ble_eq_true rfl)) d_T_isOpen_33 ⟨Nat.le_of_ble_eq_true rfl, Nat.le_of_ble_eq_true rfl⟩) ?_
            refine lv_if_eq (tgt := 50) hx hb d_T_isOpen_36 (by decide) (fun c14 => ?_) (fun c14 => ?_)
            · rw [if_pos c14] at hf
              refine lv_iinc (v := (v7 + 1)) (lv' := [(3, .int (v7 + 1)), (0, .ref (a 5)), (1, .int p1), (2, .int p2)]) hx hb d_T_isOpen_50 hl (k := 0) rfl rfl (by decide) rfl (fun ls hl => ?_)
              refine lv_goto (tgt := 21) hx hb d_T_isOpen_53 (by decide) ?_
              exact ih1 (v7 + 1) hf ls (lv_sub hl [0, 1, 2, 3] rfl)
            · rw [if_neg c14] at hf
              refine lv_iload_n hx hb d_T_isOpen_39 rfl (lv_at hl 3 rfl) ?_
              refine lv_iload_n hx hb d_T_isOpen_40 rfl (lv_at hl 0 rfl) ?_
              obtain ⟨r16, hr15, hf⟩ := ob hf
              refine ro_calli (va_runSN (As := [.int p2, .int v7]) (rest := []) ⟨hx, hb, hml, hown, hT⟩ (c_G_answerIn l p2 v7 r16 hr15) ⟨va_cnB 2 hT (gcode k_203) rfl rfl rfl (hN _ k_241) (hT _ k_1) (by decide +kernel) ⟨Nat.le_of_ble_eq_true rfl, Nat.le_of_ble_eq_true rfl⟩, hT _ k_202, trivial⟩ ⟨fun _ _ _ _ q => q, fun _ _ _ => ⟨rfl, trivial⟩⟩ rfl rfl hl.1 rfl (lv_room (Nat.le_of_ble_eq_true rfl)) d_T_isOpen_41 ⟨Nat.le_of_ble_eq_true rfl, Nat.le_of_ble_eq_true rfl⟩) ?_
              refine lv_iconst (v := (-1 : Int32)) hx hb d_T_isOpen_44 (by decide) ?_
              refine lv_icmp_ne (tgt := 50) hx hb d_T_isOpen_45 (by decide) (fun c17 => ?_) (fun c17 => ?_)
              · rw [if_neg c17] at hf
                refine lv_iinc (v := (v7 + 1)) (lv' := [(3, .int (v7 + 1)), (0, .ref (a 5)), (1, .int p1), (2, .int p2)]) hx hb d_T_isOpen_50 hl (k := 0) rfl rfl (by decide) rfl (fun ls hl => ?_)
                refine lv_goto (tgt := 21) hx hb d_T_isOpen_53 (by decide) ?_
                exact ih1 (v7 + 1) hf ls (lv_sub hl [0, 1, 2, 3] rfl)
              · rw [if_pos c17] at hf
                refine lv_iconst (v := (0 : Int32)) hx hb d_T_isOpen_48 (by decide) ?_
                exact W.zret (ty := .boolean) hx hb hr (rfl) (fun t ht _ => ⟨_, rfl, Option.some.inj hf, ht⟩) (fun _ h => absurd h List.not_mem_nil) d_T_isOpen_49
      exact loop1 _ (1 : Int32) hf ls (lv_sub hl [0, 1, 2, 3] rfl)
    · rw [if_neg c6] at hf
      refine lv_iconst (v := (0 : Int32)) hx hb d_T_isOpen_17 (by decide) ?_
      exact W.zret (ty := .boolean) hx hb hr (rfl) (fun t ht _ => ⟨_, rfl, Option.some.inj hf, ht⟩) (fun _ h => absurd h List.not_mem_nil) d_T_isOpen_18
set_option maxHeartbeats 4000000 in
set_option maxRecDepth 100000 in
theorem c_T_canAnswer (l : Launch) (dC : Nat → ClassId) (dI : Nat → Nat → Nat) (cs : Nat → ClassId) (a : Nat → Nat) (st : XS) (p1 : Int32) (p2 : Int32) (p3 : Int32) (res : Int32) (hf : x_T_canAnswer st p1 p2 p3 = some res) : Met l (⟨"GuideSearch$Tests", "canAnswer", "(III)Z"⟩ : MethodName) (Cond.code (⟨"GuideSearch$Tests", "canAnswer", "(III)Z"⟩ : MethodName) prog_5_method_12_code 5 (some .boolean) :: wg) { frames := 3, cells := 0, slots := 0, locals := 66 } (va_Pc ([.ref (a 5), .int p1, .int p2, .int p3] : List Value) (x_pre dC dI cs a st)) (vp_Si (fun r => r = res)) 0 0 (fun _ => False) := by
  refine ro_start (cc := prog_5_method_12_code) (maxL := 5) (ret := (some .boolean)) (by decide) (Nat.le_of_ble_eq_true rfl) ?_
  intro p e s m below meth c hx hb hr hml hT hown hlocks hB ls hl
  replace hown : s.vm.findClass "GuideSearch$Tests" = some m.cls := hown
  obtain ⟨hP, hK, hN⟩ := hB
  replace hl : lv_has ls 5 [(0, .ref (a 5)), (1, .int p1), (2, .int p2), (3, .int p3)] := hl
  unfold x_T_canAnswer at hf
  refine lv_iconst (v := (1 : Int32)) hx hb d_T_canAnswer_0 (by decide) ?_
  refine lv_istore (lv' := [(4, .int (1 : Int32)), (0, .ref (a 5)), (1, .int p1), (2, .int p2), (3, .int p3)]) hx hb d_T_canAnswer_1 hl (by decide) rfl (fun ls hl => ?_)
  have loop1 : ∀ (n : Nat) (v1 : Int32), xl1 (x_T_canAnswer_B1 st p1 p2 p3) n v1 = some res → ∀ (ls : Array Slot), lv_has ls 5 [(4, .int v1), (0, .ref (a 5)), (1, .int p1), (2, .int p2), (3, .int p3)] → W p l e { frames := 3, cells := 0, slots := 0, locals := 66 } s m ([.ref (a 5), .int p1, .int p2, .int p3] : List Value).toArray below meth c s.heap [] 0 0 (MQ below (vp_Si (fun r => r = res)) ([.ref (a 5), .int p1, .int p2, .int p3] : List Value).toArray s 0 0 (fun _ => False)) (F0 m 3 ls []) := by
    intro n
    induction n with
    | zero => intro v1 hf; exact absurd hf (by simp [xl1])
    | succ n ih1 =>
      intro v1 hf ls hl
      replace hf : (x_T_canAnswer_B1 st p1 p2 p3) (xl1 (x_T_canAnswer_B1 st p1 p2 p3) n) v1 = some res := hf
      generalize xl1 (x_T_canAnswer_B1 st p1 p2 p3) n = self1 at hf ih1
      unfold x_T_canAnswer_B1 at hf
      refine lv_iload hx hb d_T_canAnswer_3 (lv_at hl 0 rfl) ?_
      refine lv_iload_n hx hb d_T_canAnswer_5 rfl (lv_at hl 4 rfl) ?_
      refine lv_icmp_gt (tgt := 28) hx hb d_T_canAnswer_6 (by decide) (fun c2 => ?_) (fun c2 => ?_)
      · rw [if_pos c2] at hf
        refine lv_iconst (v := (0 : Int32)) hx hb d_T_canAnswer_28 (by decide) ?_
        exact W.zret (ty := .boolean) hx hb hr (rfl) (fun t ht _ => ⟨_, rfl, Option.some.inj hf, ht⟩) (fun _ h => absurd h List.not_mem_nil) d_T_canAnswer_29
      · rw [if_neg c2] at hf
        refine lv_aload_n hx hb d_T_canAnswer_9 rfl (lv_at hl 1 rfl) ?_
        refine lv_iload_n hx hb d_T_canAnswer_10 rfl (lv_at hl 2 rfl) ?_
        refine lv_iload hx hb d_T_canAnswer_11 (lv_at hl 0 rfl) ?_
        refine lv_iload_n hx hb d_T_canAnswer_13 rfl (lv_at hl 3 rfl) ?_
        obtain ⟨r4, hr3, hf⟩ := ob hf
        refine ro_calli (va_runV (C := "GuideSearch$Tests") (As := [.int p1, .int v1, .int p2]) (rest := []) ⟨hx, hb, hml, hown, hT⟩ (c_T_twelfths l dC dI cs a st p1 v1 p2 r4 hr3) (cwV 3 hT (gV k_191 k_192 k_193 k_3 k_194) rfl rfl rfl (by decide +kernel) ⟨Nat.le_of_ble_eq_true rfl, Nat.le_of_ble_eq_true rfl⟩) (ro_preV hP hK hN (va_recv hK hP (ci := 2) (q0 := 5) rfl rfl)) rfl rfl hl.1 rfl (lv_room (Nat.le_of_ble_eq_true rfl)) d_T_canAnswer_14 ⟨Nat.le_of_ble_eq_true rfl, Nat.le_of_ble_eq_true rfl⟩) ?_
        refine lv_if_le (tgt := 22) hx hb d_T_canAnswer_17 (by decide) (fun c5 => ?_) (fun c5 => ?_)
        · rw [if_pos c5] at hf
          refine lv_iinc (v := (v1 + 1)) (lv' := [(4, .int (v1 + 1)), (0, .ref (a 5)), (1, .int p1), (2, .int p2), (3, .int p3)]) hx hb d_T_canAnswer_22 hl (k := 0) rfl rfl (by decide) rfl (fun ls hl => ?_)
          refine lv_goto (tgt := 3) hx hb d_T_canAnswer_25 (by decide) ?_
          exact ih1 (v1 + 1) hf ls (lv_sub hl [0, 1, 2, 3, 4] rfl)
        · rw [if_neg c5] at hf
          refine lv_iconst (v := (1 : Int32)) hx hb d_T_canAnswer_20 (by decide) ?_
          exact W.zret (ty := .boolean) hx hb hr (rfl) (fun t ht _ => ⟨_, rfl, Option.some.inj hf, ht⟩) (fun _ h => absurd h List.not_mem_nil) d_T_canAnswer_21
  exact loop1 _ (1 : Int32) hf ls (lv_sub hl [0, 1, 2, 3, 4] rfl)
set_option maxHeartbeats 4000000 in
set_option maxRecDepth 100000 in
theorem c_T_price (l : Launch) (dC : Nat → ClassId) (dI : Nat → Nat → Nat) (cs : Nat → ClassId) (a : Nat → Nat) (st : XS) (p1 : Int32) (res : Int32) (hf : x_T_price st p1 = some res) : Met l (⟨"GuideSearch$Tests", "price", "(I)I"⟩ : MethodName) (Cond.code (⟨"GuideSearch$Tests", "price", "(I)I"⟩ : MethodName) prog_5_method_4_code 2 (some .int) :: wg) { frames := 1, cells := 0, slots := 0, locals := 21 } (va_Pc ([.ref (a 5), .int p1] : List Value) (x_pre dC dI cs a st)) (vp_Si (fun r => r = res)) 0 0 (fun _ => False) := by
  refine ro_start (cc := prog_5_method_4_code) (maxL := 2) (ret := (some .int)) (by decide) (Nat.le_of_ble_eq_true rfl) ?_
  intro p e s m below meth c hx hb hr hml hT hown hlocks hB ls hl
  replace hown : s.vm.findClass "GuideSearch$Tests" = some m.cls := hown
  obtain ⟨hP, hK, hN⟩ := hB
  replace hl : lv_has ls 2 [(0, .ref (a 5)), (1, .int p1)] := hl
  unfold x_T_price at hf
  refine lv_aload_n hx hb d_T_price_0 rfl (lv_at hl 0 rfl) ?_
  refine lv_iload_n hx hb d_T_price_1 rfl (lv_at hl 1 rfl) ?_
  obtain ⟨r2, hr1, hf⟩ := ob hf
  refine ro_calli (va_runV (C := "GuideSearch$Tests") (As := [.int p1]) (rest := []) ⟨hx, hb, hml, hown, hT⟩ (c_T_knows l dC dI cs a st p1 r2 hr1) (cwV 1 hT (gV k_199 k_173 k_174 k_3 k_175) rfl rfl rfl (by decide +kernel) ⟨Nat.le_of_ble_eq_true rfl, Nat.le_of_ble_eq_true rfl⟩) (ro_preV hP hK hN (va_recv hK hP (ci := 2) (q0 := 5) rfl rfl)) rfl rfl hl.1 rfl (lv_room (Nat.le_of_ble_eq_true rfl)) d_T_price_2 ⟨Nat.le_of_ble_eq_true rfl, Nat.le_of_ble_eq_true rfl⟩) ?_
  refine lv_if_eq (tgt := 17) hx hb d_T_price_5 (by decide) (fun c3 => ?_) (fun c3 => ?_)
  · rw [if_pos c3] at hf
    refine lv_iconst (v := (0 : Int32)) hx hb d_T_price_17 (by decide) ?_
    exact W.iret hx hb hr (fun t ht _ => ⟨_, rfl, Option.some.inj hf, ht⟩) (fun _ h => absurd h List.not_mem_nil) d_T_price_18
  · rw [if_neg c3] at hf
    refine lv_aload_n hx hb d_T_price_8 rfl (lv_at hl 0 rfl) ?_
    refine va_get (D := (dC, dI)) (ci := 2) (v := .ref (a 6)) (C := "GuideSearch$Tests") (T := F_T) (N := 4) hx hb hT i_T hown hK hP 5 rfl rfl 0 (by decide) (hT _ k_60) (fun _ h9 => h9) rfl d_T_price_9 ?_
    refine lv_iload_n hx hb d_T_price_12 rfl (lv_at hl 1 rfl) ?_
    obtain ⟨j4, ej6, hi5, hf⟩ := ix_some hf
    refine xa_iald hx hb hK hP 6 1 rfl rfl ej6 hi5 d_T_price_13 ?_
    refine lv_goto (tgt := 18) hx hb d_T_price_14 (by decide) ?_
    exact W.iret hx hb hr (fun t ht _ => ⟨_, rfl, Option.some.inj hf, ht⟩) (fun _ h => absurd h List.not_mem_nil) d_T_price_18
set_option maxHeartbeats 4000000 in
set_option maxRecDepth 100000 in
theorem c_T_unanswered (l : Launch) (dC : Nat → ClassId) (dI : Nat → Nat → Nat) (cs : Nat → ClassId) (a : Nat → Nat) (st : XS) (p1 : Int32) (res : Int32) (hf : x_T_unanswered st p1 = some res) : Met l (⟨"GuideSearch$Tests", "unanswered", "(I)I"⟩ : MethodName) (Cond.code (⟨"GuideSearch$Tests", "unanswered", "(I)I"⟩ : MethodName) prog_5_method_10_code 4 (some .int) :: wg) { frames := 1, cells := 0, slots := 0, locals := 21 } (va_Pc ([.ref (a 5), .int p1] : List Value) (x_pre dC dI cs a st)) (vp_Si (fun r => r = res)) 0 0 (fun _ => False) := by
  refine ro_start (cc := prog_5_method_10_code) (maxL := 4) (ret := (some .int)) (by decide) (Nat.le_of_ble_eq_true rfl) ?_
  intro p e s m below meth c hx hb hr hml hT hown hlocks hB ls hl
  replace hown : s.vm.findClass "GuideSearch$Tests" = some m.cls := hown
  obtain ⟨hP, hK, hN⟩ := hB
  replace hl : lv_has ls 4 [(0, .ref (a 5)), (1, .int p1)] := hl
  unfold x_T_unanswered at hf
  refine lv_iconst (v := (0 : Int32)) hx hb d_T_unanswered_0 (by decide) ?_
  refine lv_istore_n (lv' := [(2, .int (0 : Int32)), (0, .ref (a 5)), (1, .int p1)]) hx hb d_T_unanswered_1 rfl hl (by decide) rfl (fun ls hl => ?_)
  refine lv_iconst (v := (1 : Int32)) hx hb d_T_unanswered_2 (by decide) ?_
  refine lv_istore_n (lv' := [(3, .int (1 : Int32)), (2, .int (0 : Int32)), (0, .ref (a 5)), (1, .int p1)]) hx hb d_T_unanswered_3 rfl hl (by decide) rfl (fun ls hl => ?_)
  have loop1 : ∀ (n : Nat) (v1 : Int32) (v2 : Int32), xl2 (x_T_unanswered_B1 st p1) n v1 v2 = some res → ∀ (ls : Array Slot), lv_has ls 4 [(3, .int v1), (2, .int v2), (0, .ref (a 5)), (1, .int p1)] → W p l e { frames := 1, cells := 0, slots := 0, locals := 21 } s m ([.ref (a 5), .int p1] : List Value).toArray below meth c s.heap [] 0 0 (MQ below (vp_Si (fun r => r = res)) ([.ref (a 5), .int p1] : List Value).toArray s 0 0 (fun _ => False)) (F0 m 4 ls []) := by
    intro n
    induction n with
    | zero => intro v1 v2 hf; exact absurd hf (by simp [xl2])
    | succ n ih1 =>
      intro v1 v2 hf ls hl
      replace hf : (x_T_unanswered_B1 st p1) (xl2 (x_T_unanswered_B1 st p1) n) v1 v2 = some res := hf
      generalize xl2 (x_T_unanswered_B1 st p1) n = self1 at hf ih1
      unfold x_T_unanswered_B1 at hf
      refine lv_iload_n hx hb d_T_unanswered_4 rfl (lv_at hl 0 rfl) ?_
      refine lv_aload_n hx hb d_T_unanswered_5 rfl (lv_at hl 2 rfl) ?_
      refine va_get (D := (dC, dI)) (ci := 2) (v := .int (x_tN st)) (C := "GuideSearch$Tests") (T := F_T) (N := 4) hx hb hT i_T hown hK hP 5 rfl rfl 3 (by decide) (hT _ k_63) (fun _ h9 => h9) rfl d_T_unanswered_6 ?_
      refine lv_icmp_gt (tgt := 35) hx hb d_T_unanswered_9 (by decide) (fun c3 => ?_) (fun c3 => ?_)
      · rw [if_pos c3] at hf
        refine lv_iload_n hx hb d_T_unanswered_35 rfl (lv_at hl 1 rfl) ?_
        exact W.iret hx hb hr (fun t ht _ => ⟨_, rfl, Option.some.inj hf, ht⟩) (fun _ h => absurd h List.not_mem_nil) d_T_unanswered_36
      · rw [if_neg c3] at hf
        refine lv_iload_n hx hb d_T_unanswered_12 rfl (lv_at hl 1 rfl) ?_
        refine lv_iload_n hx hb d_T_unanswered_13 rfl (lv_at hl 3 rfl) ?_
        refine lv_iload_n hx hb d_T_unanswered_14 rfl (lv_at hl 0 rfl) ?_
        obtain ⟨r5, hr4, hf⟩ := ob hf
        refine ro_calli (va_runSN (As := [.int p1, .int v1]) (rest := [.int v2]) ⟨hx, hb, hml, hown, hT⟩ (c_G_answerIn l p1 v1 r5 hr4) ⟨va_cnB 2 hT (gcode k_203) rfl rfl rfl (hN _ k_241) (hT _ k_1) (by decide +kernel) ⟨Nat.le_of_ble_eq_true rfl, Nat.le_of_ble_eq_true rfl⟩, hT _ k_202, trivial⟩ ⟨fun _ _ _ _ q => q, fun _ _ _ => ⟨rfl, trivial⟩⟩ rfl rfl hl.1 rfl (lv_room (Nat.le_of_ble_eq_true rfl)) d_T_unanswered_15 ⟨Nat.le_of_ble_eq_true rfl, Nat.le_of_ble_eq_true rfl⟩) ?_
        refine lv_iconst (v := (-1 : Int32)) hx hb d_T_unanswered_18 (by decide) ?_
        refine lv_icmp_ne (tgt := 26) hx hb d_T_unanswered_19 (by decide) (fun c6 => ?_) (fun c6 => ?_)
        · rw [if_neg c6] at hf
          refine lv_iconst (v := (0 : Int32)) hx hb d_T_unanswered_26 (by decide) ?_
          refine lv_iadd hx hb d_T_unanswered_27 ?_
          refine lv_istore_n (lv' := [(2, .int (v2 + (0 : Int32))), (3, .int v1), (0, .ref (a 5)), (1, .int p1)]) hx hb d_T_unanswered_28 rfl hl (by decide) rfl (fun ls hl => ?_)
          refine lv_iinc (v := (v1 + 1)) (lv' := [(3, .int (v1 + 1)), (2, .int (v2 + (0 : Int32))), (0, .ref (a 5)), (1, .int p1)]) hx hb d_T_unanswered_29 hl (k := 1) rfl rfl (by decide) rfl (fun ls hl => ?_)
          refine lv_goto (tgt := 4) hx hb d_T_unanswered_32 (by decide) ?_
          exact ih1 (v1 + 1) (v2 + (0 : Int32)) hf ls (lv_sub hl [0, 1, 2, 3] rfl)
        · rw [if_pos c6] at hf
          refine lv_iconst (v := (1 : Int32)) hx hb d_T_unanswered_22 (by decide) ?_
          refine lv_goto (tgt := 27) hx hb d_T_unanswered_23 (by decide) ?_
          refine lv_iadd hx hb d_T_unanswered_27 ?_
          refine lv_istore_n (lv' := [(2, .int (v2 + (1 : Int32))), (3, .int v1), (0, .ref (a 5)), (1, .int p1)]) hx hb d_T_unanswered_28 rfl hl (by decide) rfl (fun ls hl => ?_)
          refine lv_iinc (v := (v1 + 1)) (lv' := [(3, .int (v1 + 1)), (2, .int (v2 + (1 : Int32))), (0, .ref (a 5)), (1, .int p1)]) hx hb d_T_unanswered_29 hl (k := 1) rfl rfl (by decide) rfl (fun ls hl => ?_)
          refine lv_goto (tgt := 4) hx hb d_T_unanswered_32 (by decide) ?_
          exact ih1 (v1 + 1) (v2 + (1 : Int32)) hf ls (lv_sub hl [0, 1, 2, 3] rfl)
  exact loop1 _ (1 : Int32) (0 : Int32) hf ls (lv_sub hl [0, 1, 2, 3] rfl)
set_option maxHeartbeats 4000000 in
set_option maxRecDepth 100000 in
theorem c_T_tellsApart (l : Launch) (dC : Nat → ClassId) (dI : Nat → Nat → Nat) (cs : Nat → ClassId) (a : Nat → Nat) (st : XS) (p1 : Int32) (p2 : Int32) (res : Int32) (hf : x_T_tellsApart st p1 p2 = some res) : Met l (⟨"GuideSearch$Tests", "tellsApart", "(II)Z"⟩ : MethodName) (Cond.code (⟨"GuideSearch$Tests", "tellsApart", "(II)Z"⟩ : MethodName) prog_5_method_13_code 5 (some .boolean) :: wg) { frames := 2, cells := 0, slots := 0, locals := 41 } (va_Pc ([.ref (a 5), .int p1, .int p2] : List Value) (x_pre dC dI cs a st)) (vp_Si (fun r => r = res)) 0 0 (fun _ => False) := by
  refine ro_start (cc := prog_5_method_13_code) (maxL := 5) (ret := (some .boolean)) (by decide) (Nat.le_of_ble_eq_true rfl) ?_
  intro p e s m below meth c hx hb hr hml hT hown hlocks hB ls hl
  replace hown : s.vm.findClass "GuideSearch$Tests" = some m.cls := hown
  obtain ⟨hP, hK, hN⟩ := hB
  replace hl : lv_has ls 5 [(0, .ref (a 5)), (1, .int p1), (2, .int p2)] := hl
  unfold x_T_tellsApart at hf
  refine lv_aload_n hx hb d_T_tellsApart_0 rfl (lv_at hl 0 rfl) ?_
  refine lv_iload_n hx hb d_T_tellsApart_1 rfl (lv_at hl 1 rfl) ?_
  obtain ⟨r2, hr1, hf⟩ := ob hf
  refine ro_calli (va_runV (C := "GuideSearch$Tests") (As := [.int p1]) (rest := []) ⟨hx, hb, hml, hown, hT⟩ (c_T_knows l dC dI cs a st p1 r2 hr1) (cwV 1 hT (gV k_199 k_173 k_174 k_3 k_175) rfl rfl rfl (by decide +kernel) ⟨Nat.le_of_ble_eq_true rfl, Nat.le_of_ble_eq_true rfl⟩) (ro_preV hP hK hN (va_recv hK hP (ci := 2) (q0 := 5) rfl rfl)) rfl rfl hl.1 rfl (lv_room (Nat.le_of_ble_eq_true rfl)) d_T_tellsApart_2 ⟨Nat.le_of_ble_eq_true rfl, Nat.le_of_ble_eq_true rfl⟩) ?_
  refine lv_if_ne (tgt := 10) hx hb d_T_tellsApart_5 (by decide) (fun c3 => ?_) (fun c3 => ?_)
  · rw [if_neg c3] at hf
    refine lv_iconst (v := (0 : Int32)) hx hb d_T_tellsApart_10 (by decide) ?_
    refine lv_istore_n (lv' := [(3, .int (0 : Int32)), (0, .ref (a 5)), (1, .int p1), (2, .int p2)]) hx hb d_T_tellsApart_11 rfl hl (by decide) rfl (fun ls hl => ?_)
    refine lv_iconst (v := (1 : Int32)) hx hb d_T_tellsApart_12 (by decide) ?_
    refine lv_istore (lv' := [(4, .int (1 : Int32)), (3, .int (0 : Int32)), (0, .ref (a 5)), (1, .int p1), (2, .int p2)]) hx hb d_T_tellsApart_13 hl (by decide) rfl (fun ls hl => ?_)
    have loop1 : ∀ (n : Nat) (v4 : Int32) (v5 : Int32), xl2 (x_T_tellsApart_B1 st p1 p2) n v4 v5 = some res → ∀ (ls : Array Slot), lv_has ls 5 [(4, .int v4), (3, .int v5), (0, .ref (a 5)), (1, .int p1), (2, .int p2)] → W p l e { frames := 2, cells := 0, slots := 0, locals := 41 } s m ([.ref (a 5), .int p1, .int p2] : List Value).toArray below meth c s.heap [] 0 0 (MQ below (vp_Si (fun r => r = res)) ([.ref (a 5), .int p1, .int p2] : List Value).toArray s 0 0 (fun _ => False)) (F0 m 15 ls []) := by
      intro n
      induction n with
      | zero => intro v4 v5 hf; exact absurd hf (by simp [xl2])
      | succ n ih1 =>
        intro v4 v5 hf ls hl
        replace hf : (x_T_tellsApart_B1 st p1 p2) (xl2 (x_T_tellsApart_B1 st p1 p2) n) v4 v5 = some res := hf
        generalize xl2 (x_T_tellsApart_B1 st p1 p2) n = self1 at hf ih1
        unfold x_T_tellsApart_B1 at hf
        refine lv_iload hx hb d_T_tellsApart_15 (lv_at hl 0 rfl) ?_
        refine lv_bipush (v := (12 : Int32)) hx hb d_T_tellsApart_17 (by decide) ?_
        refine lv_icmp_gt (tgt := 72) hx hb d_T_tellsApart_19 (by decide) (fun c6 => ?_) (fun c6 => ?_)
        · rw [if_pos c6] at hf
          refine lv_iconst (v := (0 : Int32)) hx hb d_T_tellsApart_72 (by decide) ?_
          exact W.zret (ty := .boolean) hx hb hr (rfl) (fun t ht _ => ⟨_, rfl, Option.some.inj hf, ht⟩) (fun _ h => absurd h List.not_mem_nil) d_T_tellsApart_73
        · rw [if_neg c6] at hf
          refine lv_iload_n hx hb d_T_tellsApart_22 rfl (lv_at hl 4 rfl) ?_
          refine lv_iload hx hb d_T_tellsApart_23 (lv_at hl 0 rfl) ?_
          obtain ⟨r8, hr7, hf⟩ := ob hf
          refine ro_calli (va_runSN (As := [.int p2, .int v4]) (rest := []) ⟨hx, hb, hml, hown, hT⟩ (c_G_holds l p2 v4 r8 hr7) ⟨va_cnB 2 hT (gcode k_218) rfl rfl rfl (hN _ k_216) (hT _ k_1) (by decide +kernel) ⟨Nat.le_of_ble_eq_true rfl, Nat.le_of_ble_eq_true rfl⟩, hT _ k_217, trivial⟩ ⟨fun _ _ _ _ q => q, fun _ _ _ => ⟨rfl, trivial⟩⟩ rfl rfl hl.1 rfl (lv_room (Nat.le_of_ble_eq_true rfl)) d_T_tellsApart_25 ⟨Nat.le_of_ble_eq_true rfl, Nat.le_of_ble_eq_true rfl⟩) ?_
          refine lv_if_ne (tgt := 34) hx hb d_T_tellsApart_28 (by decide) (fun c9 => ?_) (fun c9 => ?_)
          · rw [if_neg c9] at hf
            refine lv_iload_n hx hb d_T_tellsApart_34 rfl (lv_at hl 1 rfl) ?_
            refine lv_if_ne (tgt := 44) hx hb d_T_tellsApart_35 (by decide) (fun c10 => ?_) (fun c10 => ?_)
            · rw [if_neg c10] at hf
              refine lv_aload_n hx hb d_T_tellsApart_44 rfl (lv_at hl 2 rfl) ?_
              refine va_get (D := (dC, dI)) (ci := 2) (v := .ref (a 8)) (C := "GuideSearch$Tests") (T := F_T) (N := 4) hx hb hT i_T hown hK hP 5 rfl rfl 2 (by decide) (hT _ k_62) (fun _ h9 => h9) rfl d_T_tellsApart_45 ?_
              refine lv_iload_n hx hb d_T_tellsApart_48 rfl (lv_at hl 3 rfl) ?_
              obtain ⟨j11, ej13, hi12, hf⟩ := ix_some hf
              refine xa_aald hx hb hK hP 8 3 rfl rfl ej13 hi12 (if_pos (ix_lt ej13 hi12)) d_T_tellsApart_49 ?_
              have hj11 : j11 < 6 := ix_lt ej13 hi12
              refine lv_iload hx hb d_T_tellsApart_50 (lv_at hl 0 rfl) ?_
              obtain ⟨j15, ej17, hi16, hf⟩ := ix_some hf
              refine xa_iald hx hb hK hP (9 + j11) 1 (x_tab_row cs a st hj11) rfl ej17 hi16 d_T_tellsApart_52 ?_
              refine lv_aload_n hx hb d_T_tellsApart_53 rfl (lv_at hl 2 rfl) ?_
              refine va_get (D := (dC, dI)) (ci := 2) (v := .ref (a 8)) (C := "GuideSearch$Tests") (T := F_T) (N := 4) hx hb hT i_T hown hK hP 5 rfl rfl 2 (by decide) (hT _ k_62) (fun _ h9 => h9) rfl d_T_tellsApart_54 ?_
              refine lv_iload_n hx hb d_T_tellsApart_57 rfl (lv_at hl 3 rfl) ?_
              obtain ⟨j18, ej20, hi19, hf⟩ := ix_some hf
              refine xa_aald hx hb hK hP 8 3 rfl rfl ej20 hi19 (if_pos (ix_lt ej20 hi19)) d_T_tellsApart_58 ?_
              have hj18 : j18 < 6 := ix_lt ej20 hi19
              refine lv_iload_n hx hb d_T_tellsApart_59 rfl (lv_at hl 1 rfl) ?_
              obtain ⟨j22, ej24, hi23, hf⟩ := ix_some hf
              refine xa_iald hx hb hK hP (9 + j18) 1 (x_tab_row cs a st hj18) rfl ej24 hi23 d_T_tellsApart_60 ?_
              refine lv_icmp_eq (tgt := 66) hx hb d_T_tellsApart_61 (by decide) (fun c25 => ?_) (fun c25 => ?_)
              · rw [if_pos c25] at hf
                refine lv_iinc (v := (v4 + 1)) (lv' := [(4, .int (v4 + 1)), (3, .int v5), (0, .ref (a 5)), (1, .int p1), (2, .int p2)]) hx hb d_T_tellsApart_66 hl (k := 0) rfl rfl (by decide) rfl (fun ls hl => ?_)
                refine lv_goto (tgt := 15) hx hb d_T_tellsApart_69 (by decide) ?_
                exact ih1 (v4 + 1) v5 hf ls (lv_sub hl [0, 1, 2, 3, 4] rfl)
              · rw [if_neg c25] at hf
                refine lv_iconst (v := (1 : Int32)) hx hb d_T_tellsApart_64 (by decide) ?_
                exact W.zret (ty := .boolean) hx hb hr (rfl) (fun t ht _ => ⟨_, rfl, Option.some.inj hf, ht⟩) (fun _ h => absurd h List.not_mem_nil) d_T_tellsApart_65
            · rw [if_pos c10] at hf
              refine lv_iload hx hb d_T_tellsApart_38 (lv_at hl 0 rfl) ?_
              refine lv_istore_n (lv' := [(3, .int v4), (4, .int v4), (0, .ref (a 5)), (1, .int p1), (2, .int p2)]) hx hb d_T_tellsApart_40 rfl hl (by decide) rfl (fun ls hl => ?_)
              refine lv_goto (tgt := 66) hx hb d_T_tellsApart_41 (by decide) ?_
              refine lv_iinc (v := (v4 + 1)) (lv' := [(4, .int (v4 + 1)), (3, .int v4), (0, .ref (a 5)), (1, .int p1), (2, .int p2)]) hx hb d_T_tellsApart_66 hl (k := 1) rfl rfl (by decide) rfl (fun ls hl => ?_)
              refine lv_goto (tgt := 15) hx hb d_T_tellsApart_69 (by decide) ?_
              exact ih1 (v4 + 1) v4 hf ls (lv_sub hl [0, 1, 2, 3, 4] rfl)
          · rw [if_pos c9] at hf
            refine lv_goto (tgt := 66) hx hb d_T_tellsApart_31 (by decide) ?_
            refine lv_iinc (v := (v4 + 1)) (lv' := [(4, .int (v4 + 1)), (3, .int v5), (0, .ref (a 5)), (1, .int p1), (2, .int p2)]) hx hb d_T_tellsApart_66 hl (k := 0) rfl rfl (by decide) rfl (fun ls hl => ?_)
            refine lv_goto (tgt := 15) hx hb d_T_tellsApart_69 (by decide) ?_
            exact ih1 (v4 + 1) v5 hf ls (lv_sub hl [0, 1, 2, 3, 4] rfl)
    exact loop1 _ (1 : Int32) (0 : Int32) hf ls (lv_sub hl [0, 1, 2, 3, 4] rfl)
  · rw [if_pos c3] at hf
    refine lv_iconst (v := (0 : Int32)) hx hb d_T_tellsApart_8 (by decide) ?_
    exact W.zret (ty := .boolean) hx hb hr (rfl) (fun t ht _ => ⟨_, rfl, Option.some.inj hf, ht⟩) (fun _ h => absurd h List.not_mem_nil) d_T_tellsApart_9
end
section
theorem d_K_weightOf_0 : decode prog_2_method_2_code 0 = .ok (.aload_n 0, 1) := by decide +kernel
theorem d_K_weightOf_1 : decode prog_2_method_2_code 1 = .ok (.getfield 9, 3) := by decide +kernel
theorem d_K_weightOf_4 : decode prog_2_method_2_code 4 = .ok (.iload_n 1, 1) := by decide +kernel
theorem d_K_weightOf_5 : decode prog_2_method_2_code 5 = .ok (.invokevirtual 19, 3) := by decide +kernel
theorem d_K_weightOf_8 : decode prog_2_method_2_code 8 = .ok (.ldc2_w 25, 3) := by decide +kernel
theorem d_K_weightOf_11 : decode prog_2_method_2_code 11 = .ok (.lmul, 1) := by decide +kernel
theorem d_K_weightOf_12 : decode prog_2_method_2_code 12 = .ok (.lstore_n 3, 1) := by decide +kernel
theorem d_K_weightOf_13 : decode prog_2_method_2_code 13 = .ok (.iconst 1, 1) := by decide +kernel
theorem d_K_weightOf_14 : decode prog_2_method_2_code 14 = .ok (.istore 5, 2) := by decide +kernel
theorem d_K_weightOf_16 : decode prog_2_method_2_code 16 = .ok (.iload 5, 2) := by decide +kernel
theorem d_K_weightOf_18 : decode prog_2_method_2_code 18 = .ok (.aload_n 0, 1) := by decide +kernel
theorem d_K_weightOf_19 : decode prog_2_method_2_code 19 = .ok (.getfield 15, 3) := by decide +kernel
theorem d_K_weightOf_22 : decode prog_2_method_2_code 22 = .ok (.getfield 27, 3) := by decide +kernel
theorem d_K_weightOf_25 : decode prog_2_method_2_code 25 = .ok (.if_icmp .gt 43, 3) := by decide +kernel
theorem d_K_weightOf_28 : decode prog_2_method_2_code 28 = .ok (.iload_n 2, 1) := by decide +kernel
theorem d_K_weightOf_29 : decode prog_2_method_2_code 29 = .ok (.iload 5, 2) := by decide +kernel
theorem d_K_weightOf_31 : decode prog_2_method_2_code 31 = .ok (.invokestatic 33, 3) := by decide +kernel
theorem d_K_weightOf_34 : decode prog_2_method_2_code 34 = .ok (.istore 6, 2) := by decide +kernel
theorem d_K_weightOf_36 : decode prog_2_method_2_code 36 = .ok (.iload 6, 2) := by decide +kernel
theorem d_K_weightOf_38 : decode prog_2_method_2_code 38 = .ok (.iconst (-1), 1) := by decide +kernel
theorem d_K_weightOf_39 : decode prog_2_method_2_code 39 = .ok (.if_icmp .eq 23, 3) := by decide +kernel
theorem d_K_weightOf_42 : decode prog_2_method_2_code 42 = .ok (.lload_n 3, 1) := by decide +kernel
theorem d_K_weightOf_43 : decode prog_2_method_2_code 43 = .ok (.ldc2_w 37, 3) := by decide +kernel
theorem d_K_weightOf_46 : decode prog_2_method_2_code 46 = .ok (.ldiv, 1) := by decide +kernel
theorem d_K_weightOf_47 : decode prog_2_method_2_code 47 = .ok (.aload_n 0, 1) := by decide +kernel
theorem d_K_weightOf_48 : decode prog_2_method_2_code 48 = .ok (.getfield 15, 3) := by decide +kernel
theorem d_K_weightOf_51 : decode prog_2_method_2_code 51 = .ok (.iload 5, 2) := by decide +kernel
theorem d_K_weightOf_53 : decode prog_2_method_2_code 53 = .ok (.iload_n 1, 1) := by decide +kernel
theorem d_K_weightOf_54 : decode prog_2_method_2_code 54 = .ok (.iload 6, 2) := by decide +kernel
theorem d_K_weightOf_56 : decode prog_2_method_2_code 56 = .ok (.invokevirtual 39, 3) := by decide +kernel
theorem d_K_weightOf_59 : decode prog_2_method_2_code 59 = .ok (.i2l, 1) := by decide +kernel
theorem d_K_weightOf_60 : decode prog_2_method_2_code 60 = .ok (.lmul, 1) := by decide +kernel
theorem d_K_weightOf_61 : decode prog_2_method_2_code 61 = .ok (.lstore_n 3, 1) := by decide +kernel
theorem d_K_weightOf_62 : decode prog_2_method_2_code 62 = .ok (.iinc 5 1, 3) := by decide +kernel
theorem d_K_weightOf_65 : decode prog_2_method_2_code 65 = .ok (.goto (-49), 3) := by decide +kernel
theorem d_K_weightOf_68 : decode prog_2_method_2_code 68 = .ok (.lload_n 3, 1) := by decide +kernel
theorem d_K_weightOf_69 : decode prog_2_method_2_code 69 = .ok (.lreturn, 1) := by decide +kernel
theorem d_K_left_0 : decode prog_2_method_5_code 0 = .ok (.iconst 0, 1) := by decide +kernel
theorem d_K_left_1 : decode prog_2_method_5_code 1 = .ok (.istore_n 2, 1) := by decide +kernel
theorem d_K_left_2 : decode prog_2_method_5_code 2 = .ok (.iconst 1, 1) := by decide +kernel
theorem d_K_left_3 : decode prog_2_method_5_code 3 = .ok (.istore_n 3, 1) := by decide +kernel
theorem d_K_left_4 : decode prog_2_method_5_code 4 = .ok (.iload_n 3, 1) := by decide +kernel
theorem d_K_left_5 : decode prog_2_method_5_code 5 = .ok (.aload_n 0, 1) := by decide +kernel
theorem d_K_left_6 : decode prog_2_method_5_code 6 = .ok (.getfield 9, 3) := by decide +kernel
theorem d_K_left_9 : decode prog_2_method_5_code 9 = .ok (.getfield 43, 3) := by decide +kernel
theorem d_K_left_12 : decode prog_2_method_5_code 12 = .ok (.if_icmp .gt 31, 3) := by decide +kernel
theorem d_K_left_15 : decode prog_2_method_5_code 15 = .ok (.iload_n 2, 1) := by decide +kernel
theorem d_K_left_16 : decode prog_2_method_5_code 16 = .ok (.aload_n 0, 1) := by decide +kernel
theorem d_K_left_17 : decode prog_2_method_5_code 17 = .ok (.iload_n 3, 1) := by decide +kernel
theorem d_K_left_18 : decode prog_2_method_5_code 18 = .ok (.iload_n 1, 1) := by decide +kernel
theorem d_K_left_19 : decode prog_2_method_5_code 19 = .ok (.invokevirtual 44, 3) := by decide +kernel
theorem d_K_left_22 : decode prog_2_method_5_code 22 = .ok (.lconst 0, 1) := by decide +kernel
theorem d_K_left_23 : decode prog_2_method_5_code 23 = .ok (.lcmp, 1) := by decide +kernel
theorem d_K_left_24 : decode prog_2_method_5_code 24 = .ok (.ifCond .le 10, 3) := by decide +kernel
theorem d_K_left_27 : decode prog_2_method_5_code 27 = .ok (.iload_n 3, 1) := by decide +kernel
theorem d_K_left_28 : decode prog_2_method_5_code 28 = .ok (.invokestatic 54, 3) := by decide +kernel
theorem d_K_left_31 : decode prog_2_method_5_code 31 = .ok (.goto 4, 3) := by decide +kernel
theorem d_K_left_34 : decode prog_2_method_5_code 34 = .ok (.iconst 0, 1) := by decide +kernel
theorem d_K_left_35 : decode prog_2_method_5_code 35 = .ok (.ior, 1) := by decide +kernel
theorem d_K_left_36 : decode prog_2_method_5_code 36 = .ok (.istore_n 2, 1) := by decide +kernel
theorem d_K_left_37 : decode prog_2_method_5_code 37 = .ok (.iinc 3 1, 3) := by decide +kernel
theorem d_K_left_40 : decode prog_2_method_5_code 40 = .ok (.goto (-36), 3) := by decide +kernel
theorem d_K_left_43 : decode prog_2_method_5_code 43 = .ok (.iload_n 2, 1) := by decide +kernel
theorem d_K_left_44 : decode prog_2_method_5_code 44 = .ok (.ireturn, 1) := by decide +kernel
theorem d_K_weight_0 : decode prog_2_method_3_code 0 = .ok (.lconst 0, 1) := by decide +kernel
theorem d_K_weight_1 : decode prog_2_method_3_code 1 = .ok (.lstore_n 2, 1) := by decide +kernel
theorem d_K_weight_2 : decode prog_2_method_3_code 2 = .ok (.iconst 1, 1) := by decide +kernel
theorem d_K_weight_3 : decode prog_2_method_3_code 3 = .ok (.istore 4, 2) := by decide +kernel
theorem d_K_weight_5 : decode prog_2_method_3_code 5 = .ok (.iload 4, 2) := by decide +kernel
theorem d_K_weight_7 : decode prog_2_method_3_code 7 = .ok (.aload_n 0, 1) := by decide +kernel
theorem d_K_weight_8 : decode prog_2_method_3_code 8 = .ok (.getfield 9, 3) := by decide +kernel
theorem d_K_weight_11 : decode prog_2_method_3_code 11 = .ok (.getfield 43, 3) := by decide +kernel
theorem d_K_weight_14 : decode prog_2_method_3_code 14 = .ok (.if_icmp .gt 19, 3) := by decide +kernel
theorem d_K_weight_17 : decode prog_2_method_3_code 17 = .ok (.lload_n 2, 1) := by decide +kernel
theorem d_K_weight_18 : decode prog_2_method_3_code 18 = .ok (.aload_n 0, 1) := by decide +kernel
theorem d_K_weight_19 : decode prog_2_method_3_code 19 = .ok (.iload 4, 2) := by decide +kernel
theorem d_K_weight_21 : decode prog_2_method_3_code 21 = .ok (.iload_n 1, 1) := by decide +kernel
theorem d_K_weight_22 : decode prog_2_method_3_code 22 = .ok (.invokevirtual 44, 3) := by decide +kernel
theorem d_K_weight_25 : decode prog_2_method_3_code 25 = .ok (.ladd, 1) := by decide +kernel
theorem d_K_weight_26 : decode prog_2_method_3_code 26 = .ok (.lstore_n 2, 1) := by decide +kernel
theorem d_K_weight_27 : decode prog_2_method_3_code 27 = .ok (.iinc 4 1, 3) := by decide +kernel
theorem d_K_weight_30 : decode prog_2_method_3_code 30 = .ok (.goto (-25), 3) := by decide +kernel
theorem d_K_weight_33 : decode prog_2_method_3_code 33 = .ok (.lload_n 2, 1) := by decide +kernel
theorem d_K_weight_34 : decode prog_2_method_3_code 34 = .ok (.lreturn, 1) := by decide +kernel
theorem d_K_greatestWeight_0 : decode prog_2_method_4_code 0 = .ok (.lconst 0, 1) := by decide +kernel
theorem d_K_greatestWeight_1 : decode prog_2_method_4_code 1 = .ok (.lstore_n 2, 1) := by decide +kernel
theorem d_K_greatestWeight_2 : decode prog_2_method_4_code 2 = .ok (.iconst 1, 1) := by decide +kernel
theorem d_K_greatestWeight_3 : decode prog_2_method_4_code 3 = .ok (.istore 4, 2) := by decide +kernel
theorem d_K_greatestWeight_5 : decode prog_2_method_4_code 5 = .ok (.iload 4, 2) := by decide +kernel
theorem d_K_greatestWeight_7 : decode prog_2_method_4_code 7 = .ok (.aload_n 0, 1) := by decide +kernel
theorem d_K_greatestWeight_8 : decode prog_2_method_4_code 8 = .ok (.getfield 9, 3) := by decide +kernel
theorem d_K_greatestWeight_11 : decode prog_2_method_4_code 11 = .ok (.getfield 43, 3) := by decide +kernel
theorem d_K_greatestWeight_14 : decode prog_2_method_4_code 14 = .ok (.if_icmp .gt 21, 3) := by decide +kernel
theorem d_K_greatestWeight_17 : decode prog_2_method_4_code 17 = .ok (.lload_n 2, 1) := by decide +kernel
theorem d_K_greatestWeight_18 : decode prog_2_method_4_code 18 = .ok (.aload_n 0, 1) := by decide +kernel
theorem d_K_greatestWeight_19 : decode prog_2_method_4_code 19 = .ok (.iload 4, 2) := by decide +kernel
theorem d_K_greatestWeight_21 : decode prog_2_method_4_code 21 = .ok (.iload_n 1, 1) := by decide +kernel
theorem d_K_greatestWeight_22 : decode prog_2_method_4_code 22 = .ok (.invokevirtual 44, 3) := by decide +kernel
theorem d_K_greatestWeight_25 : decode prog_2_method_4_code 25 = .ok (.invokestatic 48, 3) := by decide +kernel
theorem d_K_greatestWeight_28 : decode prog_2_method_4_code 28 = .ok (.lstore_n 2, 1) := by decide +kernel
theorem d_K_greatestWeight_29 : decode prog_2_method_4_code 29 = .ok (.iinc 4 1, 3) := by decide +kernel
theorem d_K_greatestWeight_32 : decode prog_2_method_4_code 32 = .ok (.goto (-27), 3) := by decide +kernel
theorem d_K_greatestWeight_35 : decode prog_2_method_4_code 35 = .ok (.lload_n 2, 1) := by decide +kernel
theorem d_K_greatestWeight_36 : decode prog_2_method_4_code 36 = .ok (.lreturn, 1) := by decide +kernel
theorem d_K_usable_0 : decode prog_2_method_6_code 0 = .ok (.iload_n 2, 1) := by decide +kernel
theorem d_K_usable_1 : decode prog_2_method_6_code 1 = .ok (.invokestatic 58, 3) := by decide +kernel
theorem d_K_usable_4 : decode prog_2_method_6_code 4 = .ok (.iconst 2, 1) := by decide +kernel
theorem d_K_usable_5 : decode prog_2_method_6_code 5 = .ok (.if_icmp .ge 5, 3) := by decide +kernel
theorem d_K_usable_8 : decode prog_2_method_6_code 8 = .ok (.iconst 0, 1) := by decide +kernel
theorem d_K_usable_9 : decode prog_2_method_6_code 9 = .ok (.ireturn, 1) := by decide +kernel
theorem d_K_usable_10 : decode prog_2_method_6_code 10 = .ok (.iconst 0, 1) := by decide +kernel
theorem d_K_usable_11 : decode prog_2_method_6_code 11 = .ok (.istore_n 3, 1) := by decide +kernel
theorem d_K_usable_12 : decode prog_2_method_6_code 12 = .ok (.iconst 1, 1) := by decide +kernel
theorem d_K_usable_13 : decode prog_2_method_6_code 13 = .ok (.istore 4, 2) := by decide +kernel
theorem d_K_usable_15 : decode prog_2_method_6_code 15 = .ok (.iload 4, 2) := by decide +kernel
theorem d_K_usable_17 : decode prog_2_method_6_code 17 = .ok (.aload_n 0, 1) := by decide +kernel
theorem d_K_usable_18 : decode prog_2_method_6_code 18 = .ok (.getfield 15, 3) := by decide +kernel
theorem d_K_usable_21 : decode prog_2_method_6_code 21 = .ok (.getfield 27, 3) := by decide +kernel
theorem d_K_usable_24 : decode prog_2_method_6_code 24 = .ok (.if_icmp .gt 43, 3) := by decide +kernel
theorem d_K_usable_27 : decode prog_2_method_6_code 27 = .ok (.aload_n 0, 1) := by decide +kernel
theorem d_K_usable_28 : decode prog_2_method_6_code 28 = .ok (.getfield 15, 3) := by decide +kernel
theorem d_K_usable_31 : decode prog_2_method_6_code 31 = .ok (.iload 4, 2) := by decide +kernel
theorem d_K_usable_33 : decode prog_2_method_6_code 33 = .ok (.iload_n 1, 1) := by decide +kernel
theorem d_K_usable_34 : decode prog_2_method_6_code 34 = .ok (.invokevirtual 63, 3) := by decide +kernel
theorem d_K_usable_37 : decode prog_2_method_6_code 37 = .ok (.ifCond .eq 24, 3) := by decide +kernel
theorem d_K_usable_40 : decode prog_2_method_6_code 40 = .ok (.aload_n 0, 1) := by decide +kernel
theorem d_K_usable_41 : decode prog_2_method_6_code 41 = .ok (.getfield 15, 3) := by decide +kernel
theorem d_K_usable_44 : decode prog_2_method_6_code 44 = .ok (.iload 4, 2) := by decide +kernel
theorem d_K_usable_46 : decode prog_2_method_6_code 46 = .ok (.iload_n 2, 1) := by decide +kernel
theorem d_K_usable_47 : decode prog_2_method_6_code 47 = .ok (.invokevirtual 67, 3) := by decide +kernel
theorem d_K_usable_50 : decode prog_2_method_6_code 50 = .ok (.ifCond .eq 11, 3) := by decide +kernel
theorem d_K_usable_53 : decode prog_2_method_6_code 53 = .ok (.iload_n 3, 1) := by decide +kernel
theorem d_K_usable_54 : decode prog_2_method_6_code 54 = .ok (.iload 4, 2) := by decide +kernel
theorem d_K_usable_56 : decode prog_2_method_6_code 56 = .ok (.invokestatic 54, 3) := by decide +kernel
theorem d_K_usable_59 : decode prog_2_method_6_code 59 = .ok (.ior, 1) := by decide +kernel
theorem d_K_usable_60 : decode prog_2_method_6_code 60 = .ok (.istore_n 3, 1) := by decide +kernel
theorem d_K_usable_61 : decode prog_2_method_6_code 61 = .ok (.iinc 4 1, 3) := by decide +kernel
theorem d_K_usable_64 : decode prog_2_method_6_code 64 = .ok (.goto (-49), 3) := by decide +kernel
theorem d_K_usable_67 : decode prog_2_method_6_code 67 = .ok (.iload_n 3, 1) := by decide +kernel
theorem d_K_usable_68 : decode prog_2_method_6_code 68 = .ok (.ireturn, 1) := by decide +kernel
theorem d_K_firstFree_0 : decode prog_2_method_7_code 0 = .ok (.iconst 1, 1) := by decide +kernel
theorem d_K_firstFree_1 : decode prog_2_method_7_code 1 = .ok (.istore_n 2, 1) := by decide +kernel
theorem d_K_firstFree_2 : decode prog_2_method_7_code 2 = .ok (.iload_n 2, 1) := by decide +kernel
theorem d_K_firstFree_3 : decode prog_2_method_7_code 3 = .ok (.aload_n 0, 1) := by decide +kernel
theorem d_K_firstFree_4 : decode prog_2_method_7_code 4 = .ok (.getfield 15, 3) := by decide +kernel
theorem d_K_firstFree_7 : decode prog_2_method_7_code 7 = .ok (.getfield 27, 3) := by decide +kernel
theorem d_K_firstFree_10 : decode prog_2_method_7_code 10 = .ok (.if_icmp .gt 30, 3) := by decide +kernel
theorem d_K_firstFree_13 : decode prog_2_method_7_code 13 = .ok (.iload_n 1, 1) := by decide +kernel
theorem d_K_firstFree_14 : decode prog_2_method_7_code 14 = .ok (.iload_n 2, 1) := by decide +kernel
theorem d_K_firstFree_15 : decode prog_2_method_7_code 15 = .ok (.invokestatic 70, 3) := by decide +kernel
theorem d_K_firstFree_18 : decode prog_2_method_7_code 18 = .ok (.ifCond .eq 16, 3) := by decide +kernel
theorem d_K_firstFree_21 : decode prog_2_method_7_code 21 = .ok (.aload_n 0, 1) := by decide +kernel
theorem d_K_firstFree_22 : decode prog_2_method_7_code 22 = .ok (.getfield 15, 3) := by decide +kernel
theorem d_K_firstFree_25 : decode prog_2_method_7_code 25 = .ok (.iload_n 2, 1) := by decide +kernel
theorem d_K_firstFree_26 : decode prog_2_method_7_code 26 = .ok (.invokevirtual 73, 3) := by decide +kernel
theorem d_K_firstFree_29 : decode prog_2_method_7_code 29 = .ok (.ifCond .ne 5, 3) := by decide +kernel
theorem d_K_firstFree_32 : decode prog_2_method_7_code 32 = .ok (.iload_n 2, 1) := by decide +kernel
theorem d_K_firstFree_33 : decode prog_2_method_7_code 33 = .ok (.ireturn, 1) := by decide +kernel
theorem d_K_firstFree_34 : decode prog_2_method_7_code 34 = .ok (.iinc 2 1, 3) := by decide +kernel
theorem d_K_firstFree_37 : decode prog_2_method_7_code 37 = .ok (.goto (-35), 3) := by decide +kernel
theorem d_K_firstFree_40 : decode prog_2_method_7_code 40 = .ok (.iconst 0, 1) := by decide +kernel
theorem d_K_firstFree_41 : decode prog_2_method_7_code 41 = .ok (.ireturn, 1) := by decide +kernel
theorem d_K_gain_0 : decode prog_2_method_10_code 0 = .ok (.aload_n 0, 1) := by decide +kernel
theorem d_K_gain_1 : decode prog_2_method_10_code 1 = .ok (.iload_n 1, 1) := by decide +kernel
theorem d_K_gain_2 : decode prog_2_method_10_code 2 = .ok (.invokevirtual 91, 3) := by decide +kernel
theorem d_K_gain_5 : decode prog_2_method_10_code 5 = .ok (.lneg, 1) := by decide +kernel
theorem d_K_gain_6 : decode prog_2_method_10_code 6 = .ok (.lstore_n 3, 1) := by decide +kernel
theorem d_K_gain_7 : decode prog_2_method_10_code 7 = .ok (.iconst 0, 1) := by decide +kernel
theorem d_K_gain_8 : decode prog_2_method_10_code 8 = .ok (.istore 5, 2) := by decide +kernel
theorem d_K_gain_10 : decode prog_2_method_10_code 10 = .ok (.iload 5, 2) := by decide +kernel
theorem d_K_gain_12 : decode prog_2_method_10_code 12 = .ok (.iconst 3, 1) := by decide +kernel
theorem d_K_gain_13 : decode prog_2_method_10_code 13 = .ok (.if_icmp .ge 23, 3) := by decide +kernel
theorem d_K_gain_16 : decode prog_2_method_10_code 16 = .ok (.lload_n 3, 1) := by decide +kernel
theorem d_K_gain_17 : decode prog_2_method_10_code 17 = .ok (.aload_n 0, 1) := by decide +kernel
theorem d_K_gain_18 : decode prog_2_method_10_code 18 = .ok (.iload_n 1, 1) := by decide +kernel
theorem d_K_gain_19 : decode prog_2_method_10_code 19 = .ok (.iload_n 2, 1) := by decide +kernel
theorem d_K_gain_20 : decode prog_2_method_10_code 20 = .ok (.iload 5, 2) := by decide +kernel
theorem d_K_gain_22 : decode prog_2_method_10_code 22 = .ok (.invokestatic 94, 3) := by decide +kernel
theorem d_K_gain_25 : decode prog_2_method_10_code 25 = .ok (.invokevirtual 91, 3) := by decide +kernel
theorem d_K_gain_28 : decode prog_2_method_10_code 28 = .ok (.ladd, 1) := by decide +kernel
theorem d_K_gain_29 : decode prog_2_method_10_code 29 = .ok (.lstore_n 3, 1) := by decide +kernel
theorem d_K_gain_30 : decode prog_2_method_10_code 30 = .ok (.iinc 5 1, 3) := by decide +kernel
theorem d_K_gain_33 : decode prog_2_method_10_code 33 = .ok (.goto (-23), 3) := by decide +kernel
theorem d_K_gain_36 : decode prog_2_method_10_code 36 = .ok (.lload_n 3, 1) := by decide +kernel
theorem d_K_gain_37 : decode prog_2_method_10_code 37 = .ok (.lreturn, 1) := by decide +kernel
theorem d_K_bestGain_0 : decode prog_2_method_9_code 0 = .ok (.iconst 0, 1) := by decide +kernel
theorem d_K_bestGain_1 : decode prog_2_method_9_code 1 = .ok (.istore_n 3, 1) := by decide +kernel
theorem d_K_bestGain_2 : decode prog_2_method_9_code 2 = .ok (.lconst 0, 1) := by decide +kernel
theorem d_K_bestGain_3 : decode prog_2_method_9_code 3 = .ok (.lstore 4, 2) := by decide +kernel
theorem d_K_bestGain_5 : decode prog_2_method_9_code 5 = .ok (.iconst 1, 1) := by decide +kernel
theorem d_K_bestGain_6 : decode prog_2_method_9_code 6 = .ok (.istore 6, 2) := by decide +kernel
theorem d_K_bestGain_8 : decode prog_2_method_9_code 8 = .ok (.iload 6, 2) := by decide +kernel
theorem d_K_bestGain_10 : decode prog_2_method_9_code 10 = .ok (.aload_n 0, 1) := by decide +kernel
theorem d_K_bestGain_11 : decode prog_2_method_9_code 11 = .ok (.getfield 15, 3) := by decide +kernel
theorem d_K_bestGain_14 : decode prog_2_method_9_code 14 = .ok (.getfield 27, 3) := by decide +kernel
theorem d_K_bestGain_17 : decode prog_2_method_9_code 17 = .ok (.if_icmp .gt 70, 3) := by decide +kernel
theorem d_K_bestGain_20 : decode prog_2_method_9_code 20 = .ok (.iload_n 2, 1) := by decide +kernel
theorem d_K_bestGain_21 : decode prog_2_method_9_code 21 = .ok (.iload 6, 2) := by decide +kernel
theorem d_K_bestGain_23 : decode prog_2_method_9_code 23 = .ok (.invokestatic 70, 3) := by decide +kernel
theorem d_K_bestGain_26 : decode prog_2_method_9_code 26 = .ok (.ifCond .ne 6, 3) := by decide +kernel
theorem d_K_bestGain_29 : decode prog_2_method_9_code 29 = .ok (.goto 52, 3) := by decide +kernel
theorem d_K_bestGain_32 : decode prog_2_method_9_code 32 = .ok (.aload_n 0, 1) := by decide +kernel
theorem d_K_bestGain_33 : decode prog_2_method_9_code 33 = .ok (.iload_n 1, 1) := by decide +kernel
theorem d_K_bestGain_34 : decode prog_2_method_9_code 34 = .ok (.iload 6, 2) := by decide +kernel
theorem d_K_bestGain_36 : decode prog_2_method_9_code 36 = .ok (.invokevirtual 88, 3) := by decide +kernel
theorem d_K_bestGain_39 : decode prog_2_method_9_code 39 = .ok (.lstore 7, 2) := by decide +kernel
theorem d_K_bestGain_41 : decode prog_2_method_9_code 41 = .ok (.iload_n 3, 1) := by decide +kernel
theorem d_K_bestGain_42 : decode prog_2_method_9_code 42 = .ok (.ifCond .eq 32, 3) := by decide +kernel
theorem d_K_bestGain_45 : decode prog_2_method_9_code 45 = .ok (.lload 7, 2) := by decide +kernel
theorem d_K_bestGain_47 : decode prog_2_method_9_code 47 = .ok (.aload_n 0, 1) := by decide +kernel
theorem d_K_bestGain_48 : decode prog_2_method_9_code 48 = .ok (.getfield 15, 3) := by decide +kernel
theorem d_K_bestGain_51 : decode prog_2_method_9_code 51 = .ok (.iload_n 3, 1) := by decide +kernel
theorem d_K_bestGain_52 : decode prog_2_method_9_code 52 = .ok (.invokevirtual 73, 3) := by decide +kernel
theorem d_K_bestGain_55 : decode prog_2_method_9_code 55 = .ok (.i2l, 1) := by decide +kernel
theorem d_K_bestGain_56 : decode prog_2_method_9_code 56 = .ok (.lmul, 1) := by decide +kernel
theorem d_K_bestGain_57 : decode prog_2_method_9_code 57 = .ok (.lload 4, 2) := by decide +kernel
theorem d_K_bestGain_59 : decode prog_2_method_9_code 59 = .ok (.aload_n 0, 1) := by decide +kernel
theorem d_K_bestGain_60 : decode prog_2_method_9_code 60 = .ok (.getfield 15, 3) := by decide +kernel
theorem d_K_bestGain_63 : decode prog_2_method_9_code 63 = .ok (.iload 6, 2) := by decide +kernel
theorem d_K_bestGain_65 : decode prog_2_method_9_code 65 = .ok (.invokevirtual 73, 3) := by decide +kernel
theorem d_K_bestGain_68 : decode prog_2_method_9_code 68 = .ok (.i2l, 1) := by decide +kernel
theorem d_K_bestGain_69 : decode prog_2_method_9_code 69 = .ok (.lmul, 1) := by decide +kernel
theorem d_K_bestGain_70 : decode prog_2_method_9_code 70 = .ok (.lcmp, 1) := by decide +kernel
theorem d_K_bestGain_71 : decode prog_2_method_9_code 71 = .ok (.ifCond .le 10, 3) := by decide +kernel
theorem d_K_bestGain_74 : decode prog_2_method_9_code 74 = .ok (.iload 6, 2) := by decide +kernel
theorem d_K_bestGain_76 : decode prog_2_method_9_code 76 = .ok (.istore_n 3, 1) := by decide +kernel
theorem d_K_bestGain_77 : decode prog_2_method_9_code 77 = .ok (.lload 7, 2) := by decide +kernel
theorem d_K_bestGain_79 : decode prog_2_method_9_code 79 = .ok (.lstore 4, 2) := by decide +kernel
theorem d_K_bestGain_81 : decode prog_2_method_9_code 81 = .ok (.iinc 6 1, 3) := by decide +kernel
theorem d_K_bestGain_84 : decode prog_2_method_9_code 84 = .ok (.goto (-76), 3) := by decide +kernel
theorem d_K_bestGain_87 : decode prog_2_method_9_code 87 = .ok (.iload_n 3, 1) := by decide +kernel
theorem d_K_bestGain_88 : decode prog_2_method_9_code 88 = .ok (.ireturn, 1) := by decide +kernel
theorem d_K_oneStep_0 : decode prog_2_method_8_code 0 = .ok (.aload_n 0, 1) := by decide +kernel
theorem d_K_oneStep_1 : decode prog_2_method_8_code 1 = .ok (.iload_n 1, 1) := by decide +kernel
theorem d_K_oneStep_2 : decode prog_2_method_8_code 2 = .ok (.aload_n 0, 1) := by decide +kernel
theorem d_K_oneStep_3 : decode prog_2_method_8_code 3 = .ok (.iload_n 1, 1) := by decide +kernel
theorem d_K_oneStep_4 : decode prog_2_method_8_code 4 = .ok (.invokevirtual 76, 3) := by decide +kernel
theorem d_K_oneStep_7 : decode prog_2_method_8_code 7 = .ok (.invokevirtual 79, 3) := by decide +kernel
theorem d_K_oneStep_10 : decode prog_2_method_8_code 10 = .ok (.istore_n 2, 1) := by decide +kernel
theorem d_K_oneStep_11 : decode prog_2_method_8_code 11 = .ok (.aload_n 0, 1) := by decide +kernel
theorem d_K_oneStep_12 : decode prog_2_method_8_code 12 = .ok (.iload_n 2, 1) := by decide +kernel
theorem d_K_oneStep_13 : decode prog_2_method_8_code 13 = .ok (.invokevirtual 82, 3) := by decide +kernel
theorem d_K_oneStep_16 : decode prog_2_method_8_code 16 = .ok (.istore_n 3, 1) := by decide +kernel
theorem d_K_oneStep_17 : decode prog_2_method_8_code 17 = .ok (.iload_n 3, 1) := by decide +kernel
theorem d_K_oneStep_18 : decode prog_2_method_8_code 18 = .ok (.ifCond .eq 7, 3) := by decide +kernel
theorem d_K_oneStep_21 : decode prog_2_method_8_code 21 = .ok (.iload_n 3, 1) := by decide +kernel
theorem d_K_oneStep_22 : decode prog_2_method_8_code 22 = .ok (.goto 9, 3) := by decide +kernel
theorem d_K_oneStep_25 : decode prog_2_method_8_code 25 = .ok (.aload_n 0, 1) := by decide +kernel
theorem d_K_oneStep_26 : decode prog_2_method_8_code 26 = .ok (.iload_n 1, 1) := by decide +kernel
theorem d_K_oneStep_27 : decode prog_2_method_8_code 27 = .ok (.iload_n 2, 1) := by decide +kernel
theorem d_K_oneStep_28 : decode prog_2_method_8_code 28 = .ok (.invokevirtual 85, 3) := by decide +kernel
theorem d_K_oneStep_31 : decode prog_2_method_8_code 31 = .ok (.ireturn, 1) := by decide +kernel
end
section
def x_K_weightOf_B1 (st : XS) (p1 : Int32) (p2 : Int32) (self1 : Int32 → Int64 → Option (Int64)) (v3 : Int32) (v4 : Int64) : Option (Int64) :=
  if (x_tN st) < v3 then
    some v4
  else
    (x_G_answerIn p2 v3).bind fun r7 =>
    if r7 = (-1 : Int32) then
      self1 (v3 + 1) v4
    else
      (x_T_twelfths st v3 p1 r7).bind fun r10 =>
      self1 (v3 + 1) ((v4 / (12 : Int64)) * r10.toInt64)
def x_K_weightOf (st : XS) (p1 : Int32) (p2 : Int32) : Option (Int64) :=
  (x_C_prior st p1).bind fun r2 =>
  xl2 (x_K_weightOf_B1 st p1 p2) 14 (1 : Int32) (r2 * (248832 : Int64))
def x_K_left_B1 (st : XS) (p1 : Int32) (self1 : Int32 → Int32 → Option (Int32)) (v1 : Int32) (v2 : Int32) : Option (Int32) :=
  if (x_cN st) < v1 then
    some v2
  else
    (x_K_weightOf st v1 p1).bind fun r5 =>
    if r5 ≤ (0 : Int64) then
      self1 (v1 + 1) (v2 ||| (0 : Int32))
    else
      (x_G_bit v1).bind fun r8 =>
      self1 (v1 + 1) (v2 ||| r8)
def x_K_left (st : XS) (p1 : Int32) : Option (Int32) :=
  xl2 (x_K_left_B1 st p1) 14 (1 : Int32) (0 : Int32)
def x_K_weight_B1 (st : XS) (p1 : Int32) (self1 : Int32 → Int64 → Option (Int64)) (v1 : Int32) (v2 : Int64) : Option (Int64) :=
  if (x_cN st) < v1 then
    some v2
  else
    (x_K_weightOf st v1 p1).bind fun r5 =>
    self1 (v1 + 1) (v2 + r5)
def x_K_weight (st : XS) (p1 : Int32) : Option (Int64) :=
  xl2 (x_K_weight_B1 st p1) 14 (1 : Int32) (0 : Int64)
def x_K_greatestWeight_B1 (st : XS) (p1 : Int32) (self1 : Int32 → Int64 → Option (Int64)) (v1 : Int32) (v2 : Int64) : Option (Int64) :=
  if (x_cN st) < v1 then
    some v2
  else
    (x_K_weightOf st v1 p1).bind fun r5 =>
    self1 (v1 + 1) (if r5 < v2 then v2 else r5)
def x_K_greatestWeight (st : XS) (p1 : Int32) : Option (Int64) :=
  xl2 (x_K_greatestWeight_B1 st p1) 14 (1 : Int32) (0 : Int64)
def x_K_usable_B1 (st : XS) (p1 : Int32) (p2 : Int32) (self1 : Int32 → Int32 → Option (Int32)) (v4 : Int32) (v5 : Int32) : Option (Int32) :=
  if (x_tN st) < v4 then
    some v5
  else
    (x_T_isOpen st v4 p1).bind fun r8 =>
    if r8 = 0 then
      self1 (v4 + 1) v5
    else
      (x_T_tellsApart st v4 p2).bind fun r11 =>
      if r11 = 0 then
        self1 (v4 + 1) v5
      else
        (x_G_bit v4).bind fun r14 =>
        self1 (v4 + 1) (v5 ||| r14)
def x_K_usable (st : XS) (p1 : Int32) (p2 : Int32) : Option (Int32) :=
  (x_JI_bitCount p2).bind fun r2 =>
  if (2 : Int32) ≤ r2 then
    xl2 (x_K_usable_B1 st p1 p2) 14 (1 : Int32) (0 : Int32)
  else
    some (0 : Int32)
def x_K_firstFree_B1 (st : XS) (p1 : Int32) (self1 : Int32 → Option (Int32)) (v1 : Int32) : Option (Int32) :=
  if (x_tN st) < v1 then
    some (0 : Int32)
  else
    (x_G_holds p1 v1).bind fun r4 =>
    if r4 = 0 then
      self1 (v1 + 1)
    else
      (x_T_price st v1).bind fun r7 =>
      if r7 = 0 then
        some v1
      else
        self1 (v1 + 1)
def x_K_firstFree (st : XS) (p1 : Int32) : Option (Int32) :=
  xl1 (x_K_firstFree_B1 st p1) 14 (1 : Int32)
def x_K_gain_B1 (st : XS) (p1 : Int32) (p2 : Int32) (self1 : Int32 → Int64 → Option (Int64)) (v3 : Int32) (v4 : Int64) : Option (Int64) :=
  if (3 : Int32) ≤ v3 then
    some v4
  else
    (x_G_withAnswer p1 p2 v3).bind fun r7 =>
    (x_K_greatestWeight st r7).bind fun r9 =>
    self1 (v3 + 1) (v4 + r9)
def x_K_gain (st : XS) (p1 : Int32) (p2 : Int32) : Option (Int64) :=
  (x_K_greatestWeight st p1).bind fun r2 =>
  xl2 (x_K_gain_B1 st p1 p2) 14 (0 : Int32) (-r2)
def x_K_bestGain_B1 (st : XS) (p1 : Int32) (p2 : Int32) (self1 : Int32 → Int64 → Int32 → Option (Int32)) (v1 : Int32) (v2 : Int64) (v3 : Int32) : Option (Int32) :=
  if (x_tN st) < v1 then
    some v3
  else
    (x_G_holds p2 v1).bind fun r6 =>
    if r6 = 0 then
      self1 (v1 + 1) v2 v3
    else
      (x_K_gain st p1 v1).bind fun r9 =>
      if v3 = 0 then
        self1 (v1 + 1) r9 v1
      else
        (x_T_price st v3).bind fun r12 =>
        (x_T_price st v1).bind fun r14 =>
        if (r9 * r12.toInt64) ≤ (v2 * r14.toInt64) then
          self1 (v1 + 1) v2 v3
        else
          self1 (v1 + 1) r9 v1
def x_K_bestGain (st : XS) (p1 : Int32) (p2 : Int32) : Option (Int32) :=
  xl3 (x_K_bestGain_B1 st p1 p2) 14 (1 : Int32) (0 : Int64) (0 : Int32)
def x_K_oneStep (st : XS) (p1 : Int32) : Option (Int32) :=
  (x_K_left st p1).bind fun r2 =>
  (x_K_usable st p1 r2).bind fun r4 =>
  (x_K_firstFree st r4).bind fun r6 =>
  if r6 = 0 then
    (x_K_bestGain st p1 r4).bind fun r9 =>
    some r9
  else
    some r6
end
section
set_option maxHeartbeats 4000000 in
set_option maxRecDepth 100000 in
theorem c_K_weightOf (l : Launch) (dC : Nat → ClassId) (dI : Nat → Nat → Nat) (cs : Nat → ClassId) (a : Nat → Nat) (st : XS) (p1 : Int32) (p2 : Int32) (res : Int64) (hf : x_K_weightOf st p1 p2 = some res) : Met l (⟨"GuideSearch$Cases", "weightOf", "(II)J"⟩ : MethodName) (Cond.code (⟨"GuideSearch$Cases", "weightOf", "(II)J"⟩ : MethodName) prog_2_method_2_code 7 (some .long) :: wg) { frames := 3, cells := 0, slots := 0, locals := 66 } (va_Pc ([.ref (a 15), .int p1, .int p2] : List Value) (x_pre dC dI cs a st)) (vp_Sl (fun r => r = res)) 0 0 (fun _ => False) := by
  refine ro_start (cc := prog_2_method_2_code) (maxL := 7) (ret := (some .long)) (by decide) (Nat.le_of_ble_eq_true rfl) ?_
  intro p e s m below meth c hx hb hr hml hT hown hlocks hB ls hl
  replace hown : s.vm.findClass "GuideSearch$Cases" = some m.cls := hown
  obtain ⟨hP, hK, hN⟩ := hB
  replace hl : lv_has ls 7 [(0, .ref (a 15)), (1, .int p1), (2, .int p2)] := hl
  unfold x_K_weightOf at hf
  refine lv_aload_n hx hb d_K_weightOf_0 rfl (lv_at hl 0 rfl) ?_
  refine va_get (D := (dC, dI)) (ci := 3) (v := .ref (a 1)) (C := "GuideSearch$Cases") (T := F_K) (N := 2) hx hb hT i_K hown hK hP 15 rfl rfl 0 (by decide) (hT _ k_81) (fun _ h9 => h9) rfl d_K_weightOf_1 ?_
  refine lv_iload_n hx hb d_K_weightOf_4 rfl (lv_at hl 1 rfl) ?_
  obtain ⟨r2, hr1, hf⟩ := ob hf
  refine ro_calll (va_runV (C := "GuideSearch$Causes") (As := [.int p1]) (rest := []) ⟨hx, hb, hml, hown, hT⟩ (c_C_prior l dC dI cs a st p1 r2 hr1) (cwV 1 hT (gV k_261 k_262 k_263 k_2 k_264) rfl rfl rfl (by decide +kernel) ⟨Nat.le_of_ble_eq_true rfl, Nat.le_of_ble_eq_true rfl⟩) (ro_preV hP hK hN (va_recv hK hP (ci := 1) (q0 := 1) rfl rfl)) rfl rfl hl.1 rfl (lv_room (Nat.le_of_ble_eq_true rfl)) d_K_weightOf_5 ⟨Nat.le_of_ble_eq_true rfl, Nat.le_of_ble_eq_true rfl⟩) ?_
  refine lv_ldc2 (v := (248832 : Int64)) hx hb hown (hT _ k_269) d_K_weightOf_8 ?_
  refine lv_lmul hx hb d_K_weightOf_11 ?_
  refine lv_lstore_n (lv' := [(3, .long (r2 * (248832 : Int64))), (0, .ref (a 15)), (1, .int p1), (2, .int p2)]) hx hb d_K_weightOf_12 rfl hl (by decide) rfl (fun ls hl => ?_)
  refine lv_iconst (v := (1 : Int32)) hx hb d_K_weightOf_13 (by decide) ?_
  refine lv_istore (lv' := [(5, .int (1 : Int32)), (3, .long (r2 * (248832 : Int64))), (0, .ref (a 15)), (1, .int p1), (2, .int p2)]) hx hb d_K_weightOf_14 hl (by decide) rfl (fun ls hl => ?_)
  have loop1 : ∀ (n : Nat) (v3 : Int32) (v4 : Int64), xl2 (x_K_weightOf_B1 st p1 p2) n v3 v4 = some res → ∀ (ls : Array Slot), lv_has ls 7 [(5, .int v3), (3, .long v4), (0, .ref (a 15)), (1, .int p1), (2, .int p2)] → W p l e { frames := 3, cells := 0, slots := 0, locals := 66 } s m ([.ref (a 15), .int p1, .int p2] : List Value).toArray below meth c s.heap [] 0 0 (MQ below (vp_Sl (fun r => r = res)) ([.ref (a 15), .int p1, .int p2] : List Value).toArray s 0 0 (fun _ => False)) (F0 m 16 ls []) := by
    intro n
    induction n with
    | zero => intro v3 v4 hf; exact absurd hf (by simp [xl2])
    | succ n ih1 =>
      intro v3 v4 hf ls hl
      replace hf : (x_K_weightOf_B1 st p1 p2) (xl2 (x_K_weightOf_B1 st p1 p2) n) v3 v4 = some res := hf
      generalize xl2 (x_K_weightOf_B1 st p1 p2) n = self1 at hf ih1
      unfold x_K_weightOf_B1 at hf
      refine lv_iload hx hb d_K_weightOf_16 (lv_at hl 0 rfl) ?_
      refine lv_aload_n hx hb d_K_weightOf_18 rfl (lv_at hl 2 rfl) ?_
      refine va_get (D := (dC, dI)) (ci := 3) (v := .ref (a 5)) (C := "GuideSearch$Cases") (T := F_K) (N := 2) hx hb hT i_K hown hK hP 15 rfl rfl 1 (by decide) (hT _ k_82) (fun _ h9 => h9) rfl d_K_weightOf_19 ?_
      refine va_getN (D := (dC, dI)) (ci := 2) (v := .int (x_tN st)) (C := "GuideSearch$Tests") (T := F_T) (N := 4) hx hb hT i_T hown hK hP 5 rfl rfl 3 (by decide) (va_Nw.use rfl (hN _ k_64)) (fun _ h9 => h9) rfl d_K_weightOf_22 ?_
      refine lv_icmp_gt (tgt := 68) hx hb d_K_weightOf_25 (by decide) (fun c5 => ?_) (fun c5 => ?_)
      · rw [if_pos c5] at hf
        refine lv_lload_n hx hb d_K_weightOf_68 rfl (lv_at hl 1 rfl) ?_
        exact W.lret hx hb hr (fun t ht _ => ⟨_, rfl, Option.some.inj hf, ht⟩) (fun _ h => absurd h List.not_mem_nil) d_K_weightOf_69
      · rw [if_neg c5] at hf
        refine lv_iload_n hx hb d_K_weightOf_28 rfl (lv_at hl 4 rfl) ?_
        refine lv_iload hx hb d_K_weightOf_29 (lv_at hl 0 rfl) ?_
        obtain ⟨r7, hr6, hf⟩ := ob hf
        refine ro_calli (va_runSN (As := [.int p2, .int v3]) (rest := []) ⟨hx, hb, hml, hown, hT⟩ (c_G_answerIn l p2 v3 r7 hr6) ⟨va_cnB 2 hT (gcode k_203) rfl rfl rfl (hN _ k_270) (hT _ k_1) (by decide +kernel) ⟨Nat.le_of_ble_eq_true rfl, Nat.le_of_ble_eq_true rfl⟩, hT _ k_202, trivial⟩ ⟨fun _ _ _ _ q => q, fun _ _ _ => ⟨rfl, trivial⟩⟩ rfl rfl hl.1 rfl (lv_room (Nat.le_of_ble_eq_true rfl)) d_K_weightOf_31 ⟨Nat.le_of_ble_eq_true rfl, Nat.le_of_ble_eq_true rfl⟩) ?_
        refine lv_istore (lv' := [(6, .int r7), (5, .int v3), (3, .long v4), (0, .ref (a 15)), (1, .int p1), (2, .int p2)]) hx hb d_K_weightOf_34 hl (by decide) rfl (fun ls hl => ?_)
        refine lv_iload hx hb d_K_weightOf_36 (lv_at hl 0 rfl) ?_
        refine lv_iconst (v := (-1 : Int32)) hx hb d_K_weightOf_38 (by decide) ?_
        refine lv_icmp_eq (tgt := 62) hx hb d_K_weightOf_39 (by decide) (fun c8 => ?_) (fun c8 => ?_)
        · rw [if_pos c8] at hf
          refine lv_iinc (v := (v3 + 1)) (lv' := [(5, .int (v3 + 1)), (6, .int r7), (3, .long v4), (0, .ref (a 15)), (1, .int p1), (2, .int p2)]) hx hb d_K_weightOf_62 hl (k := 1) rfl rfl (by decide) rfl (fun ls hl => ?_)
          refine lv_goto (tgt := 16) hx hb d_K_weightOf_65 (by decide) ?_
          exact ih1 (v3 + 1) v4 hf ls (lv_sub hl [0, 2, 3, 4, 5] rfl)
        · rw [if_neg c8] at hf
          refine lv_lload_n hx hb d_K_weightOf_42 rfl (lv_at hl 2 rfl) ?_
          refine lv_ldc2 (v := (12 : Int64)) hx hb hown (hT _ k_271) d_K_weightOf_43 ?_
          refine lv_ldiv hx hb d_K_weightOf_46 (by decide) ?_
          refine lv_aload_n hx hb d_K_weightOf_47 rfl (lv_at hl 3 rfl) ?_
          refine va_get (D := (dC, dI)) (ci := 3) (v := .ref (a 5)) (C := "GuideSearch$Cases") (T := F_K) (N := 2) hx hb hT i_K hown hK hP 15 rfl rfl 1 (by decide) (hT _ k_82) (fun _ h9 => h9) rfl d_K_weightOf_48 ?_
          refine lv_iload hx hb d_K_weightOf_51 (lv_at hl 1 rfl) ?_
          refine lv_iload_n hx hb d_K_weightOf_53 rfl (lv_at hl 4 rfl) ?_
          refine lv_iload hx hb d_K_weightOf_54 (lv_at hl 0 rfl) ?_
          obtain ⟨r10, hr9, hf⟩ := ob hf
          refine ro_calli (va_runV (C := "GuideSearch$Tests") (As := [.int v3, .int p1, .int r7]) (rest := [.long (v4 / (12 : Int64))]) ⟨hx, hb, hml, hown, hT⟩ (c_T_twelfths l dC dI cs a st v3 p1 r7 r10 hr9) (cwV 3 hT (gV k_272 k_192 k_193 k_3 k_194) rfl rfl rfl (by decide +kernel) ⟨Nat.le_of_ble_eq_true rfl, Nat.le_of_ble_eq_true rfl⟩) (ro_preV hP hK hN (va_recv hK hP (ci := 2) (q0 := 5) rfl rfl)) rfl rfl hl.1 rfl (lv_room (Nat.le_of_ble_eq_true rfl)) d_K_weightOf_56 ⟨Nat.le_of_ble_eq_true rfl, Nat.le_of_ble_eq_true rfl⟩) ?_
          refine lv_i2l (v := r10.toInt64) hx hb d_K_weightOf_59 rfl ?_
          refine lv_lmul hx hb d_K_weightOf_60 ?_
          refine lv_lstore_n (lv' := [(3, .long ((v4 / (12 : Int64)) * r10.toInt64)), (6, .int r7), (5, .int v3), (0, .ref (a 15)), (1, .int p1), (2, .int p2)]) hx hb d_K_weightOf_61 rfl hl (by decide) rfl (fun ls hl => ?_)
          refine lv_iinc (v := (v3 + 1)) (lv' := [(5, .int (v3 + 1)), (3, .long ((v4 / (12 : Int64)) * r10.toInt64)), (6, .int r7), (0, .ref (a 15)), (1, .int p1), (2, .int p2)]) hx hb d_K_weightOf_62 hl (k := 2) rfl rfl (by decide) rfl (fun ls hl => ?_)
          refine lv_goto (tgt := 16) hx hb d_K_weightOf_65 (by decide) ?_
          exact ih1 (v3 + 1) ((v4 / (12 : Int64)) * r10.toInt64) hf ls (lv_sub hl [0, 1, 3, 4, 5] rfl)
  exact loop1 _ (1 : Int32) (r2 * (248832 : Int64)) hf ls (lv_sub hl [0, 1, 2, 3, 4] rfl)
set_option maxHeartbeats 4000000 in
set_option maxRecDepth 100000 in
theorem c_K_left (l : Launch) (dC : Nat → ClassId) (dI : Nat → Nat → Nat) (cs : Nat → ClassId) (a : Nat → Nat) (st : XS) (p1 : Int32) (res : Int32) (hf : x_K_left st p1 = some res) : Met l (⟨"GuideSearch$Cases", "left", "(I)I"⟩ : MethodName) (Cond.code (⟨"GuideSearch$Cases", "left", "(I)I"⟩ : MethodName) prog_2_method_5_code 4 (some .int) :: wg) { frames := 4, cells := 0, slots := 0, locals := 92 } (va_Pc ([.ref (a 15), .int p1] : List Value) (x_pre dC dI cs a st)) (vp_Si (fun r => r = res)) 0 0 (fun _ => False) := by
  refine ro_start (cc := prog_2_method_5_code) (maxL := 4) (ret := (some .int)) (by decide) (Nat.le_of_ble_eq_true rfl) ?_
  intro p e s m below meth c hx hb hr hml hT hown hlocks hB ls hl
  replace hown : s.vm.findClass "GuideSearch$Cases" = some m.cls := hown
  obtain ⟨hP, hK, hN⟩ := hB
  replace hl : lv_has ls 4 [(0, .ref (a 15)), (1, .int p1)] := hl
  unfold x_K_left at hf
  refine lv_iconst (v := (0 : Int32)) hx hb d_K_left_0 (by decide) ?_
  refine lv_istore_n (lv' := [(2, .int (0 : Int32)), (0, .ref (a 15)), (1, .int p1)]) hx hb d_K_left_1 rfl hl (by decide) rfl (fun ls hl => ?_)
  refine lv_iconst (v := (1 : Int32)) hx hb d_K_left_2 (by decide) ?_
  refine lv_istore_n (lv' := [(3, .int (1 : Int32)), (2, .int (0 : Int32)), (0, .ref (a 15)), (1, .int p1)]) hx hb d_K_left_3 rfl hl (by decide) rfl (fun ls hl => ?_)
  have loop1 : ∀ (n : Nat) (v1 : Int32) (v2 : Int32), xl2 (x_K_left_B1 st p1) n v1 v2 = some res → ∀ (ls : Array Slot), lv_has ls 4 [(3, .int v1), (2, .int v2), (0, .ref (a 15)), (1, .int p1)] → W p l e { frames := 4, cells := 0, slots := 0, locals := 92 } s m ([.ref (a 15), .int p1] : List Value).toArray below meth c s.heap [] 0 0 (MQ below (vp_Si (fun r => r = res)) ([.ref (a 15), .int p1] : List Value).toArray s 0 0 (fun _ => False)) (F0 m 4 ls []) := by
    intro n
    induction n with
    | zero => intro v1 v2 hf; exact absurd hf (by simp [xl2])
    | succ n ih1 =>
      intro v1 v2 hf ls hl
      replace hf : (x_K_left_B1 st p1) (xl2 (x_K_left_B1 st p1) n) v1 v2 = some res := hf
      generalize xl2 (x_K_left_B1 st p1) n = self1 at hf ih1
      unfold x_K_left_B1 at hf
      refine lv_iload_n hx hb d_K_left_4 rfl (lv_at hl 0 rfl) ?_
      refine lv_aload_n hx hb d_K_left_5 rfl (lv_at hl 2 rfl) ?_
      refine va_get (D := (dC, dI)) (ci := 3) (v := .ref (a 1)) (C := "GuideSearch$Cases") (T := F_K) (N := 2) hx hb hT i_K hown hK hP 15 rfl rfl 0 (by decide) (hT _ k_81) (fun _ h9 => h9) rfl d_K_left_6 ?_
      refine va_getN (D := (dC, dI)) (ci := 1) (v := .int (x_cN st)) (C := "GuideSearch$Causes") (T := F_C) (N := 5) hx hb hT i_C hown hK hP 1 rfl rfl 3 (by decide) (va_Nw.use rfl (hN _ k_33)) (fun _ h9 => h9) rfl d_K_left_9 ?_
      refine lv_icmp_gt (tgt := 43) hx hb d_K_left_12 (by decide) (fun c3 => ?_) (fun c3 => ?_)
      · rw [if_pos c3] at hf
        refine lv_iload_n hx hb d_K_left_43 rfl (lv_at hl 1 rfl) ?_
        exact W.iret hx hb hr (fun t ht _ => ⟨_, rfl, Option.some.inj hf, ht⟩) (fun _ h => absurd h List.not_mem_nil) d_K_left_44
      · rw [if_neg c3] at hf
        refine lv_iload_n hx hb d_K_left_15 rfl (lv_at hl 1 rfl) ?_
        refine lv_aload_n hx hb d_K_left_16 rfl (lv_at hl 2 rfl) ?_
        refine lv_iload_n hx hb d_K_left_17 rfl (lv_at hl 0 rfl) ?_
        refine lv_iload_n hx hb d_K_left_18 rfl (lv_at hl 3 rfl) ?_
        obtain ⟨r5, hr4, hf⟩ := ob hf
        refine ro_calll (va_runV (C := "GuideSearch$Cases") (As := [.int v1, .int p1]) (rest := [.int v2]) ⟨hx, hb, hml, hown, hT⟩ (c_K_weightOf l dC dI cs a st v1 p1 r5 hr4) (cwV 2 hT (gV k_342 k_258 k_259 k_5 k_260) rfl rfl rfl (by decide +kernel) ⟨Nat.le_of_ble_eq_true rfl, Nat.le_of_ble_eq_true rfl⟩) (ro_preV hP hK hN (va_recv hK hP (ci := 3) (q0 := 15) rfl rfl)) rfl rfl hl.1 rfl (lv_room (Nat.le_of_ble_eq_true rfl)) d_K_left_19 ⟨Nat.le_of_ble_eq_true rfl, Nat.le_of_ble_eq_true rfl⟩) ?_
        refine lv_lconst (v := (0 : Int64)) hx hb d_K_left_22 (by decide) ?_
        refine W.lcmp hx hb d_K_left_23 ?_
        refine lv_if_le (tgt := 34) hx hb d_K_left_24 (by decide) (fun c6 => ?_) (fun c6 => ?_)
        · rw [if_pos ((lg_cmp_le _ _).mp c6)] at hf
          refine lv_iconst (v := (0 : Int32)) hx hb d_K_left_34 (by decide) ?_
          refine lv_ior hx hb d_K_left_35 ?_
          refine lv_istore_n (lv' := [(2, .int (v2 ||| (0 : Int32))), (3, .int v1), (0, .ref (a 15)), (1, .int p1)]) hx hb d_K_left_36 rfl hl (by decide) rfl (fun ls hl => ?_)
          refine lv_iinc (v := (v1 + 1)) (lv' := [(3, .int (v1 + 1)), (2, .int (v2 ||| (0 : Int32))), (0, .ref (a 15)), (1, .int p1)]) hx hb d_K_left_37 hl (k := 1) rfl rfl (by decide) rfl (fun ls hl => ?_)
          refine lv_goto (tgt := 4) hx hb d_K_left_40 (by decide) ?_
          exact ih1 (v1 + 1) (v2 ||| (0 : Int32)) hf ls (lv_sub hl [0, 1, 2, 3] rfl)
        · rw [if_neg (mt (lg_cmp_le _ _).mpr c6)] at hf
          refine lv_iload_n hx hb d_K_left_27 rfl (lv_at hl 0 rfl) ?_
          obtain ⟨r8, hr7, hf⟩ := ob hf
          refine ro_calli (va_runSN (As := [.int v1]) (rest := [.int v2]) ⟨hx, hb, hml, hown, hT⟩ (c_G_bit l v1 r8 hr7) ⟨va_cnB 1 hT (gcode k_221) rfl rfl rfl (hN _ k_295) (hT _ k_1) (by decide +kernel) ⟨Nat.le_of_ble_eq_true rfl, Nat.le_of_ble_eq_true rfl⟩, hT _ k_220, trivial⟩ ⟨fun _ _ _ _ q => q, fun _ _ _ => ⟨rfl, trivial⟩⟩ rfl rfl hl.1 rfl (lv_room (Nat.le_of_ble_eq_true rfl)) d_K_left_28 ⟨Nat.le_of_ble_eq_true rfl, Nat.le_of_ble_eq_true rfl⟩) ?_
          refine lv_goto (tgt := 35) hx hb d_K_left_31 (by decide) ?_
          refine lv_ior hx hb d_K_left_35 ?_
          refine lv_istore_n (lv' := [(2, .int (v2 ||| r8)), (3, .int v1), (0, .ref (a 15)), (1, .int p1)]) hx hb d_K_left_36 rfl hl (by decide) rfl (fun ls hl => ?_)
          refine lv_iinc (v := (v1 + 1)) (lv' := [(3, .int (v1 + 1)), (2, .int (v2 ||| r8)), (0, .ref (a 15)), (1, .int p1)]) hx hb d_K_left_37 hl (k := 1) rfl rfl (by decide) rfl (fun ls hl => ?_)
          refine lv_goto (tgt := 4) hx hb d_K_left_40 (by decide) ?_
          exact ih1 (v1 + 1) (v2 ||| r8) hf ls (lv_sub hl [0, 1, 2, 3] rfl)
  exact loop1 _ (1 : Int32) (0 : Int32) hf ls (lv_sub hl [0, 1, 2, 3] rfl)
set_option maxHeartbeats 4000000 in
set_option maxRecDepth 100000 in
theorem c_K_weight (l : Launch) (dC : Nat → ClassId) (dI : Nat → Nat → Nat) (cs : Nat → ClassId) (a : Nat → Nat) (st : XS) (p1 : Int32) (res : Int64) (hf : x_K_weight st p1 = some res) : Met l (⟨"GuideSearch$Cases", "weight", "(I)J"⟩ : MethodName) (Cond.code (⟨"GuideSearch$Cases", "weight", "(I)J"⟩ : MethodName) prog_2_method_3_code 5 (some .long) :: wg) { frames := 4, cells := 0, slots := 0, locals := 92 } (va_Pc ([.ref (a 15), .int p1] : List Value) (x_pre dC dI cs a st)) (vp_Sl (fun r => r = res)) 0 0 (fun _ => False) := by
  refine ro_start (cc := prog_2_method_3_code) (maxL := 5) (ret := (some .long)) (by decide) (Nat.le_of_ble_eq_true rfl) ?_
  intro p e s m below meth c hx hb hr hml hT hown hlocks hB ls hl
  replace hown : s.vm.findClass "GuideSearch$Cases" = some m.cls := hown
  obtain ⟨hP, hK, hN⟩ := hB
  replace hl : lv_has ls 5 [(0, .ref (a 15)), (1, .int p1)] := hl
  unfold x_K_weight at hf
  refine lv_lconst (v := (0 : Int64)) hx hb d_K_weight_0 (by decide) ?_
  refine lv_lstore_n (lv' := [(2, .long (0 : Int64)), (0, .ref (a 15)), (1, .int p1)]) hx hb d_K_weight_1 rfl hl (by decide) rfl (fun ls hl => ?_)
  refine lv_iconst (v := (1 : Int32)) hx hb d_K_weight_2 (by decide) ?_
  refine lv_istore (lv' := [(4, .int (1 : Int32)), (2, .long (0 : Int64)), (0, .ref (a 15)), (1, .int p1)]) hx hb d_K_weight_3 hl (by decide) rfl (fun ls hl => ?_)
  have loop1 : ∀ (n : Nat) (v1 : Int32) (v2 : Int64), xl2 (x_K_weight_B1 st p1) n v1 v2 = some res → ∀ (ls : Array Slot), lv_has ls 5 [(4, .int v1), (2, .long v2), (0, .ref (a 15)), (1, .int p1)] → W p l e { frames := 4, cells := 0, slots := 0, locals := 92 } s m ([.ref (a 15), .int p1] : List Value).toArray below meth c s.heap [] 0 0 (MQ below (vp_Sl (fun r => r = res)) ([.ref (a 15), .int p1] : List Value).toArray s 0 0 (fun _ => False)) (F0 m 5 ls []) := by
    intro n
    induction n with
    | zero => intro v1 v2 hf; exact absurd hf (by simp [xl2])
    | succ n ih1 =>
      intro v1 v2 hf ls hl
      replace hf : (x_K_weight_B1 st p1) (xl2 (x_K_weight_B1 st p1) n) v1 v2 = some res := hf
      generalize xl2 (x_K_weight_B1 st p1) n = self1 at hf ih1
      unfold x_K_weight_B1 at hf
      refine lv_iload hx hb d_K_weight_5 (lv_at hl 0 rfl) ?_
      refine lv_aload_n hx hb d_K_weight_7 rfl (lv_at hl 2 rfl) ?_
      refine va_get (D := (dC, dI)) (ci := 3) (v := .ref (a 1)) (C := "GuideSearch$Cases") (T := F_K) (N := 2) hx hb hT i_K hown hK hP 15 rfl rfl 0 (by decide) (hT _ k_81) (fun _ h9 => h9) rfl d_K_weight_8 ?_
      refine va_getN (D := (dC, dI)) (ci := 1) (v := .int (x_cN st)) (C := "GuideSearch$Causes") (T := F_C) (N := 5) hx hb hT i_C hown hK hP 1 rfl rfl 3 (by decide) (va_Nw.use rfl (hN _ k_33)) (fun _ h9 => h9) rfl d_K_weight_11 ?_
      refine lv_icmp_gt (tgt := 33) hx hb d_K_weight_14 (by decide) (fun c3 => ?_) (fun c3 => ?_)
      · rw [if_pos c3] at hf
        refine lv_lload_n hx hb d_K_weight_33 rfl (lv_at hl 1 rfl) ?_
        exact W.lret hx hb hr (fun t ht _ => ⟨_, rfl, Option.some.inj hf, ht⟩) (fun _ h => absurd h List.not_mem_nil) d_K_weight_34
      · rw [if_neg c3] at hf
        refine lv_lload_n hx hb d_K_weight_17 rfl (lv_at hl 1 rfl) ?_
        refine lv_aload_n hx hb d_K_weight_18 rfl (lv_at hl 2 rfl) ?_
        refine lv_iload hx hb d_K_weight_19 (lv_at hl 0 rfl) ?_
        refine lv_iload_n hx hb d_K_weight_21 rfl (lv_at hl 3 rfl) ?_
        obtain ⟨r5, hr4, hf⟩ := ob hf
        refine ro_calll (va_runV (C := "GuideSearch$Cases") (As := [.int v1, .int p1]) (rest := [.long v2]) ⟨hx, hb, hml, hown, hT⟩ (c_K_weightOf l dC dI cs a st v1 p1 r5 hr4) (cwV 2 hT (gV k_342 k_258 k_259 k_5 k_260) rfl rfl rfl (by decide +kernel) ⟨Nat.le_of_ble_eq_true rfl, Nat.le_of_ble_eq_true rfl⟩) (ro_preV hP hK hN (va_recv hK hP (ci := 3) (q0 := 15) rfl rfl)) rfl rfl hl.1 rfl (lv_room (Nat.le_of_ble_eq_true rfl)) d_K_weight_22 ⟨Nat.le_of_ble_eq_true rfl, Nat.le_of_ble_eq_true rfl⟩) ?_
        refine lv_ladd hx hb d_K_weight_25 ?_
        refine lv_lstore_n (lv' := [(2, .long (v2 + r5)), (4, .int v1), (0, .ref (a 15)), (1, .int p1)]) hx hb d_K_weight_26 rfl hl (by decide) rfl (fun ls hl => ?_)
        refine lv_iinc (v := (v1 + 1)) (lv' := [(4, .int (v1 + 1)), (2, .long (v2 + r5)), (0, .ref (a 15)), (1, .int p1)]) hx hb d_K_weight_27 hl (k := 1) rfl rfl (by decide) rfl (fun ls hl => ?_)
        refine lv_goto (tgt := 5) hx hb d_K_weight_30 (by decide) ?_
        exact ih1 (v1 + 1) (v2 + r5) hf ls (lv_sub hl [0, 1, 2, 3] rfl)
  exact loop1 _ (1 : Int32) (0 : Int64) hf ls (lv_sub hl [0, 1, 2, 3] rfl)
set_option maxHeartbeats 4000000 in
set_option maxRecDepth 100000 in
theorem c_K_greatestWeight (l : Launch) (dC : Nat → ClassId) (dI : Nat → Nat → Nat) (cs : Nat → ClassId) (a : Nat → Nat) (st : XS) (p1 : Int32) (res : Int64) (hf : x_K_greatestWeight st p1 = some res) : Met l (⟨"GuideSearch$Cases", "greatestWeight", "(I)J"⟩ : MethodName) (Cond.code (⟨"GuideSearch$Cases", "greatestWeight", "(I)J"⟩ : MethodName) prog_2_method_4_code 5 (some .long) :: wg) { frames := 4, cells := 0, slots := 0, locals := 92 } (va_Pc ([.ref (a 15), .int p1] : List Value) (x_pre dC dI cs a st)) (vp_Sl (fun r => r = res)) 0 0 (fun _ => False) := by
  refine ro_start (cc := prog_2_method_4_code) (maxL := 5) (ret := (some .long)) (by decide) (Nat.le_of_ble_eq_true rfl) ?_
  intro p e s m below meth c hx hb hr hml hT hown hlocks hB ls hl
  replace hown : s.vm.findClass "GuideSearch$Cases" = some m.cls := hown
  obtain ⟨hP, hK, hN⟩ := hB
  replace hl : lv_has ls 5 [(0, .ref (a 15)), (1, .int p1)] := hl
  unfold x_K_greatestWeight at hf
  refine lv_lconst (v := (0 : Int64)) hx hb d_K_greatestWeight_0 (by decide) ?_
  refine lv_lstore_n (lv' := [(2, .long (0 : Int64)), (0, .ref (a 15)), (1, .int p1)]) hx hb d_K_greatestWeight_1 rfl hl (by decide) rfl (fun ls hl => ?_)
  refine lv_iconst (v := (1 : Int32)) hx hb d_K_greatestWeight_2 (by decide) ?_
  refine lv_istore (lv' := [(4, .int (1 : Int32)), (2, .long (0 : Int64)), (0, .ref (a 15)), (1, .int p1)]) hx hb d_K_greatestWeight_3 hl (by decide) rfl (fun ls hl => ?_)
  have loop1 : ∀ (n : Nat) (v1 : Int32) (v2 : Int64), xl2 (x_K_greatestWeight_B1 st p1) n v1 v2 = some res → ∀ (ls : Array Slot), lv_has ls 5 [(4, .int v1), (2, .long v2), (0, .ref (a 15)), (1, .int p1)] → W p l e { frames := 4, cells := 0, slots := 0, locals := 92 } s m ([.ref (a 15), .int p1] : List Value).toArray below meth c s.heap [] 0 0 (MQ below (vp_Sl (fun r => r = res)) ([.ref (a 15), .int p1] : List Value).toArray s 0 0 (fun _ => False)) (F0 m 5 ls []) := by
    intro n
    induction n with
    | zero => intro v1 v2 hf; exact absurd hf (by simp [xl2])
    | succ n ih1 =>
      intro v1 v2 hf ls hl
      replace hf : (x_K_greatestWeight_B1 st p1) (xl2 (x_K_greatestWeight_B1 st p1) n) v1 v2 = some res := hf
      generalize xl2 (x_K_greatestWeight_B1 st p1) n = self1 at hf ih1
      unfold x_K_greatestWeight_B1 at hf
      refine lv_iload hx hb d_K_greatestWeight_5 (lv_at hl 0 rfl) ?_
      refine lv_aload_n hx hb d_K_greatestWeight_7 rfl (lv_at hl 2 rfl) ?_
      refine va_get (D := (dC, dI)) (ci := 3) (v := .ref (a 1)) (C := "GuideSearch$Cases") (T := F_K) (N := 2) hx hb hT i_K hown hK hP 15 rfl rfl 0 (by decide) (hT _ k_81) (fun _ h9 => h9) rfl d_K_greatestWeight_8 ?_
      refine va_getN (D := (dC, dI)) (ci := 1) (v := .int (x_cN st)) (C := "GuideSearch$Causes") (T := F_C) (N := 5) hx hb hT i_C hown hK hP 1 rfl rfl 3 (by decide) (va_Nw.use rfl (hN _ k_33)) (fun _ h9 => h9) rfl d_K_greatestWeight_11 ?_
      refine lv_icmp_gt (tgt := 35) hx hb d_K_greatestWeight_14 (by decide) (fun c3 => ?_) (fun c3 => ?_)
      · rw [if_pos c3] at hf
        refine lv_lload_n hx hb d_K_greatestWeight_35 rfl (lv_at hl 1 rfl) ?_
        exact W.lret hx hb hr (fun t ht _ => ⟨_, rfl, Option.some.inj hf, ht⟩) (fun _ h => absurd h List.not_mem_nil) d_K_greatestWeight_36
      · rw [if_neg c3] at hf
        refine lv_lload_n hx hb d_K_greatestWeight_17 rfl (lv_at hl 1 rfl) ?_
        refine lv_aload_n hx hb d_K_greatestWeight_18 rfl (lv_at hl 2 rfl) ?_
        refine lv_iload hx hb d_K_greatestWeight_19 (lv_at hl 0 rfl) ?_
        refine lv_iload_n hx hb d_K_greatestWeight_21 rfl (lv_at hl 3 rfl) ?_
        obtain ⟨r5, hr4, hf⟩ := ob hf
        refine ro_calll (va_runV (C := "GuideSearch$Cases") (As := [.int v1, .int p1]) (rest := [.long v2]) ⟨hx, hb, hml, hown, hT⟩ (c_K_weightOf l dC dI cs a st v1 p1 r5 hr4) (cwV 2 hT (gV k_342 k_258 k_259 k_5 k_260) rfl rfl rfl (by decide +kernel) ⟨Nat.le_of_ble_eq_true rfl, Nat.le_of_ble_eq_true rfl⟩) (ro_preV hP hK hN (va_recv hK hP (ci := 3) (q0 := 15) rfl rfl)) rfl rfl hl.1 rfl (lv_room (Nat.le_of_ble_eq_true rfl)) d_K_greatestWeight_22 ⟨Nat.le_of_ble_eq_true rfl, Nat.le_of_ble_eq_true rfl⟩) ?_
        refine va_mmax_long hx hb (hml.trans hl.1.symm) hown (hT _ k_357) (hT _ k_358) (hT _ k_9) (hT _ k_359) (Nat.le_of_ble_eq_true rfl) (Nat.le_of_ble_eq_true rfl) (Nat.le_of_ble_eq_true rfl) (Nat.le_of_ble_eq_true rfl) d_K_greatestWeight_25 ?_
        refine lv_lstore_n (lv' := [(2, .long (if r5 < v2 then v2 else r5)), (4, .int v1), (0, .ref (a 15)), (1, .int p1)]) hx hb d_K_greatestWeight_28 rfl hl (by decide) rfl (fun ls hl => ?_)
        refine lv_iinc (v := (v1 + 1)) (lv' := [(4, .int (v1 + 1)), (2, .long (if r5 < v2 then v2 else r5)), (0, .ref (a 15)), (1, .int p1)]) hx hb d_K_greatestWeight_29 hl (k := 1) rfl rfl (by decide) rfl (fun ls hl => ?_)
        refine lv_goto (tgt := 5) hx hb d_K_greatestWeight_32 (by decide) ?_
        exact ih1 (v1 + 1) (if r5 < v2 then v2 else r5) hf ls (lv_sub hl [0, 1, 2, 3] rfl)
  exact loop1 _ (1 : Int32) (0 : Int64) hf ls (lv_sub hl [0, 1, 2, 3] rfl)
set_option maxHeartbeats 4000000 in
set_option maxRecDepth 100000 in
theorem c_K_usable (l : Launch) (dC : Nat → ClassId) (dI : Nat → Nat → Nat) (cs : Nat → ClassId) (a : Nat → Nat) (st : XS) (p1 : Int32) (p2 : Int32) (res : Int32) (hf : x_K_usable st p1 p2 = some res) : Met l (⟨"GuideSearch$Cases", "usable", "(II)I"⟩ : MethodName) (Cond.code (⟨"GuideSearch$Cases", "usable", "(II)I"⟩ : MethodName) prog_2_method_6_code 5 (some .int) :: wg) { frames := 3, cells := 0, slots := 0, locals := 65 } (va_Pc ([.ref (a 15), .int p1, .int p2] : List Value) (x_pre dC dI cs a st)) (vp_Si (fun r => r = res)) 0 0 (fun _ => False) := by
  refine ro_start (cc := prog_2_method_6_code) (maxL := 5) (ret := (some .int)) (by decide) (Nat.le_of_ble_eq_true rfl) ?_
  intro p e s m below meth c hx hb hr hml hT hown hlocks hB ls hl
  replace hown : s.vm.findClass "GuideSearch$Cases" = some m.cls := hown
  obtain ⟨hP, hK, hN⟩ := hB
  replace hl : lv_has ls 5 [(0, .ref (a 15)), (1, .int p1), (2, .int p2)] := hl
  unfold x_K_usable at hf
  refine lv_iload_n hx hb d_K_usable_0 rfl (lv_at hl 2 rfl) ?_
  obtain ⟨r2, hr1, hf⟩ := ob hf
  refine ro_calli (va_runS (As := [.int p2]) (rest := []) ⟨hx, hb, hml, hown, hT⟩ (c_JI_bitCount l p2 r2 hr1) (va_cwS 1 hT (gS k_286 k_228 k_8 k_229) rfl rfl rfl (by decide +kernel) ⟨Nat.le_of_ble_eq_true rfl, Nat.le_of_ble_eq_true rfl⟩) ⟨fun _ _ _ _ q => q, fun _ _ _ => ⟨rfl, trivial⟩⟩ rfl rfl hl.1 rfl (lv_room (Nat.le_of_ble_eq_true rfl)) d_K_usable_1 ⟨Nat.le_of_ble_eq_true rfl, Nat.le_of_ble_eq_true rfl⟩) ?_
  refine lv_iconst (v := (2 : Int32)) hx hb d_K_usable_4 (by decide) ?_
  refine lv_icmp_ge (tgt := 10) hx hb d_K_usable_5 (by decide) (fun c3 => ?_) (fun c3 => ?_)
  · rw [if_pos c3] at hf
    refine lv_iconst (v := (0 : Int32)) hx hb d_K_usable_10 (by decide) ?_
    refine lv_istore_n (lv' := [(3, .int (0 : Int32)), (0, .ref (a 15)), (1, .int p1), (2, .int p2)]) hx hb d_K_usable_11 rfl hl (by decide) rfl (fun ls hl => ?_)
    refine lv_iconst (v := (1 : Int32)) hx hb d_K_usable_12 (by decide) ?_
    refine lv_istore (lv' := [(4, .int (1 : Int32)), (3, .int (0 : Int32)), (0, .ref (a 15)), (1, .int p1), (2, .int p2)]) hx hb d_K_usable_13 hl (by decide) rfl (fun ls hl => ?_)
    have loop1 : ∀ (n : Nat) (v4 : Int32) (v5 : Int32), xl2 (x_K_usable_B1 st p1 p2) n v4 v5 = some res → ∀ (ls : Array Slot), lv_has ls 5 [(4, .int v4), (3, .int v5), (0, .ref (a 15)), (1, .int p1), (2, .int p2)] → W p l e { frames := 3, cells := 0, slots := 0, locals := 65 } s m ([.ref (a 15), .int p1, .int p2] : List Value).toArray below meth c s.heap [] 0 0 (MQ below (vp_Si (fun r => r = res)) ([.ref (a 15), .int p1, .int p2] : List Value).toArray s 0 0 (fun _ => False)) (F0 m 15 ls []) := by
      intro n
      induction n with
      | zero => intro v4 v5 hf; exact absurd hf (by simp [xl2])
      | succ n ih1 =>
        intro v4 v5 hf ls hl
        replace hf : (x_K_usable_B1 st p1 p2) (xl2 (x_K_usable_B1 st p1 p2) n) v4 v5 = some res := hf
        generalize xl2 (x_K_usable_B1 st p1 p2) n = self1 at hf ih1
        unfold x_K_usable_B1 at hf
        refine lv_iload hx hb d_K_usable_15 (lv_at hl 0 rfl) ?_
        refine lv_aload_n hx hb d_K_usable_17 rfl (lv_at hl 2 rfl) ?_
        refine va_get (D := (dC, dI)) (ci := 3) (v := .ref (a 5)) (C := "GuideSearch$Cases") (T := F_K) (N := 2) hx hb hT i_K hown hK hP 15 rfl rfl 1 (by decide) (hT _ k_82) (fun _ h9 => h9) rfl d_K_usable_18 ?_
        refine va_getN (D := (dC, dI)) (ci := 2) (v := .int (x_tN st)) (C := "GuideSearch$Tests") (T := F_T) (N := 4) hx hb hT i_T hown hK hP 5 rfl rfl 3 (by decide) (va_Nw.use rfl (hN _ k_64)) (fun _ h9 => h9) rfl d_K_usable_21 ?_
        refine lv_icmp_gt (tgt := 67) hx hb d_K_usable_24 (by decide) (fun c6 => ?_) (fun c6 => ?_)
        · rw [if_pos c6] at hf
          refine lv_iload_n hx hb d_K_usable_67 rfl (lv_at hl 1 rfl) ?_
          exact W.iret hx hb hr (fun t ht _ => ⟨_, rfl, Option.some.inj hf, ht⟩) (fun _ h => absurd h List.not_mem_nil) d_K_usable_68
        · rw [if_neg c6] at hf
          refine lv_aload_n hx hb d_K_usable_27 rfl (lv_at hl 2 rfl) ?_
          refine va_get (D := (dC, dI)) (ci := 3) (v := .ref (a 5)) (C := "GuideSearch$Cases") (T := F_K) (N := 2) hx hb hT i_K hown hK hP 15 rfl rfl 1 (by decide) (hT _ k_82) (fun _ h9 => h9) rfl d_K_usable_28 ?_
          refine lv_iload hx hb d_K_usable_31 (lv_at hl 0 rfl) ?_
          refine lv_iload_n hx hb d_K_usable_33 rfl (lv_at hl 3 rfl) ?_
          obtain ⟨r8, hr7, hf⟩ := ob hf
          refine ro_calli (va_runV (C := "GuideSearch$Tests") (As := [.int v4, .int p1]) (rest := []) ⟨hx, hb, hml, hown, hT⟩ (c_T_isOpen l dC dI cs a st v4 p1 r8 hr7) (cwV 2 hT (gV k_287 k_288 k_289 k_3 k_290) rfl rfl rfl (by decide +kernel) ⟨Nat.le_of_ble_eq_true rfl, Nat.le_of_ble_eq_true rfl⟩) (ro_preV hP hK hN (va_recv hK hP (ci := 2) (q0 := 5) rfl rfl)) rfl rfl hl.1 rfl (lv_room (Nat.le_of_ble_eq_true rfl)) d_K_usable_34 ⟨Nat.le_of_ble_eq_true rfl, Nat.le_of_ble_eq_true rfl⟩) ?_
          refine lv_if_eq (tgt := 61) hx hb d_K_usable_37 (by decide) (fun c9 => ?_) (fun c9 => ?_)
          · rw [if_pos c9] at hf
            refine lv_iinc (v := (v4 + 1)) (lv' := [(4, .int (v4 + 1)), (3, .int v5), (0, .ref (a 15)), (1, .int p1), (2, .int p2)]) hx hb d_K_usable_61 hl (k := 0) rfl rfl (by decide) rfl (fun ls hl => ?_)
            refine lv_goto (tgt := 15) hx hb d_K_usable_64 (by decide) ?_
            exact ih1 (v4 + 1) v5 hf ls (lv_sub hl [0, 1, 2, 3, 4] rfl)
          · rw [if_neg c9] at hf
            refine lv_aload_n hx hb d_K_usable_40 rfl (lv_at hl 2 rfl) ?_
            refine va_get (D := (dC, dI)) (ci := 3) (v := .ref (a 5)) (C := "GuideSearch$Cases") (T := F_K) (N := 2) hx hb hT i_K hown hK hP 15 rfl rfl 1 (by decide) (hT _ k_82) (fun _ h9 => h9) rfl d_K_usable_41 ?_
            refine lv_iload hx hb d_K_usable_44 (lv_at hl 0 rfl) ?_
            refine lv_iload_n hx hb d_K_usable_46 rfl (lv_at hl 4 rfl) ?_
            obtain ⟨r11, hr10, hf⟩ := ob hf
            refine ro_calli (va_runV (C := "GuideSearch$Tests") (As := [.int v4, .int p2]) (rest := []) ⟨hx, hb, hml, hown, hT⟩ (c_T_tellsApart l dC dI cs a st v4 p2 r11 hr10) (cwV 2 hT (gV k_291 k_292 k_293 k_3 k_294) rfl rfl rfl (by decide +kernel) ⟨Nat.le_of_ble_eq_true rfl, Nat.le_of_ble_eq_true rfl⟩) (ro_preV hP hK hN (va_recv hK hP (ci := 2) (q0 := 5) rfl rfl)) rfl rfl hl.1 rfl (lv_room (Nat.le_of_ble_eq_true rfl)) d_K_usable_47 ⟨Nat.le_of_ble_eq_true rfl, Nat.le_of_ble_eq_true rfl⟩) ?_
            refine lv_if_eq (tgt := 61) hx hb d_K_usable_50 (by decide) (fun c12 => ?_) (fun c12 => ?_)
            · rw [if_pos c12] at hf
              refine lv_iinc (v := (v4 + 1)) (lv' := [(4, .int (v4 + 1)), (3, .int v5), (0, .ref (a 15)), (1, .int p1), (2, .int p2)]) hx hb d_K_usable_61 hl (k := 0) rfl rfl (by decide) rfl (fun ls hl => ?_)
              refine lv_goto (tgt := 15) hx hb d_K_usable_64 (by decide) ?_
              exact ih1 (v4 + 1) v5 hf ls (lv_sub hl [0, 1, 2, 3, 4] rfl)
            · rw [if_neg c12] at hf
              refine lv_iload_n hx hb d_K_usable_53 rfl (lv_at hl 1 rfl) ?_
              refine lv_iload hx hb d_K_usable_54 (lv_at hl 0 rfl) ?_
              obtain ⟨r14, hr13, hf⟩ := ob hf
              refine ro_calli (va_runSN (As := [.int v4]) (rest := [.int v5]) ⟨hx, hb, hml, hown, hT⟩ (c_G_bit l v4 r14 hr13) ⟨va_cnB 1 hT (gcode k_221) rfl rfl rfl (hN _ k_295) (hT _ k_1) (by decide +kernel) ⟨Nat.le_of_ble_eq_true rfl, Nat.le_of_ble_eq_true rfl⟩, hT _ k_220, trivial⟩ ⟨fun _ _ _ _ q => q, fun _ _ _ => ⟨rfl, trivial⟩⟩ rfl rfl hl.1 rfl (lv_room (Nat.le_of_ble_eq_true rfl)) d_K_usable_56 ⟨Nat.le_of_ble_eq_true rfl, Nat.le_of_ble_eq_true rfl⟩) ?_
              refine lv_ior hx hb d_K_usable_59 ?_
              refine lv_istore_n (lv' := [(3, .int (v5 ||| r14)), (4, .int v4), (0, .ref (a 15)), (1, .int p1), (2, .int p2)]) hx hb d_K_usable_60 rfl hl (by decide) rfl (fun ls hl => ?_)
              refine lv_iinc (v := (v4 + 1)) (lv' := [(4, .int (v4 + 1)), (3, .int (v5 ||| r14)), (0, .ref (a 15)), (1, .int p1), (2, .int p2)]) hx hb d_K_usable_61 hl (k := 1) rfl rfl (by decide) rfl (fun ls hl => ?_)
              refine lv_goto (tgt := 15) hx hb d_K_usable_64 (by decide) ?_
              exact ih1 (v4 + 1) (v5 ||| r14) hf ls (lv_sub hl [0, 1, 2, 3, 4] rfl)
    exact loop1 _ (1 : Int32) (0 : Int32) hf ls (lv_sub hl [0, 1, 2, 3, 4] rfl)
  · rw [if_neg c3] at hf
    refine lv_iconst (v := (0 : Int32)) hx hb d_K_usable_8 (by decide) ?_
    exact W.iret hx hb hr (fun t ht _ => ⟨_, rfl, Option.some.inj hf, ht⟩) (fun _ h => absurd h List.not_mem_nil) d_K_usable_9
set_option maxHeartbeats 4000000 in
set_option maxRecDepth 100000 in
theorem c_K_firstFree (l : Launch) (dC : Nat → ClassId) (dI : Nat → Nat → Nat) (cs : Nat → ClassId) (a : Nat → Nat) (st : XS) (p1 : Int32) (res : Int32) (hf : x_K_firstFree st p1 = some res) : Met l (⟨"GuideSearch$Cases", "firstFree", "(I)I"⟩ : MethodName) (Cond.code (⟨"GuideSearch$Cases", "firstFree", "(I)I"⟩ : MethodName) prog_2_method_7_code 3 (some .int) :: wg) { frames := 2, cells := 0, slots := 0, locals := 42 } (va_Pc ([.ref (a 15), .int p1] : List Value) (x_pre dC dI cs a st)) (vp_Si (fun r => r = res)) 0 0 (fun _ => False) := by
  refine ro_start (cc := prog_2_method_7_code) (maxL := 3) (ret := (some .int)) (by decide) (Nat.le_of_ble_eq_true rfl) ?_
  intro p e s m below meth c hx hb hr hml hT hown hlocks hB ls hl
  replace hown : s.vm.findClass "GuideSearch$Cases" = some m.cls := hown
  obtain ⟨hP, hK, hN⟩ := hB
  replace hl : lv_has ls 3 [(0, .ref (a 15)), (1, .int p1)] := hl
  unfold x_K_firstFree at hf
  refine lv_iconst (v := (1 : Int32)) hx hb d_K_firstFree_0 (by decide) ?_
  refine lv_istore_n (lv' := [(2, .int (1 : Int32)), (0, .ref (a 15)), (1, .int p1)]) hx hb d_K_firstFree_1 rfl hl (by decide) rfl (fun ls hl => ?_)
  have loop1 : ∀ (n : Nat) (v1 : Int32), xl1 (x_K_firstFree_B1 st p1) n v1 = some res → ∀ (ls : Array Slot), lv_has ls 3 [(2, .int v1), (0, .ref (a 15)), (1, .int p1)] → W p l e { frames := 2, cells := 0, slots := 0, locals := 42 } s m ([.ref (a 15), .int p1] : List Value).toArray below meth c s.heap [] 0 0 (MQ below (vp_Si (fun r => r = res)) ([.ref (a 15), .int p1] : List Value).toArray s 0 0 (fun _ => False)) (F0 m 2 ls []) := by
    intro n
    induction n with
    | zero => intro v1 hf; exact absurd hf (by simp [xl1])
    | succ n ih1 =>
      intro v1 hf ls hl
      replace hf : (x_K_firstFree_B1 st p1) (xl1 (x_K_firstFree_B1 st p1) n) v1 = some res := hf
      generalize xl1 (x_K_firstFree_B1 st p1) n = self1 at hf ih1
      unfold x_K_firstFree_B1 at hf
      refine lv_iload_n hx hb d_K_firstFree_2 rfl (lv_at hl 0 rfl) ?_
      refine lv_aload_n hx hb d_K_firstFree_3 rfl (lv_at hl 1 rfl) ?_
      refine va_get (D := (dC, dI)) (ci := 3) (v := .ref (a 5)) (C := "GuideSearch$Cases") (T := F_K) (N := 2) hx hb hT i_K hown hK hP 15 rfl rfl 1 (by decide) (hT _ k_82) (fun _ h9 => h9) rfl d_K_firstFree_4 ?_
      refine va_getN (D := (dC, dI)) (ci := 2) (v := .int (x_tN st)) (C := "GuideSearch$Tests") (T := F_T) (N := 4) hx hb hT i_T hown hK hP 5 rfl rfl 3 (by decide) (va_Nw.use rfl (hN _ k_64)) (fun _ h9 => h9) rfl d_K_firstFree_7 ?_
      refine lv_icmp_gt (tgt := 40) hx hb d_K_firstFree_10 (by decide) (fun c2 => ?_) (fun c2 => ?_)
      · rw [if_pos c2] at hf
        refine lv_iconst (v := (0 : Int32)) hx hb d_K_firstFree_40 (by decide) ?_
        exact W.iret hx hb hr (fun t ht _ => ⟨_, rfl, Option.some.inj hf, ht⟩) (fun _ h => absurd h List.not_mem_nil) d_K_firstFree_41
      · rw [if_neg c2] at hf
        refine lv_iload_n hx hb d_K_firstFree_13 rfl (lv_at hl 2 rfl) ?_
        refine lv_iload_n hx hb d_K_firstFree_14 rfl (lv_at hl 0 rfl) ?_
        obtain ⟨r4, hr3, hf⟩ := ob hf
        refine ro_calli (va_runSN (As := [.int p1, .int v1]) (rest := []) ⟨hx, hb, hml, hown, hT⟩ (c_G_holds l p1 v1 r4 hr3) ⟨va_cnB 2 hT (gcode k_218) rfl rfl rfl (hN _ k_300) (hT _ k_1) (by decide +kernel) ⟨Nat.le_of_ble_eq_true rfl, Nat.le_of_ble_eq_true rfl⟩, hT _ k_217, trivial⟩ ⟨fun _ _ _ _ q => q, fun _ _ _ => ⟨rfl, trivial⟩⟩ rfl rfl hl.1 rfl (lv_room (Nat.le_of_ble_eq_true rfl)) d_K_firstFree_15 ⟨Nat.le_of_ble_eq_true rfl, Nat.le_of_ble_eq_true rfl⟩) ?_
        refine lv_if_eq (tgt := 34) hx hb d_K_firstFree_18 (by decide) (fun c5 => ?_) (fun c5 => ?_)
        · rw [if_pos c5] at hf
          refine lv_iinc (v := (v1 + 1)) (lv' := [(2, .int (v1 + 1)), (0, .ref (a 15)), (1, .int p1)]) hx hb d_K_firstFree_34 hl (k := 0) rfl rfl (by decide) rfl (fun ls hl => ?_)
          refine lv_goto (tgt := 2) hx hb d_K_firstFree_37 (by decide) ?_
          exact ih1 (v1 + 1) hf ls (lv_sub hl [0, 1, 2] rfl)
        · rw [if_neg c5] at hf
          refine lv_aload_n hx hb d_K_firstFree_21 rfl (lv_at hl 1 rfl) ?_
          refine va_get (D := (dC, dI)) (ci := 3) (v := .ref (a 5)) (C := "GuideSearch$Cases") (T := F_K) (N := 2) hx hb hT i_K hown hK hP 15 rfl rfl 1 (by decide) (hT _ k_82) (fun _ h9 => h9) rfl d_K_firstFree_22 ?_
          refine lv_iload_n hx hb d_K_firstFree_25 rfl (lv_at hl 0 rfl) ?_
          obtain ⟨r7, hr6, hf⟩ := ob hf
          refine ro_calli (va_runV (C := "GuideSearch$Tests") (As := [.int v1]) (rest := []) ⟨hx, hb, hml, hown, hT⟩ (c_T_price l dC dI cs a st v1 r7 hr6) (cwV 1 hT (gV k_301 k_302 k_303 k_3 k_304) rfl rfl rfl (by decide +kernel) ⟨Nat.le_of_ble_eq_true rfl, Nat.le_of_ble_eq_true rfl⟩) (ro_preV hP hK hN (va_recv hK hP (ci := 2) (q0 := 5) rfl rfl)) rfl rfl hl.1 rfl (lv_room (Nat.le_of_ble_eq_true rfl)) d_K_firstFree_26 ⟨Nat.le_of_ble_eq_true rfl, Nat.le_of_ble_eq_true rfl⟩) ?_
          refine lv_if_ne (tgt := 34) hx hb d_K_firstFree_29 (by decide) (fun c8 => ?_) (fun c8 => ?_)
          · rw [if_neg c8] at hf
            refine lv_iinc (v := (v1 + 1)) (lv' := [(2, .int (v1 + 1)), (0, .ref (a 15)), (1, .int p1)]) hx hb d_K_firstFree_34 hl (k := 0) rfl rfl (by decide) rfl (fun ls hl => ?_)
            refine lv_goto (tgt := 2) hx hb d_K_firstFree_37 (by decide) ?_
            exact ih1 (v1 + 1) hf ls (lv_sub hl [0, 1, 2] rfl)
          · rw [if_pos c8] at hf
            refine lv_iload_n hx hb d_K_firstFree_32 rfl (lv_at hl 0 rfl) ?_
            exact W.iret hx hb hr (fun t ht _ => ⟨_, rfl, Option.some.inj hf, ht⟩) (fun _ h => absurd h List.not_mem_nil) d_K_firstFree_33
  exact loop1 _ (1 : Int32) hf ls (lv_sub hl [0, 1, 2] rfl)
set_option maxHeartbeats 4000000 in
set_option maxRecDepth 100000 in
theorem c_K_gain (l : Launch) (dC : Nat → ClassId) (dI : Nat → Nat → Nat) (cs : Nat → ClassId) (a : Nat → Nat) (st : XS) (p1 : Int32) (p2 : Int32) (res : Int64) (hf : x_K_gain st p1 p2 = some res) : Met l (⟨"GuideSearch$Cases", "gain", "(II)J"⟩ : MethodName) (Cond.code (⟨"GuideSearch$Cases", "gain", "(II)J"⟩ : MethodName) prog_2_method_10_code 6 (some .long) :: wg) { frames := 5, cells := 0, slots := 0, locals := 116 } (va_Pc ([.ref (a 15), .int p1, .int p2] : List Value) (x_pre dC dI cs a st)) (vp_Sl (fun r => r = res)) 0 0 (fun _ => False) := by
  refine ro_start (cc := prog_2_method_10_code) (maxL := 6) (ret := (some .long)) (by decide) (Nat.le_of_ble_eq_true rfl) ?_
  intro p e s m below meth c hx hb hr hml hT hown hlocks hB ls hl
  replace hown : s.vm.findClass "GuideSearch$Cases" = some m.cls := hown
  obtain ⟨hP, hK, hN⟩ := hB
  replace hl : lv_has ls 6 [(0, .ref (a 15)), (1, .int p1), (2, .int p2)] := hl
  unfold x_K_gain at hf
  refine lv_aload_n hx hb d_K_gain_0 rfl (lv_at hl 0 rfl) ?_
  refine lv_iload_n hx hb d_K_gain_1 rfl (lv_at hl 1 rfl) ?_
  obtain ⟨r2, hr1, hf⟩ := ob hf
  refine ro_calll (va_runV (C := "GuideSearch$Cases") (As := [.int p1]) (rest := []) ⟨hx, hb, hml, hown, hT⟩ (c_K_greatestWeight l dC dI cs a st p1 r2 hr1) (cwV 1 hT (gV k_353 k_355 ks_10 k_5 k_356) rfl rfl rfl (by decide +kernel) ⟨Nat.le_of_ble_eq_true rfl, Nat.le_of_ble_eq_true rfl⟩) (ro_preV hP hK hN (va_recv hK hP (ci := 3) (q0 := 15) rfl rfl)) rfl rfl hl.1 rfl (lv_room (Nat.le_of_ble_eq_true rfl)) d_K_gain_2 ⟨Nat.le_of_ble_eq_true rfl, Nat.le_of_ble_eq_true rfl⟩) ?_
  refine lv_lneg hx hb d_K_gain_5 ?_
  refine lv_lstore_n (lv' := [(3, .long (-r2)), (0, .ref (a 15)), (1, .int p1), (2, .int p2)]) hx hb d_K_gain_6 rfl hl (by decide) rfl (fun ls hl => ?_)
  refine lv_iconst (v := (0 : Int32)) hx hb d_K_gain_7 (by decide) ?_
  refine lv_istore (lv' := [(5, .int (0 : Int32)), (3, .long (-r2)), (0, .ref (a 15)), (1, .int p1), (2, .int p2)]) hx hb d_K_gain_8 hl (by decide) rfl (fun ls hl => ?_)
  have loop1 : ∀ (n : Nat) (v3 : Int32) (v4 : Int64), xl2 (x_K_gain_B1 st p1 p2) n v3 v4 = some res → ∀ (ls : Array Slot), lv_has ls 6 [(5, .int v3), (3, .long v4), (0, .ref (a 15)), (1, .int p1), (2, .int p2)] → W p l e { frames := 5, cells := 0, slots := 0, locals := 116 } s m ([.ref (a 15), .int p1, .int p2] : List Value).toArray below meth c s.heap [] 0 0 (MQ below (vp_Sl (fun r => r = res)) ([.ref (a 15), .int p1, .int p2] : List Value).toArray s 0 0 (fun _ => False)) (F0 m 10 ls []) := by
    intro n
    induction n with
    | zero => intro v3 v4 hf; exact absurd hf (by simp [xl2])
    | succ n ih1 =>
      intro v3 v4 hf ls hl
      replace hf : (x_K_gain_B1 st p1 p2) (xl2 (x_K_gain_B1 st p1 p2) n) v3 v4 = some res := hf
      generalize xl2 (x_K_gain_B1 st p1 p2) n = self1 at hf ih1
      unfold x_K_gain_B1 at hf
      refine lv_iload hx hb d_K_gain_10 (lv_at hl 0 rfl) ?_
      refine lv_iconst (v := (3 : Int32)) hx hb d_K_gain_12 (by decide) ?_
      refine lv_icmp_ge (tgt := 36) hx hb d_K_gain_13 (by decide) (fun c5 => ?_) (fun c5 => ?_)
      · rw [if_pos c5] at hf
        refine lv_lload_n hx hb d_K_gain_36 rfl (lv_at hl 1 rfl) ?_
        exact W.lret hx hb hr (fun t ht _ => ⟨_, rfl, Option.some.inj hf, ht⟩) (fun _ h => absurd h List.not_mem_nil) d_K_gain_37
      · rw [if_neg c5] at hf
        refine lv_lload_n hx hb d_K_gain_16 rfl (lv_at hl 1 rfl) ?_
        refine lv_aload_n hx hb d_K_gain_17 rfl (lv_at hl 2 rfl) ?_
        refine lv_iload_n hx hb d_K_gain_18 rfl (lv_at hl 3 rfl) ?_
        refine lv_iload_n hx hb d_K_gain_19 rfl (lv_at hl 4 rfl) ?_
        refine lv_iload hx hb d_K_gain_20 (lv_at hl 0 rfl) ?_
        obtain ⟨r7, hr6, hf⟩ := ob hf
        refine ro_calli (va_runSN (As := [.int p1, .int p2, .int v3]) (rest := [.ref (a 15), .long v4]) ⟨hx, hb, hml, hown, hT⟩ (c_G_withAnswer l p1 p2 v3 r7 hr6) ⟨va_cnB 3 hT (gcode k_321) rfl rfl rfl (hN _ k_360) (hT _ k_1) (by decide +kernel) ⟨Nat.le_of_ble_eq_true rfl, Nat.le_of_ble_eq_true rfl⟩, hT _ k_320, trivial⟩ ⟨fun _ _ _ _ q => q, fun _ _ _ => ⟨rfl, trivial⟩⟩ rfl rfl hl.1 rfl (lv_room (Nat.le_of_ble_eq_true rfl)) d_K_gain_22 ⟨Nat.le_of_ble_eq_true rfl, Nat.le_of_ble_eq_true rfl⟩) ?_
        obtain ⟨r9, hr8, hf⟩ := ob hf
        refine ro_calll (va_runV (C := "GuideSearch$Cases") (As := [.int r7]) (rest := [.long v4]) ⟨hx, hb, hml, hown, hT⟩ (c_K_greatestWeight l dC dI cs a st r7 r9 hr8) (cwV 1 hT (gV k_353 k_355 ks_10 k_5 k_356) rfl rfl rfl (by decide +kernel) ⟨Nat.le_of_ble_eq_true rfl, Nat.le_of_ble_eq_true rfl⟩) (ro_preV hP hK hN (va_recv hK hP (ci := 3) (q0 := 15) rfl rfl)) rfl rfl hl.1 rfl (lv_room (Nat.le_of_ble_eq_true rfl)) d_K_gain_25 ⟨Nat.le_of_ble_eq_true rfl, Nat.le_of_ble_eq_true rfl⟩) ?_
        refine lv_ladd hx hb d_K_gain_28 ?_
        refine lv_lstore_n (lv' := [(3, .long (v4 + r9)), (5, .int v3), (0, .ref (a 15)), (1, .int p1), (2, .int p2)]) hx hb d_K_gain_29 rfl hl (by decide) rfl (fun ls hl => ?_)
        refine lv_iinc (v := (v3 + 1)) (lv' := [(5, .int (v3 + 1)), (3, .long (v4 + r9)), (0, .ref (a 15)), (1, .int p1), (2, .int p2)]) hx hb d_K_gain_30 hl (k := 1) rfl rfl (by decide) rfl (fun ls hl => ?_)
        refine lv_goto (tgt := 10) hx hb d_K_gain_33 (by decide) ?_
        exact ih1 (v3 + 1) (v4 + r9) hf ls (lv_sub hl [0, 1, 2, 3, 4] rfl)
  exact loop1 _ (0 : Int32) (-r2) hf ls (lv_sub hl [0, 1, 2, 3, 4] rfl)
set_option maxHeartbeats 4000000 in
set_option maxRecDepth 100000 in
theorem c_K_bestGain (l : Launch) (dC : Nat → ClassId) (dI : Nat → Nat → Nat) (cs : Nat → ClassId) (a : Nat → Nat) (st : XS) (p1 : Int32) (p2 : Int32) (res : Int32) (hf : x_K_bestGain st p1 p2 = some res) : Met l (⟨"GuideSearch$Cases", "bestGain", "(II)I"⟩ : MethodName) (Cond.code (⟨"GuideSearch$Cases", "bestGain", "(II)I"⟩ : MethodName) prog_2_method_9_code 9 (some .int) :: wg) { frames := 6, cells := 0, slots := 0, locals := 141 } (va_Pc ([.ref (a 15), .int p1, .int p2] : List Value) (x_pre dC dI cs a st)) (vp_Si (fun r => r = res)) 0 0 (fun _ => False) := by
  refine ro_start (cc := prog_2_method_9_code) (maxL := 9) (ret := (some .int)) (by decide) (Nat.le_of_ble_eq_true rfl) ?_
  intro p e s m below meth c hx hb hr hml hT hown hlocks hB ls hl
  replace hown : s.vm.findClass "GuideSearch$Cases" = some m.cls := hown
  obtain ⟨hP, hK, hN⟩ := hB
  replace hl : lv_has ls 9 [(0, .ref (a 15)), (1, .int p1), (2, .int p2)] := hl
  unfold x_K_bestGain at hf
  refine lv_iconst (v := (0 : Int32)) hx hb d_K_bestGain_0 (by decide) ?_
  refine lv_istore_n (lv' := [(3, .int (0 : Int32)), (0, .ref (a 15)), (1, .int p1), (2, .int p2)]) hx hb d_K_bestGain_1 rfl hl (by decide) rfl (fun ls hl => ?_)
  refine lv_lconst (v := (0 : Int64)) hx hb d_K_bestGain_2 (by decide) ?_
  refine lv_lstore (lv' := [(4, .long (0 : Int64)), (3, .int (0 : Int32)), (0, .ref (a 15)), (1, .int p1), (2, .int p2)]) hx hb d_K_bestGain_3 hl (by decide) rfl (fun ls hl => ?_)
  refine lv_iconst (v := (1 : Int32)) hx hb d_K_bestGain_5 (by decide) ?_
  refine lv_istore (lv' := [(6, .int (1 : Int32)), (4, .long (0 : Int64)), (3, .int (0 : Int32)), (0, .ref (a 15)), (1, .int p1), (2, .int p2)]) hx hb d_K_bestGain_6 hl (by decide) rfl (fun ls hl => ?_)
  have loop1 : ∀ (n : Nat) (v1 : Int32) (v2 : Int64) (v3 : Int32), xl3 (x_K_bestGain_B1 st p1 p2) n v1 v2 v3 = some res → ∀ (ls : Array Slot), lv_has ls 9 [(6, .int v1), (4, .long v2), (3, .int v3), (0, .ref (a 15)), (1, .int p1), (2, .int p2)] → W p l e { frames := 6, cells := 0, slots := 0, locals := 141 } s m ([.ref (a 15), .int p1, .int p2] : List Value).toArray below meth c s.heap [] 0 0 (MQ below (vp_Si (fun r => r = res)) ([.ref (a 15), .int p1, .int p2] : List Value).toArray s 0 0 (fun _ => False)) (F0 m 8 ls []) := by
    intro n
    induction n with
    | zero => intro v1 v2 v3 hf; exact absurd hf (by simp [xl3])
    | succ n ih1 =>
      intro v1 v2 v3 hf ls hl
      replace hf : (x_K_bestGain_B1 st p1 p2) (xl3 (x_K_bestGain_B1 st p1 p2) n) v1 v2 v3 = some res := hf
      generalize xl3 (x_K_bestGain_B1 st p1 p2) n = self1 at hf ih1
      unfold x_K_bestGain_B1 at hf
      refine lv_iload hx hb d_K_bestGain_8 (lv_at hl 0 rfl) ?_
      refine lv_aload_n hx hb d_K_bestGain_10 rfl (lv_at hl 3 rfl) ?_
      refine va_get (D := (dC, dI)) (ci := 3) (v := .ref (a 5)) (C := "GuideSearch$Cases") (T := F_K) (N := 2) hx hb hT i_K hown hK hP 15 rfl rfl 1 (by decide) (hT _ k_82) (fun _ h9 => h9) rfl d_K_bestGain_11 ?_
      refine va_getN (D := (dC, dI)) (ci := 2) (v := .int (x_tN st)) (C := "GuideSearch$Tests") (T := F_T) (N := 4) hx hb hT i_T hown hK hP 5 rfl rfl 3 (by decide) (va_Nw.use rfl (hN _ k_64)) (fun _ h9 => h9) rfl d_K_bestGain_14 ?_
      refine lv_icmp_gt (tgt := 87) hx hb d_K_bestGain_17 (by decide) (fun c4 => ?_) (fun c4 => ?_)
      · rw [if_pos c4] at hf
        refine lv_iload_n hx hb d_K_bestGain_87 rfl (lv_at hl 2 rfl) ?_
        exact W.iret hx hb hr (fun t ht _ => ⟨_, rfl, Option.some.inj hf, ht⟩) (fun _ h => absurd h List.not_mem_nil) d_K_bestGain_88
      · rw [if_neg c4] at hf
        refine lv_iload_n hx hb d_K_bestGain_20 rfl (lv_at hl 5 rfl) ?_
        refine lv_iload hx hb d_K_bestGain_21 (lv_at hl 0 rfl) ?_
        obtain ⟨r6, hr5, hf⟩ := ob hf
        refine ro_calli (va_runSN (As := [.int p2, .int v1]) (rest := []) ⟨hx, hb, hml, hown, hT⟩ (c_G_holds l p2 v1 r6 hr5) ⟨va_cnB 2 hT (gcode k_218) rfl rfl rfl (hN _ k_300) (hT _ k_1) (by decide +kernel) ⟨Nat.le_of_ble_eq_true rfl, Nat.le_of_ble_eq_true rfl⟩, hT _ k_217, trivial⟩ ⟨fun _ _ _ _ q => q, fun _ _ _ => ⟨rfl, trivial⟩⟩ rfl rfl hl.1 rfl (lv_room (Nat.le_of_ble_eq_true rfl)) d_K_bestGain_23 ⟨Nat.le_of_ble_eq_true rfl, Nat.le_of_ble_eq_true rfl⟩) ?_
        refine lv_if_ne (tgt := 32) hx hb d_K_bestGain_26 (by decide) (fun c7 => ?_) (fun c7 => ?_)
        · rw [if_neg c7] at hf
          refine lv_aload_n hx hb d_K_bestGain_32 rfl (lv_at hl 3 rfl) ?_
          refine lv_iload_n hx hb d_K_bestGain_33 rfl (lv_at hl 4 rfl) ?_
          refine lv_iload hx hb d_K_bestGain_34 (lv_at hl 0 rfl) ?_
          obtain ⟨r9, hr8, hf⟩ := ob hf
          refine ro_calll (va_runV (C := "GuideSearch$Cases") (As := [.int p1, .int v1]) (rest := []) ⟨hx, hb, hml, hown, hT⟩ (c_K_gain l dC dI cs a st p1 v1 r9 hr8) (cwV 2 hT (gV k_349 k_351 ks_9 k_5 k_352) rfl rfl rfl (by decide +kernel) ⟨Nat.le_of_ble_eq_true rfl, Nat.le_of_ble_eq_true rfl⟩) (ro_preV hP hK hN (va_recv hK hP (ci := 3) (q0 := 15) rfl rfl)) rfl rfl hl.1 rfl (lv_room (Nat.le_of_ble_eq_true rfl)) d_K_bestGain_36 ⟨Nat.le_of_ble_eq_true rfl, Nat.le_of_ble_eq_true rfl⟩) ?_
          refine lv_lstore (lv' := [(7, .long r9), (6, .int v1), (4, .long v2), (3, .int v3), (0, .ref (a 15)), (1, .int p1), (2, .int p2)]) hx hb d_K_bestGain_39 hl (by decide) rfl (fun ls hl => ?_)
          refine lv_iload_n hx hb d_K_bestGain_41 rfl (lv_at hl 3 rfl) ?_
          refine lv_if_eq (tgt := 74) hx hb d_K_bestGain_42 (by decide) (fun c10 => ?_) (fun c10 => ?_)
          · rw [if_pos c10] at hf
            refine lv_iload hx hb d_K_bestGain_74 (lv_at hl 1 rfl) ?_
            refine lv_istore_n (lv' := [(3, .int v1), (7, .long r9), (6, .int v1), (4, .long v2), (0, .ref (a 15)), (1, .int p1), (2, .int p2)]) hx hb d_K_bestGain_76 rfl hl (by decide) rfl (fun ls hl => ?_)
            refine lv_lload hx hb d_K_bestGain_77 (lv_at hl 1 rfl) ?_
            refine lv_lstore (lv' := [(4, .long r9), (3, .int v1), (7, .long r9), (6, .int v1), (0, .ref (a 15)), (1, .int p1), (2, .int p2)]) hx hb d_K_bestGain_79 hl (by decide) rfl (fun ls hl => ?_)
            refine lv_iinc (v := (v1 + 1)) (lv' := [(6, .int (v1 + 1)), (4, .long r9), (3, .int v1), (7, .long r9), (0, .ref (a 15)), (1, .int p1), (2, .int p2)]) hx hb d_K_bestGain_81 hl (k := 3) rfl rfl (by decide) rfl (fun ls hl => ?_)
            refine lv_goto (tgt := 8) hx hb d_K_bestGain_84 (by decide) ?_
            exact ih1 (v1 + 1) r9 v1 hf ls (lv_sub hl [0, 1, 2, 4, 5, 6] rfl)
          · rw [if_neg c10] at hf
            refine lv_lload hx hb d_K_bestGain_45 (lv_at hl 0 rfl) ?_
            refine lv_aload_n hx hb d_K_bestGain_47 rfl (lv_at hl 4 rfl) ?_
            refine va_get (D := (dC, dI)) (ci := 3) (v := .ref (a 5)) (C := "GuideSearch$Cases") (T := F_K) (N := 2) hx hb hT i_K hown hK hP 15 rfl rfl 1 (by decide) (hT _ k_82) (fun _ h9 => h9) rfl d_K_bestGain_48 ?_
            refine lv_iload_n hx hb d_K_bestGain_51 rfl (lv_at hl 3 rfl) ?_
            obtain ⟨r12, hr11, hf⟩ := ob hf
            refine ro_calli (va_runV (C := "GuideSearch$Tests") (As := [.int v3]) (rest := [.long r9]) ⟨hx, hb, hml, hown, hT⟩ (c_T_price l dC dI cs a st v3 r12 hr11) (cwV 1 hT (gV k_301 k_302 k_303 k_3 k_304) rfl rfl rfl (by decide +kernel) ⟨Nat.le_of_ble_eq_true rfl, Nat.le_of_ble_eq_true rfl⟩) (ro_preV hP hK hN (va_recv hK hP (ci := 2) (q0 := 5) rfl rfl)) rfl rfl hl.1 rfl (lv_room (Nat.le_of_ble_eq_true rfl)) d_K_bestGain_52 ⟨Nat.le_of_ble_eq_true rfl, Nat.le_of_ble_eq_true rfl⟩) ?_
            refine lv_i2l (v := r12.toInt64) hx hb d_K_bestGain_55 rfl ?_
            refine lv_lmul hx hb d_K_bestGain_56 ?_
            refine lv_lload hx hb d_K_bestGain_57 (lv_at hl 2 rfl) ?_
            refine lv_aload_n hx hb d_K_bestGain_59 rfl (lv_at hl 4 rfl) ?_
            refine va_get (D := (dC, dI)) (ci := 3) (v := .ref (a 5)) (C := "GuideSearch$Cases") (T := F_K) (N := 2) hx hb hT i_K hown hK hP 15 rfl rfl 1 (by decide) (hT _ k_82) (fun _ h9 => h9) rfl d_K_bestGain_60 ?_
            refine lv_iload hx hb d_K_bestGain_63 (lv_at hl 1 rfl) ?_
            obtain ⟨r14, hr13, hf⟩ := ob hf
            refine ro_calli (va_runV (C := "GuideSearch$Tests") (As := [.int v1]) (rest := [.long v2, .long (r9 * r12.toInt64)]) ⟨hx, hb, hml, hown, hT⟩ (c_T_price l dC dI cs a st v1 r14 hr13) (cwV 1 hT (gV k_301 k_302 k_303 k_3 k_304) rfl rfl rfl (by decide +kernel) ⟨Nat.le_of_ble_eq_true rfl, Nat.le_of_ble_eq_true rfl⟩) (ro_preV hP hK hN (va_recv hK hP (ci := 2) (q0 := 5) rfl rfl)) rfl rfl hl.1 rfl (lv_room (Nat.le_of_ble_eq_true rfl)) d_K_bestGain_65 ⟨Nat.le_of_ble_eq_true rfl, Nat.le_of_ble_eq_true rfl⟩) ?_
            refine lv_i2l (v := r14.toInt64) hx hb d_K_bestGain_68 rfl ?_
            refine lv_lmul hx hb d_K_bestGain_69 ?_
            refine W.lcmp hx hb d_K_bestGain_70 ?_
            refine lv_if_le (tgt := 81) hx hb d_K_bestGain_71 (by decide) (fun c15 => ?_) (fun c15 => ?_)
            · rw [if_pos ((lg_cmp_le _ _).mp c15)] at hf
              refine lv_iinc (v := (v1 + 1)) (lv' := [(6, .int (v1 + 1)), (7, .long r9), (4, .long v2), (3, .int v3), (0, .ref (a 15)), (1, .int p1), (2, .int p2)]) hx hb d_K_bestGain_81 hl (k := 1) rfl rfl (by decide) rfl (fun ls hl => ?_)
              refine lv_goto (tgt := 8) hx hb d_K_bestGain_84 (by decide) ?_
              exact ih1 (v1 + 1) v2 v3 hf ls (lv_sub hl [0, 2, 3, 4, 5, 6] rfl)
            · rw [if_neg (mt (lg_cmp_le _ _).mpr c15)] at hf
              refine lv_iload hx hb d_K_bestGain_74 (lv_at hl 1 rfl) ?_
              refine lv_istore_n (lv' := [(3, .int v1), (7, .long r9), (6, .int v1), (4, .long v2), (0, .ref (a 15)), (1, .int p1), (2, .int p2)]) hx hb d_K_bestGain_76 rfl hl (by decide) rfl (fun ls hl => ?_)
              refine lv_lload hx hb d_K_bestGain_77 (lv_at hl 1 rfl) ?_
              refine lv_lstore (lv' := [(4, .long r9), (3, .int v1), (7, .long r9), (6, .int v1), (0, .ref (a 15)), (1, .int p1), (2, .int p2)]) hx hb d_K_bestGain_79 hl (by decide) rfl (fun ls hl => ?_)
              refine lv_iinc (v := (v1 + 1)) (lv' := [(6, .int (v1 + 1)), (4, .long r9), (3, .int v1), (7, .long r9), (0, .ref (a 15)), (1, .int p1), (2, .int p2)]) hx hb d_K_bestGain_81 hl (k := 3) rfl rfl (by decide) rfl (fun ls hl => ?_)
              refine lv_goto (tgt := 8) hx hb d_K_bestGain_84 (by decide) ?_
              exact ih1 (v1 + 1) r9 v1 hf ls (lv_sub hl [0, 1, 2, 4, 5, 6] rfl)
        · rw [if_pos c7] at hf
          refine lv_goto (tgt := 81) hx hb d_K_bestGain_29 (by decide) ?_
          refine lv_iinc (v := (v1 + 1)) (lv' := [(6, .int (v1 + 1)), (4, .long v2), (3, .int v3), (0, .ref (a 15)), (1, .int p1), (2, .int p2)]) hx hb d_K_bestGain_81 hl (k := 0) rfl rfl (by decide) rfl (fun ls hl => ?_)
          refine lv_goto (tgt := 8) hx hb d_K_bestGain_84 (by decide) ?_
          exact ih1 (v1 + 1) v2 v3 hf ls (lv_sub hl [0, 1, 2, 3, 4, 5] rfl)
  exact loop1 _ (1 : Int32) (0 : Int64) (0 : Int32) hf ls (lv_sub hl [0, 1, 2, 3, 4, 5] rfl)
set_option maxHeartbeats 4000000 in
set_option maxRecDepth 100000 in
theorem c_K_oneStep (l : Launch) (dC : Nat → ClassId) (dI : Nat → Nat → Nat) (cs : Nat → ClassId) (a : Nat → Nat) (st : XS) (p1 : Int32) (res : Int32) (hf : x_K_oneStep st p1 = some res) : Met l (⟨"GuideSearch$Cases", "oneStep", "(I)I"⟩ : MethodName) (Cond.code (⟨"GuideSearch$Cases", "oneStep", "(I)I"⟩ : MethodName) prog_2_method_8_code 4 (some .int) :: wg) { frames := 7, cells := 0, slots := 0, locals := 169 } (va_Pc ([.ref (a 15), .int p1] : List Value) (x_pre dC dI cs a st)) (vp_Si (fun r => r = res)) 0 0 (fun _ => False) := by
  refine ro_start (cc := prog_2_method_8_code) (maxL := 4) (ret := (some .int)) (by decide) (Nat.le_of_ble_eq_true rfl) ?_
  intro p e s m below meth c hx hb hr hml hT hown hlocks hB ls hl
  replace hown : s.vm.findClass "GuideSearch$Cases" = some m.cls := hown
  obtain ⟨hP, hK, hN⟩ := hB
  replace hl : lv_has ls 4 [(0, .ref (a 15)), (1, .int p1)] := hl
  unfold x_K_oneStep at hf
  refine lv_aload_n hx hb d_K_oneStep_0 rfl (lv_at hl 0 rfl) ?_
  refine lv_iload_n hx hb d_K_oneStep_1 rfl (lv_at hl 1 rfl) ?_
  refine lv_aload_n hx hb d_K_oneStep_2 rfl (lv_at hl 0 rfl) ?_
  refine lv_iload_n hx hb d_K_oneStep_3 rfl (lv_at hl 1 rfl) ?_
  obtain ⟨r2, hr1, hf⟩ := ob hf
  refine ro_calli (va_runV (C := "GuideSearch$Cases") (As := [.int p1]) (rest := [.int p1, .ref (a 15)]) ⟨hx, hb, hml, hown, hT⟩ (c_K_left l dC dI cs a st p1 r2 hr1) (cwV 1 hT (gV k_338 k_339 k_340 k_5 k_341) rfl rfl rfl (by decide +kernel) ⟨Nat.le_of_ble_eq_true rfl, Nat.le_of_ble_eq_true rfl⟩) (ro_preV hP hK hN (va_recv hK hP (ci := 3) (q0 := 15) rfl rfl)) rfl rfl hl.1 rfl (lv_room (Nat.le_of_ble_eq_true rfl)) d_K_oneStep_4 ⟨Nat.le_of_ble_eq_true rfl, Nat.le_of_ble_eq_true rfl⟩) ?_
  obtain ⟨r4, hr3, hf⟩ := ob hf
  refine ro_calli (va_runV (C := "GuideSearch$Cases") (As := [.int p1, .int r2]) (rest := []) ⟨hx, hb, hml, hown, hT⟩ (c_K_usable l dC dI cs a st p1 r2 r4 hr3) (cwV 2 hT (gV k_343 k_283 k_284 k_5 k_285) rfl rfl rfl (by decide +kernel) ⟨Nat.le_of_ble_eq_true rfl, Nat.le_of_ble_eq_true rfl⟩) (ro_preV hP hK hN (va_recv hK hP (ci := 3) (q0 := 15) rfl rfl)) rfl rfl hl.1 rfl (lv_room (Nat.le_of_ble_eq_true rfl)) d_K_oneStep_7 ⟨Nat.le_of_ble_eq_true rfl, Nat.le_of_ble_eq_true rfl⟩) ?_
  refine lv_istore_n (lv' := [(2, .int r4), (0, .ref (a 15)), (1, .int p1)]) hx hb d_K_oneStep_10 rfl hl (by decide) rfl (fun ls hl => ?_)
  refine lv_aload_n hx hb d_K_oneStep_11 rfl (lv_at hl 1 rfl) ?_
  refine lv_iload_n hx hb d_K_oneStep_12 rfl (lv_at hl 0 rfl) ?_
  obtain ⟨r6, hr5, hf⟩ := ob hf
  refine ro_calli (va_runV (C := "GuideSearch$Cases") (As := [.int r4]) (rest := []) ⟨hx, hb, hml, hown, hT⟩ (c_K_firstFree l dC dI cs a st r4 r6 hr5) (cwV 1 hT (gV k_344 k_297 k_298 k_5 k_299) rfl rfl rfl (by decide +kernel) ⟨Nat.le_of_ble_eq_true rfl, Nat.le_of_ble_eq_true rfl⟩) (ro_preV hP hK hN (va_recv hK hP (ci := 3) (q0 := 15) rfl rfl)) rfl rfl hl.1 rfl (lv_room (Nat.le_of_ble_eq_true rfl)) d_K_oneStep_13 ⟨Nat.le_of_ble_eq_true rfl, Nat.le_of_ble_eq_true rfl⟩) ?_
  refine lv_istore_n (lv' := [(3, .int r6), (2, .int r4), (0, .ref (a 15)), (1, .int p1)]) hx hb d_K_oneStep_16 rfl hl (by decide) rfl (fun ls hl => ?_)
  refine lv_iload_n hx hb d_K_oneStep_17 rfl (lv_at hl 0 rfl) ?_
  refine lv_if_eq (tgt := 25) hx hb d_K_oneStep_18 (by decide) (fun c7 => ?_) (fun c7 => ?_)
  · rw [if_pos c7] at hf
    refine lv_aload_n hx hb d_K_oneStep_25 rfl (lv_at hl 2 rfl) ?_
    refine lv_iload_n hx hb d_K_oneStep_26 rfl (lv_at hl 3 rfl) ?_
    refine lv_iload_n hx hb d_K_oneStep_27 rfl (lv_at hl 1 rfl) ?_
    obtain ⟨r9, hr8, hf⟩ := ob hf
    refine ro_calli (va_runV (C := "GuideSearch$Cases") (As := [.int p1, .int r4]) (rest := []) ⟨hx, hb, hml, hown, hT⟩ (c_K_bestGain l dC dI cs a st p1 r4 r9 hr8) (cwV 2 hT (gV k_345 k_347 ks_8 k_5 k_348) rfl rfl rfl (by decide +kernel) ⟨Nat.le_of_ble_eq_true rfl, Nat.le_of_ble_eq_true rfl⟩) (ro_preV hP hK hN (va_recv hK hP (ci := 3) (q0 := 15) rfl rfl)) rfl rfl hl.1 rfl (lv_room (Nat.le_of_ble_eq_true rfl)) d_K_oneStep_28 ⟨Nat.le_of_ble_eq_true rfl, Nat.le_of_ble_eq_true rfl⟩) ?_
    exact W.iret hx hb hr (fun t ht _ => ⟨_, rfl, Option.some.inj hf, ht⟩) (fun _ h => absurd h List.not_mem_nil) d_K_oneStep_31
  · rw [if_neg c7] at hf
    refine lv_iload_n hx hb d_K_oneStep_21 rfl (lv_at hl 0 rfl) ?_
    refine lv_goto (tgt := 31) hx hb d_K_oneStep_22 (by decide) ?_
    exact W.iret hx hb hr (fun t ht _ => ⟨_, rfl, Option.some.inj hf, ht⟩) (fun _ h => absurd h List.not_mem_nil) d_K_oneStep_31
end
section
theorem d_P_tell_0 : decode prog_4_method_4_code 0 = .ok (.iload_n 1, 1) := by decide +kernel
theorem d_P_tell_1 : decode prog_4_method_4_code 1 = .ok (.ifCond .lt 10, 3) := by decide +kernel
theorem d_P_tell_4 : decode prog_4_method_4_code 4 = .ok (.iload_n 1, 1) := by decide +kernel
theorem d_P_tell_5 : decode prog_4_method_4_code 5 = .ok (.sipush 300, 3) := by decide +kernel
theorem d_P_tell_8 : decode prog_4_method_4_code 8 = .ok (.if_icmp .lt 5, 3) := by decide +kernel
theorem d_P_tell_11 : decode prog_4_method_4_code 11 = .ok (.iconst (-1), 1) := by decide +kernel
theorem d_P_tell_12 : decode prog_4_method_4_code 12 = .ok (.ireturn, 1) := by decide +kernel
theorem d_P_tell_13 : decode prog_4_method_4_code 13 = .ok (.iload_n 2, 1) := by decide +kernel
theorem d_P_tell_14 : decode prog_4_method_4_code 14 = .ok (.tableswitch 47 0 2 #[26, 33, 40], 26) := by decide +kernel
theorem d_P_tell_40 : decode prog_4_method_4_code 40 = .ok (.aload_n 0, 1) := by decide +kernel
theorem d_P_tell_41 : decode prog_4_method_4_code 41 = .ok (.getfield 24, 3) := by decide +kernel
theorem d_P_tell_44 : decode prog_4_method_4_code 44 = .ok (.iload_n 1, 1) := by decide +kernel
theorem d_P_tell_45 : decode prog_4_method_4_code 45 = .ok (.baload, 1) := by decide +kernel
theorem d_P_tell_46 : decode prog_4_method_4_code 46 = .ok (.ireturn, 1) := by decide +kernel
theorem d_P_tell_47 : decode prog_4_method_4_code 47 = .ok (.aload_n 0, 1) := by decide +kernel
theorem d_P_tell_48 : decode prog_4_method_4_code 48 = .ok (.getfield 27, 3) := by decide +kernel
theorem d_P_tell_51 : decode prog_4_method_4_code 51 = .ok (.iload_n 1, 1) := by decide +kernel
theorem d_P_tell_52 : decode prog_4_method_4_code 52 = .ok (.baload, 1) := by decide +kernel
theorem d_P_tell_53 : decode prog_4_method_4_code 53 = .ok (.ireturn, 1) := by decide +kernel
theorem d_P_tell_54 : decode prog_4_method_4_code 54 = .ok (.aload_n 0, 1) := by decide +kernel
theorem d_P_tell_55 : decode prog_4_method_4_code 55 = .ok (.getfield 30, 3) := by decide +kernel
theorem d_P_tell_58 : decode prog_4_method_4_code 58 = .ok (.iload_n 1, 1) := by decide +kernel
theorem d_P_tell_59 : decode prog_4_method_4_code 59 = .ok (.baload, 1) := by decide +kernel
theorem d_P_tell_60 : decode prog_4_method_4_code 60 = .ok (.ireturn, 1) := by decide +kernel
theorem d_P_tell_61 : decode prog_4_method_4_code 61 = .ok (.bipush (-2), 2) := by decide +kernel
theorem d_P_tell_63 : decode prog_4_method_4_code 63 = .ok (.ireturn, 1) := by decide +kernel
theorem d_P_drop_0 : decode prog_4_method_2_code 0 = .ok (.aload_n 0, 1) := by decide +kernel
theorem d_P_drop_1 : decode prog_4_method_2_code 1 = .ok (.iconst 0, 1) := by decide +kernel
theorem d_P_drop_2 : decode prog_4_method_2_code 2 = .ok (.putfield 33, 3) := by decide +kernel
theorem d_P_drop_5 : decode prog_4_method_2_code 5 = .ok (.aload_n 0, 1) := by decide +kernel
theorem d_P_drop_6 : decode prog_4_method_2_code 6 = .ok (.ldc2_w 37, 3) := by decide +kernel
theorem d_P_drop_9 : decode prog_4_method_2_code 9 = .ok (.putfield 39, 3) := by decide +kernel
theorem d_P_drop_12 : decode prog_4_method_2_code 12 = .ok (.return_, 1) := by decide +kernel
theorem d_P_weighFirst_0 : decode prog_4_method_5_code 0 = .ok (.iconst 1, 1) := by decide +kernel
theorem d_P_weighFirst_1 : decode prog_4_method_5_code 1 = .ok (.istore_n 2, 1) := by decide +kernel
theorem d_P_weighFirst_2 : decode prog_4_method_5_code 2 = .ok (.iload_n 2, 1) := by decide +kernel
theorem d_P_weighFirst_3 : decode prog_4_method_5_code 3 = .ok (.bipush 12, 2) := by decide +kernel
theorem d_P_weighFirst_5 : decode prog_4_method_5_code 5 = .ok (.if_icmp .gt 26, 3) := by decide +kernel
theorem d_P_weighFirst_8 : decode prog_4_method_5_code 8 = .ok (.aload_n 0, 1) := by decide +kernel
theorem d_P_weighFirst_9 : decode prog_4_method_5_code 9 = .ok (.getfield 21, 3) := by decide +kernel
theorem d_P_weighFirst_12 : decode prog_4_method_5_code 12 = .ok (.iconst 0, 1) := by decide +kernel
theorem d_P_weighFirst_13 : decode prog_4_method_5_code 13 = .ok (.aaload, 1) := by decide +kernel
theorem d_P_weighFirst_14 : decode prog_4_method_5_code 14 = .ok (.iload_n 2, 1) := by decide +kernel
theorem d_P_weighFirst_15 : decode prog_4_method_5_code 15 = .ok (.aload_n 0, 1) := by decide +kernel
theorem d_P_weighFirst_16 : decode prog_4_method_5_code 16 = .ok (.getfield 43, 3) := by decide +kernel
theorem d_P_weighFirst_19 : decode prog_4_method_5_code 19 = .ok (.iload_n 2, 1) := by decide +kernel
theorem d_P_weighFirst_20 : decode prog_4_method_5_code 20 = .ok (.iload_n 1, 1) := by decide +kernel
theorem d_P_weighFirst_21 : decode prog_4_method_5_code 21 = .ok (.invokevirtual 74, 3) := by decide +kernel
theorem d_P_weighFirst_24 : decode prog_4_method_5_code 24 = .ok (.lastore, 1) := by decide +kernel
theorem d_P_weighFirst_25 : decode prog_4_method_5_code 25 = .ok (.iinc 2 1, 3) := by decide +kernel
theorem d_P_weighFirst_28 : decode prog_4_method_5_code 28 = .ok (.goto (-26), 3) := by decide +kernel
theorem d_P_weighFirst_31 : decode prog_4_method_5_code 31 = .ok (.return_, 1) := by decide +kernel
theorem d_P_weighBehind_0 : decode prog_4_method_6_code 0 = .ok (.iload_n 3, 1) := by decide +kernel
theorem d_P_weighBehind_1 : decode prog_4_method_6_code 1 = .ok (.ifCond .lt 8, 3) := by decide +kernel
theorem d_P_weighBehind_4 : decode prog_4_method_6_code 4 = .ok (.iload_n 3, 1) := by decide +kernel
theorem d_P_weighBehind_5 : decode prog_4_method_6_code 5 = .ok (.iconst 5, 1) := by decide +kernel
theorem d_P_weighBehind_6 : decode prog_4_method_6_code 6 = .ok (.if_icmp .lt 4, 3) := by decide +kernel
theorem d_P_weighBehind_9 : decode prog_4_method_6_code 9 = .ok (.return_, 1) := by decide +kernel
theorem d_P_weighBehind_10 : decode prog_4_method_6_code 10 = .ok (.iconst 1, 1) := by decide +kernel
theorem d_P_weighBehind_11 : decode prog_4_method_6_code 11 = .ok (.istore 4, 2) := by decide +kernel
theorem d_P_weighBehind_13 : decode prog_4_method_6_code 13 = .ok (.iload 4, 2) := by decide +kernel
theorem d_P_weighBehind_15 : decode prog_4_method_6_code 15 = .ok (.bipush 12, 2) := by decide +kernel
theorem d_P_weighBehind_17 : decode prog_4_method_6_code 17 = .ok (.if_icmp .gt 64, 3) := by decide +kernel
theorem d_P_weighBehind_20 : decode prog_4_method_6_code 20 = .ok (.aload_n 0, 1) := by decide +kernel
theorem d_P_weighBehind_21 : decode prog_4_method_6_code 21 = .ok (.getfield 21, 3) := by decide +kernel
theorem d_P_weighBehind_24 : decode prog_4_method_6_code 24 = .ok (.iload_n 3, 1) := by decide +kernel
theorem d_P_weighBehind_25 : decode prog_4_method_6_code 25 = .ok (.aaload, 1) := by decide +kernel
theorem d_P_weighBehind_26 : decode prog_4_method_6_code 26 = .ok (.iload 4, 2) := by decide +kernel
theorem d_P_weighBehind_28 : decode prog_4_method_6_code 28 = .ok (.laload, 1) := by decide +kernel
theorem d_P_weighBehind_29 : decode prog_4_method_6_code 29 = .ok (.lstore 5, 2) := by decide +kernel
theorem d_P_weighBehind_31 : decode prog_4_method_6_code 31 = .ok (.aload_n 0, 1) := by decide +kernel
theorem d_P_weighBehind_32 : decode prog_4_method_6_code 32 = .ok (.getfield 21, 3) := by decide +kernel
theorem d_P_weighBehind_35 : decode prog_4_method_6_code 35 = .ok (.iload_n 3, 1) := by decide +kernel
theorem d_P_weighBehind_36 : decode prog_4_method_6_code 36 = .ok (.iconst 1, 1) := by decide +kernel
theorem d_P_weighBehind_37 : decode prog_4_method_6_code 37 = .ok (.iadd, 1) := by decide +kernel
theorem d_P_weighBehind_38 : decode prog_4_method_6_code 38 = .ok (.aaload, 1) := by decide +kernel
theorem d_P_weighBehind_39 : decode prog_4_method_6_code 39 = .ok (.iload 4, 2) := by decide +kernel
theorem d_P_weighBehind_41 : decode prog_4_method_6_code 41 = .ok (.lload 5, 2) := by decide +kernel
theorem d_P_weighBehind_43 : decode prog_4_method_6_code 43 = .ok (.lconst 0, 1) := by decide +kernel
theorem d_P_weighBehind_44 : decode prog_4_method_6_code 44 = .ok (.lcmp, 1) := by decide +kernel
theorem d_P_weighBehind_45 : decode prog_4_method_6_code 45 = .ok (.ifCond .ne 7, 3) := by decide +kernel
theorem d_P_weighBehind_48 : decode prog_4_method_6_code 48 = .ok (.lconst 0, 1) := by decide +kernel
theorem d_P_weighBehind_49 : decode prog_4_method_6_code 49 = .ok (.goto 25, 3) := by decide +kernel
theorem d_P_weighBehind_52 : decode prog_4_method_6_code 52 = .ok (.lload 5, 2) := by decide +kernel
theorem d_P_weighBehind_54 : decode prog_4_method_6_code 54 = .ok (.ldc2_w 80, 3) := by decide +kernel
theorem d_P_weighBehind_57 : decode prog_4_method_6_code 57 = .ok (.ldiv, 1) := by decide +kernel
theorem d_P_weighBehind_58 : decode prog_4_method_6_code 58 = .ok (.aload_n 0, 1) := by decide +kernel
theorem d_P_weighBehind_59 : decode prog_4_method_6_code 59 = .ok (.getfield 43, 3) := by decide +kernel
theorem d_P_weighBehind_62 : decode prog_4_method_6_code 62 = .ok (.getfield 82, 3) := by decide +kernel
theorem d_P_weighBehind_65 : decode prog_4_method_6_code 65 = .ok (.iload_n 1, 1) := by decide +kernel
theorem d_P_weighBehind_66 : decode prog_4_method_6_code 66 = .ok (.iload 4, 2) := by decide +kernel
theorem d_P_weighBehind_68 : decode prog_4_method_6_code 68 = .ok (.iload_n 2, 1) := by decide +kernel
theorem d_P_weighBehind_69 : decode prog_4_method_6_code 69 = .ok (.invokevirtual 86, 3) := by decide +kernel
theorem d_P_weighBehind_72 : decode prog_4_method_6_code 72 = .ok (.i2l, 1) := by decide +kernel
theorem d_P_weighBehind_73 : decode prog_4_method_6_code 73 = .ok (.lmul, 1) := by decide +kernel
theorem d_P_weighBehind_74 : decode prog_4_method_6_code 74 = .ok (.lastore, 1) := by decide +kernel
theorem d_P_weighBehind_75 : decode prog_4_method_6_code 75 = .ok (.iinc 4 1, 3) := by decide +kernel
theorem d_P_weighBehind_78 : decode prog_4_method_6_code 78 = .ok (.goto (-65), 3) := by decide +kernel
theorem d_P_weighBehind_81 : decode prog_4_method_6_code 81 = .ok (.return_, 1) := by decide +kernel
theorem d_P_weightAt_0 : decode prog_4_method_7_code 0 = .ok (.lconst 0, 1) := by decide +kernel
theorem d_P_weightAt_1 : decode prog_4_method_7_code 1 = .ok (.lstore_n 2, 1) := by decide +kernel
theorem d_P_weightAt_2 : decode prog_4_method_7_code 2 = .ok (.iconst 1, 1) := by decide +kernel
theorem d_P_weightAt_3 : decode prog_4_method_7_code 3 = .ok (.istore 4, 2) := by decide +kernel
theorem d_P_weightAt_5 : decode prog_4_method_7_code 5 = .ok (.iload 4, 2) := by decide +kernel
theorem d_P_weightAt_7 : decode prog_4_method_7_code 7 = .ok (.bipush 12, 2) := by decide +kernel
theorem d_P_weightAt_9 : decode prog_4_method_7_code 9 = .ok (.if_icmp .gt 30, 3) := by decide +kernel
theorem d_P_weightAt_12 : decode prog_4_method_7_code 12 = .ok (.iload_n 1, 1) := by decide +kernel
theorem d_P_weightAt_13 : decode prog_4_method_7_code 13 = .ok (.ifCond .lt 26, 3) := by decide +kernel
theorem d_P_weightAt_16 : decode prog_4_method_7_code 16 = .ok (.iload_n 1, 1) := by decide +kernel
theorem d_P_weightAt_17 : decode prog_4_method_7_code 17 = .ok (.iconst 5, 1) := by decide +kernel
theorem d_P_weightAt_18 : decode prog_4_method_7_code 18 = .ok (.if_icmp .gt 21, 3) := by decide +kernel
theorem d_P_weightAt_21 : decode prog_4_method_7_code 21 = .ok (.lload_n 2, 1) := by decide +kernel
theorem d_P_weightAt_22 : decode prog_4_method_7_code 22 = .ok (.aload_n 0, 1) := by decide +kernel
theorem d_P_weightAt_23 : decode prog_4_method_7_code 23 = .ok (.getfield 21, 3) := by decide +kernel
theorem d_P_weightAt_26 : decode prog_4_method_7_code 26 = .ok (.iload_n 1, 1) := by decide +kernel
theorem d_P_weightAt_27 : decode prog_4_method_7_code 27 = .ok (.aaload, 1) := by decide +kernel
theorem d_P_weightAt_28 : decode prog_4_method_7_code 28 = .ok (.iload 4, 2) := by decide +kernel
theorem d_P_weightAt_30 : decode prog_4_method_7_code 30 = .ok (.laload, 1) := by decide +kernel
theorem d_P_weightAt_31 : decode prog_4_method_7_code 31 = .ok (.ladd, 1) := by decide +kernel
theorem d_P_weightAt_32 : decode prog_4_method_7_code 32 = .ok (.lstore_n 2, 1) := by decide +kernel
theorem d_P_weightAt_33 : decode prog_4_method_7_code 33 = .ok (.iinc 4 1, 3) := by decide +kernel
theorem d_P_weightAt_36 : decode prog_4_method_7_code 36 = .ok (.goto (-31), 3) := by decide +kernel
theorem d_P_weightAt_39 : decode prog_4_method_7_code 39 = .ok (.lload_n 2, 1) := by decide +kernel
theorem d_P_weightAt_40 : decode prog_4_method_7_code 40 = .ok (.lreturn, 1) := by decide +kernel
theorem d_P_leftAt_0 : decode prog_4_method_8_code 0 = .ok (.iconst 0, 1) := by decide +kernel
theorem d_P_leftAt_1 : decode prog_4_method_8_code 1 = .ok (.istore_n 2, 1) := by decide +kernel
theorem d_P_leftAt_2 : decode prog_4_method_8_code 2 = .ok (.iconst 1, 1) := by decide +kernel
theorem d_P_leftAt_3 : decode prog_4_method_8_code 3 = .ok (.istore_n 3, 1) := by decide +kernel
theorem d_P_leftAt_4 : decode prog_4_method_8_code 4 = .ok (.iload_n 3, 1) := by decide +kernel
theorem d_P_leftAt_5 : decode prog_4_method_8_code 5 = .ok (.bipush 12, 2) := by decide +kernel
theorem d_P_leftAt_7 : decode prog_4_method_8_code 7 = .ok (.if_icmp .gt 42, 3) := by decide +kernel
theorem d_P_leftAt_10 : decode prog_4_method_8_code 10 = .ok (.iload_n 1, 1) := by decide +kernel
theorem d_P_leftAt_11 : decode prog_4_method_8_code 11 = .ok (.ifCond .lt 38, 3) := by decide +kernel
theorem d_P_leftAt_14 : decode prog_4_method_8_code 14 = .ok (.iload_n 1, 1) := by decide +kernel
theorem d_P_leftAt_15 : decode prog_4_method_8_code 15 = .ok (.iconst 5, 1) := by decide +kernel
theorem d_P_leftAt_16 : decode prog_4_method_8_code 16 = .ok (.if_icmp .gt 33, 3) := by decide +kernel
theorem d_P_leftAt_19 : decode prog_4_method_8_code 19 = .ok (.iload_n 2, 1) := by decide +kernel
theorem d_P_leftAt_20 : decode prog_4_method_8_code 20 = .ok (.aload_n 0, 1) := by decide +kernel
theorem d_P_leftAt_21 : decode prog_4_method_8_code 21 = .ok (.getfield 21, 3) := by decide +kernel
theorem d_P_leftAt_24 : decode prog_4_method_8_code 24 = .ok (.iload_n 1, 1) := by decide +kernel
theorem d_P_leftAt_25 : decode prog_4_method_8_code 25 = .ok (.aaload, 1) := by decide +kernel
theorem d_P_leftAt_26 : decode prog_4_method_8_code 26 = .ok (.iload_n 3, 1) := by decide +kernel
theorem d_P_leftAt_27 : decode prog_4_method_8_code 27 = .ok (.laload, 1) := by decide +kernel
theorem d_P_leftAt_28 : decode prog_4_method_8_code 28 = .ok (.lconst 0, 1) := by decide +kernel
theorem d_P_leftAt_29 : decode prog_4_method_8_code 29 = .ok (.lcmp, 1) := by decide +kernel
theorem d_P_leftAt_30 : decode prog_4_method_8_code 30 = .ok (.ifCond .le 10, 3) := by decide +kernel
theorem d_P_leftAt_33 : decode prog_4_method_8_code 33 = .ok (.iload_n 3, 1) := by decide +kernel
theorem d_P_leftAt_34 : decode prog_4_method_8_code 34 = .ok (.invokestatic 92, 3) := by decide +kernel
theorem d_P_leftAt_37 : decode prog_4_method_8_code 37 = .ok (.goto 4, 3) := by decide +kernel
theorem d_P_leftAt_40 : decode prog_4_method_8_code 40 = .ok (.iconst 0, 1) := by decide +kernel
theorem d_P_leftAt_41 : decode prog_4_method_8_code 41 = .ok (.ior, 1) := by decide +kernel
theorem d_P_leftAt_42 : decode prog_4_method_8_code 42 = .ok (.istore_n 2, 1) := by decide +kernel
theorem d_P_leftAt_43 : decode prog_4_method_8_code 43 = .ok (.iinc 3 1, 3) := by decide +kernel
theorem d_P_leftAt_46 : decode prog_4_method_8_code 46 = .ok (.goto (-42), 3) := by decide +kernel
theorem d_P_leftAt_49 : decode prog_4_method_8_code 49 = .ok (.iload_n 2, 1) := by decide +kernel
theorem d_P_leftAt_50 : decode prog_4_method_8_code 50 = .ok (.ireturn, 1) := by decide +kernel
end
section
def x_P_tell (st : XS) (p1 : Int32) (p2 : Int32) : Option (Int32) :=
  if p1 < 0 then
    some (-1 : Int32)
  else
    if p1 < (300 : Int32) then
      if p2 = (0 : Int32) then
        ix p1 300 fun j4 =>
        some (x_nT st j4)
      else
        if p2 = (1 : Int32) then
          ix p1 300 fun j8 =>
          some (x_nL st j8)
        else
          if p2 = (2 : Int32) then
            ix p1 300 fun j12 =>
            some (x_nA st j12)
          else
            some (-2 : Int32)
    else
      some (-1 : Int32)
def x_P_drop (st : XS) : Option (XS) :=
  some (x_tho_s (x_nod_s st (0 : Int32)) (-1 : Int64))
def x_P_weighFirst_B1 (p1 : Int32) (self1 : Int32 → XS → Option (XS)) (v1 : Int32) (s2 : XS) : Option (XS) :=
  if (12 : Int32) < v1 then
    some s2
  else
    ix (0 : Int32) 6 fun j4 =>
    (x_K_weightOf s2 v1 p1).bind fun r9 =>
    ix v1 13 fun j10 =>
    self1 (v1 + 1) (x_wei_s s2 j4 j10 r9)
def x_P_weighFirst (st : XS) (p1 : Int32) : Option (XS) :=
  xl2 (x_P_weighFirst_B1 p1) 14 (1 : Int32) st
def x_P_weighBehind_B1 (p1 : Int32) (p2 : Int32) (p3 : Int32) (self1 : Int32 → XS → Option (XS)) (v3 : Int32) (s4 : XS) : Option (XS) :=
  if (12 : Int32) < v3 then
    some s4
  else
    ix p3 6 fun j6 =>
    ix v3 13 fun j10 =>
    ix (p3 + (1 : Int32)) 6 fun j13 =>
    if (x_wei s4 j6 j10) = (0 : Int64) then
      ix v3 13 fun j23 =>
      self1 (v3 + 1) (x_wei_s s4 j13 j23 (0 : Int64))
    else
      (x_T_twelfths s4 p1 v3 p2).bind fun r19 =>
      ix v3 13 fun j20 =>
      self1 (v3 + 1) (x_wei_s s4 j13 j20 (((x_wei s4 j6 j10) / (12 : Int64)) * r19.toInt64))
def x_P_weighBehind (st : XS) (p1 : Int32) (p2 : Int32) (p3 : Int32) : Option (XS) :=
  if p3 < 0 then
    some st
  else
    if p3 < (5 : Int32) then
      xl2 (x_P_weighBehind_B1 p1 p2 p3) 14 (1 : Int32) st
    else
      some st
def x_P_weightAt_B1 (st : XS) (p1 : Int32) (self1 : Int32 → Int64 → Option (Int64)) (v1 : Int32) (v2 : Int64) : Option (Int64) :=
  if (12 : Int32) < v1 then
    some v2
  else
    if p1 < 0 then
      some v2
    else
      if (5 : Int32) < p1 then
        some v2
      else
        ix p1 6 fun j6 =>
        ix v1 13 fun j10 =>
        self1 (v1 + 1) (v2 + (x_wei st j6 j10))
def x_P_weightAt (st : XS) (p1 : Int32) : Option (Int64) :=
  xl2 (x_P_weightAt_B1 st p1) 14 (1 : Int32) (0 : Int64)
def x_P_leftAt_B1 (st : XS) (p1 : Int32) (self1 : Int32 → Int32 → Option (Int32)) (v1 : Int32) (v2 : Int32) : Option (Int32) :=
  if (12 : Int32) < v1 then
    some v2
  else
    if p1 < 0 then
      some v2
    else
      if (5 : Int32) < p1 then
        some v2
      else
        ix p1 6 fun j6 =>
        ix v1 13 fun j10 =>
        if (x_wei st j6 j10) ≤ (0 : Int64) then
          self1 (v1 + 1) (v2 ||| (0 : Int32))
        else
          (x_G_bit v1).bind fun r15 =>
          self1 (v1 + 1) (v2 ||| r15)
def x_P_leftAt (st : XS) (p1 : Int32) : Option (Int32) :=
  xl2 (x_P_leftAt_B1 st p1) 14 (1 : Int32) (0 : Int32)
end
section
set_option maxHeartbeats 4000000 in
set_option maxRecDepth 100000 in
theorem c_P_tell (l : Launch) (dC : Nat → ClassId) (dI : Nat → Nat → Nat) (cs : Nat → ClassId) (a : Nat → Nat) (st : XS) (p1 : Int32) (p2 : Int32) (res : Int32) (hf : x_P_tell st p1 p2 = some res) : Met l (⟨"GuideSearch$Plan", "tell", "(II)I"⟩ : MethodName) (Cond.code (⟨"GuideSearch$Plan", "tell", "(II)I"⟩ : MethodName) prog_4_method_4_code 3 (some .int) :: wg) { frames := 0, cells := 0, slots := 0, locals := 0 } (va_Pc ([.ref (a 16), .int p1, .int p2] : List Value) (x_pre dC dI cs a st)) (vp_Si (fun r => r = res)) 0 0 (fun _ => False) := by
  refine ro_start (cc := prog_4_method_4_code) (maxL := 3) (ret := (some .int)) (by decide) (Nat.le_of_ble_eq_true rfl) ?_
  intro p e s m below meth c hx hb hr hml hT hown hlocks hB ls hl
  replace hown : s.vm.findClass "GuideSearch$Plan" = some m.cls := hown
  obtain ⟨hP, hK, hN⟩ := hB
  replace hl : lv_has ls 3 [(0, .ref (a 16)), (1, .int p1), (2, .int p2)] := hl
  unfold x_P_tell at hf
  refine lv_iload_n hx hb d_P_tell_0 rfl (lv_at hl 1 rfl) ?_
  refine lv_if_lt (tgt := 11) hx hb d_P_tell_1 (by decide) (fun c1 => ?_) (fun c1 => ?_)
  · rw [if_pos c1] at hf
    refine lv_iconst (v := (-1 : Int32)) hx hb d_P_tell_11 (by decide) ?_
    exact W.iret hx hb hr (fun t ht _ => ⟨_, rfl, Option.some.inj hf, ht⟩) (fun _ h => absurd h List.not_mem_nil) d_P_tell_12
  · rw [if_neg c1] at hf
    refine lv_iload_n hx hb d_P_tell_4 rfl (lv_at hl 1 rfl) ?_
    refine lv_sipush (v := (300 : Int32)) hx hb d_P_tell_5 (by decide) ?_
    refine lv_icmp_lt (tgt := 13) hx hb d_P_tell_8 (by decide) (fun c2 => ?_) (fun c2 => ?_)
    · rw [if_pos c2] at hf
      refine lv_iload_n hx hb d_P_tell_13 rfl (lv_at hl 2 rfl) ?_
      by_cases c3 : p2 = (0 : Int32)
      · rw [if_pos c3] at hf
        refine lv_tableIn (off := 26) (tgt := 40) hx hb d_P_tell_14 (by rw [c3]; decide) (by rw [c3]; decide) (by rw [c3]; rfl) (by decide) ?_
        refine lv_aload_n hx hb d_P_tell_40 rfl (lv_at hl 0 rfl) ?_
        refine va_get (D := (dC, dI)) (ci := 4) (v := .ref (a 26)) (C := "GuideSearch$Plan") (T := F_P) (N := 9) hx hb hT i_P hown hK hP 16 rfl rfl 4 (by decide) (hT _ k_102) (fun _ h9 => h9) rfl d_P_tell_41 ?_
        refine lv_iload_n hx hb d_P_tell_44 rfl (lv_at hl 1 rfl) ?_
        obtain ⟨j4, ej6, hi5, hf⟩ := ix_some hf
        refine xa_bald hx hb hK hP 26 2 rfl rfl ej6 hi5 d_P_tell_45 ?_
        exact W.iret hx hb hr (fun t ht _ => ⟨_, rfl, Option.some.inj hf, ht⟩) (fun _ h => absurd h List.not_mem_nil) d_P_tell_46
      · rw [if_neg c3] at hf
        by_cases c7 : p2 = (1 : Int32)
        · rw [if_pos c7] at hf
          refine lv_tableIn (off := 33) (tgt := 47) hx hb d_P_tell_14 (by rw [c7]; decide) (by rw [c7]; decide) (by rw [c7]; rfl) (by decide) ?_
          refine lv_aload_n hx hb d_P_tell_47 rfl (lv_at hl 0 rfl) ?_
          refine va_get (D := (dC, dI)) (ci := 4) (v := .ref (a 27)) (C := "GuideSearch$Plan") (T := F_P) (N := 9) hx hb hT i_P hown hK hP 16 rfl rfl 5 (by decide) (hT _ k_103) (fun _ h9 => h9) rfl d_P_tell_48 ?_
          refine lv_iload_n hx hb d_P_tell_51 rfl (lv_at hl 1 rfl) ?_
          obtain ⟨j8, ej10, hi9, hf⟩ := ix_some hf
          refine xa_bald hx hb hK hP 27 2 rfl rfl ej10 hi9 d_P_tell_52 ?_
          exact W.iret hx hb hr (fun t ht _ => ⟨_, rfl, Option.some.inj hf, ht⟩) (fun _ h => absurd h List.not_mem_nil) d_P_tell_53
        · rw [if_neg c7] at hf
          by_cases c11 : p2 = (2 : Int32)
          · rw [if_pos c11] at hf
            refine lv_tableIn (off := 40) (tgt := 54) hx hb d_P_tell_14 (by rw [c11]; decide) (by rw [c11]; decide) (by rw [c11]; rfl) (by decide) ?_
            refine lv_aload_n hx hb d_P_tell_54 rfl (lv_at hl 0 rfl) ?_
            refine va_get (D := (dC, dI)) (ci := 4) (v := .ref (a 28)) (C := "GuideSearch$Plan") (T := F_P) (N := 9) hx hb hT i_P hown hK hP 16 rfl rfl 6 (by decide) (hT _ k_104) (fun _ h9 => h9) rfl d_P_tell_55 ?_
            refine lv_iload_n hx hb d_P_tell_58 rfl (lv_at hl 1 rfl) ?_
            obtain ⟨j12, ej14, hi13, hf⟩ := ix_some hf
            refine xa_bald hx hb hK hP 28 2 rfl rfl ej14 hi13 d_P_tell_59 ?_
            exact W.iret hx hb hr (fun t ht _ => ⟨_, rfl, Option.some.inj hf, ht⟩) (fun _ h => absurd h List.not_mem_nil) d_P_tell_60
          · rw [if_neg c11] at hf
            refine lv_tableOut (tgt := 61) hx hb d_P_tell_14 (by have := lv_neT c3 (a := 0) (by decide); have := lv_neT c7 (a := 1) (by decide); have := lv_neT c11 (a := 2) (by decide); omega) (by decide) ?_
            refine lv_bipush (v := (-2 : Int32)) hx hb d_P_tell_61 (by decide) ?_
            exact W.iret hx hb hr (fun t ht _ => ⟨_, rfl, Option.some.inj hf, ht⟩) (fun _ h => absurd h List.not_mem_nil) d_P_tell_63
    · rw [if_neg c2] at hf
      refine lv_iconst (v := (-1 : Int32)) hx hb d_P_tell_11 (by decide) ?_
      exact W.iret hx hb hr (fun t ht _ => ⟨_, rfl, Option.some.inj hf, ht⟩) (fun _ h => absurd h List.not_mem_nil) d_P_tell_12
set_option maxHeartbeats 4000000 in
set_option maxRecDepth 100000 in
theorem c_P_drop (l : Launch) (dC : Nat → ClassId) (dI : Nat → Nat → Nat) (cs : Nat → ClassId) (a : Nat → Nat) (hi : ∀ i j : Nat, i < 29 → j < 29 → a i = a j → i = j) (st : XS) (res : XS) (hf : x_P_drop st = some res) : Met l (⟨"GuideSearch$Plan", "drop", "()V"⟩ : MethodName) (Cond.code (⟨"GuideSearch$Plan", "drop", "()V"⟩ : MethodName) prog_4_method_2_code 1 none :: wg) { frames := 0, cells := 0, slots := 0, locals := 0 } (va_Pc ([.ref (a 16)] : List Value) (x_pre dC dI cs a st)) (va_Qv (fun _ : Unit => True) (fun _ t => va_P (dC, dI) vwCl (x_W cs a res) t.heap) (x_A a)) 0 0 (x_A a) := by
  refine ro_start (cc := prog_4_method_2_code) (maxL := 1) (ret := none) (by decide) (Nat.le_of_ble_eq_true rfl) ?_
  intro p e s m below meth c hx hb hr hml hT hown hlocks hB ls hl
  replace hown : s.vm.findClass "GuideSearch$Plan" = some m.cls := hown
  obtain ⟨hP, hK, hN⟩ := hB
  replace hl : lv_has ls 1 [(0, .ref (a 16))] := hl
  unfold x_P_drop at hf
  have hD : ∀ st : XS, va_D (x_A a) (x_W cs a st) := fun st => x_D hi cs st
  have main : ∀ (H : Heap) (locs : List Loc), va_P (dC, dI) vwCl (x_W cs a st) H → va_S (x_A a) s.heap H locs → W p l e { frames := 0, cells := 0, slots := 0, locals := 0 } s m ([.ref (a 16)] : List Value).toArray below meth c H locs 0 0 (MQ below (va_Qv (fun _ : Unit => True) (fun _ t => va_P (dC, dI) vwCl (x_W cs a res) t.heap) (x_A a)) ([.ref (a 16)] : List Value).toArray s 0 0 (x_A a)) (F0 m 0 ls []) := by
    intro H locs hP hS
    refine lv_aload_n hx hb d_P_drop_0 rfl (lv_at hl 0 rfl) ?_
    refine lv_iconst (v := (0 : Int32)) hx hb d_P_drop_1 (by decide) ?_
    refine va_put (D := (dC, dI)) (ci := 4) (v := .int (0 : Int32)) (ty := .int) (C := "GuideSearch$Plan") (T := F_P) (N := 9) hx hb hT i_P ft_P ft_P_ok n_P hown hK hP (hD _) hS 16 rfl rfl 7 (by decide) (hT _ k_105) (fun _ h9 => h9) rfl (by decide +kernel) rfl rfl (Nat.le_of_ble_eq_true rfl) d_P_drop_2 (fun H locs hP _ hS => ?_)
    rw [x_nod_put cs a st (0 : Int32)] at hP
    refine lv_aload_n hx hb d_P_drop_5 rfl (lv_at hl 0 rfl) ?_
    refine lv_ldc2 (v := (-1 : Int64)) hx hb hown (hT _ k_97) d_P_drop_6 ?_
    refine va_put (D := (dC, dI)) (ci := 4) (v := .long (-1 : Int64)) (ty := .long) (C := "GuideSearch$Plan") (T := F_P) (N := 9) hx hb hT i_P ft_P ft_P_ok n_P hown hK hP (hD _) hS 16 rfl rfl 8 (by decide) (hT _ k_107) (fun _ h9 => h9) rfl (by decide +kernel) rfl rfl (Nat.le_of_ble_eq_true rfl) d_P_drop_9 (fun H locs hP _ hS => ?_)
    rw [x_tho_put cs a (x_nod_s st (0 : Int32)) (-1 : Int64)] at hP
    exact W.vret hx hb hr (fun t ht _ => ⟨⟨(), rfl, trivial, x_fin ht (Option.some.inj hf) hP⟩, hS.F ht⟩) hS.2.2 d_P_drop_12
  exact main _ _ hP va_S.rf
set_option maxHeartbeats 4000000 in
set_option maxRecDepth 100000 in
theorem c_P_weighFirst (l : Launch) (dC : Nat → ClassId) (dI : Nat → Nat → Nat) (cs : Nat → ClassId) (a : Nat → Nat) (hi : ∀ i j : Nat, i < 29 → j < 29 → a i = a j → i = j) (st : XS) (p1 : Int32) (res : XS) (hf : x_P_weighFirst st p1 = some res) : Met l (⟨"GuideSearch$Plan", "weighFirst", "(I)V"⟩ : MethodName) (Cond.code (⟨"GuideSearch$Plan", "weighFirst", "(I)V"⟩ : MethodName) prog_4_method_5_code 3 none :: wg) { frames := 4, cells := 0, slots := 0, locals := 92 } (va_Pc ([.ref (a 16), .int p1] : List Value) (x_pre dC dI cs a st)) (va_Qv (fun _ : Unit => True) (fun _ t => va_P (dC, dI) vwCl (x_W cs a res) t.heap) (x_A a)) 0 0 (x_A a) := by
  refine ro_start (cc := prog_4_method_5_code) (maxL := 3) (ret := none) (by decide) (Nat.le_of_ble_eq_true rfl) ?_
  intro p e s m below meth c hx hb hr hml hT hown hlocks hB ls hl
  replace hown : s.vm.findClass "GuideSearch$Plan" = some m.cls := hown
  obtain ⟨hP, hK, hN⟩ := hB
  replace hl : lv_has ls 3 [(0, .ref (a 16)), (1, .int p1)] := hl
  unfold x_P_weighFirst at hf
  have hD : ∀ st : XS, va_D (x_A a) (x_W cs a st) := fun st => x_D hi cs st
  have main : ∀ (H : Heap) (locs : List Loc), va_P (dC, dI) vwCl (x_W cs a st) H → va_S (x_A a) s.heap H locs → W p l e { frames := 4, cells := 0, slots := 0, locals := 92 } s m ([.ref (a 16), .int p1] : List Value).toArray below meth c H locs 0 0 (MQ below (va_Qv (fun _ : Unit => True) (fun _ t => va_P (dC, dI) vwCl (x_W cs a res) t.heap) (x_A a)) ([.ref (a 16), .int p1] : List Value).toArray s 0 0 (x_A a)) (F0 m 0 ls []) := by
    intro H locs hP hS
    refine lv_iconst (v := (1 : Int32)) hx hb d_P_weighFirst_0 (by decide) ?_
    refine lv_istore_n (lv' := [(2, .int (1 : Int32)), (0, .ref (a 16)), (1, .int p1)]) hx hb d_P_weighFirst_1 rfl hl (by decide) rfl (fun ls hl => ?_)
    have loop1 : ∀ (n : Nat) (v1 : Int32) (s2 : XS), xl2 (x_P_weighFirst_B1 p1) n v1 s2 = some res → ∀ (H : Heap) (locs : List Loc), va_P (dC, dI) vwCl (x_W cs a s2) H → va_S (x_A a) s.heap H locs → ∀ (ls : Array Slot), lv_has ls 3 [(2, .int v1), (0, .ref (a 16)), (1, .int p1)] → W p l e { frames := 4, cells := 0, slots := 0, locals := 92 } s m ([.ref (a 16), .int p1] : List Value).toArray below meth c H locs 0 0 (MQ below (va_Qv (fun _ : Unit => True) (fun _ t => va_P (dC, dI) vwCl (x_W cs a res) t.heap) (x_A a)) ([.ref (a 16), .int p1] : List Value).toArray s 0 0 (x_A a)) (F0 m 2 ls []) := by
      intro n
      induction n with
      | zero => intro v1 s2 hf; exact absurd hf (by simp [xl2])
      | succ n ih1 =>
        intro v1 s2 hf H locs hP hS ls hl
        replace hf : (x_P_weighFirst_B1 p1) (xl2 (x_P_weighFirst_B1 p1) n) v1 s2 = some res := hf
        generalize xl2 (x_P_weighFirst_B1 p1) n = self1 at hf ih1
        unfold x_P_weighFirst_B1 at hf
        refine lv_iload_n hx hb d_P_weighFirst_2 rfl (lv_at hl 0 rfl) ?_
        refine lv_bipush (v := (12 : Int32)) hx hb d_P_weighFirst_3 (by decide) ?_
        refine lv_icmp_gt (tgt := 31) hx hb d_P_weighFirst_5 (by decide) (fun c3 => ?_) (fun c3 => ?_)
        · rw [if_pos c3] at hf
          exact W.vret hx hb hr (fun t ht _ => ⟨⟨(), rfl, trivial, x_fin ht (Option.some.inj hf) hP⟩, hS.F ht⟩) hS.2.2 d_P_weighFirst_31
        · rw [if_neg c3] at hf
          refine lv_aload_n hx hb d_P_weighFirst_8 rfl (lv_at hl 1 rfl) ?_
          refine va_get (D := (dC, dI)) (ci := 4) (v := .ref (a 19)) (C := "GuideSearch$Plan") (T := F_P) (N := 9) hx hb hT i_P hown hK hP 16 rfl rfl 3 (by decide) (hT _ k_101) (fun _ h9 => h9) rfl d_P_weighFirst_9 ?_
          refine lv_iconst (v := (0 : Int32)) hx hb d_P_weighFirst_12 (by decide) ?_
          obtain ⟨j4, ej6, hi5, hf⟩ := ix_some hf
          refine xa_aald hx hb hK hP 19 4 rfl rfl ej6 hi5 (if_pos (ix_lt ej6 hi5)) d_P_weighFirst_13 ?_
          have hj4 : j4 < 6 := ix_lt ej6 hi5
          refine lv_iload_n hx hb d_P_weighFirst_14 rfl (lv_at hl 0 rfl) ?_
          refine lv_aload_n hx hb d_P_weighFirst_15 rfl (lv_at hl 1 rfl) ?_
          refine va_get (D := (dC, dI)) (ci := 4) (v := .ref (a 15)) (C := "GuideSearch$Plan") (T := F_P) (N := 9) hx hb hT i_P hown hK hP 16 rfl rfl 0 (by decide) (hT _ k_98) (fun _ h9 => h9) rfl d_P_weighFirst_16 ?_
          refine lv_iload_n hx hb d_P_weighFirst_19 rfl (lv_at hl 0 rfl) ?_
          refine lv_iload_n hx hb d_P_weighFirst_20 rfl (lv_at hl 2 rfl) ?_
          obtain ⟨r9, hr8, hf⟩ := ob hf
          refine ro_calll (va_runV (C := "GuideSearch$Cases") (As := [.int v1, .int p1]) (rest := [.int v1, .ref (a (20 + j4))]) ⟨hx, hb, hml, hown, hT⟩ (c_K_weightOf l dC dI cs a s2 v1 p1 r9 hr8) (cwV 2 hT (gV k_257 k_258 k_259 k_5 k_260) rfl rfl rfl (by decide +kernel) ⟨Nat.le_of_ble_eq_true rfl, Nat.le_of_ble_eq_true rfl⟩) (ro_preV hP hK hN (va_recv hK hP (ci := 3) (q0 := 15) rfl rfl)) rfl rfl hl.1 rfl (lv_room (Nat.le_of_ble_eq_true rfl)) d_P_weighFirst_21 ⟨Nat.le_of_ble_eq_true rfl, Nat.le_of_ble_eq_true rfl⟩) ?_
          obtain ⟨j10, ej12, hi11, hf⟩ := ix_some hf
          refine xa_last hx hb hK hP (hD _) hS (20 + j4) 0 (x_wei_row cs a s2 hj4) rfl ej12 hi11 d_P_weighFirst_24 (fun H locs hP hS => ?_)
          rw [x_wei_put cs a s2 hj4 j10 r9] at hP
          refine lv_iinc (v := (v1 + 1)) (lv' := [(2, .int (v1 + 1)), (0, .ref (a 16)), (1, .int p1)]) hx hb d_P_weighFirst_25 hl (k := 0) rfl rfl (by decide) rfl (fun ls hl => ?_)
          refine lv_goto (tgt := 2) hx hb d_P_weighFirst_28 (by decide) ?_
          exact ih1 (v1 + 1) (x_wei_s s2 j4 j10 r9) hf _ _ hP hS ls (lv_sub hl [0, 1, 2] rfl)
    exact loop1 _ (1 : Int32) st hf _ _ hP hS ls (lv_sub hl [0, 1, 2] rfl)
  exact main _ _ hP va_S.rf
set_option maxHeartbeats 4000000 in
set_option maxRecDepth 100000 in
theorem c_P_weighBehind (l : Launch) (dC : Nat → ClassId) (dI : Nat → Nat → Nat) (cs : Nat → ClassId) (a : Nat → Nat) (hi : ∀ i j : Nat, i < 29 → j < 29 → a i = a j → i = j) (st : XS) (p1 : Int32) (p2 : Int32) (p3 : Int32) (res : XS) (hf : x_P_weighBehind st p1 p2 p3 = some res) : Met l (⟨"GuideSearch$Plan", "weighBehind", "(III)V"⟩ : MethodName) (Cond.code (⟨"GuideSearch$Plan", "weighBehind", "(III)V"⟩ : MethodName) prog_4_method_6_code 7 none :: wg) { frames := 3, cells := 0, slots := 0, locals := 66 } (va_Pc ([.ref (a 16), .int p1, .int p2, .int p3] : List Value) (x_pre dC dI cs a st)) (va_Qv (fun _ : Unit => True) (fun _ t => va_P (dC, dI) vwCl (x_W cs a res) t.heap) (x_A a)) 0 0 (x_A a) := by
  refine ro_start (cc := prog_4_method_6_code) (maxL := 7) (ret := none) (by decide) (Nat.le_of_ble_eq_true rfl) ?_
  intro p e s m below meth c hx hb hr hml hT hown hlocks hB ls hl
  replace hown : s.vm.findClass "GuideSearch$Plan" = some m.cls := hown
  obtain ⟨hP, hK, hN⟩ := hB
  replace hl : lv_has ls 7 [(0, .ref (a 16)), (1, .int p1), (2, .int p2), (3, .int p3)] := hl
  unfold x_P_weighBehind at hf
  have hD : ∀ st : XS, va_D (x_A a) (x_W cs a st) := fun st => x_D hi cs st
  have main : ∀ (H : Heap) (locs : List Loc), va_P (dC, dI) vwCl (x_W cs a st) H → va_S (x_A a) s.heap H locs → W p l e { frames := 3, cells := 0, slots := 0, locals := 66 } s m ([.ref (a 16), .int p1, .int p2, .int p3] : List Value).toArray below meth c H locs 0 0 (MQ below (va_Qv (fun _ : Unit => True) (fun _ t => va_P (dC, dI) vwCl (x_W cs a res) t.heap) (x_A a)) ([.ref (a 16), .int p1, .int p2, .int p3] : List Value).toArray s 0 0 (x_A a)) (F0 m 0 ls []) := by
    intro H locs hP hS
    refine lv_iload_n hx hb d_P_weighBehind_0 rfl (lv_at hl 3 rfl) ?_
    refine lv_if_lt (tgt := 9) hx hb d_P_weighBehind_1 (by decide) (fun c1 => ?_) (fun c1 => ?_)
    · rw [if_pos c1] at hf
      exact W.vret hx hb hr (fun t ht _ => ⟨⟨(), rfl, trivial, x_fin ht (Option.some.inj hf) hP⟩, hS.F ht⟩) hS.2.2 d_P_weighBehind_9
    · rw [if_neg c1] at hf
      refine lv_iload_n hx hb d_P_weighBehind_4 rfl (lv_at hl 3 rfl) ?_
      refine lv_iconst (v := (5 : Int32)) hx hb d_P_weighBehind_5 (by decide) ?_
      refine lv_icmp_lt (tgt := 10) hx hb d_P_weighBehind_6 (by decide) (fun c2 => ?_) (fun c2 => ?_)
      · rw [if_pos c2] at hf
        refine lv_iconst (v := (1 : Int32)) hx hb d_P_weighBehind_10 (by decide) ?_
        refine lv_istore (lv' := [(4, .int (1 : Int32)), (0, .ref (a 16)), (1, .int p1), (2, .int p2), (3, .int p3)]) hx hb d_P_weighBehind_11 hl (by decide) rfl (fun ls hl => ?_)
        have loop1 : ∀ (n : Nat) (v3 : Int32) (s4 : XS), xl2 (x_P_weighBehind_B1 p1 p2 p3) n v3 s4 = some res → ∀ (H : Heap) (locs : List Loc), va_P (dC, dI) vwCl (x_W cs a s4) H → va_S (x_A a) s.heap H locs → ∀ (ls : Array Slot), lv_has ls 7 [(4, .int v3), (0, .ref (a 16)), (1, .int p1), (2, .int p2), (3, .int p3)] → W p l e { frames := 3, cells := 0, slots := 0, locals := 66 } s m ([.ref (a 16), .int p1, .int p2, .int p3] : List Value).toArray below meth c H locs 0 0 (MQ below (va_Qv (fun _ : Unit => True) (fun _ t => va_P (dC, dI) vwCl (x_W cs a res) t.heap) (x_A a)) ([.ref (a 16), .int p1, .int p2, .int p3] : List Value).toArray s 0 0 (x_A a)) (F0 m 13 ls []) := by
          intro n
          induction n with
          | zero => intro v3 s4 hf; exact absurd hf (by simp [xl2])
          | succ n ih1 =>
            intro v3 s4 hf H locs hP hS ls hl
            replace hf : (x_P_weighBehind_B1 p1 p2 p3) (xl2 (x_P_weighBehind_B1 p1 p2 p3) n) v3 s4 = some res := hf
            generalize xl2 (x_P_weighBehind_B1 p1 p2 p3) n = self1 at hf ih1
            unfold x_P_weighBehind_B1 at hf
            refine lv_iload hx hb d_P_weighBehind_13 (lv_at hl 0 rfl) ?_
            refine lv_bipush (v := (12 : Int32)) hx hb d_P_weighBehind_15 (by decide) ?_
            refine lv_icmp_gt (tgt := 81) hx hb d_P_weighBehind_17 (by decide) (fun c5 => ?_) (fun c5 => ?_)
            · rw [if_pos c5] at hf
              exact W.vret hx hb hr (fun t ht _ => ⟨⟨(), rfl, trivial, x_fin ht (Option.some.inj hf) hP⟩, hS.F ht⟩) hS.2.2 d_P_weighBehind_81
            · rw [if_neg c5] at hf
              refine lv_aload_n hx hb d_P_weighBehind_20 rfl (lv_at hl 1 rfl) ?_
              refine va_get (D := (dC, dI)) (ci := 4) (v := .ref (a 19)) (C := "GuideSearch$Plan") (T := F_P) (N := 9) hx hb hT i_P hown hK hP 16 rfl rfl 3 (by decide) (hT _ k_101) (fun _ h9 => h9) rfl d_P_weighBehind_21 ?_
              refine lv_iload_n hx hb d_P_weighBehind_24 rfl (lv_at hl 4 rfl) ?_
              obtain ⟨j6, ej8, hi7, hf⟩ := ix_some hf
              refine xa_aald hx hb hK hP 19 4 rfl rfl ej8 hi7 (if_pos (ix_lt ej8 hi7)) d_P_weighBehind_25 ?_
              have hj6 : j6 < 6 := ix_lt ej8 hi7
              refine lv_iload hx hb d_P_weighBehind_26 (lv_at hl 0 rfl) ?_
              obtain ⟨j10, ej12, hi11, hf⟩ := ix_some hf
              refine xa_lald hx hb hK hP (20 + j6) 0 (x_wei_row cs a s4 hj6) rfl ej12 hi11 d_P_weighBehind_28 ?_
              refine lv_lstore (lv' := [(5, .long (x_wei s4 j6 j10)), (4, .int v3), (0, .ref (a 16)), (1, .int p1), (2, .int p2), (3, .int p3)]) hx hb d_P_weighBehind_29 hl (by decide) rfl (fun ls hl => ?_)
              refine lv_aload_n hx hb d_P_weighBehind_31 rfl (lv_at hl 2 rfl) ?_
              refine va_get (D := (dC, dI)) (ci := 4) (v := .ref (a 19)) (C := "GuideSearch$Plan") (T := F_P) (N := 9) hx hb hT i_P hown hK hP 16 rfl rfl 3 (by decide) (hT _ k_101) (fun _ h9 => h9) rfl d_P_weighBehind_32 ?_
              refine lv_iload_n hx hb d_P_weighBehind_35 rfl (lv_at hl 5 rfl) ?_
              refine lv_iconst (v := (1 : Int32)) hx hb d_P_weighBehind_36 (by decide) ?_
              refine lv_iadd hx hb d_P_weighBehind_37 ?_
              obtain ⟨j13, ej15, hi14, hf⟩ := ix_some hf
              refine xa_aald hx hb hK hP 19 4 rfl rfl ej15 hi14 (if_pos (ix_lt ej15 hi14)) d_P_weighBehind_38 ?_
              have hj13 : j13 < 6 := ix_lt ej15 hi14
              refine lv_iload hx hb d_P_weighBehind_39 (lv_at hl 1 rfl) ?_
              refine lv_lload hx hb d_P_weighBehind_41 (lv_at hl 0 rfl) ?_
              refine lv_lconst (v := (0 : Int64)) hx hb d_P_weighBehind_43 (by decide) ?_
              refine W.lcmp hx hb d_P_weighBehind_44 ?_
              refine lv_if_ne (tgt := 52) hx hb d_P_weighBehind_45 (by decide) (fun c17 => ?_) (fun c17 => ?_)
              · rw [if_neg (mt (lg_cmp_eq _ _).mpr c17)] at hf
                refine lv_lload hx hb d_P_weighBehind_52 (lv_at hl 0 rfl) ?_
                refine lv_ldc2 (v := (12 : Int64)) hx hb hown (hT _ k_326) d_P_weighBehind_54 ?_
                refine lv_ldiv hx hb d_P_weighBehind_57 (by decide) ?_
                refine lv_aload_n hx hb d_P_weighBehind_58 rfl (lv_at hl 2 rfl) ?_
                refine va_get (D := (dC, dI)) (ci := 4) (v := .ref (a 15)) (C := "GuideSearch$Plan") (T := F_P) (N := 9) hx hb hT i_P hown hK hP 16 rfl rfl 0 (by decide) (hT _ k_98) (fun _ h9 => h9) rfl d_P_weighBehind_59 ?_
                refine va_getN (D := (dC, dI)) (ci := 3) (v := .ref (a 5)) (C := "GuideSearch$Cases") (T := F_K) (N := 2) hx hb hT i_K hown hK hP 15 rfl rfl 1 (by decide) (va_Nw.use rfl (hN _ k_83)) (fun _ h9 => h9) rfl d_P_weighBehind_62 ?_
                refine lv_iload_n hx hb d_P_weighBehind_65 rfl (lv_at hl 3 rfl) ?_
                refine lv_iload hx hb d_P_weighBehind_66 (lv_at hl 1 rfl) ?_
                refine lv_iload_n hx hb d_P_weighBehind_68 rfl (lv_at hl 4 rfl) ?_
                obtain ⟨r19, hr18, hf⟩ := ob hf
                refine ro_calli (va_runV (C := "GuideSearch$Tests") (As := [.int p1, .int v3, .int p2]) (rest := [.long ((x_wei s4 j6 j10) / (12 : Int64)), .int v3, .ref (a (20 + j13))]) ⟨hx, hb, hml, hown, hT⟩ (c_T_twelfths l dC dI cs a s4 p1 v3 p2 r19 hr18) (cwV 3 hT (gV k_327 k_192 k_193 k_3 k_194) rfl rfl rfl (by decide +kernel) ⟨Nat.le_of_ble_eq_true rfl, Nat.le_of_ble_eq_true rfl⟩) (ro_preV hP hK hN (va_recv hK hP (ci := 2) (q0 := 5) rfl rfl)) rfl rfl hl.1 rfl (lv_room (Nat.le_of_ble_eq_true rfl)) d_P_weighBehind_69 ⟨Nat.le_of_ble_eq_true rfl, Nat.le_of_ble_eq_true rfl⟩) ?_
                refine lv_i2l (v := r19.toInt64) hx hb d_P_weighBehind_72 rfl ?_
                refine lv_lmul hx hb d_P_weighBehind_73 ?_
                obtain ⟨j20, ej22, hi21, hf⟩ := ix_some hf
                refine xa_last hx hb hK hP (hD _) hS (20 + j13) 0 (x_wei_row cs a s4 hj13) rfl ej22 hi21 d_P_weighBehind_74 (fun H locs hP hS => ?_)
                rw [x_wei_put cs a s4 hj13 j20 (((x_wei s4 j6 j10) / (12 : Int64)) * r19.toInt64)] at hP
                refine lv_iinc (v := (v3 + 1)) (lv' := [(4, .int (v3 + 1)), (5, .long (x_wei s4 j6 j10)), (0, .ref (a 16)), (1, .int p1), (2, .int p2), (3, .int p3)]) hx hb d_P_weighBehind_75 hl (k := 1) rfl rfl (by decide) rfl (fun ls hl => ?_)
                refine lv_goto (tgt := 13) hx hb d_P_weighBehind_78 (by decide) ?_
                exact ih1 (v3 + 1) (x_wei_s s4 j13 j20 (((x_wei s4 j6 j10) / (12 : Int64)) * r19.toInt64)) hf _ _ hP hS ls (lv_sub hl [0, 2, 3, 4, 5] rfl)
              · rw [if_pos ((lg_cmp_eq _ _).mp c17)] at hf
                refine lv_lconst (v := (0 : Int64)) hx hb d_P_weighBehind_48 (by decide) ?_
                refine lv_goto (tgt := 74) hx hb d_P_weighBehind_49 (by decide) ?_
                obtain ⟨j23, ej25, hi24, hf⟩ := ix_some hf
                refine xa_last hx hb hK hP (hD _) hS (20 + j13) 0 (x_wei_row cs a s4 hj13) rfl ej25 hi24 d_P_weighBehind_74 (fun H locs hP hS => ?_)
                rw [x_wei_put cs a s4 hj13 j23 (0 : Int64)] at hP
                refine lv_iinc (v := (v3 + 1)) (lv' := [(4, .int (v3 + 1)), (5, .long (x_wei s4 j6 j10)), (0, .ref (a 16)), (1, .int p1), (2, .int p2), (3, .int p3)]) hx hb d_P_weighBehind_75 hl (k := 1) rfl rfl (by decide) rfl (fun ls hl => ?_)
                refine lv_goto (tgt := 13) hx hb d_P_weighBehind_78 (by decide) ?_
                exact ih1 (v3 + 1) (x_wei_s s4 j13 j23 (0 : Int64)) hf _ _ hP hS ls (lv_sub hl [0, 2, 3, 4, 5] rfl)
        exact loop1 _ (1 : Int32) st hf _ _ hP hS ls (lv_sub hl [0, 1, 2, 3, 4] rfl)
      · rw [if_neg c2] at hf
        exact W.vret hx hb hr (fun t ht _ => ⟨⟨(), rfl, trivial, x_fin ht (Option.some.inj hf) hP⟩, hS.F ht⟩) hS.2.2 d_P_weighBehind_9
  exact main _ _ hP va_S.rf
set_option maxHeartbeats 4000000 in
set_option maxRecDepth 100000 in
theorem c_P_weightAt (l : Launch) (dC : Nat → ClassId) (dI : Nat → Nat → Nat) (cs : Nat → ClassId) (a : Nat → Nat) (st : XS) (p1 : Int32) (res : Int64) (hf : x_P_weightAt st p1 = some res) : Met l (⟨"GuideSearch$Plan", "weightAt", "(I)J"⟩ : MethodName) (Cond.code (⟨"GuideSearch$Plan", "weightAt", "(I)J"⟩ : MethodName) prog_4_method_7_code 5 (some .long) :: wg) { frames := 0, cells := 0, slots := 0, locals := 0 } (va_Pc ([.ref (a 16), .int p1] : List Value) (x_pre dC dI cs a st)) (vp_Sl (fun r => r = res)) 0 0 (fun _ => False) := by
  refine ro_start (cc := prog_4_method_7_code) (maxL := 5) (ret := (some .long)) (by decide) (Nat.le_of_ble_eq_true rfl) ?_
  intro p e s m below meth c hx hb hr hml hT hown hlocks hB ls hl
  replace hown : s.vm.findClass "GuideSearch$Plan" = some m.cls := hown
  obtain ⟨hP, hK, hN⟩ := hB
  replace hl : lv_has ls 5 [(0, .ref (a 16)), (1, .int p1)] := hl
  unfold x_P_weightAt at hf
  refine lv_lconst (v := (0 : Int64)) hx hb d_P_weightAt_0 (by decide) ?_
  refine lv_lstore_n (lv' := [(2, .long (0 : Int64)), (0, .ref (a 16)), (1, .int p1)]) hx hb d_P_weightAt_1 rfl hl (by decide) rfl (fun ls hl => ?_)
  refine lv_iconst (v := (1 : Int32)) hx hb d_P_weightAt_2 (by decide) ?_
  refine lv_istore (lv' := [(4, .int (1 : Int32)), (2, .long (0 : Int64)), (0, .ref (a 16)), (1, .int p1)]) hx hb d_P_weightAt_3 hl (by decide) rfl (fun ls hl => ?_)
  have loop1 : ∀ (n : Nat) (v1 : Int32) (v2 : Int64), xl2 (x_P_weightAt_B1 st p1) n v1 v2 = some res → ∀ (ls : Array Slot), lv_has ls 5 [(4, .int v1), (2, .long v2), (0, .ref (a 16)), (1, .int p1)] → W p l e { frames := 0, cells := 0, slots := 0, locals := 0 } s m ([.ref (a 16), .int p1] : List Value).toArray below meth c s.heap [] 0 0 (MQ below (vp_Sl (fun r => r = res)) ([.ref (a 16), .int p1] : List Value).toArray s 0 0 (fun _ => False)) (F0 m 5 ls []) := by
    intro n
    induction n with
    | zero => intro v1 v2 hf; exact absurd hf (by simp [xl2])
    | succ n ih1 =>
      intro v1 v2 hf ls hl
      replace hf : (x_P_weightAt_B1 st p1) (xl2 (x_P_weightAt_B1 st p1) n) v1 v2 = some res := hf
      generalize xl2 (x_P_weightAt_B1 st p1) n = self1 at hf ih1
      unfold x_P_weightAt_B1 at hf
      refine lv_iload hx hb d_P_weightAt_5 (lv_at hl 0 rfl) ?_
      refine lv_bipush (v := (12 : Int32)) hx hb d_P_weightAt_7 (by decide) ?_
      refine lv_icmp_gt (tgt := 39) hx hb d_P_weightAt_9 (by decide) (fun c3 => ?_) (fun c3 => ?_)
      · rw [if_pos c3] at hf
        refine lv_lload_n hx hb d_P_weightAt_39 rfl (lv_at hl 1 rfl) ?_
        exact W.lret hx hb hr (fun t ht _ => ⟨_, rfl, Option.some.inj hf, ht⟩) (fun _ h => absurd h List.not_mem_nil) d_P_weightAt_40
      · rw [if_neg c3] at hf
        refine lv_iload_n hx hb d_P_weightAt_12 rfl (lv_at hl 3 rfl) ?_
        refine lv_if_lt (tgt := 39) hx hb d_P_weightAt_13 (by decide) (fun c4 => ?_) (fun c4 => ?_)
        · rw [if_pos c4] at hf
          refine lv_lload_n hx hb d_P_weightAt_39 rfl (lv_at hl 1 rfl) ?_
          exact W.lret hx hb hr (fun t ht _ => ⟨_, rfl, Option.some.inj hf, ht⟩) (fun _ h => absurd h List.not_mem_nil) d_P_weightAt_40
        · rw [if_neg c4] at hf
          refine lv_iload_n hx hb d_P_weightAt_16 rfl (lv_at hl 3 rfl) ?_
          refine lv_iconst (v := (5 : Int32)) hx hb d_P_weightAt_17 (by decide) ?_
          refine lv_icmp_gt (tgt := 39) hx hb d_P_weightAt_18 (by decide) (fun c5 => ?_) (fun c5 => ?_)
          · rw [if_pos c5] at hf
            refine lv_lload_n hx hb d_P_weightAt_39 rfl (lv_at hl 1 rfl) ?_
            exact W.lret hx hb hr (fun t ht _ => ⟨_, rfl, Option.some.inj hf, ht⟩) (fun _ h => absurd h List.not_mem_nil) d_P_weightAt_40
          · rw [if_neg c5] at hf
            refine lv_lload_n hx hb d_P_weightAt_21 rfl (lv_at hl 1 rfl) ?_
            refine lv_aload_n hx hb d_P_weightAt_22 rfl (lv_at hl 2 rfl) ?_
            refine va_get (D := (dC, dI)) (ci := 4) (v := .ref (a 19)) (C := "GuideSearch$Plan") (T := F_P) (N := 9) hx hb hT i_P hown hK hP 16 rfl rfl 3 (by decide) (hT _ k_101) (fun _ h9 => h9) rfl d_P_weightAt_23 ?_
            refine lv_iload_n hx hb d_P_weightAt_26 rfl (lv_at hl 3 rfl) ?_
            obtain ⟨j6, ej8, hi7, hf⟩ := ix_some hf
            refine xa_aald hx hb hK hP 19 4 rfl rfl ej8 hi7 (if_pos (ix_lt ej8 hi7)) d_P_weightAt_27 ?_
            have hj6 : j6 < 6 := ix_lt ej8 hi7
            refine lv_iload hx hb d_P_weightAt_28 (lv_at hl 0 rfl) ?_
            obtain ⟨j10, ej12, hi11, hf⟩ := ix_some hf
            refine xa_lald hx hb hK hP (20 + j6) 0 (x_wei_row cs a st hj6) rfl ej12 hi11 d_P_weightAt_30 ?_
            refine lv_ladd hx hb d_P_weightAt_31 ?_
            refine lv_lstore_n (lv' := [(2, .long (v2 + (x_wei st j6 j10))), (4, .int v1), (0, .ref (a 16)), (1, .int p1)]) hx hb d_P_weightAt_32 rfl hl (by decide) rfl (fun ls hl => ?_)
            refine lv_iinc (v := (v1 + 1)) (lv' := [(4, .int (v1 + 1)), (2, .long (v2 + (x_wei st j6 j10))), (0, .ref (a 16)), (1, .int p1)]) hx hb d_P_weightAt_33 hl (k := 1) rfl rfl (by decide) rfl (fun ls hl => ?_)
            refine lv_goto (tgt := 5) hx hb d_P_weightAt_36 (by decide) ?_
            exact ih1 (v1 + 1) (v2 + (x_wei st j6 j10)) hf ls (lv_sub hl [0, 1, 2, 3] rfl)
  exact loop1 _ (1 : Int32) (0 : Int64) hf ls (lv_sub hl [0, 1, 2, 3] rfl)
set_option maxHeartbeats 4000000 in
set_option maxRecDepth 100000 in
theorem c_P_leftAt (l : Launch) (dC : Nat → ClassId) (dI : Nat → Nat → Nat) (cs : Nat → ClassId) (a : Nat → Nat) (st : XS) (p1 : Int32) (res : Int32) (hf : x_P_leftAt st p1 = some res) : Met l (⟨"GuideSearch$Plan", "leftAt", "(I)I"⟩ : MethodName) (Cond.code (⟨"GuideSearch$Plan", "leftAt", "(I)I"⟩ : MethodName) prog_4_method_8_code 4 (some .int) :: wg) { frames := 1, cells := 0, slots := 0, locals := 20 } (va_Pc ([.ref (a 16), .int p1] : List Value) (x_pre dC dI cs a st)) (vp_Si (fun r => r = res)) 0 0 (fun _ => False) := by
  refine ro_start (cc := prog_4_method_8_code) (maxL := 4) (ret := (some .int)) (by decide) (Nat.le_of_ble_eq_true rfl) ?_
  intro p e s m below meth c hx hb hr hml hT hown hlocks hB ls hl
  replace hown : s.vm.findClass "GuideSearch$Plan" = some m.cls := hown
  obtain ⟨hP, hK, hN⟩ := hB
  replace hl : lv_has ls 4 [(0, .ref (a 16)), (1, .int p1)] := hl
  unfold x_P_leftAt at hf
  refine lv_iconst (v := (0 : Int32)) hx hb d_P_leftAt_0 (by decide) ?_
  refine lv_istore_n (lv' := [(2, .int (0 : Int32)), (0, .ref (a 16)), (1, .int p1)]) hx hb d_P_leftAt_1 rfl hl (by decide) rfl (fun ls hl => ?_)
  refine lv_iconst (v := (1 : Int32)) hx hb d_P_leftAt_2 (by decide) ?_
  refine lv_istore_n (lv' := [(3, .int (1 : Int32)), (2, .int (0 : Int32)), (0, .ref (a 16)), (1, .int p1)]) hx hb d_P_leftAt_3 rfl hl (by decide) rfl (fun ls hl => ?_)
  have loop1 : ∀ (n : Nat) (v1 : Int32) (v2 : Int32), xl2 (x_P_leftAt_B1 st p1) n v1 v2 = some res → ∀ (ls : Array Slot), lv_has ls 4 [(3, .int v1), (2, .int v2), (0, .ref (a 16)), (1, .int p1)] → W p l e { frames := 1, cells := 0, slots := 0, locals := 20 } s m ([.ref (a 16), .int p1] : List Value).toArray below meth c s.heap [] 0 0 (MQ below (vp_Si (fun r => r = res)) ([.ref (a 16), .int p1] : List Value).toArray s 0 0 (fun _ => False)) (F0 m 4 ls []) := by
    intro n
    induction n with
    | zero => intro v1 v2 hf; exact absurd hf (by simp [xl2])
    | succ n ih1 =>
      intro v1 v2 hf ls hl
      replace hf : (x_P_leftAt_B1 st p1) (xl2 (x_P_leftAt_B1 st p1) n) v1 v2 = some res := hf
      generalize xl2 (x_P_leftAt_B1 st p1) n = self1 at hf ih1
      unfold x_P_leftAt_B1 at hf
      refine lv_iload_n hx hb d_P_leftAt_4 rfl (lv_at hl 0 rfl) ?_
      refine lv_bipush (v := (12 : Int32)) hx hb d_P_leftAt_5 (by decide) ?_
      refine lv_icmp_gt (tgt := 49) hx hb d_P_leftAt_7 (by decide) (fun c3 => ?_) (fun c3 => ?_)
      · rw [if_pos c3] at hf
        refine lv_iload_n hx hb d_P_leftAt_49 rfl (lv_at hl 1 rfl) ?_
        exact W.iret hx hb hr (fun t ht _ => ⟨_, rfl, Option.some.inj hf, ht⟩) (fun _ h => absurd h List.not_mem_nil) d_P_leftAt_50
      · rw [if_neg c3] at hf
        refine lv_iload_n hx hb d_P_leftAt_10 rfl (lv_at hl 3 rfl) ?_
        refine lv_if_lt (tgt := 49) hx hb d_P_leftAt_11 (by decide) (fun c4 => ?_) (fun c4 => ?_)
        · rw [if_pos c4] at hf
          refine lv_iload_n hx hb d_P_leftAt_49 rfl (lv_at hl 1 rfl) ?_
          exact W.iret hx hb hr (fun t ht _ => ⟨_, rfl, Option.some.inj hf, ht⟩) (fun _ h => absurd h List.not_mem_nil) d_P_leftAt_50
        · rw [if_neg c4] at hf
          refine lv_iload_n hx hb d_P_leftAt_14 rfl (lv_at hl 3 rfl) ?_
          refine lv_iconst (v := (5 : Int32)) hx hb d_P_leftAt_15 (by decide) ?_
          refine lv_icmp_gt (tgt := 49) hx hb d_P_leftAt_16 (by decide) (fun c5 => ?_) (fun c5 => ?_)
          · rw [if_pos c5] at hf
            refine lv_iload_n hx hb d_P_leftAt_49 rfl (lv_at hl 1 rfl) ?_
            exact W.iret hx hb hr (fun t ht _ => ⟨_, rfl, Option.some.inj hf, ht⟩) (fun _ h => absurd h List.not_mem_nil) d_P_leftAt_50
          · rw [if_neg c5] at hf
            refine lv_iload_n hx hb d_P_leftAt_19 rfl (lv_at hl 1 rfl) ?_
            refine lv_aload_n hx hb d_P_leftAt_20 rfl (lv_at hl 2 rfl) ?_
            refine va_get (D := (dC, dI)) (ci := 4) (v := .ref (a 19)) (C := "GuideSearch$Plan") (T := F_P) (N := 9) hx hb hT i_P hown hK hP 16 rfl rfl 3 (by decide) (hT _ k_101) (fun _ h9 => h9) rfl d_P_leftAt_21 ?_
            refine lv_iload_n hx hb d_P_leftAt_24 rfl (lv_at hl 3 rfl) ?_
            obtain ⟨j6, ej8, hi7, hf⟩ := ix_some hf
            refine xa_aald hx hb hK hP 19 4 rfl rfl ej8 hi7 (if_pos (ix_lt ej8 hi7)) d_P_leftAt_25 ?_
            have hj6 : j6 < 6 := ix_lt ej8 hi7
            refine lv_iload_n hx hb d_P_leftAt_26 rfl (lv_at hl 0 rfl) ?_
            obtain ⟨j10, ej12, hi11, hf⟩ := ix_some hf
            refine xa_lald hx hb hK hP (20 + j6) 0 (x_wei_row cs a st hj6) rfl ej12 hi11 d_P_leftAt_27 ?_
            refine lv_lconst (v := (0 : Int64)) hx hb d_P_leftAt_28 (by decide) ?_
            refine W.lcmp hx hb d_P_leftAt_29 ?_
            refine lv_if_le (tgt := 40) hx hb d_P_leftAt_30 (by decide) (fun c13 => ?_) (fun c13 => ?_)
            · rw [if_pos ((lg_cmp_le _ _).mp c13)] at hf
              refine lv_iconst (v := (0 : Int32)) hx hb d_P_leftAt_40 (by decide) ?_
              refine lv_ior hx hb d_P_leftAt_41 ?_
              refine lv_istore_n (lv' := [(2, .int (v2 ||| (0 : Int32))), (3, .int v1), (0, .ref (a 16)), (1, .int p1)]) hx hb d_P_leftAt_42 rfl hl (by decide) rfl (fun ls hl => ?_)
              refine lv_iinc (v := (v1 + 1)) (lv' := [(3, .int (v1 + 1)), (2, .int (v2 ||| (0 : Int32))), (0, .ref (a 16)), (1, .int p1)]) hx hb d_P_leftAt_43 hl (k := 1) rfl rfl (by decide) rfl (fun ls hl => ?_)
              refine lv_goto (tgt := 4) hx hb d_P_leftAt_46 (by decide) ?_
              exact ih1 (v1 + 1) (v2 ||| (0 : Int32)) hf ls (lv_sub hl [0, 1, 2, 3] rfl)
            · rw [if_neg (mt (lg_cmp_le _ _).mpr c13)] at hf
              refine lv_iload_n hx hb d_P_leftAt_33 rfl (lv_at hl 0 rfl) ?_
              obtain ⟨r15, hr14, hf⟩ := ob hf
              refine ro_calli (va_runSN (As := [.int v1]) (rest := [.int v2]) ⟨hx, hb, hml, hown, hT⟩ (c_G_bit l v1 r15 hr14) ⟨va_cnB 1 hT (gcode k_221) rfl rfl rfl (hN _ k_281) (hT _ k_1) (by decide +kernel) ⟨Nat.le_of_ble_eq_true rfl, Nat.le_of_ble_eq_true rfl⟩, hT _ k_220, trivial⟩ ⟨fun _ _ _ _ q => q, fun _ _ _ => ⟨rfl, trivial⟩⟩ rfl rfl hl.1 rfl (lv_room (Nat.le_of_ble_eq_true rfl)) d_P_leftAt_34 ⟨Nat.le_of_ble_eq_true rfl, Nat.le_of_ble_eq_true rfl⟩) ?_
              refine lv_goto (tgt := 41) hx hb d_P_leftAt_37 (by decide) ?_
              refine lv_ior hx hb d_P_leftAt_41 ?_
              refine lv_istore_n (lv' := [(2, .int (v2 ||| r15)), (3, .int v1), (0, .ref (a 16)), (1, .int p1)]) hx hb d_P_leftAt_42 rfl hl (by decide) rfl (fun ls hl => ?_)
              refine lv_iinc (v := (v1 + 1)) (lv' := [(3, .int (v1 + 1)), (2, .int (v2 ||| r15)), (0, .ref (a 16)), (1, .int p1)]) hx hb d_P_leftAt_43 hl (k := 1) rfl rfl (by decide) rfl (fun ls hl => ?_)
              refine lv_goto (tgt := 4) hx hb d_P_leftAt_46 (by decide) ?_
              exact ih1 (v1 + 1) (v2 ||| r15) hf ls (lv_sub hl [0, 1, 2, 3] rfl)
  exact loop1 _ (1 : Int32) (0 : Int32) hf ls (lv_sub hl [0, 1, 2, 3] rfl)
end
section
theorem d_G_fault_0 : decode prog_1_method_2_code 0 = .ok (.lload_n 3, 1) := by decide +kernel
theorem d_G_fault_1 : decode prog_1_method_2_code 1 = .ok (.lconst 1, 1) := by decide +kernel
theorem d_G_fault_2 : decode prog_1_method_2_code 2 = .ok (.lcmp, 1) := by decide +kernel
theorem d_G_fault_3 : decode prog_1_method_2_code 3 = .ok (.ifCond .lt 23, 3) := by decide +kernel
theorem d_G_fault_6 : decode prog_1_method_2_code 6 = .ok (.lload_n 3, 1) := by decide +kernel
theorem d_G_fault_7 : decode prog_1_method_2_code 7 = .ok (.ldc2_w 49, 3) := by decide +kernel
theorem d_G_fault_10 : decode prog_1_method_2_code 10 = .ok (.lcmp, 1) := by decide +kernel
theorem d_G_fault_11 : decode prog_1_method_2_code 11 = .ok (.ifCond .gt 15, 3) := by decide +kernel
theorem d_G_fault_14 : decode prog_1_method_2_code 14 = .ok (.lload_n 1, 1) := by decide +kernel
theorem d_G_fault_15 : decode prog_1_method_2_code 15 = .ok (.lconst 0, 1) := by decide +kernel
theorem d_G_fault_16 : decode prog_1_method_2_code 16 = .ok (.lcmp, 1) := by decide +kernel
theorem d_G_fault_17 : decode prog_1_method_2_code 17 = .ok (.ifCond .lt 9, 3) := by decide +kernel
theorem d_G_fault_20 : decode prog_1_method_2_code 20 = .ok (.lload_n 1, 1) := by decide +kernel
theorem d_G_fault_21 : decode prog_1_method_2_code 21 = .ok (.lload_n 3, 1) := by decide +kernel
theorem d_G_fault_22 : decode prog_1_method_2_code 22 = .ok (.lcmp, 1) := by decide +kernel
theorem d_G_fault_23 : decode prog_1_method_2_code 23 = .ok (.ifCond .le 6, 3) := by decide +kernel
theorem d_G_fault_26 : decode prog_1_method_2_code 26 = .ok (.bipush (-2), 2) := by decide +kernel
theorem d_G_fault_28 : decode prog_1_method_2_code 28 = .ok (.ireturn, 1) := by decide +kernel
theorem d_G_fault_29 : decode prog_1_method_2_code 29 = .ok (.aload_n 0, 1) := by decide +kernel
theorem d_G_fault_30 : decode prog_1_method_2_code 30 = .ok (.getfield 12, 3) := by decide +kernel
theorem d_G_fault_33 : decode prog_1_method_2_code 33 = .ok (.getfield 51, 3) := by decide +kernel
theorem d_G_fault_36 : decode prog_1_method_2_code 36 = .ok (.bipush 8, 2) := by decide +kernel
theorem d_G_fault_38 : decode prog_1_method_2_code 38 = .ok (.if_icmp .ge 15, 3) := by decide +kernel
theorem d_G_fault_41 : decode prog_1_method_2_code 41 = .ok (.aload_n 0, 1) := by decide +kernel
theorem d_G_fault_42 : decode prog_1_method_2_code 42 = .ok (.getfield 12, 3) := by decide +kernel
theorem d_G_fault_45 : decode prog_1_method_2_code 45 = .ok (.getfield 54, 3) := by decide +kernel
theorem d_G_fault_48 : decode prog_1_method_2_code 48 = .ok (.bipush 12, 2) := by decide +kernel
theorem d_G_fault_50 : decode prog_1_method_2_code 50 = .ok (.if_icmp .lt 6, 3) := by decide +kernel
theorem d_G_fault_53 : decode prog_1_method_2_code 53 = .ok (.bipush (-4), 2) := by decide +kernel
theorem d_G_fault_55 : decode prog_1_method_2_code 55 = .ok (.ireturn, 1) := by decide +kernel
theorem d_G_fault_56 : decode prog_1_method_2_code 56 = .ok (.aload_n 0, 1) := by decide +kernel
theorem d_G_fault_57 : decode prog_1_method_2_code 57 = .ok (.getfield 12, 3) := by decide +kernel
theorem d_G_fault_60 : decode prog_1_method_2_code 60 = .ok (.ldc2_w 57, 3) := by decide +kernel
theorem d_G_fault_63 : decode prog_1_method_2_code 63 = .ok (.lload_n 3, 1) := by decide +kernel
theorem d_G_fault_64 : decode prog_1_method_2_code 64 = .ok (.ldiv, 1) := by decide +kernel
theorem d_G_fault_65 : decode prog_1_method_2_code 65 = .ok (.lload_n 1, 1) := by decide +kernel
theorem d_G_fault_66 : decode prog_1_method_2_code 66 = .ok (.lmul, 1) := by decide +kernel
theorem d_G_fault_67 : decode prog_1_method_2_code 67 = .ok (.invokevirtual 59, 3) := by decide +kernel
theorem d_G_fault_70 : decode prog_1_method_2_code 70 = .ok (.ireturn, 1) := by decide +kernel
theorem d_G_test_0 : decode prog_1_method_3_code 0 = .ok (.lload_n 1, 1) := by decide +kernel
theorem d_G_test_1 : decode prog_1_method_3_code 1 = .ok (.lconst 0, 1) := by decide +kernel
theorem d_G_test_2 : decode prog_1_method_3_code 2 = .ok (.lcmp, 1) := by decide +kernel
theorem d_G_test_3 : decode prog_1_method_3_code 3 = .ok (.ifCond .lt 11, 3) := by decide +kernel
theorem d_G_test_6 : decode prog_1_method_3_code 6 = .ok (.lload_n 1, 1) := by decide +kernel
theorem d_G_test_7 : decode prog_1_method_3_code 7 = .ok (.ldc2_w 63, 3) := by decide +kernel
theorem d_G_test_10 : decode prog_1_method_3_code 10 = .ok (.lcmp, 1) := by decide +kernel
theorem d_G_test_11 : decode prog_1_method_3_code 11 = .ok (.ifCond .le 6, 3) := by decide +kernel
theorem d_G_test_14 : decode prog_1_method_3_code 14 = .ok (.bipush (-2), 2) := by decide +kernel
theorem d_G_test_16 : decode prog_1_method_3_code 16 = .ok (.ireturn, 1) := by decide +kernel
theorem d_G_test_17 : decode prog_1_method_3_code 17 = .ok (.aload_n 0, 1) := by decide +kernel
theorem d_G_test_18 : decode prog_1_method_3_code 18 = .ok (.getfield 19, 3) := by decide +kernel
theorem d_G_test_21 : decode prog_1_method_3_code 21 = .ok (.getfield 65, 3) := by decide +kernel
theorem d_G_test_24 : decode prog_1_method_3_code 24 = .ok (.iconst 5, 1) := by decide +kernel
theorem d_G_test_25 : decode prog_1_method_3_code 25 = .ok (.if_icmp .lt 6, 3) := by decide +kernel
theorem d_G_test_28 : decode prog_1_method_3_code 28 = .ok (.bipush (-4), 2) := by decide +kernel
theorem d_G_test_30 : decode prog_1_method_3_code 30 = .ok (.ireturn, 1) := by decide +kernel
theorem d_G_test_31 : decode prog_1_method_3_code 31 = .ok (.aload_n 0, 1) := by decide +kernel
theorem d_G_test_32 : decode prog_1_method_3_code 32 = .ok (.getfield 19, 3) := by decide +kernel
theorem d_G_test_35 : decode prog_1_method_3_code 35 = .ok (.lload_n 1, 1) := by decide +kernel
theorem d_G_test_36 : decode prog_1_method_3_code 36 = .ok (.l2i, 1) := by decide +kernel
theorem d_G_test_37 : decode prog_1_method_3_code 37 = .ok (.invokevirtual 66, 3) := by decide +kernel
theorem d_G_test_40 : decode prog_1_method_3_code 40 = .ok (.ireturn, 1) := by decide +kernel
theorem d_G_odds_0 : decode prog_1_method_4_code 0 = .ok (.aload_n 0, 1) := by decide +kernel
theorem d_G_odds_1 : decode prog_1_method_4_code 1 = .ok (.getfield 19, 3) := by decide +kernel
theorem d_G_odds_4 : decode prog_1_method_4_code 4 = .ok (.iload_n 1, 1) := by decide +kernel
theorem d_G_odds_5 : decode prog_1_method_4_code 5 = .ok (.invokevirtual 70, 3) := by decide +kernel
theorem d_G_odds_8 : decode prog_1_method_4_code 8 = .ok (.ifCond .eq 14, 3) := by decide +kernel
theorem d_G_odds_11 : decode prog_1_method_4_code 11 = .ok (.aload_n 0, 1) := by decide +kernel
theorem d_G_odds_12 : decode prog_1_method_4_code 12 = .ok (.getfield 12, 3) := by decide +kernel
theorem d_G_odds_15 : decode prog_1_method_4_code 15 = .ok (.iload_n 2, 1) := by decide +kernel
theorem d_G_odds_16 : decode prog_1_method_4_code 16 = .ok (.invokevirtual 74, 3) := by decide +kernel
theorem d_G_odds_19 : decode prog_1_method_4_code 19 = .ok (.ifCond .ne 5, 3) := by decide +kernel
theorem d_G_odds_22 : decode prog_1_method_4_code 22 = .ok (.iconst (-1), 1) := by decide +kernel
theorem d_G_odds_23 : decode prog_1_method_4_code 23 = .ok (.ireturn, 1) := by decide +kernel
theorem d_G_odds_24 : decode prog_1_method_4_code 24 = .ok (.iload_n 3, 1) := by decide +kernel
theorem d_G_odds_25 : decode prog_1_method_4_code 25 = .ok (.invokestatic 75, 3) := by decide +kernel
theorem d_G_odds_28 : decode prog_1_method_4_code 28 = .ok (.ifCond .eq 13, 3) := by decide +kernel
theorem d_G_odds_31 : decode prog_1_method_4_code 31 = .ok (.lload 4, 2) := by decide +kernel
theorem d_G_odds_33 : decode prog_1_method_4_code 33 = .ok (.lload 6, 2) := by decide +kernel
theorem d_G_odds_35 : decode prog_1_method_4_code 35 = .ok (.invokestatic 78, 3) := by decide +kernel
theorem d_G_odds_38 : decode prog_1_method_4_code 38 = .ok (.ifCond .ne 6, 3) := by decide +kernel
theorem d_G_odds_41 : decode prog_1_method_4_code 41 = .ok (.bipush (-2), 2) := by decide +kernel
theorem d_G_odds_43 : decode prog_1_method_4_code 43 = .ok (.ireturn, 1) := by decide +kernel
theorem d_G_odds_44 : decode prog_1_method_4_code 44 = .ok (.ldc2_w 82, 3) := by decide +kernel
theorem d_G_odds_47 : decode prog_1_method_4_code 47 = .ok (.lload 6, 2) := by decide +kernel
theorem d_G_odds_49 : decode prog_1_method_4_code 49 = .ok (.ldiv, 1) := by decide +kernel
theorem d_G_odds_50 : decode prog_1_method_4_code 50 = .ok (.lload 4, 2) := by decide +kernel
theorem d_G_odds_52 : decode prog_1_method_4_code 52 = .ok (.lmul, 1) := by decide +kernel
theorem d_G_odds_53 : decode prog_1_method_4_code 53 = .ok (.l2i, 1) := by decide +kernel
theorem d_G_odds_54 : decode prog_1_method_4_code 54 = .ok (.istore 8, 2) := by decide +kernel
theorem d_G_odds_56 : decode prog_1_method_4_code 56 = .ok (.aload_n 0, 1) := by decide +kernel
theorem d_G_odds_57 : decode prog_1_method_4_code 57 = .ok (.getfield 19, 3) := by decide +kernel
theorem d_G_odds_60 : decode prog_1_method_4_code 60 = .ok (.iload_n 1, 1) := by decide +kernel
theorem d_G_odds_61 : decode prog_1_method_4_code 61 = .ok (.iload_n 2, 1) := by decide +kernel
theorem d_G_odds_62 : decode prog_1_method_4_code 62 = .ok (.invokevirtual 84, 3) := by decide +kernel
theorem d_G_odds_65 : decode prog_1_method_4_code 65 = .ok (.aload_n 0, 1) := by decide +kernel
theorem d_G_odds_66 : decode prog_1_method_4_code 66 = .ok (.getfield 19, 3) := by decide +kernel
theorem d_G_odds_69 : decode prog_1_method_4_code 69 = .ok (.iload_n 1, 1) := by decide +kernel
theorem d_G_odds_70 : decode prog_1_method_4_code 70 = .ok (.iload_n 2, 1) := by decide +kernel
theorem d_G_odds_71 : decode prog_1_method_4_code 71 = .ok (.iload_n 3, 1) := by decide +kernel
theorem d_G_odds_72 : decode prog_1_method_4_code 72 = .ok (.invokevirtual 88, 3) := by decide +kernel
theorem d_G_odds_75 : decode prog_1_method_4_code 75 = .ok (.isub, 1) := by decide +kernel
theorem d_G_odds_76 : decode prog_1_method_4_code 76 = .ok (.iload 8, 2) := by decide +kernel
theorem d_G_odds_78 : decode prog_1_method_4_code 78 = .ok (.iadd, 1) := by decide +kernel
theorem d_G_odds_79 : decode prog_1_method_4_code 79 = .ok (.istore 9, 2) := by decide +kernel
theorem d_G_odds_81 : decode prog_1_method_4_code 81 = .ok (.iload 9, 2) := by decide +kernel
theorem d_G_odds_83 : decode prog_1_method_4_code 83 = .ok (.bipush 12, 2) := by decide +kernel
theorem d_G_odds_85 : decode prog_1_method_4_code 85 = .ok (.if_icmp .le 6, 3) := by decide +kernel
theorem d_G_odds_88 : decode prog_1_method_4_code 88 = .ok (.bipush (-2), 2) := by decide +kernel
theorem d_G_odds_90 : decode prog_1_method_4_code 90 = .ok (.ireturn, 1) := by decide +kernel
theorem d_G_odds_91 : decode prog_1_method_4_code 91 = .ok (.aload_n 0, 1) := by decide +kernel
theorem d_G_odds_92 : decode prog_1_method_4_code 92 = .ok (.getfield 41, 3) := by decide +kernel
theorem d_G_odds_95 : decode prog_1_method_4_code 95 = .ok (.iload_n 1, 1) := by decide +kernel
theorem d_G_odds_96 : decode prog_1_method_4_code 96 = .ok (.invokestatic 92, 3) := by decide +kernel
theorem d_G_odds_99 : decode prog_1_method_4_code 99 = .ok (.iconst (-1), 1) := by decide +kernel
theorem d_G_odds_100 : decode prog_1_method_4_code 100 = .ok (.if_icmp .eq 6, 3) := by decide +kernel
theorem d_G_odds_103 : decode prog_1_method_4_code 103 = .ok (.bipush (-3), 2) := by decide +kernel
theorem d_G_odds_105 : decode prog_1_method_4_code 105 = .ok (.ireturn, 1) := by decide +kernel
theorem d_G_odds_106 : decode prog_1_method_4_code 106 = .ok (.aload_n 0, 1) := by decide +kernel
theorem d_G_odds_107 : decode prog_1_method_4_code 107 = .ok (.getfield 19, 3) := by decide +kernel
theorem d_G_odds_110 : decode prog_1_method_4_code 110 = .ok (.iload_n 1, 1) := by decide +kernel
theorem d_G_odds_111 : decode prog_1_method_4_code 111 = .ok (.iload_n 2, 1) := by decide +kernel
theorem d_G_odds_112 : decode prog_1_method_4_code 112 = .ok (.iload_n 3, 1) := by decide +kernel
theorem d_G_odds_113 : decode prog_1_method_4_code 113 = .ok (.iload 8, 2) := by decide +kernel
theorem d_G_odds_115 : decode prog_1_method_4_code 115 = .ok (.invokevirtual 95, 3) := by decide +kernel
theorem d_G_odds_118 : decode prog_1_method_4_code 118 = .ok (.iload 9, 2) := by decide +kernel
theorem d_G_odds_120 : decode prog_1_method_4_code 120 = .ok (.ireturn, 1) := by decide +kernel
theorem d_G_needs_0 : decode prog_1_method_5_code 0 = .ok (.aload_n 0, 1) := by decide +kernel
theorem d_G_needs_1 : decode prog_1_method_5_code 1 = .ok (.getfield 19, 3) := by decide +kernel
theorem d_G_needs_4 : decode prog_1_method_5_code 4 = .ok (.iload_n 1, 1) := by decide +kernel
theorem d_G_needs_5 : decode prog_1_method_5_code 5 = .ok (.invokevirtual 70, 3) := by decide +kernel
theorem d_G_needs_8 : decode prog_1_method_5_code 8 = .ok (.ifCond .eq 14, 3) := by decide +kernel
theorem d_G_needs_11 : decode prog_1_method_5_code 11 = .ok (.aload_n 0, 1) := by decide +kernel
theorem d_G_needs_12 : decode prog_1_method_5_code 12 = .ok (.getfield 19, 3) := by decide +kernel
theorem d_G_needs_15 : decode prog_1_method_5_code 15 = .ok (.iload_n 2, 1) := by decide +kernel
theorem d_G_needs_16 : decode prog_1_method_5_code 16 = .ok (.invokevirtual 70, 3) := by decide +kernel
theorem d_G_needs_19 : decode prog_1_method_5_code 19 = .ok (.ifCond .ne 5, 3) := by decide +kernel
theorem d_G_needs_22 : decode prog_1_method_5_code 22 = .ok (.iconst (-1), 1) := by decide +kernel
theorem d_G_needs_23 : decode prog_1_method_5_code 23 = .ok (.ireturn, 1) := by decide +kernel
theorem d_G_needs_24 : decode prog_1_method_5_code 24 = .ok (.iload_n 1, 1) := by decide +kernel
theorem d_G_needs_25 : decode prog_1_method_5_code 25 = .ok (.iload_n 2, 1) := by decide +kernel
theorem d_G_needs_26 : decode prog_1_method_5_code 26 = .ok (.if_icmp .ne 6, 3) := by decide +kernel
theorem d_G_needs_29 : decode prog_1_method_5_code 29 = .ok (.bipush (-2), 2) := by decide +kernel
theorem d_G_needs_31 : decode prog_1_method_5_code 31 = .ok (.ireturn, 1) := by decide +kernel
theorem d_G_needs_32 : decode prog_1_method_5_code 32 = .ok (.aload_n 0, 1) := by decide +kernel
theorem d_G_needs_33 : decode prog_1_method_5_code 33 = .ok (.getfield 19, 3) := by decide +kernel
theorem d_G_needs_36 : decode prog_1_method_5_code 36 = .ok (.iload_n 2, 1) := by decide +kernel
theorem d_G_needs_37 : decode prog_1_method_5_code 37 = .ok (.invokevirtual 99, 3) := by decide +kernel
theorem d_G_needs_40 : decode prog_1_method_5_code 40 = .ok (.iload_n 1, 1) := by decide +kernel
theorem d_G_needs_41 : decode prog_1_method_5_code 41 = .ok (.invokestatic 102, 3) := by decide +kernel
theorem d_G_needs_44 : decode prog_1_method_5_code 44 = .ok (.iand, 1) := by decide +kernel
theorem d_G_needs_45 : decode prog_1_method_5_code 45 = .ok (.ifCond .eq 6, 3) := by decide +kernel
theorem d_G_needs_48 : decode prog_1_method_5_code 48 = .ok (.bipush (-3), 2) := by decide +kernel
theorem d_G_needs_50 : decode prog_1_method_5_code 50 = .ok (.ireturn, 1) := by decide +kernel
theorem d_G_needs_51 : decode prog_1_method_5_code 51 = .ok (.aload_n 0, 1) := by decide +kernel
theorem d_G_needs_52 : decode prog_1_method_5_code 52 = .ok (.getfield 19, 3) := by decide +kernel
theorem d_G_needs_55 : decode prog_1_method_5_code 55 = .ok (.iload_n 1, 1) := by decide +kernel
theorem d_G_needs_56 : decode prog_1_method_5_code 56 = .ok (.iload_n 2, 1) := by decide +kernel
theorem d_G_needs_57 : decode prog_1_method_5_code 57 = .ok (.invokevirtual 105, 3) := by decide +kernel
theorem d_G_needs_60 : decode prog_1_method_5_code 60 = .ok (.ireturn, 1) := by decide +kernel
theorem d_G_answer_0 : decode prog_1_method_7_code 0 = .ok (.aload_n 0, 1) := by decide +kernel
theorem d_G_answer_1 : decode prog_1_method_7_code 1 = .ok (.getfield 19, 3) := by decide +kernel
theorem d_G_answer_4 : decode prog_1_method_7_code 4 = .ok (.iload_n 1, 1) := by decide +kernel
theorem d_G_answer_5 : decode prog_1_method_7_code 5 = .ok (.invokevirtual 70, 3) := by decide +kernel
theorem d_G_answer_8 : decode prog_1_method_7_code 8 = .ok (.ifCond .ne 5, 3) := by decide +kernel
theorem d_G_answer_11 : decode prog_1_method_7_code 11 = .ok (.iconst (-1), 1) := by decide +kernel
theorem d_G_answer_12 : decode prog_1_method_7_code 12 = .ok (.ireturn, 1) := by decide +kernel
theorem d_G_answer_13 : decode prog_1_method_7_code 13 = .ok (.iload_n 2, 1) := by decide +kernel
theorem d_G_answer_14 : decode prog_1_method_7_code 14 = .ok (.invokestatic 75, 3) := by decide +kernel
theorem d_G_answer_17 : decode prog_1_method_7_code 17 = .ok (.ifCond .ne 6, 3) := by decide +kernel
theorem d_G_answer_20 : decode prog_1_method_7_code 20 = .ok (.bipush (-2), 2) := by decide +kernel
theorem d_G_answer_22 : decode prog_1_method_7_code 22 = .ok (.ireturn, 1) := by decide +kernel
theorem d_G_answer_23 : decode prog_1_method_7_code 23 = .ok (.aload_n 0, 1) := by decide +kernel
theorem d_G_answer_24 : decode prog_1_method_7_code 24 = .ok (.getfield 19, 3) := by decide +kernel
theorem d_G_answer_27 : decode prog_1_method_7_code 27 = .ok (.iload_n 1, 1) := by decide +kernel
theorem d_G_answer_28 : decode prog_1_method_7_code 28 = .ok (.aload_n 0, 1) := by decide +kernel
theorem d_G_answer_29 : decode prog_1_method_7_code 29 = .ok (.getfield 41, 3) := by decide +kernel
theorem d_G_answer_32 : decode prog_1_method_7_code 32 = .ok (.invokevirtual 120, 3) := by decide +kernel
theorem d_G_answer_35 : decode prog_1_method_7_code 35 = .ok (.ifCond .ne 6, 3) := by decide +kernel
theorem d_G_answer_38 : decode prog_1_method_7_code 38 = .ok (.bipush (-3), 2) := by decide +kernel
theorem d_G_answer_40 : decode prog_1_method_7_code 40 = .ok (.ireturn, 1) := by decide +kernel
theorem d_G_answer_41 : decode prog_1_method_7_code 41 = .ok (.aload_n 0, 1) := by decide +kernel
theorem d_G_answer_42 : decode prog_1_method_7_code 42 = .ok (.aload_n 0, 1) := by decide +kernel
theorem d_G_answer_43 : decode prog_1_method_7_code 43 = .ok (.getfield 41, 3) := by decide +kernel
theorem d_G_answer_46 : decode prog_1_method_7_code 46 = .ok (.iload_n 1, 1) := by decide +kernel
theorem d_G_answer_47 : decode prog_1_method_7_code 47 = .ok (.iload_n 2, 1) := by decide +kernel
theorem d_G_answer_48 : decode prog_1_method_7_code 48 = .ok (.invokestatic 124, 3) := by decide +kernel
theorem d_G_answer_51 : decode prog_1_method_7_code 51 = .ok (.putfield 41, 3) := by decide +kernel
theorem d_G_answer_54 : decode prog_1_method_7_code 54 = .ok (.aload_n 0, 1) := by decide +kernel
theorem d_G_answer_55 : decode prog_1_method_7_code 55 = .ok (.getfield 28, 3) := by decide +kernel
theorem d_G_answer_58 : decode prog_1_method_7_code 58 = .ok (.aload_n 0, 1) := by decide +kernel
theorem d_G_answer_59 : decode prog_1_method_7_code 59 = .ok (.getfield 41, 3) := by decide +kernel
theorem d_G_answer_62 : decode prog_1_method_7_code 62 = .ok (.invokevirtual 127, 3) := by decide +kernel
theorem d_G_answer_65 : decode prog_1_method_7_code 65 = .ok (.invokestatic 130, 3) := by decide +kernel
theorem d_G_answer_68 : decode prog_1_method_7_code 68 = .ok (.ireturn, 1) := by decide +kernel
theorem d_G_exact_0 : decode prog_1_method_9_code 0 = .ok (.aload_n 0, 1) := by decide +kernel
theorem d_G_exact_1 : decode prog_1_method_9_code 1 = .ok (.getfield 45, 3) := by decide +kernel
theorem d_G_exact_4 : decode prog_1_method_9_code 4 = .ok (.ireturn, 1) := by decide +kernel
theorem d_G_cost_0 : decode prog_1_method_10_code 0 = .ok (.aload_n 0, 1) := by decide +kernel
theorem d_G_cost_1 : decode prog_1_method_10_code 1 = .ok (.getfield 37, 3) := by decide +kernel
theorem d_G_cost_4 : decode prog_1_method_10_code 4 = .ok (.getfield 156, 3) := by decide +kernel
theorem d_G_cost_7 : decode prog_1_method_10_code 7 = .ok (.lreturn, 1) := by decide +kernel
theorem d_G_pair_0 : decode prog_1_method_11_code 0 = .ok (.aload_n 0, 1) := by decide +kernel
theorem d_G_pair_1 : decode prog_1_method_11_code 1 = .ok (.getfield 12, 3) := by decide +kernel
theorem d_G_pair_4 : decode prog_1_method_11_code 4 = .ok (.iload_n 1, 1) := by decide +kernel
theorem d_G_pair_5 : decode prog_1_method_11_code 5 = .ok (.invokevirtual 160, 3) := by decide +kernel
theorem d_G_pair_8 : decode prog_1_method_11_code 8 = .ok (.ifCond .eq 14, 3) := by decide +kernel
theorem d_G_pair_11 : decode prog_1_method_11_code 11 = .ok (.aload_n 0, 1) := by decide +kernel
theorem d_G_pair_12 : decode prog_1_method_11_code 12 = .ok (.getfield 12, 3) := by decide +kernel
theorem d_G_pair_15 : decode prog_1_method_11_code 15 = .ok (.iload_n 2, 1) := by decide +kernel
theorem d_G_pair_16 : decode prog_1_method_11_code 16 = .ok (.invokevirtual 160, 3) := by decide +kernel
theorem d_G_pair_19 : decode prog_1_method_11_code 19 = .ok (.ifCond .ne 5, 3) := by decide +kernel
theorem d_G_pair_22 : decode prog_1_method_11_code 22 = .ok (.iconst (-1), 1) := by decide +kernel
theorem d_G_pair_23 : decode prog_1_method_11_code 23 = .ok (.ireturn, 1) := by decide +kernel
theorem d_G_pair_24 : decode prog_1_method_11_code 24 = .ok (.iload_n 1, 1) := by decide +kernel
theorem d_G_pair_25 : decode prog_1_method_11_code 25 = .ok (.iload_n 2, 1) := by decide +kernel
theorem d_G_pair_26 : decode prog_1_method_11_code 26 = .ok (.if_icmp .ne 6, 3) := by decide +kernel
theorem d_G_pair_29 : decode prog_1_method_11_code 29 = .ok (.bipush (-2), 2) := by decide +kernel
theorem d_G_pair_31 : decode prog_1_method_11_code 31 = .ok (.ireturn, 1) := by decide +kernel
theorem d_G_pair_32 : decode prog_1_method_11_code 32 = .ok (.aload_n 0, 1) := by decide +kernel
theorem d_G_pair_33 : decode prog_1_method_11_code 33 = .ok (.getfield 12, 3) := by decide +kernel
theorem d_G_pair_36 : decode prog_1_method_11_code 36 = .ok (.iload_n 1, 1) := by decide +kernel
theorem d_G_pair_37 : decode prog_1_method_11_code 37 = .ok (.invokestatic 102, 3) := by decide +kernel
theorem d_G_pair_40 : decode prog_1_method_11_code 40 = .ok (.iload_n 2, 1) := by decide +kernel
theorem d_G_pair_41 : decode prog_1_method_11_code 41 = .ok (.invokestatic 102, 3) := by decide +kernel
theorem d_G_pair_44 : decode prog_1_method_11_code 44 = .ok (.ior, 1) := by decide +kernel
theorem d_G_pair_45 : decode prog_1_method_11_code 45 = .ok (.invokevirtual 163, 3) := by decide +kernel
theorem d_G_pair_48 : decode prog_1_method_11_code 48 = .ok (.ifCond .eq 6, 3) := by decide +kernel
theorem d_G_pair_51 : decode prog_1_method_11_code 51 = .ok (.bipush (-3), 2) := by decide +kernel
theorem d_G_pair_53 : decode prog_1_method_11_code 53 = .ok (.ireturn, 1) := by decide +kernel
theorem d_G_pair_54 : decode prog_1_method_11_code 54 = .ok (.aload_n 0, 1) := by decide +kernel
theorem d_G_pair_55 : decode prog_1_method_11_code 55 = .ok (.getfield 12, 3) := by decide +kernel
theorem d_G_pair_58 : decode prog_1_method_11_code 58 = .ok (.getfield 54, 3) := by decide +kernel
theorem d_G_pair_61 : decode prog_1_method_11_code 61 = .ok (.bipush 12, 2) := by decide +kernel
theorem d_G_pair_63 : decode prog_1_method_11_code 63 = .ok (.if_icmp .lt 6, 3) := by decide +kernel
theorem d_G_pair_66 : decode prog_1_method_11_code 66 = .ok (.bipush (-4), 2) := by decide +kernel
theorem d_G_pair_68 : decode prog_1_method_11_code 68 = .ok (.ireturn, 1) := by decide +kernel
theorem d_G_pair_69 : decode prog_1_method_11_code 69 = .ok (.aload_n 0, 1) := by decide +kernel
theorem d_G_pair_70 : decode prog_1_method_11_code 70 = .ok (.getfield 12, 3) := by decide +kernel
theorem d_G_pair_73 : decode prog_1_method_11_code 73 = .ok (.iload_n 1, 1) := by decide +kernel
theorem d_G_pair_74 : decode prog_1_method_11_code 74 = .ok (.iload_n 2, 1) := by decide +kernel
theorem d_G_pair_75 : decode prog_1_method_11_code 75 = .ok (.invokevirtual 166, 3) := by decide +kernel
theorem d_G_pair_78 : decode prog_1_method_11_code 78 = .ok (.ireturn, 1) := by decide +kernel
theorem d_G_learn_0 : decode prog_1_method_12_code 0 = .ok (.iload_n 1, 1) := by decide +kernel
theorem d_G_learn_1 : decode prog_1_method_12_code 1 = .ok (.ifCond .eq 16, 3) := by decide +kernel
theorem d_G_learn_4 : decode prog_1_method_12_code 4 = .ok (.aload_n 0, 1) := by decide +kernel
theorem d_G_learn_5 : decode prog_1_method_12_code 5 = .ok (.getfield 12, 3) := by decide +kernel
theorem d_G_learn_8 : decode prog_1_method_12_code 8 = .ok (.iload_n 1, 1) := by decide +kernel
theorem d_G_learn_9 : decode prog_1_method_12_code 9 = .ok (.invokevirtual 74, 3) := by decide +kernel
theorem d_G_learn_12 : decode prog_1_method_12_code 12 = .ok (.ifCond .ne 5, 3) := by decide +kernel
theorem d_G_learn_15 : decode prog_1_method_12_code 15 = .ok (.iconst (-1), 1) := by decide +kernel
theorem d_G_learn_16 : decode prog_1_method_12_code 16 = .ok (.ireturn, 1) := by decide +kernel
theorem d_G_learn_17 : decode prog_1_method_12_code 17 = .ok (.aload_n 0, 1) := by decide +kernel
theorem d_G_learn_18 : decode prog_1_method_12_code 18 = .ok (.iconst 0, 1) := by decide +kernel
theorem d_G_learn_19 : decode prog_1_method_12_code 19 = .ok (.putfield 41, 3) := by decide +kernel
theorem d_G_learn_22 : decode prog_1_method_12_code 22 = .ok (.aload_n 0, 1) := by decide +kernel
theorem d_G_learn_23 : decode prog_1_method_12_code 23 = .ok (.getfield 12, 3) := by decide +kernel
theorem d_G_learn_26 : decode prog_1_method_12_code 26 = .ok (.iload_n 1, 1) := by decide +kernel
theorem d_G_learn_27 : decode prog_1_method_12_code 27 = .ok (.invokevirtual 169, 3) := by decide +kernel
theorem d_G_learn_30 : decode prog_1_method_12_code 30 = .ok (.ireturn, 1) := by decide +kernel
theorem d_G_tree_0 : decode prog_1_method_13_code 0 = .ok (.iload_n 1, 1) := by decide +kernel
theorem d_G_tree_1 : decode prog_1_method_13_code 1 = .ok (.iconst (-1), 1) := by decide +kernel
theorem d_G_tree_2 : decode prog_1_method_13_code 2 = .ok (.if_icmp .ne 15, 3) := by decide +kernel
theorem d_G_tree_5 : decode prog_1_method_13_code 5 = .ok (.iload_n 2, 1) := by decide +kernel
theorem d_G_tree_6 : decode prog_1_method_13_code 6 = .ok (.ifCond .ne 11, 3) := by decide +kernel
theorem d_G_tree_9 : decode prog_1_method_13_code 9 = .ok (.aload_n 0, 1) := by decide +kernel
theorem d_G_tree_10 : decode prog_1_method_13_code 10 = .ok (.getfield 37, 3) := by decide +kernel
theorem d_G_tree_13 : decode prog_1_method_13_code 13 = .ok (.getfield 172, 3) := by decide +kernel
theorem d_G_tree_16 : decode prog_1_method_13_code 16 = .ok (.ireturn, 1) := by decide +kernel
theorem d_G_tree_17 : decode prog_1_method_13_code 17 = .ok (.iload_n 1, 1) := by decide +kernel
theorem d_G_tree_18 : decode prog_1_method_13_code 18 = .ok (.ifCond .lt 14, 3) := by decide +kernel
theorem d_G_tree_21 : decode prog_1_method_13_code 21 = .ok (.iload_n 1, 1) := by decide +kernel
theorem d_G_tree_22 : decode prog_1_method_13_code 22 = .ok (.aload_n 0, 1) := by decide +kernel
theorem d_G_tree_23 : decode prog_1_method_13_code 23 = .ok (.getfield 37, 3) := by decide +kernel
theorem d_G_tree_26 : decode prog_1_method_13_code 26 = .ok (.getfield 172, 3) := by decide +kernel
theorem d_G_tree_29 : decode prog_1_method_13_code 29 = .ok (.if_icmp .lt 5, 3) := by decide +kernel
theorem d_G_tree_32 : decode prog_1_method_13_code 32 = .ok (.iconst (-1), 1) := by decide +kernel
theorem d_G_tree_33 : decode prog_1_method_13_code 33 = .ok (.ireturn, 1) := by decide +kernel
theorem d_G_tree_34 : decode prog_1_method_13_code 34 = .ok (.aload_n 0, 1) := by decide +kernel
theorem d_G_tree_35 : decode prog_1_method_13_code 35 = .ok (.getfield 37, 3) := by decide +kernel
theorem d_G_tree_38 : decode prog_1_method_13_code 38 = .ok (.iload_n 1, 1) := by decide +kernel
theorem d_G_tree_39 : decode prog_1_method_13_code 39 = .ok (.iload_n 2, 1) := by decide +kernel
theorem d_G_tree_40 : decode prog_1_method_13_code 40 = .ok (.invokevirtual 175, 3) := by decide +kernel
theorem d_G_tree_43 : decode prog_1_method_13_code 43 = .ok (.ireturn, 1) := by decide +kernel
theorem d_G_never_0 : decode prog_1_method_14_code 0 = .ok (.iload_n 1, 1) := by decide +kernel
theorem d_G_never_1 : decode prog_1_method_14_code 1 = .ok (.invokestatic 75, 3) := by decide +kernel
theorem d_G_never_4 : decode prog_1_method_14_code 4 = .ok (.ifCond .ne 6, 3) := by decide +kernel
theorem d_G_never_7 : decode prog_1_method_14_code 7 = .ok (.bipush (-2), 2) := by decide +kernel
theorem d_G_never_9 : decode prog_1_method_14_code 9 = .ok (.ireturn, 1) := by decide +kernel
theorem d_G_never_10 : decode prog_1_method_14_code 10 = .ok (.iconst 0, 1) := by decide +kernel
theorem d_G_never_11 : decode prog_1_method_14_code 11 = .ok (.istore_n 2, 1) := by decide +kernel
theorem d_G_never_12 : decode prog_1_method_14_code 12 = .ok (.iconst 1, 1) := by decide +kernel
theorem d_G_never_13 : decode prog_1_method_14_code 13 = .ok (.istore_n 3, 1) := by decide +kernel
theorem d_G_never_14 : decode prog_1_method_14_code 14 = .ok (.iload_n 3, 1) := by decide +kernel
theorem d_G_never_15 : decode prog_1_method_14_code 15 = .ok (.aload_n 0, 1) := by decide +kernel
theorem d_G_never_16 : decode prog_1_method_14_code 16 = .ok (.getfield 19, 3) := by decide +kernel
theorem d_G_never_19 : decode prog_1_method_14_code 19 = .ok (.getfield 65, 3) := by decide +kernel
theorem d_G_never_22 : decode prog_1_method_14_code 22 = .ok (.if_icmp .gt 31, 3) := by decide +kernel
theorem d_G_never_25 : decode prog_1_method_14_code 25 = .ok (.aload_n 0, 1) := by decide +kernel
theorem d_G_never_26 : decode prog_1_method_14_code 26 = .ok (.getfield 19, 3) := by decide +kernel
theorem d_G_never_29 : decode prog_1_method_14_code 29 = .ok (.iload_n 3, 1) := by decide +kernel
theorem d_G_never_30 : decode prog_1_method_14_code 30 = .ok (.iload_n 1, 1) := by decide +kernel
theorem d_G_never_31 : decode prog_1_method_14_code 31 = .ok (.aload_n 0, 1) := by decide +kernel
theorem d_G_never_32 : decode prog_1_method_14_code 32 = .ok (.getfield 12, 3) := by decide +kernel
theorem d_G_never_35 : decode prog_1_method_14_code 35 = .ok (.getfield 54, 3) := by decide +kernel
theorem d_G_never_38 : decode prog_1_method_14_code 38 = .ok (.invokevirtual 178, 3) := by decide +kernel
theorem d_G_never_41 : decode prog_1_method_14_code 41 = .ok (.ifCond .ne 6, 3) := by decide +kernel
theorem d_G_never_44 : decode prog_1_method_14_code 44 = .ok (.iinc 2 1, 3) := by decide +kernel
theorem d_G_never_47 : decode prog_1_method_14_code 47 = .ok (.iinc 3 1, 3) := by decide +kernel
theorem d_G_never_50 : decode prog_1_method_14_code 50 = .ok (.goto (-36), 3) := by decide +kernel
theorem d_G_never_53 : decode prog_1_method_14_code 53 = .ok (.iload_n 2, 1) := by decide +kernel
theorem d_G_never_54 : decode prog_1_method_14_code 54 = .ok (.ireturn, 1) := by decide +kernel
end
section
def x_G_fault (st : XS) (p1 : Int64) (p3 : Int64) : Option (Int32 × XS) :=
  if p3 < (1 : Int64) then
    some ((-2 : Int32), st)
  else
    if (10 : Int64) < p3 then
      some ((-2 : Int32), st)
    else
      if p1 < (0 : Int64) then
        some ((-2 : Int32), st)
      else
        if p1 ≤ p3 then
          if (8 : Int32) ≤ (x_fN st) then
            some ((-4 : Int32), st)
          else
            if (x_cN st) < (12 : Int32) then
              dzl p3 <|
              bd2 (x_C_addFault st (((2520 : Int64) / p3) * p1)) fun r10 s9 =>
              some (r10, s9)
            else
              some ((-4 : Int32), st)
        else
          some ((-2 : Int32), st)
def x_G_test (st : XS) (p1 : Int64) : Option (Int32 × XS) :=
  if p1 < (0 : Int64) then
    some ((-2 : Int32), st)
  else
    if p1 ≤ (400 : Int64) then
      if (x_tN st) < (5 : Int32) then
        bd2 (x_T_add st p1.toInt32) fun r6 s5 =>
        some (r6, s5)
      else
        some ((-4 : Int32), st)
    else
      some ((-2 : Int32), st)
def x_G_odds (st : XS) (p1 : Int32) (p2 : Int32) (p3 : Int32) (p4 : Int64) (p6 : Int64) : Option (Int32 × XS) :=
  (x_T_knows st p1).bind fun r2 =>
  if r2 = 0 then
    some ((-1 : Int32), st)
  else
    (x_C_knows st p2).bind fun r5 =>
    if r5 = 0 then
      some ((-1 : Int32), st)
    else
      (x_G_isAnswer p3).bind fun r8 =>
      if r8 = 0 then
        some ((-2 : Int32), st)
      else
        (x_G_isPartOfTwelve p4 p6).bind fun r11 =>
        if r11 = 0 then
          some ((-2 : Int32), st)
        else
          dzl p6 <|
          (x_T_together st p1 p2).bind fun r15 =>
          (x_T_twelfths st p1 p2 p3).bind fun r17 =>
          if ((r15 - r17) + (((12 : Int64) / p6) * p4).toInt32) ≤ (12 : Int32) then
            (x_G_answerIn (x_opn st) p1).bind fun r20 =>
            if r20 = (-1 : Int32) then
              (x_T_setTwelfths st p1 p2 p3 (((12 : Int64) / p6) * p4).toInt32).bind fun s23 =>
              some (((r15 - r17) + (((12 : Int64) / p6) * p4).toInt32), s23)
            else
              some ((-3 : Int32), st)
          else
            some ((-2 : Int32), st)
def x_G_needs (st : XS) (p1 : Int32) (p2 : Int32) : Option (Int32 × XS) :=
  (x_T_knows st p1).bind fun r2 =>
  if r2 = 0 then
    some ((-1 : Int32), st)
  else
    (x_T_knows st p2).bind fun r5 =>
    if r5 = 0 then
      some ((-1 : Int32), st)
    else
      if p1 = p2 then
        some ((-2 : Int32), st)
      else
        (x_T_allNeededBy st p2).bind fun r9 =>
        (x_G_bit p1).bind fun r11 =>
        if (r9 &&& r11) = 0 then
          bd2 (x_T_addNeed st p1 p2) fun r15 s14 =>
          some (r15, s14)
        else
          some ((-3 : Int32), st)
def x_G_answer (st : XS) (p1 : Int32) (p2 : Int32) : Option (Int32 × XS) :=
  (x_T_knows st p1).bind fun r2 =>
  if r2 = 0 then
    some ((-1 : Int32), st)
  else
    (x_G_isAnswer p2).bind fun r5 =>
    if r5 = 0 then
      some ((-2 : Int32), st)
    else
      (x_T_isOpen st p1 (x_opn st)).bind fun r8 =>
      if r8 = 0 then
        some ((-3 : Int32), st)
      else
        (x_G_withAnswer (x_opn st) p1 p2).bind fun r11 =>
        (x_K_left (x_opn_s st r11) (x_opn (x_opn_s st r11))).bind fun r13 =>
        (x_JI_bitCount r13).bind fun r15 =>
        some (r15, (x_opn_s st r11))
def x_G_exact (st : XS) : Option (Int32) :=
  zb (x_pla st) <|
  some (x_pla st)
def x_G_cost (st : XS) : Option (Int64) :=
  some (x_tho st)
def x_G_pair (st : XS) (p1 : Int32) (p2 : Int32) : Option (Int32 × XS) :=
  (x_C_isFault st p1).bind fun r2 =>
  if r2 = 0 then
    some ((-1 : Int32), st)
  else
    (x_C_isFault st p2).bind fun r5 =>
    if r5 = 0 then
      some ((-1 : Int32), st)
    else
      if p1 = p2 then
        some ((-2 : Int32), st)
      else
        (x_G_bit p1).bind fun r9 =>
        (x_G_bit p2).bind fun r11 =>
        (x_C_hasPair st (r9 ||| r11)).bind fun r13 =>
        if r13 = 0 then
          if (x_cN st) < (12 : Int32) then
            bd2 (x_C_addPair st p1 p2) fun r18 s17 =>
            some (r18, s17)
          else
            some ((-4 : Int32), st)
        else
          some ((-3 : Int32), st)
def x_G_learn (st : XS) (p1 : Int32) : Option (Int32 × XS) :=
  if p1 = 0 then
    bd2 (x_C_countLearned (x_opn_s st (0 : Int32)) p1) fun r4 s3 =>
    some (r4, s3)
  else
    (x_C_knows st p1).bind fun r6 =>
    if r6 = 0 then
      some ((-1 : Int32), st)
    else
      bd2 (x_C_countLearned (x_opn_s st (0 : Int32)) p1) fun r10 s9 =>
      some (r10, s9)
def x_G_tree_J1 (st : XS) (p1 : Int32) (p2 : Int32) : Option (Int32) :=
  if p1 < 0 then
    some (-1 : Int32)
  else
    if p1 < (x_nod st) then
      (x_P_tell st p1 p2).bind fun r4 =>
      some r4
    else
      some (-1 : Int32)
def x_G_tree (st : XS) (p1 : Int32) (p2 : Int32) : Option (Int32) :=
  if p1 = (-1 : Int32) then
    if p2 = 0 then
      some (x_nod st)
    else
      x_G_tree_J1 st p1 p2
  else
    x_G_tree_J1 st p1 p2
def x_G_never_B1 (st : XS) (p1 : Int32) (self1 : Int32 → Int32 → Option (Int32)) (v4 : Int32) (v5 : Int32) : Option (Int32) :=
  if (x_tN st) < v4 then
    some v5
  else
    (x_T_canAnswer st v4 p1 (x_cN st)).bind fun r8 =>
    if r8 = 0 then
      self1 (v4 + 1) (v5 + 1)
    else
      self1 (v4 + 1) v5
def x_G_never (st : XS) (p1 : Int32) : Option (Int32) :=
  (x_G_isAnswer p1).bind fun r2 =>
  if r2 = 0 then
    some (-2 : Int32)
  else
    xl2 (x_G_never_B1 st p1) 14 (1 : Int32) (0 : Int32)
end
section
set_option maxHeartbeats 4000000 in
set_option maxRecDepth 100000 in
theorem c_G_fault (l : Launch) (dC : Nat → ClassId) (dI : Nat → Nat → Nat) (cs : Nat → ClassId) (a : Nat → Nat) (hi : ∀ i j : Nat, i < 29 → j < 29 → a i = a j → i = j) (st : XS) (p1 : Int64) (p3 : Int64) (res : Int32 × XS) (hf : x_G_fault st p1 p3 = some res) : Met l (⟨"GuideSearch", "fault", "(JJ)I"⟩ : MethodName) (Cond.code (⟨"GuideSearch", "fault", "(JJ)I"⟩ : MethodName) prog_1_method_2_code 5 (some .int) :: wg) { frames := 1, cells := 0, slots := 0, locals := 22 } (va_Pc ([.ref (a 0), .long p1, .long p3] : List Value) (x_pre dC dI cs a st)) (va_Qi (fun r (_ : Unit) => r = res.1) (fun _ t => va_P (dC, dI) vwCl (x_W cs a res.2) t.heap) (x_A a)) 0 0 (x_A a) := by
  refine ro_start (cc := prog_1_method_2_code) (maxL := 5) (ret := (some .int)) (by decide) (Nat.le_of_ble_eq_true rfl) ?_
  intro p e s m below meth c hx hb hr hml hT hown hlocks hB ls hl
  replace hown : s.vm.findClass "GuideSearch" = some m.cls := hown
  obtain ⟨hP, hK, hN⟩ := hB
  replace hl : lv_has ls 5 [(0, .ref (a 0)), (1, .long p1), (3, .long p3)] := hl
  unfold x_G_fault at hf
  have hD : ∀ st : XS, va_D (x_A a) (x_W cs a st) := fun st => x_D hi cs st
  have main : ∀ (H : Heap) (locs : List Loc), va_P (dC, dI) vwCl (x_W cs a st) H → va_S (x_A a) s.heap H locs → W p l e { frames := 1, cells := 0, slots := 0, locals := 22 } s m ([.ref (a 0), .long p1, .long p3] : List Value).toArray below meth c H locs 0 0 (MQ below (va_Qi (fun r (_ : Unit) => r = res.1) (fun _ t => va_P (dC, dI) vwCl (x_W cs a res.2) t.heap) (x_A a)) ([.ref (a 0), .long p1, .long p3] : List Value).toArray s 0 0 (x_A a)) (F0 m 0 ls []) := by
    intro H locs hP hS
    refine lv_lload_n hx hb d_G_fault_0 rfl (lv_at hl 2 rfl) ?_
    refine lv_lconst (v := (1 : Int64)) hx hb d_G_fault_1 (by decide) ?_
    refine W.lcmp hx hb d_G_fault_2 ?_
    refine lv_if_lt (tgt := 26) hx hb d_G_fault_3 (by decide) (fun c1 => ?_) (fun c1 => ?_)
    · rw [if_pos ((lg_cmp_lt _ _).mp c1)] at hf
      refine lv_bipush (v := (-2 : Int32)) hx hb d_G_fault_26 (by decide) ?_
      exact W.iret hx hb hr (fun t ht _ => ⟨⟨_, (), rfl, congrArg Prod.fst (Option.some.inj hf), x_fin ht (congrArg Prod.snd (Option.some.inj hf)) hP⟩, hS.F ht⟩) hS.2.2 d_G_fault_28
    · rw [if_neg (mt (lg_cmp_lt _ _).mpr c1)] at hf
      refine lv_lload_n hx hb d_G_fault_6 rfl (lv_at hl 2 rfl) ?_
      refine lv_ldc2 (v := (10 : Int64)) hx hb hown (hT _ k_152) d_G_fault_7 ?_
      refine W.lcmp hx hb d_G_fault_10 ?_
      refine lv_if_gt (tgt := 26) hx hb d_G_fault_11 (by decide) (fun c2 => ?_) (fun c2 => ?_)
      · rw [if_pos ((lg_cmp_gt _ _).mp c2)] at hf
        refine lv_bipush (v := (-2 : Int32)) hx hb d_G_fault_26 (by decide) ?_
        exact W.iret hx hb hr (fun t ht _ => ⟨⟨_, (), rfl, congrArg Prod.fst (Option.some.inj hf), x_fin ht (congrArg Prod.snd (Option.some.inj hf)) hP⟩, hS.F ht⟩) hS.2.2 d_G_fault_28
      · rw [if_neg (mt (lg_cmp_gt _ _).mpr c2)] at hf
        refine lv_lload_n hx hb d_G_fault_14 rfl (lv_at hl 1 rfl) ?_
        refine lv_lconst (v := (0 : Int64)) hx hb d_G_fault_15 (by decide) ?_
        refine W.lcmp hx hb d_G_fault_16 ?_
        refine lv_if_lt (tgt := 26) hx hb d_G_fault_17 (by decide) (fun c3 => ?_) (fun c3 => ?_)
        · rw [if_pos ((lg_cmp_lt _ _).mp c3)] at hf
          refine lv_bipush (v := (-2 : Int32)) hx hb d_G_fault_26 (by decide) ?_
          exact W.iret hx hb hr (fun t ht _ => ⟨⟨_, (), rfl, congrArg Prod.fst (Option.some.inj hf), x_fin ht (congrArg Prod.snd (Option.some.inj hf)) hP⟩, hS.F ht⟩) hS.2.2 d_G_fault_28
        · rw [if_neg (mt (lg_cmp_lt _ _).mpr c3)] at hf
          refine lv_lload_n hx hb d_G_fault_20 rfl (lv_at hl 1 rfl) ?_
          refine lv_lload_n hx hb d_G_fault_21 rfl (lv_at hl 2 rfl) ?_
          refine W.lcmp hx hb d_G_fault_22 ?_
          refine lv_if_le (tgt := 29) hx hb d_G_fault_23 (by decide) (fun c4 => ?_) (fun c4 => ?_)
          · rw [if_pos ((lg_cmp_le _ _).mp c4)] at hf
            refine lv_aload_n hx hb d_G_fault_29 rfl (lv_at hl 0 rfl) ?_
            refine va_get (D := (dC, dI)) (ci := 0) (v := .ref (a 1)) (C := "GuideSearch") (T := F_G) (N := 6) hx hb hT i_G hown hK hP 0 rfl rfl 0 (by decide) (hT _ k_129) (fun _ h9 => h9) rfl d_G_fault_30 ?_
            refine va_getN (D := (dC, dI)) (ci := 1) (v := .int (x_fN st)) (C := "GuideSearch$Causes") (T := F_C) (N := 5) hx hb hT i_C hown hK hP 1 rfl rfl 4 (by decide) (va_Nw.use rfl (hN _ k_35)) (fun _ h9 => h9) rfl d_G_fault_33 ?_
            refine lv_bipush (v := (8 : Int32)) hx hb d_G_fault_36 (by decide) ?_
            refine lv_icmp_ge (tgt := 53) hx hb d_G_fault_38 (by decide) (fun c5 => ?_) (fun c5 => ?_)
            · rw [if_pos c5] at hf
              refine lv_bipush (v := (-4 : Int32)) hx hb d_G_fault_53 (by decide) ?_
              exact W.iret hx hb hr (fun t ht _ => ⟨⟨_, (), rfl, congrArg Prod.fst (Option.some.inj hf), x_fin ht (congrArg Prod.snd (Option.some.inj hf)) hP⟩, hS.F ht⟩) hS.2.2 d_G_fault_55
            · rw [if_neg c5] at hf
              refine lv_aload_n hx hb d_G_fault_41 rfl (lv_at hl 0 rfl) ?_
              refine va_get (D := (dC, dI)) (ci := 0) (v := .ref (a 1)) (C := "GuideSearch") (T := F_G) (N := 6) hx hb hT i_G hown hK hP 0 rfl rfl 0 (by decide) (hT _ k_129) (fun _ h9 => h9) rfl d_G_fault_42 ?_
              refine va_getN (D := (dC, dI)) (ci := 1) (v := .int (x_cN st)) (C := "GuideSearch$Causes") (T := F_C) (N := 5) hx hb hT i_C hown hK hP 1 rfl rfl 3 (by decide) (va_Nw.use rfl (hN _ k_32)) (fun _ h9 => h9) rfl d_G_fault_45 ?_
              refine lv_bipush (v := (12 : Int32)) hx hb d_G_fault_48 (by decide) ?_
              refine lv_icmp_lt (tgt := 56) hx hb d_G_fault_50 (by decide) (fun c6 => ?_) (fun c6 => ?_)
              · rw [if_pos c6] at hf
                refine lv_aload_n hx hb d_G_fault_56 rfl (lv_at hl 0 rfl) ?_
                refine va_get (D := (dC, dI)) (ci := 0) (v := .ref (a 1)) (C := "GuideSearch") (T := F_G) (N := 6) hx hb hT i_G hown hK hP 0 rfl rfl 0 (by decide) (hT _ k_129) (fun _ h9 => h9) rfl d_G_fault_57 ?_
                refine lv_ldc2 (v := (2520 : Int64)) hx hb hown (hT _ k_153) d_G_fault_60 ?_
                refine lv_lload_n hx hb d_G_fault_63 rfl (lv_at hl 2 rfl) ?_
                obtain ⟨hz7, hf⟩ := dzl_some hf
                refine lv_ldiv hx hb d_G_fault_64 hz7 ?_
                refine lv_lload_n hx hb d_G_fault_65 rfl (lv_at hl 1 rfl) ?_
                refine lv_lmul hx hb d_G_fault_66 ?_
                obtain ⟨r10, s9, hr8, hf⟩ := bd2_some hf
                refine rw_calli (va_runV (C := "GuideSearch$Causes") (As := [.long (((2520 : Int64) / p3) * p1)]) (rest := []) ⟨hx, hb, hml, hown, hT⟩ (c_C_addFault l dC dI cs a hi st (((2520 : Int64) / p3) * p1) (r10, s9) hr8) (cwV 1 hT (gV k_154 k_155 k_156 k_2 k_157) rfl rfl rfl (by decide +kernel) ⟨Nat.le_of_ble_eq_true rfl, Nat.le_of_ble_eq_true rfl⟩) (ro_preV hP hK hN (va_recv hK hP (ci := 1) (q0 := 1) rfl rfl)) rfl rfl hl.1 rfl (lv_room (Nat.le_of_ble_eq_true rfl)) d_G_fault_67 ⟨Nat.le_of_ble_eq_true rfl, Nat.le_of_ble_eq_true rfl⟩) hS (fun H locs hP hS => ?_)
                exact W.iret hx hb hr (fun t ht _ => ⟨⟨_, (), rfl, congrArg Prod.fst (Option.some.inj hf), x_fin ht (congrArg Prod.snd (Option.some.inj hf)) hP⟩, hS.F ht⟩) hS.2.2 d_G_fault_70
              · rw [if_neg c6] at hf
                refine lv_bipush (v := (-4 : Int32)) hx hb d_G_fault_53 (by decide) ?_
                exact W.iret hx hb hr (fun t ht _ => ⟨⟨_, (), rfl, congrArg Prod.fst (Option.some.inj hf), x_fin ht (congrArg Prod.snd (Option.some.inj hf)) hP⟩, hS.F ht⟩) hS.2.2 d_G_fault_55
          · rw [if_neg (mt (lg_cmp_le _ _).mpr c4)] at hf
            refine lv_bipush (v := (-2 : Int32)) hx hb d_G_fault_26 (by decide) ?_
            exact W.iret hx hb hr (fun t ht _ => ⟨⟨_, (), rfl, congrArg Prod.fst (Option.some.inj hf), x_fin ht (congrArg Prod.snd (Option.some.inj hf)) hP⟩, hS.F ht⟩) hS.2.2 d_G_fault_28
  exact main _ _ hP va_S.rf
set_option maxHeartbeats 4000000 in
set_option maxRecDepth 100000 in
theorem c_G_test (l : Launch) (dC : Nat → ClassId) (dI : Nat → Nat → Nat) (cs : Nat → ClassId) (a : Nat → Nat) (hi : ∀ i j : Nat, i < 29 → j < 29 → a i = a j → i = j) (st : XS) (p1 : Int64) (res : Int32 × XS) (hf : x_G_test st p1 = some res) : Met l (⟨"GuideSearch", "test", "(J)I"⟩ : MethodName) (Cond.code (⟨"GuideSearch", "test", "(J)I"⟩ : MethodName) prog_1_method_3_code 3 (some .int) :: wg) { frames := 1, cells := 0, slots := 0, locals := 21 } (va_Pc ([.ref (a 0), .long p1] : List Value) (x_pre dC dI cs a st)) (va_Qi (fun r (_ : Unit) => r = res.1) (fun _ t => va_P (dC, dI) vwCl (x_W cs a res.2) t.heap) (x_A a)) 0 0 (x_A a) := by
  refine ro_start (cc := prog_1_method_3_code) (maxL := 3) (ret := (some .int)) (by decide) (Nat.le_of_ble_eq_true rfl) ?_
  intro p e s m below meth c hx hb hr hml hT hown hlocks hB ls hl
  replace hown : s.vm.findClass "GuideSearch" = some m.cls := hown
  obtain ⟨hP, hK, hN⟩ := hB
  replace hl : lv_has ls 3 [(0, .ref (a 0)), (1, .long p1)] := hl
  unfold x_G_test at hf
  have hD : ∀ st : XS, va_D (x_A a) (x_W cs a st) := fun st => x_D hi cs st
  have main : ∀ (H : Heap) (locs : List Loc), va_P (dC, dI) vwCl (x_W cs a st) H → va_S (x_A a) s.heap H locs → W p l e { frames := 1, cells := 0, slots := 0, locals := 21 } s m ([.ref (a 0), .long p1] : List Value).toArray below meth c H locs 0 0 (MQ below (va_Qi (fun r (_ : Unit) => r = res.1) (fun _ t => va_P (dC, dI) vwCl (x_W cs a res.2) t.heap) (x_A a)) ([.ref (a 0), .long p1] : List Value).toArray s 0 0 (x_A a)) (F0 m 0 ls []) := by
    intro H locs hP hS
    refine lv_lload_n hx hb d_G_test_0 rfl (lv_at hl 1 rfl) ?_
    refine lv_lconst (v := (0 : Int64)) hx hb d_G_test_1 (by decide) ?_
    refine W.lcmp hx hb d_G_test_2 ?_
    refine lv_if_lt (tgt := 14) hx hb d_G_test_3 (by decide) (fun c1 => ?_) (fun c1 => ?_)
    · rw [if_pos ((lg_cmp_lt _ _).mp c1)] at hf
      refine lv_bipush (v := (-2 : Int32)) hx hb d_G_test_14 (by decide) ?_
      exact W.iret hx hb hr (fun t ht _ => ⟨⟨_, (), rfl, congrArg Prod.fst (Option.some.inj hf), x_fin ht (congrArg Prod.snd (Option.some.inj hf)) hP⟩, hS.F ht⟩) hS.2.2 d_G_test_16
    · rw [if_neg (mt (lg_cmp_lt _ _).mpr c1)] at hf
      refine lv_lload_n hx hb d_G_test_6 rfl (lv_at hl 1 rfl) ?_
      refine lv_ldc2 (v := (400 : Int64)) hx hb hown (hT _ k_163) d_G_test_7 ?_
      refine W.lcmp hx hb d_G_test_10 ?_
      refine lv_if_le (tgt := 17) hx hb d_G_test_11 (by decide) (fun c2 => ?_) (fun c2 => ?_)
      · rw [if_pos ((lg_cmp_le _ _).mp c2)] at hf
        refine lv_aload_n hx hb d_G_test_17 rfl (lv_at hl 0 rfl) ?_
        refine va_get (D := (dC, dI)) (ci := 0) (v := .ref (a 5)) (C := "GuideSearch") (T := F_G) (N := 6) hx hb hT i_G hown hK hP 0 rfl rfl 1 (by decide) (hT _ k_130) (fun _ h9 => h9) rfl d_G_test_18 ?_
        refine va_getN (D := (dC, dI)) (ci := 2) (v := .int (x_tN st)) (C := "GuideSearch$Tests") (T := F_T) (N := 4) hx hb hT i_T hown hK hP 5 rfl rfl 3 (by decide) (va_Nw.use rfl (hN _ k_65)) (fun _ h9 => h9) rfl d_G_test_21 ?_
        refine lv_iconst (v := (5 : Int32)) hx hb d_G_test_24 (by decide) ?_
        refine lv_icmp_lt (tgt := 31) hx hb d_G_test_25 (by decide) (fun c3 => ?_) (fun c3 => ?_)
        · rw [if_pos c3] at hf
          refine lv_aload_n hx hb d_G_test_31 rfl (lv_at hl 0 rfl) ?_
          refine va_get (D := (dC, dI)) (ci := 0) (v := .ref (a 5)) (C := "GuideSearch") (T := F_G) (N := 6) hx hb hT i_G hown hK hP 0 rfl rfl 1 (by decide) (hT _ k_130) (fun _ h9 => h9) rfl d_G_test_32 ?_
          refine lv_lload_n hx hb d_G_test_35 rfl (lv_at hl 1 rfl) ?_
          refine lv_l2i (v := p1.toInt32) hx hb d_G_test_36 rfl ?_
          obtain ⟨r6, s5, hr4, hf⟩ := bd2_some hf
          refine rw_calli (va_runV (C := "GuideSearch$Tests") (As := [.int p1.toInt32]) (rest := []) ⟨hx, hb, hml, hown, hT⟩ (c_T_add l dC dI cs a hi st p1.toInt32 (r6, s5) hr4) (cwV 1 hT (gV k_164 k_165 k_166 k_3 k_167) rfl rfl rfl (by decide +kernel) ⟨Nat.le_of_ble_eq_true rfl, Nat.le_of_ble_eq_true rfl⟩) (ro_preV hP hK hN (va_recv hK hP (ci := 2) (q0 := 5) rfl rfl)) rfl rfl hl.1 rfl (lv_room (Nat.le_of_ble_eq_true rfl)) d_G_test_37 ⟨Nat.le_of_ble_eq_true rfl, Nat.le_of_ble_eq_true rfl⟩) hS (fun H locs hP hS => ?_)
          exact W.iret hx hb hr (fun t ht _ => ⟨⟨_, (), rfl, congrArg Prod.fst (Option.some.inj hf), x_fin ht (congrArg Prod.snd (Option.some.inj hf)) hP⟩, hS.F ht⟩) hS.2.2 d_G_test_40
        · rw [if_neg c3] at hf
          refine lv_bipush (v := (-4 : Int32)) hx hb d_G_test_28 (by decide) ?_
          exact W.iret hx hb hr (fun t ht _ => ⟨⟨_, (), rfl, congrArg Prod.fst (Option.some.inj hf), x_fin ht (congrArg Prod.snd (Option.some.inj hf)) hP⟩, hS.F ht⟩) hS.2.2 d_G_test_30
      · rw [if_neg (mt (lg_cmp_le _ _).mpr c2)] at hf
        refine lv_bipush (v := (-2 : Int32)) hx hb d_G_test_14 (by decide) ?_
        exact W.iret hx hb hr (fun t ht _ => ⟨⟨_, (), rfl, congrArg Prod.fst (Option.some.inj hf), x_fin ht (congrArg Prod.snd (Option.some.inj hf)) hP⟩, hS.F ht⟩) hS.2.2 d_G_test_16
  exact main _ _ hP va_S.rf
set_option maxHeartbeats 4000000 in
set_option maxRecDepth 100000 in
theorem c_G_odds (l : Launch) (dC : Nat → ClassId) (dI : Nat → Nat → Nat) (cs : Nat → ClassId) (a : Nat → Nat) (hi : ∀ i j : Nat, i < 29 → j < 29 → a i = a j → i = j) (st : XS) (p1 : Int32) (p2 : Int32) (p3 : Int32) (p4 : Int64) (p6 : Int64) (res : Int32 × XS) (hf : x_G_odds st p1 p2 p3 p4 p6 = some res) : Met l (⟨"GuideSearch", "odds", "(IIIJJ)I"⟩ : MethodName) (Cond.code (⟨"GuideSearch", "odds", "(IIIJJ)I"⟩ : MethodName) prog_1_method_4_code 10 (some .int) :: wg) { frames := 4, cells := 0, slots := 0, locals := 90 } (va_Pc ([.ref (a 0), .int p1, .int p2, .int p3, .long p4, .long p6] : List Value) (x_pre dC dI cs a st)) (va_Qi (fun r (_ : Unit) => r = res.1) (fun _ t => va_P (dC, dI) vwCl (x_W cs a res.2) t.heap) (x_A a)) 0 0 (x_A a) := by
  refine ro_start (cc := prog_1_method_4_code) (maxL := 10) (ret := (some .int)) (by decide) (Nat.le_of_ble_eq_true rfl) ?_
  intro p e s m below meth c hx hb hr hml hT hown hlocks hB ls hl
  replace hown : s.vm.findClass "GuideSearch" = some m.cls := hown
  obtain ⟨hP, hK, hN⟩ := hB
  replace hl : lv_has ls 10 [(0, .ref (a 0)), (1, .int p1), (2, .int p2), (3, .int p3), (4, .long p4), (6, .long p6)] := hl
  unfold x_G_odds at hf
  have hD : ∀ st : XS, va_D (x_A a) (x_W cs a st) := fun st => x_D hi cs st
  have main : ∀ (H : Heap) (locs : List Loc), va_P (dC, dI) vwCl (x_W cs a st) H → va_S (x_A a) s.heap H locs → W p l e { frames := 4, cells := 0, slots := 0, locals := 90 } s m ([.ref (a 0), .int p1, .int p2, .int p3, .long p4, .long p6] : List Value).toArray below meth c H locs 0 0 (MQ below (va_Qi (fun r (_ : Unit) => r = res.1) (fun _ t => va_P (dC, dI) vwCl (x_W cs a res.2) t.heap) (x_A a)) ([.ref (a 0), .int p1, .int p2, .int p3, .long p4, .long p6] : List Value).toArray s 0 0 (x_A a)) (F0 m 0 ls []) := by
    intro H locs hP hS
    refine lv_aload_n hx hb d_G_odds_0 rfl (lv_at hl 0 rfl) ?_
    refine va_get (D := (dC, dI)) (ci := 0) (v := .ref (a 5)) (C := "GuideSearch") (T := F_G) (N := 6) hx hb hT i_G hown hK hP 0 rfl rfl 1 (by decide) (hT _ k_130) (fun _ h9 => h9) rfl d_G_odds_1 ?_
    refine lv_iload_n hx hb d_G_odds_4 rfl (lv_at hl 1 rfl) ?_
    obtain ⟨r2, hr1, hf⟩ := ob hf
    refine ro_calli (va_runV (C := "GuideSearch$Tests") (As := [.int p1]) (rest := []) ⟨hx, hb, hml, hown, hT⟩ (c_T_knows l dC dI cs a st p1 r2 hr1) (cwV 1 hT (gV k_172 k_173 k_174 k_3 k_175) rfl rfl rfl (by decide +kernel) ⟨Nat.le_of_ble_eq_true rfl, Nat.le_of_ble_eq_true rfl⟩) (ro_preV hP hK hN (va_recv hK hP (ci := 2) (q0 := 5) rfl rfl)) rfl rfl hl.1 rfl (lv_room (Nat.le_of_ble_eq_true rfl)) d_G_odds_5 ⟨Nat.le_of_ble_eq_true rfl, Nat.le_of_ble_eq_true rfl⟩) ?_
    refine lv_if_eq (tgt := 22) hx hb d_G_odds_8 (by decide) (fun c3 => ?_) (fun c3 => ?_)
    · rw [if_pos c3] at hf
      refine lv_iconst (v := (-1 : Int32)) hx hb d_G_odds_22 (by decide) ?_
      exact W.iret hx hb hr (fun t ht _ => ⟨⟨_, (), rfl, congrArg Prod.fst (Option.some.inj hf), x_fin ht (congrArg Prod.snd (Option.some.inj hf)) hP⟩, hS.F ht⟩) hS.2.2 d_G_odds_23
    · rw [if_neg c3] at hf
      refine lv_aload_n hx hb d_G_odds_11 rfl (lv_at hl 0 rfl) ?_
      refine va_get (D := (dC, dI)) (ci := 0) (v := .ref (a 1)) (C := "GuideSearch") (T := F_G) (N := 6) hx hb hT i_G hown hK hP 0 rfl rfl 0 (by decide) (hT _ k_129) (fun _ h9 => h9) rfl d_G_odds_12 ?_
      refine lv_iload_n hx hb d_G_odds_15 rfl (lv_at hl 2 rfl) ?_
      obtain ⟨r5, hr4, hf⟩ := ob hf
      refine ro_calli (va_runV (C := "GuideSearch$Causes") (As := [.int p2]) (rest := []) ⟨hx, hb, hml, hown, hT⟩ (c_C_knows l dC dI cs a st p2 r5 hr4) (cwV 1 hT (gV k_176 k_177 k_178 k_2 k_179) rfl rfl rfl (by decide +kernel) ⟨Nat.le_of_ble_eq_true rfl, Nat.le_of_ble_eq_true rfl⟩) (ro_preV hP hK hN (va_recv hK hP (ci := 1) (q0 := 1) rfl rfl)) rfl rfl hl.1 rfl (lv_room (Nat.le_of_ble_eq_true rfl)) d_G_odds_16 ⟨Nat.le_of_ble_eq_true rfl, Nat.le_of_ble_eq_true rfl⟩) ?_
      refine lv_if_ne (tgt := 24) hx hb d_G_odds_19 (by decide) (fun c6 => ?_) (fun c6 => ?_)
      · rw [if_neg c6] at hf
        refine lv_iload_n hx hb d_G_odds_24 rfl (lv_at hl 3 rfl) ?_
        obtain ⟨r8, hr7, hf⟩ := ob hf
        refine ro_calli (va_runS (As := [.int p3]) (rest := []) ⟨hx, hb, hml, hown, hT⟩ (c_G_isAnswer l p3 r8 hr7) (va_cwS 1 hT (gS k_180 k_181 k_1 k_182) rfl rfl rfl (by decide +kernel) ⟨Nat.le_of_ble_eq_true rfl, Nat.le_of_ble_eq_true rfl⟩) ⟨fun _ _ _ _ q => q, fun _ _ _ => ⟨rfl, trivial⟩⟩ rfl rfl hl.1 rfl (lv_room (Nat.le_of_ble_eq_true rfl)) d_G_odds_25 ⟨Nat.le_of_ble_eq_true rfl, Nat.le_of_ble_eq_true rfl⟩) ?_
        refine lv_if_eq (tgt := 41) hx hb d_G_odds_28 (by decide) (fun c9 => ?_) (fun c9 => ?_)
        · rw [if_pos c9] at hf
          refine lv_bipush (v := (-2 : Int32)) hx hb d_G_odds_41 (by decide) ?_
          exact W.iret hx hb hr (fun t ht _ => ⟨⟨_, (), rfl, congrArg Prod.fst (Option.some.inj hf), x_fin ht (congrArg Prod.snd (Option.some.inj hf)) hP⟩, hS.F ht⟩) hS.2.2 d_G_odds_43
        · rw [if_neg c9] at hf
          refine lv_lload hx hb d_G_odds_31 (lv_at hl 4 rfl) ?_
          refine lv_lload hx hb d_G_odds_33 (lv_at hl 5 rfl) ?_
          obtain ⟨r11, hr10, hf⟩ := ob hf
          refine ro_calli (va_runS (As := [.long p4, .long p6]) (rest := []) ⟨hx, hb, hml, hown, hT⟩ (c_G_isPartOfTwelve l p4 p6 r11 hr10) (va_cwS 2 hT (gS k_183 k_184 k_1 k_185) rfl rfl rfl (by decide +kernel) ⟨Nat.le_of_ble_eq_true rfl, Nat.le_of_ble_eq_true rfl⟩) ⟨fun _ _ _ _ q => q, fun _ _ _ => ⟨rfl, trivial⟩⟩ rfl rfl hl.1 rfl (lv_room (Nat.le_of_ble_eq_true rfl)) d_G_odds_35 ⟨Nat.le_of_ble_eq_true rfl, Nat.le_of_ble_eq_true rfl⟩) ?_
          refine lv_if_ne (tgt := 44) hx hb d_G_odds_38 (by decide) (fun c12 => ?_) (fun c12 => ?_)
          · rw [if_neg c12] at hf
            refine lv_ldc2 (v := (12 : Int64)) hx hb hown (hT _ k_186) d_G_odds_44 ?_
            refine lv_lload hx hb d_G_odds_47 (lv_at hl 5 rfl) ?_
            obtain ⟨hz13, hf⟩ := dzl_some hf
            refine lv_ldiv hx hb d_G_odds_49 hz13 ?_
            refine lv_lload hx hb d_G_odds_50 (lv_at hl 4 rfl) ?_
            refine lv_lmul hx hb d_G_odds_52 ?_
            refine lv_l2i (v := (((12 : Int64) / p6) * p4).toInt32) hx hb d_G_odds_53 rfl ?_
            refine lv_istore (lv' := [(8, .int (((12 : Int64) / p6) * p4).toInt32), (0, .ref (a 0)), (1, .int p1), (2, .int p2), (3, .int p3), (4, .long p4), (6, .long p6)]) hx hb d_G_odds_54 hl (by decide) rfl (fun ls hl => ?_)
            refine lv_aload_n hx hb d_G_odds_56 rfl (lv_at hl 1 rfl) ?_
            refine va_get (D := (dC, dI)) (ci := 0) (v := .ref (a 5)) (C := "GuideSearch") (T := F_G) (N := 6) hx hb hT i_G hown hK hP 0 rfl rfl 1 (by decide) (hT _ k_130) (fun _ h9 => h9) rfl d_G_odds_57 ?_
            refine lv_iload_n hx hb d_G_odds_60 rfl (lv_at hl 2 rfl) ?_
            refine lv_iload_n hx hb d_G_odds_61 rfl (lv_at hl 3 rfl) ?_
            obtain ⟨r15, hr14, hf⟩ := ob hf
            refine ro_calli (va_runV (C := "GuideSearch$Tests") (As := [.int p1, .int p2]) (rest := []) ⟨hx, hb, hml, hown, hT⟩ (c_T_together l dC dI cs a st p1 p2 r15 hr14) (cwV 2 hT (gV k_187 k_188 k_189 k_3 k_190) rfl rfl rfl (by decide +kernel) ⟨Nat.le_of_ble_eq_true rfl, Nat.le_of_ble_eq_true rfl⟩) (ro_preV hP hK hN (va_recv hK hP (ci := 2) (q0 := 5) rfl rfl)) rfl rfl hl.1 rfl (lv_room (Nat.le_of_ble_eq_true rfl)) d_G_odds_62 ⟨Nat.le_of_ble_eq_true rfl, Nat.le_of_ble_eq_true rfl⟩) ?_
            refine lv_aload_n hx hb d_G_odds_65 rfl (lv_at hl 1 rfl) ?_
            refine va_get (D := (dC, dI)) (ci := 0) (v := .ref (a 5)) (C := "GuideSearch") (T := F_G) (N := 6) hx hb hT i_G hown hK hP 0 rfl rfl 1 (by decide) (hT _ k_130) (fun _ h9 => h9) rfl d_G_odds_66 ?_
            refine lv_iload_n hx hb d_G_odds_69 rfl (lv_at hl 2 rfl) ?_
            refine lv_iload_n hx hb d_G_odds_70 rfl (lv_at hl 3 rfl) ?_
            refine lv_iload_n hx hb d_G_odds_71 rfl (lv_at hl 4 rfl) ?_
            obtain ⟨r17, hr16, hf⟩ := ob hf
            refine ro_calli (va_runV (C := "GuideSearch$Tests") (As := [.int p1, .int p2, .int p3]) (rest := [.int r15]) ⟨hx, hb, hml, hown, hT⟩ (c_T_twelfths l dC dI cs a st p1 p2 p3 r17 hr16) (cwV 3 hT (gV k_200 k_192 k_193 k_3 k_194) rfl rfl rfl (by decide +kernel) ⟨Nat.le_of_ble_eq_true rfl, Nat.le_of_ble_eq_true rfl⟩) (ro_preV hP hK hN (va_recv hK hP (ci := 2) (q0 := 5) rfl rfl)) rfl rfl hl.1 rfl (lv_room (Nat.le_of_ble_eq_true rfl)) d_G_odds_72 ⟨Nat.le_of_ble_eq_true rfl, Nat.le_of_ble_eq_true rfl⟩) ?_
            refine lv_isub hx hb d_G_odds_75 ?_
            refine lv_iload hx hb d_G_odds_76 (lv_at hl 0 rfl) ?_
            refine lv_iadd hx hb d_G_odds_78 ?_
            refine lv_istore (lv' := [(9, .int ((r15 - r17) + (((12 : Int64) / p6) * p4).toInt32)), (8, .int (((12 : Int64) / p6) * p4).toInt32), (0, .ref (a 0)), (1, .int p1), (2, .int p2), (3, .int p3), (4, .long p4), (6, .long p6)]) hx hb d_G_odds_79 hl (by decide) rfl (fun ls hl => ?_)
            refine lv_iload hx hb d_G_odds_81 (lv_at hl 0 rfl) ?_
            refine lv_bipush (v := (12 : Int32)) hx hb d_G_odds_83 (by decide) ?_
            refine lv_icmp_le (tgt := 91) hx hb d_G_odds_85 (by decide) (fun c18 => ?_) (fun c18 => ?_)
            · rw [if_pos c18] at hf
              refine lv_aload_n hx hb d_G_odds_91 rfl (lv_at hl 2 rfl) ?_
              refine va_get (D := (dC, dI)) (ci := 0) (v := .int (x_opn st)) (C := "GuideSearch") (T := F_G) (N := 6) hx hb hT i_G hown hK hP 0 rfl rfl 4 (by decide) (hT _ k_133) (fun _ h9 => h9) rfl d_G_odds_92 ?_
              refine lv_iload_n hx hb d_G_odds_95 rfl (lv_at hl 3 rfl) ?_
              obtain ⟨r20, hr19, hf⟩ := ob hf
              refine ro_calli (va_runS (As := [.int (x_opn st), .int p1]) (rest := []) ⟨hx, hb, hml, hown, hT⟩ (c_G_answerIn l (x_opn st) p1 r20 hr19) (va_cwS 2 hT (gS k_201 k_202 k_1 k_203) rfl rfl rfl (by decide +kernel) ⟨Nat.le_of_ble_eq_true rfl, Nat.le_of_ble_eq_true rfl⟩) ⟨fun _ _ _ _ q => q, fun _ _ _ => ⟨rfl, trivial⟩⟩ rfl rfl hl.1 rfl (lv_room (Nat.le_of_ble_eq_true rfl)) d_G_odds_96 ⟨Nat.le_of_ble_eq_true rfl, Nat.le_of_ble_eq_true rfl⟩) ?_
              refine lv_iconst (v := (-1 : Int32)) hx hb d_G_odds_99 (by decide) ?_
              refine lv_icmp_eq (tgt := 106) hx hb d_G_odds_100 (by decide) (fun c21 => ?_) (fun c21 => ?_)
              · rw [if_pos c21] at hf
                refine lv_aload_n hx hb d_G_odds_106 rfl (lv_at hl 2 rfl) ?_
                refine va_get (D := (dC, dI)) (ci := 0) (v := .ref (a 5)) (C := "GuideSearch") (T := F_G) (N := 6) hx hb hT i_G hown hK hP 0 rfl rfl 1 (by decide) (hT _ k_130) (fun _ h9 => h9) rfl d_G_odds_107 ?_
                refine lv_iload_n hx hb d_G_odds_110 rfl (lv_at hl 3 rfl) ?_
                refine lv_iload_n hx hb d_G_odds_111 rfl (lv_at hl 4 rfl) ?_
                refine lv_iload_n hx hb d_G_odds_112 rfl (lv_at hl 5 rfl) ?_
                refine lv_iload hx hb d_G_odds_113 (lv_at hl 1 rfl) ?_
                obtain ⟨s23, hr22, hf⟩ := ob hf
                refine rw_callv (va_runV (C := "GuideSearch$Tests") (As := [.int p1, .int p2, .int p3, .int (((12 : Int64) / p6) * p4).toInt32]) (rest := []) ⟨hx, hb, hml, hown, hT⟩ (c_T_setTwelfths l dC dI cs a hi st p1 p2 p3 (((12 : Int64) / p6) * p4).toInt32 s23 hr22) (cwV 4 hT (gV k_204 k_205 k_206 k_3 k_207) rfl rfl rfl (by decide +kernel) ⟨Nat.le_of_ble_eq_true rfl, Nat.le_of_ble_eq_true rfl⟩) (ro_preV hP hK hN (va_recv hK hP (ci := 2) (q0 := 5) rfl rfl)) rfl rfl hl.1 rfl (lv_room (Nat.le_of_ble_eq_true rfl)) d_G_odds_115 ⟨Nat.le_of_ble_eq_true rfl, Nat.le_of_ble_eq_true rfl⟩) hS (fun H locs hP hS => ?_)
                refine lv_iload hx hb d_G_odds_118 (lv_at hl 0 rfl) ?_
                exact W.iret hx hb hr (fun t ht _ => ⟨⟨_, (), rfl, congrArg Prod.fst (Option.some.inj hf), x_fin ht (congrArg Prod.snd (Option.some.inj hf)) hP⟩, hS.F ht⟩) hS.2.2 d_G_odds_120
              · rw [if_neg c21] at hf
                refine lv_bipush (v := (-3 : Int32)) hx hb d_G_odds_103 (by decide) ?_
                exact W.iret hx hb hr (fun t ht _ => ⟨⟨_, (), rfl, congrArg Prod.fst (Option.some.inj hf), x_fin ht (congrArg Prod.snd (Option.some.inj hf)) hP⟩, hS.F ht⟩) hS.2.2 d_G_odds_105
            · rw [if_neg c18] at hf
              refine lv_bipush (v := (-2 : Int32)) hx hb d_G_odds_88 (by decide) ?_
              exact W.iret hx hb hr (fun t ht _ => ⟨⟨_, (), rfl, congrArg Prod.fst (Option.some.inj hf), x_fin ht (congrArg Prod.snd (Option.some.inj hf)) hP⟩, hS.F ht⟩) hS.2.2 d_G_odds_90
          · rw [if_pos c12] at hf
            refine lv_bipush (v := (-2 : Int32)) hx hb d_G_odds_41 (by decide) ?_
            exact W.iret hx hb hr (fun t ht _ => ⟨⟨_, (), rfl, congrArg Prod.fst (Option.some.inj hf), x_fin ht (congrArg Prod.snd (Option.some.inj hf)) hP⟩, hS.F ht⟩) hS.2.2 d_G_odds_43
      · rw [if_pos c6] at hf
        refine lv_iconst (v := (-1 : Int32)) hx hb d_G_odds_22 (by decide) ?_
        exact W.iret hx hb hr (fun t ht _ => ⟨⟨_, (), rfl, congrArg Prod.fst (Option.some.inj hf), x_fin ht (congrArg Prod.snd (Option.some.inj hf)) hP⟩, hS.F ht⟩) hS.2.2 d_G_odds_23
  exact main _ _ hP va_S.rf
set_option maxHeartbeats 4000000 in
set_option maxRecDepth 100000 in
theorem c_G_needs (l : Launch) (dC : Nat → ClassId) (dI : Nat → Nat → Nat) (cs : Nat → ClassId) (a : Nat → Nat) (hi : ∀ i j : Nat, i < 29 → j < 29 → a i = a j → i = j) (st : XS) (p1 : Int32) (p2 : Int32) (res : Int32 × XS) (hf : x_G_needs st p1 p2 = some res) : Met l (⟨"GuideSearch", "needs", "(II)I"⟩ : MethodName) (Cond.code (⟨"GuideSearch", "needs", "(II)I"⟩ : MethodName) prog_1_method_5_code 3 (some .int) :: wg) { frames := 3, cells := 0, slots := 0, locals := 65 } (va_Pc ([.ref (a 0), .int p1, .int p2] : List Value) (x_pre dC dI cs a st)) (va_Qi (fun r (_ : Unit) => r = res.1) (fun _ t => va_P (dC, dI) vwCl (x_W cs a res.2) t.heap) (x_A a)) 0 0 (x_A a) := by
  refine ro_start (cc := prog_1_method_5_code) (maxL := 3) (ret := (some .int)) (by decide) (Nat.le_of_ble_eq_true rfl) ?_
  intro p e s m below meth c hx hb hr hml hT hown hlocks hB ls hl
  replace hown : s.vm.findClass "GuideSearch" = some m.cls := hown
  obtain ⟨hP, hK, hN⟩ := hB
  replace hl : lv_has ls 3 [(0, .ref (a 0)), (1, .int p1), (2, .int p2)] := hl
  unfold x_G_needs at hf
  have hD : ∀ st : XS, va_D (x_A a) (x_W cs a st) := fun st => x_D hi cs st
  have main : ∀ (H : Heap) (locs : List Loc), va_P (dC, dI) vwCl (x_W cs a st) H → va_S (x_A a) s.heap H locs → W p l e { frames := 3, cells := 0, slots := 0, locals := 65 } s m ([.ref (a 0), .int p1, .int p2] : List Value).toArray below meth c H locs 0 0 (MQ below (va_Qi (fun r (_ : Unit) => r = res.1) (fun _ t => va_P (dC, dI) vwCl (x_W cs a res.2) t.heap) (x_A a)) ([.ref (a 0), .int p1, .int p2] : List Value).toArray s 0 0 (x_A a)) (F0 m 0 ls []) := by
    intro H locs hP hS
    refine lv_aload_n hx hb d_G_needs_0 rfl (lv_at hl 0 rfl) ?_
    refine va_get (D := (dC, dI)) (ci := 0) (v := .ref (a 5)) (C := "GuideSearch") (T := F_G) (N := 6) hx hb hT i_G hown hK hP 0 rfl rfl 1 (by decide) (hT _ k_130) (fun _ h9 => h9) rfl d_G_needs_1 ?_
    refine lv_iload_n hx hb d_G_needs_4 rfl (lv_at hl 1 rfl) ?_
    obtain ⟨r2, hr1, hf⟩ := ob hf
    refine ro_calli (va_runV (C := "GuideSearch$Tests") (As := [.int p1]) (rest := []) ⟨hx, hb, hml, hown, hT⟩ (c_T_knows l dC dI cs a st p1 r2 hr1) (cwV 1 hT (gV k_172 k_173 k_174 k_3 k_175) rfl rfl rfl (by decide +kernel) ⟨Nat.le_of_ble_eq_true rfl, Nat.le_of_ble_eq_true rfl⟩) (ro_preV hP hK hN (va_recv hK hP (ci := 2) (q0 := 5) rfl rfl)) rfl rfl hl.1 rfl (lv_room (Nat.le_of_ble_eq_true rfl)) d_G_needs_5 ⟨Nat.le_of_ble_eq_true rfl, Nat.le_of_ble_eq_true rfl⟩) ?_
    refine lv_if_eq (tgt := 22) hx hb d_G_needs_8 (by decide) (fun c3 => ?_) (fun c3 => ?_)
    · rw [if_pos c3] at hf
      refine lv_iconst (v := (-1 : Int32)) hx hb d_G_needs_22 (by decide) ?_
      exact W.iret hx hb hr (fun t ht _ => ⟨⟨_, (), rfl, congrArg Prod.fst (Option.some.inj hf), x_fin ht (congrArg Prod.snd (Option.some.inj hf)) hP⟩, hS.F ht⟩) hS.2.2 d_G_needs_23
    · rw [if_neg c3] at hf
      refine lv_aload_n hx hb d_G_needs_11 rfl (lv_at hl 0 rfl) ?_
      refine va_get (D := (dC, dI)) (ci := 0) (v := .ref (a 5)) (C := "GuideSearch") (T := F_G) (N := 6) hx hb hT i_G hown hK hP 0 rfl rfl 1 (by decide) (hT _ k_130) (fun _ h9 => h9) rfl d_G_needs_12 ?_
      refine lv_iload_n hx hb d_G_needs_15 rfl (lv_at hl 2 rfl) ?_
      obtain ⟨r5, hr4, hf⟩ := ob hf
      refine ro_calli (va_runV (C := "GuideSearch$Tests") (As := [.int p2]) (rest := []) ⟨hx, hb, hml, hown, hT⟩ (c_T_knows l dC dI cs a st p2 r5 hr4) (cwV 1 hT (gV k_172 k_173 k_174 k_3 k_175) rfl rfl rfl (by decide +kernel) ⟨Nat.le_of_ble_eq_true rfl, Nat.le_of_ble_eq_true rfl⟩) (ro_preV hP hK hN (va_recv hK hP (ci := 2) (q0 := 5) rfl rfl)) rfl rfl hl.1 rfl (lv_room (Nat.le_of_ble_eq_true rfl)) d_G_needs_16 ⟨Nat.le_of_ble_eq_true rfl, Nat.le_of_ble_eq_true rfl⟩) ?_
      refine lv_if_ne (tgt := 24) hx hb d_G_needs_19 (by decide) (fun c6 => ?_) (fun c6 => ?_)
      · rw [if_neg c6] at hf
        refine lv_iload_n hx hb d_G_needs_24 rfl (lv_at hl 1 rfl) ?_
        refine lv_iload_n hx hb d_G_needs_25 rfl (lv_at hl 2 rfl) ?_
        refine lv_icmp_ne (tgt := 32) hx hb d_G_needs_26 (by decide) (fun c7 => ?_) (fun c7 => ?_)
        · rw [if_neg c7] at hf
          refine lv_aload_n hx hb d_G_needs_32 rfl (lv_at hl 0 rfl) ?_
          refine va_get (D := (dC, dI)) (ci := 0) (v := .ref (a 5)) (C := "GuideSearch") (T := F_G) (N := 6) hx hb hT i_G hown hK hP 0 rfl rfl 1 (by decide) (hT _ k_130) (fun _ h9 => h9) rfl d_G_needs_33 ?_
          refine lv_iload_n hx hb d_G_needs_36 rfl (lv_at hl 2 rfl) ?_
          obtain ⟨r9, hr8, hf⟩ := ob hf
          refine ro_calli (va_runV (C := "GuideSearch$Tests") (As := [.int p2]) (rest := []) ⟨hx, hb, hml, hown, hT⟩ (c_T_allNeededBy l dC dI cs a st p2 r9 hr8) (cwV 1 hT (gV k_212 k_213 k_214 k_3 k_215) rfl rfl rfl (by decide +kernel) ⟨Nat.le_of_ble_eq_true rfl, Nat.le_of_ble_eq_true rfl⟩) (ro_preV hP hK hN (va_recv hK hP (ci := 2) (q0 := 5) rfl rfl)) rfl rfl hl.1 rfl (lv_room (Nat.le_of_ble_eq_true rfl)) d_G_needs_37 ⟨Nat.le_of_ble_eq_true rfl, Nat.le_of_ble_eq_true rfl⟩) ?_
          refine lv_iload_n hx hb d_G_needs_40 rfl (lv_at hl 1 rfl) ?_
          obtain ⟨r11, hr10, hf⟩ := ob hf
          refine ro_calli (va_runS (As := [.int p1]) (rest := [.int r9]) ⟨hx, hb, hml, hown, hT⟩ (c_G_bit l p1 r11 hr10) (va_cwS 1 hT (gS k_219 k_220 k_1 k_221) rfl rfl rfl (by decide +kernel) ⟨Nat.le_of_ble_eq_true rfl, Nat.le_of_ble_eq_true rfl⟩) ⟨fun _ _ _ _ q => q, fun _ _ _ => ⟨rfl, trivial⟩⟩ rfl rfl hl.1 rfl (lv_room (Nat.le_of_ble_eq_true rfl)) d_G_needs_41 ⟨Nat.le_of_ble_eq_true rfl, Nat.le_of_ble_eq_true rfl⟩) ?_
          refine lv_iand hx hb d_G_needs_44 ?_
          refine lv_if_eq (tgt := 51) hx hb d_G_needs_45 (by decide) (fun c12 => ?_) (fun c12 => ?_)
          · rw [if_pos c12] at hf
            refine lv_aload_n hx hb d_G_needs_51 rfl (lv_at hl 0 rfl) ?_
            refine va_get (D := (dC, dI)) (ci := 0) (v := .ref (a 5)) (C := "GuideSearch") (T := F_G) (N := 6) hx hb hT i_G hown hK hP 0 rfl rfl 1 (by decide) (hT _ k_130) (fun _ h9 => h9) rfl d_G_needs_52 ?_
            refine lv_iload_n hx hb d_G_needs_55 rfl (lv_at hl 1 rfl) ?_
            refine lv_iload_n hx hb d_G_needs_56 rfl (lv_at hl 2 rfl) ?_
            obtain ⟨r15, s14, hr13, hf⟩ := bd2_some hf
            refine rw_calli (va_runV (C := "GuideSearch$Tests") (As := [.int p1, .int p2]) (rest := []) ⟨hx, hb, hml, hown, hT⟩ (c_T_addNeed l dC dI cs a hi st p1 p2 (r15, s14) hr13) (cwV 2 hT (gV k_222 k_223 k_224 k_3 k_225) rfl rfl rfl (by decide +kernel) ⟨Nat.le_of_ble_eq_true rfl, Nat.le_of_ble_eq_true rfl⟩) (ro_preV hP hK hN (va_recv hK hP (ci := 2) (q0 := 5) rfl rfl)) rfl rfl hl.1 rfl (lv_room (Nat.le_of_ble_eq_true rfl)) d_G_needs_57 ⟨Nat.le_of_ble_eq_true rfl, Nat.le_of_ble_eq_true rfl⟩) hS (fun H locs hP hS => ?_)
            exact W.iret hx hb hr (fun t ht _ => ⟨⟨_, (), rfl, congrArg Prod.fst (Option.some.inj hf), x_fin ht (congrArg Prod.snd (Option.some.inj hf)) hP⟩, hS.F ht⟩) hS.2.2 d_G_needs_60
          · rw [if_neg c12] at hf
            refine lv_bipush (v := (-3 : Int32)) hx hb d_G_needs_48 (by decide) ?_
            exact W.iret hx hb hr (fun t ht _ => ⟨⟨_, (), rfl, congrArg Prod.fst (Option.some.inj hf), x_fin ht (congrArg Prod.snd (Option.some.inj hf)) hP⟩, hS.F ht⟩) hS.2.2 d_G_needs_50
        · rw [if_pos c7] at hf
          refine lv_bipush (v := (-2 : Int32)) hx hb d_G_needs_29 (by decide) ?_
          exact W.iret hx hb hr (fun t ht _ => ⟨⟨_, (), rfl, congrArg Prod.fst (Option.some.inj hf), x_fin ht (congrArg Prod.snd (Option.some.inj hf)) hP⟩, hS.F ht⟩) hS.2.2 d_G_needs_31
      · rw [if_pos c6] at hf
        refine lv_iconst (v := (-1 : Int32)) hx hb d_G_needs_22 (by decide) ?_
        exact W.iret hx hb hr (fun t ht _ => ⟨⟨_, (), rfl, congrArg Prod.fst (Option.some.inj hf), x_fin ht (congrArg Prod.snd (Option.some.inj hf)) hP⟩, hS.F ht⟩) hS.2.2 d_G_needs_23
  exact main _ _ hP va_S.rf
set_option maxHeartbeats 4000000 in
set_option maxRecDepth 100000 in
theorem c_G_answer (l : Launch) (dC : Nat → ClassId) (dI : Nat → Nat → Nat) (cs : Nat → ClassId) (a : Nat → Nat) (hi : ∀ i j : Nat, i < 29 → j < 29 → a i = a j → i = j) (st : XS) (p1 : Int32) (p2 : Int32) (res : Int32 × XS) (hf : x_G_answer st p1 p2 = some res) : Met l (⟨"GuideSearch", "answer", "(II)I"⟩ : MethodName) (Cond.code (⟨"GuideSearch", "answer", "(II)I"⟩ : MethodName) prog_1_method_7_code 3 (some .int) :: wg) { frames := 5, cells := 0, slots := 0, locals := 115 } (va_Pc ([.ref (a 0), .int p1, .int p2] : List Value) (x_pre dC dI cs a st)) (va_Qi (fun r (_ : Unit) => r = res.1) (fun _ t => va_P (dC, dI) vwCl (x_W cs a res.2) t.heap) (x_A a)) 0 0 (x_A a) := by
  refine ro_start (cc := prog_1_method_7_code) (maxL := 3) (ret := (some .int)) (by decide) (Nat.le_of_ble_eq_true rfl) ?_
  intro p e s m below meth c hx hb hr hml hT hown hlocks hB ls hl
  replace hown : s.vm.findClass "GuideSearch" = some m.cls := hown
  obtain ⟨hP, hK, hN⟩ := hB
  replace hl : lv_has ls 3 [(0, .ref (a 0)), (1, .int p1), (2, .int p2)] := hl
  unfold x_G_answer at hf
  have hD : ∀ st : XS, va_D (x_A a) (x_W cs a st) := fun st => x_D hi cs st
  have main : ∀ (H : Heap) (locs : List Loc), va_P (dC, dI) vwCl (x_W cs a st) H → va_S (x_A a) s.heap H locs → W p l e { frames := 5, cells := 0, slots := 0, locals := 115 } s m ([.ref (a 0), .int p1, .int p2] : List Value).toArray below meth c H locs 0 0 (MQ below (va_Qi (fun r (_ : Unit) => r = res.1) (fun _ t => va_P (dC, dI) vwCl (x_W cs a res.2) t.heap) (x_A a)) ([.ref (a 0), .int p1, .int p2] : List Value).toArray s 0 0 (x_A a)) (F0 m 0 ls []) := by
    intro H locs hP hS
    refine lv_aload_n hx hb d_G_answer_0 rfl (lv_at hl 0 rfl) ?_
    refine va_get (D := (dC, dI)) (ci := 0) (v := .ref (a 5)) (C := "GuideSearch") (T := F_G) (N := 6) hx hb hT i_G hown hK hP 0 rfl rfl 1 (by decide) (hT _ k_130) (fun _ h9 => h9) rfl d_G_answer_1 ?_
    refine lv_iload_n hx hb d_G_answer_4 rfl (lv_at hl 1 rfl) ?_
    obtain ⟨r2, hr1, hf⟩ := ob hf
    refine ro_calli (va_runV (C := "GuideSearch$Tests") (As := [.int p1]) (rest := []) ⟨hx, hb, hml, hown, hT⟩ (c_T_knows l dC dI cs a st p1 r2 hr1) (cwV 1 hT (gV k_172 k_173 k_174 k_3 k_175) rfl rfl rfl (by decide +kernel) ⟨Nat.le_of_ble_eq_true rfl, Nat.le_of_ble_eq_true rfl⟩) (ro_preV hP hK hN (va_recv hK hP (ci := 2) (q0 := 5) rfl rfl)) rfl rfl hl.1 rfl (lv_room (Nat.le_of_ble_eq_true rfl)) d_G_answer_5 ⟨Nat.le_of_ble_eq_true rfl, Nat.le_of_ble_eq_true rfl⟩) ?_
    refine lv_if_ne (tgt := 13) hx hb d_G_answer_8 (by decide) (fun c3 => ?_) (fun c3 => ?_)
    · rw [if_neg c3] at hf
      refine lv_iload_n hx hb d_G_answer_13 rfl (lv_at hl 2 rfl) ?_
      obtain ⟨r5, hr4, hf⟩ := ob hf
      refine ro_calli (va_runS (As := [.int p2]) (rest := []) ⟨hx, hb, hml, hown, hT⟩ (c_G_isAnswer l p2 r5 hr4) (va_cwS 1 hT (gS k_180 k_181 k_1 k_182) rfl rfl rfl (by decide +kernel) ⟨Nat.le_of_ble_eq_true rfl, Nat.le_of_ble_eq_true rfl⟩) ⟨fun _ _ _ _ q => q, fun _ _ _ => ⟨rfl, trivial⟩⟩ rfl rfl hl.1 rfl (lv_room (Nat.le_of_ble_eq_true rfl)) d_G_answer_14 ⟨Nat.le_of_ble_eq_true rfl, Nat.le_of_ble_eq_true rfl⟩) ?_
      refine lv_if_ne (tgt := 23) hx hb d_G_answer_17 (by decide) (fun c6 => ?_) (fun c6 => ?_)
      · rw [if_neg c6] at hf
        refine lv_aload_n hx hb d_G_answer_23 rfl (lv_at hl 0 rfl) ?_
        refine va_get (D := (dC, dI)) (ci := 0) (v := .ref (a 5)) (C := "GuideSearch") (T := F_G) (N := 6) hx hb hT i_G hown hK hP 0 rfl rfl 1 (by decide) (hT _ k_130) (fun _ h9 => h9) rfl d_G_answer_24 ?_
        refine lv_iload_n hx hb d_G_answer_27 rfl (lv_at hl 1 rfl) ?_
        refine lv_aload_n hx hb d_G_answer_28 rfl (lv_at hl 0 rfl) ?_
        refine va_get (D := (dC, dI)) (ci := 0) (v := .int (x_opn st)) (C := "GuideSearch") (T := F_G) (N := 6) hx hb hT i_G hown hK hP 0 rfl rfl 4 (by decide) (hT _ k_133) (fun _ h9 => h9) rfl d_G_answer_29 ?_
        obtain ⟨r8, hr7, hf⟩ := ob hf
        refine ro_calli (va_runV (C := "GuideSearch$Tests") (As := [.int p1, .int (x_opn st)]) (rest := []) ⟨hx, hb, hml, hown, hT⟩ (c_T_isOpen l dC dI cs a st p1 (x_opn st) r8 hr7) (cwV 2 hT (gV k_365 k_288 k_289 k_3 k_290) rfl rfl rfl (by decide +kernel) ⟨Nat.le_of_ble_eq_true rfl, Nat.le_of_ble_eq_true rfl⟩) (ro_preV hP hK hN (va_recv hK hP (ci := 2) (q0 := 5) rfl rfl)) rfl rfl hl.1 rfl (lv_room (Nat.le_of_ble_eq_true rfl)) d_G_answer_32 ⟨Nat.le_of_ble_eq_true rfl, Nat.le_of_ble_eq_true rfl⟩) ?_
        refine lv_if_ne (tgt := 41) hx hb d_G_answer_35 (by decide) (fun c9 => ?_) (fun c9 => ?_)
        · rw [if_neg c9] at hf
          refine lv_aload_n hx hb d_G_answer_41 rfl (lv_at hl 0 rfl) ?_
          refine lv_aload_n hx hb d_G_answer_42 rfl (lv_at hl 0 rfl) ?_
          refine va_get (D := (dC, dI)) (ci := 0) (v := .int (x_opn st)) (C := "GuideSearch") (T := F_G) (N := 6) hx hb hT i_G hown hK hP 0 rfl rfl 4 (by decide) (hT _ k_133) (fun _ h9 => h9) rfl d_G_answer_43 ?_
          refine lv_iload_n hx hb d_G_answer_46 rfl (lv_at hl 1 rfl) ?_
          refine lv_iload_n hx hb d_G_answer_47 rfl (lv_at hl 2 rfl) ?_
          obtain ⟨r11, hr10, hf⟩ := ob hf
          refine ro_calli (va_runS (As := [.int (x_opn st), .int p1, .int p2]) (rest := [.ref (a 0)]) ⟨hx, hb, hml, hown, hT⟩ (c_G_withAnswer l (x_opn st) p1 p2 r11 hr10) (va_cwS 3 hT (gS k_366 k_320 k_1 k_321) rfl rfl rfl (by decide +kernel) ⟨Nat.le_of_ble_eq_true rfl, Nat.le_of_ble_eq_true rfl⟩) ⟨fun _ _ _ _ q => q, fun _ _ _ => ⟨rfl, trivial⟩⟩ rfl rfl hl.1 rfl (lv_room (Nat.le_of_ble_eq_true rfl)) d_G_answer_48 ⟨Nat.le_of_ble_eq_true rfl, Nat.le_of_ble_eq_true rfl⟩) ?_
          refine va_put (D := (dC, dI)) (ci := 0) (v := .int r11) (ty := .int) (C := "GuideSearch") (T := F_G) (N := 6) hx hb hT i_G ft_G ft_G_ok n_G hown hK hP (hD _) hS 0 rfl rfl 4 (by decide) (hT _ k_133) (fun _ h9 => h9) rfl (by decide +kernel) rfl rfl (Nat.le_of_ble_eq_true rfl) d_G_answer_51 (fun H locs hP _ hS => ?_)
          rw [x_opn_put cs a st r11] at hP
          refine lv_aload_n hx hb d_G_answer_54 rfl (lv_at hl 0 rfl) ?_
          refine va_get (D := (dC, dI)) (ci := 0) (v := .ref (a 15)) (C := "GuideSearch") (T := F_G) (N := 6) hx hb hT i_G hown hK hP 0 rfl rfl 2 (by decide) (hT _ k_131) (fun _ h9 => h9) rfl d_G_answer_55 ?_
          refine lv_aload_n hx hb d_G_answer_58 rfl (lv_at hl 0 rfl) ?_
          refine va_get (D := (dC, dI)) (ci := 0) (v := .int (x_opn (x_opn_s st r11))) (C := "GuideSearch") (T := F_G) (N := 6) hx hb hT i_G hown hK hP 0 rfl rfl 4 (by decide) (hT _ k_133) (fun _ h9 => h9) rfl d_G_answer_59 ?_
          obtain ⟨r13, hr12, hf⟩ := ob hf
          refine ro_calli (va_runV (C := "GuideSearch$Cases") (As := [.int (x_opn (x_opn_s st r11))]) (rest := []) ⟨hx, hb, hml, hown, hT⟩ (c_K_left l dC dI cs a (x_opn_s st r11) (x_opn (x_opn_s st r11)) r13 hr12) (cwV 1 hT (gV k_367 k_339 k_340 k_5 k_341) rfl rfl rfl (by decide +kernel) ⟨Nat.le_of_ble_eq_true rfl, Nat.le_of_ble_eq_true rfl⟩) (ro_preV hP hK hN (va_recv hK hP (ci := 3) (q0 := 15) rfl rfl)) rfl rfl hl.1 rfl (lv_room (Nat.le_of_ble_eq_true rfl)) d_G_answer_62 ⟨Nat.le_of_ble_eq_true rfl, Nat.le_of_ble_eq_true rfl⟩) ?_
          obtain ⟨r15, hr14, hf⟩ := ob hf
          refine ro_calli (va_runS (As := [.int r13]) (rest := []) ⟨hx, hb, hml, hown, hT⟩ (c_JI_bitCount l r13 r15 hr14) (va_cwS 1 hT (gS k_368 k_228 k_8 k_229) rfl rfl rfl (by decide +kernel) ⟨Nat.le_of_ble_eq_true rfl, Nat.le_of_ble_eq_true rfl⟩) ⟨fun _ _ _ _ q => q, fun _ _ _ => ⟨rfl, trivial⟩⟩ rfl rfl hl.1 rfl (lv_room (Nat.le_of_ble_eq_true rfl)) d_G_answer_65 ⟨Nat.le_of_ble_eq_true rfl, Nat.le_of_ble_eq_true rfl⟩) ?_
          exact W.iret hx hb hr (fun t ht _ => ⟨⟨_, (), rfl, congrArg Prod.fst (Option.some.inj hf), x_fin ht (congrArg Prod.snd (Option.some.inj hf)) hP⟩, hS.F ht⟩) hS.2.2 d_G_answer_68
        · rw [if_pos c9] at hf
          refine lv_bipush (v := (-3 : Int32)) hx hb d_G_answer_38 (by decide) ?_
          exact W.iret hx hb hr (fun t ht _ => ⟨⟨_, (), rfl, congrArg Prod.fst (Option.some.inj hf), x_fin ht (congrArg Prod.snd (Option.some.inj hf)) hP⟩, hS.F ht⟩) hS.2.2 d_G_answer_40
      · rw [if_pos c6] at hf
        refine lv_bipush (v := (-2 : Int32)) hx hb d_G_answer_20 (by decide) ?_
        exact W.iret hx hb hr (fun t ht _ => ⟨⟨_, (), rfl, congrArg Prod.fst (Option.some.inj hf), x_fin ht (congrArg Prod.snd (Option.some.inj hf)) hP⟩, hS.F ht⟩) hS.2.2 d_G_answer_22
    · rw [if_pos c3] at hf
      refine lv_iconst (v := (-1 : Int32)) hx hb d_G_answer_11 (by decide) ?_
      exact W.iret hx hb hr (fun t ht _ => ⟨⟨_, (), rfl, congrArg Prod.fst (Option.some.inj hf), x_fin ht (congrArg Prod.snd (Option.some.inj hf)) hP⟩, hS.F ht⟩) hS.2.2 d_G_answer_12
  exact main _ _ hP va_S.rf
set_option maxHeartbeats 4000000 in
set_option maxRecDepth 100000 in
theorem c_G_exact (l : Launch) (dC : Nat → ClassId) (dI : Nat → Nat → Nat) (cs : Nat → ClassId) (a : Nat → Nat) (st : XS) (res : Int32) (hf : x_G_exact st = some res) : Met l (⟨"GuideSearch", "exact", "()Z"⟩ : MethodName) (Cond.code (⟨"GuideSearch", "exact", "()Z"⟩ : MethodName) prog_1_method_9_code 1 (some .boolean) :: wg) { frames := 0, cells := 0, slots := 0, locals := 0 } (va_Pc ([.ref (a 0)] : List Value) (x_pre dC dI cs a st)) (vp_Si (fun r => r = res)) 0 0 (fun _ => False) := by
  refine ro_start (cc := prog_1_method_9_code) (maxL := 1) (ret := (some .boolean)) (by decide) (Nat.le_of_ble_eq_true rfl) ?_
  intro p e s m below meth c hx hb hr hml hT hown hlocks hB ls hl
  replace hown : s.vm.findClass "GuideSearch" = some m.cls := hown
  obtain ⟨hP, hK, hN⟩ := hB
  replace hl : lv_has ls 1 [(0, .ref (a 0))] := hl
  unfold x_G_exact at hf
  refine lv_aload_n hx hb d_G_exact_0 rfl (lv_at hl 0 rfl) ?_
  refine va_get (D := (dC, dI)) (ci := 0) (v := .int (x_pla st)) (C := "GuideSearch") (T := F_G) (N := 6) hx hb hT i_G hown hK hP 0 rfl rfl 5 (by decide) (hT _ k_134) (fun _ h9 => h9) rfl d_G_exact_1 ?_
  obtain ⟨hz1, hf⟩ := zb_some hf
  exact W.zret (ty := .boolean) hx hb hr (zb_nar hz1) (fun t ht _ => ⟨_, rfl, Option.some.inj hf, ht⟩) (fun _ h => absurd h List.not_mem_nil) d_G_exact_4
set_option maxHeartbeats 4000000 in
set_option maxRecDepth 100000 in
theorem c_G_cost (l : Launch) (dC : Nat → ClassId) (dI : Nat → Nat → Nat) (cs : Nat → ClassId) (a : Nat → Nat) (st : XS) (res : Int64) (hf : x_G_cost st = some res) : Met l (⟨"GuideSearch", "cost", "()J"⟩ : MethodName) (Cond.code (⟨"GuideSearch", "cost", "()J"⟩ : MethodName) prog_1_method_10_code 1 (some .long) :: wg) { frames := 0, cells := 0, slots := 0, locals := 0 } (va_Pc ([.ref (a 0)] : List Value) (x_pre dC dI cs a st)) (vp_Sl (fun r => r = res)) 0 0 (fun _ => False) := by
  refine ro_start (cc := prog_1_method_10_code) (maxL := 1) (ret := (some .long)) (by decide) (Nat.le_of_ble_eq_true rfl) ?_
  intro p e s m below meth c hx hb hr hml hT hown hlocks hB ls hl
  replace hown : s.vm.findClass "GuideSearch" = some m.cls := hown
  obtain ⟨hP, hK, hN⟩ := hB
  replace hl : lv_has ls 1 [(0, .ref (a 0))] := hl
  unfold x_G_cost at hf
  refine lv_aload_n hx hb d_G_cost_0 rfl (lv_at hl 0 rfl) ?_
  refine va_get (D := (dC, dI)) (ci := 0) (v := .ref (a 16)) (C := "GuideSearch") (T := F_G) (N := 6) hx hb hT i_G hown hK hP 0 rfl rfl 3 (by decide) (hT _ k_132) (fun _ h9 => h9) rfl d_G_cost_1 ?_
  refine va_getN (D := (dC, dI)) (ci := 4) (v := .long (x_tho st)) (C := "GuideSearch$Plan") (T := F_P) (N := 9) hx hb hT i_P hown hK hP 16 rfl rfl 8 (by decide) (va_Nw.use rfl (hN _ k_108)) (fun _ h9 => h9) rfl d_G_cost_4 ?_
  exact W.lret hx hb hr (fun t ht _ => ⟨_, rfl, Option.some.inj hf, ht⟩) (fun _ h => absurd h List.not_mem_nil) d_G_cost_7
set_option maxHeartbeats 4000000 in
set_option maxRecDepth 100000 in
theorem c_G_pair (l : Launch) (dC : Nat → ClassId) (dI : Nat → Nat → Nat) (cs : Nat → ClassId) (a : Nat → Nat) (hi : ∀ i j : Nat, i < 29 → j < 29 → a i = a j → i = j) (st : XS) (p1 : Int32) (p2 : Int32) (res : Int32 × XS) (hf : x_G_pair st p1 p2 = some res) : Met l (⟨"GuideSearch", "pair", "(II)I"⟩ : MethodName) (Cond.code (⟨"GuideSearch", "pair", "(II)I"⟩ : MethodName) prog_1_method_11_code 3 (some .int) :: wg) { frames := 2, cells := 0, slots := 0, locals := 43 } (va_Pc ([.ref (a 0), .int p1, .int p2] : List Value) (x_pre dC dI cs a st)) (va_Qi (fun r (_ : Unit) => r = res.1) (fun _ t => va_P (dC, dI) vwCl (x_W cs a res.2) t.heap) (x_A a)) 0 0 (x_A a) := by
  refine ro_start (cc := prog_1_method_11_code) (maxL := 3) (ret := (some .int)) (by decide) (Nat.le_of_ble_eq_true rfl) ?_
  intro p e s m below meth c hx hb hr hml hT hown hlocks hB ls hl
  replace hown : s.vm.findClass "GuideSearch" = some m.cls := hown
  obtain ⟨hP, hK, hN⟩ := hB
  replace hl : lv_has ls 3 [(0, .ref (a 0)), (1, .int p1), (2, .int p2)] := hl
  unfold x_G_pair at hf
  have hD : ∀ st : XS, va_D (x_A a) (x_W cs a st) := fun st => x_D hi cs st
  have main : ∀ (H : Heap) (locs : List Loc), va_P (dC, dI) vwCl (x_W cs a st) H → va_S (x_A a) s.heap H locs → W p l e { frames := 2, cells := 0, slots := 0, locals := 43 } s m ([.ref (a 0), .int p1, .int p2] : List Value).toArray below meth c H locs 0 0 (MQ below (va_Qi (fun r (_ : Unit) => r = res.1) (fun _ t => va_P (dC, dI) vwCl (x_W cs a res.2) t.heap) (x_A a)) ([.ref (a 0), .int p1, .int p2] : List Value).toArray s 0 0 (x_A a)) (F0 m 0 ls []) := by
    intro H locs hP hS
    refine lv_aload_n hx hb d_G_pair_0 rfl (lv_at hl 0 rfl) ?_
    refine va_get (D := (dC, dI)) (ci := 0) (v := .ref (a 1)) (C := "GuideSearch") (T := F_G) (N := 6) hx hb hT i_G hown hK hP 0 rfl rfl 0 (by decide) (hT _ k_129) (fun _ h9 => h9) rfl d_G_pair_1 ?_
    refine lv_iload_n hx hb d_G_pair_4 rfl (lv_at hl 1 rfl) ?_
    obtain ⟨r2, hr1, hf⟩ := ob hf
    refine ro_calli (va_runV (C := "GuideSearch$Causes") (As := [.int p1]) (rest := []) ⟨hx, hb, hml, hown, hT⟩ (c_C_isFault l dC dI cs a st p1 r2 hr1) (cwV 1 hT (gV k_381 k_382 k_383 k_2 k_384) rfl rfl rfl (by decide +kernel) ⟨Nat.le_of_ble_eq_true rfl, Nat.le_of_ble_eq_true rfl⟩) (ro_preV hP hK hN (va_recv hK hP (ci := 1) (q0 := 1) rfl rfl)) rfl rfl hl.1 rfl (lv_room (Nat.le_of_ble_eq_true rfl)) d_G_pair_5 ⟨Nat.le_of_ble_eq_true rfl, Nat.le_of_ble_eq_true rfl⟩) ?_
    refine lv_if_eq (tgt := 22) hx hb d_G_pair_8 (by decide) (fun c3 => ?_) (fun c3 => ?_)
    · rw [if_pos c3] at hf
      refine lv_iconst (v := (-1 : Int32)) hx hb d_G_pair_22 (by decide) ?_
      exact W.iret hx hb hr (fun t ht _ => ⟨⟨_, (), rfl, congrArg Prod.fst (Option.some.inj hf), x_fin ht (congrArg Prod.snd (Option.some.inj hf)) hP⟩, hS.F ht⟩) hS.2.2 d_G_pair_23
    · rw [if_neg c3] at hf
      refine lv_aload_n hx hb d_G_pair_11 rfl (lv_at hl 0 rfl) ?_
      refine va_get (D := (dC, dI)) (ci := 0) (v := .ref (a 1)) (C := "GuideSearch") (T := F_G) (N := 6) hx hb hT i_G hown hK hP 0 rfl rfl 0 (by decide) (hT _ k_129) (fun _ h9 => h9) rfl d_G_pair_12 ?_
      refine lv_iload_n hx hb d_G_pair_15 rfl (lv_at hl 2 rfl) ?_
      obtain ⟨r5, hr4, hf⟩ := ob hf
      refine ro_calli (va_runV (C := "GuideSearch$Causes") (As := [.int p2]) (rest := []) ⟨hx, hb, hml, hown, hT⟩ (c_C_isFault l dC dI cs a st p2 r5 hr4) (cwV 1 hT (gV k_381 k_382 k_383 k_2 k_384) rfl rfl rfl (by decide +kernel) ⟨Nat.le_of_ble_eq_true rfl, Nat.le_of_ble_eq_true rfl⟩) (ro_preV hP hK hN (va_recv hK hP (ci := 1) (q0 := 1) rfl rfl)) rfl rfl hl.1 rfl (lv_room (Nat.le_of_ble_eq_true rfl)) d_G_pair_16 ⟨Nat.le_of_ble_eq_true rfl, Nat.le_of_ble_eq_true rfl⟩) ?_
      refine lv_if_ne (tgt := 24) hx hb d_G_pair_19 (by decide) (fun c6 => ?_) (fun c6 => ?_)
      · rw [if_neg c6] at hf
        refine lv_iload_n hx hb d_G_pair_24 rfl (lv_at hl 1 rfl) ?_
        refine lv_iload_n hx hb d_G_pair_25 rfl (lv_at hl 2 rfl) ?_
        refine lv_icmp_ne (tgt := 32) hx hb d_G_pair_26 (by decide) (fun c7 => ?_) (fun c7 => ?_)
        · rw [if_neg c7] at hf
          refine lv_aload_n hx hb d_G_pair_32 rfl (lv_at hl 0 rfl) ?_
          refine va_get (D := (dC, dI)) (ci := 0) (v := .ref (a 1)) (C := "GuideSearch") (T := F_G) (N := 6) hx hb hT i_G hown hK hP 0 rfl rfl 0 (by decide) (hT _ k_129) (fun _ h9 => h9) rfl d_G_pair_33 ?_
          refine lv_iload_n hx hb d_G_pair_36 rfl (lv_at hl 1 rfl) ?_
          obtain ⟨r9, hr8, hf⟩ := ob hf
          refine ro_calli (va_runS (As := [.int p1]) (rest := [.ref (a 1)]) ⟨hx, hb, hml, hown, hT⟩ (c_G_bit l p1 r9 hr8) (va_cwS 1 hT (gS k_219 k_220 k_1 k_221) rfl rfl rfl (by decide +kernel) ⟨Nat.le_of_ble_eq_true rfl, Nat.le_of_ble_eq_true rfl⟩) ⟨fun _ _ _ _ q => q, fun _ _ _ => ⟨rfl, trivial⟩⟩ rfl rfl hl.1 rfl (lv_room (Nat.le_of_ble_eq_true rfl)) d_G_pair_37 ⟨Nat.le_of_ble_eq_true rfl, Nat.le_of_ble_eq_true rfl⟩) ?_
          refine lv_iload_n hx hb d_G_pair_40 rfl (lv_at hl 2 rfl) ?_
          obtain ⟨r11, hr10, hf⟩ := ob hf
          refine ro_calli (va_runS (As := [.int p2]) (rest := [.int r9, .ref (a 1)]) ⟨hx, hb, hml, hown, hT⟩ (c_G_bit l p2 r11 hr10) (va_cwS 1 hT (gS k_219 k_220 k_1 k_221) rfl rfl rfl (by decide +kernel) ⟨Nat.le_of_ble_eq_true rfl, Nat.le_of_ble_eq_true rfl⟩) ⟨fun _ _ _ _ q => q, fun _ _ _ => ⟨rfl, trivial⟩⟩ rfl rfl hl.1 rfl (lv_room (Nat.le_of_ble_eq_true rfl)) d_G_pair_41 ⟨Nat.le_of_ble_eq_true rfl, Nat.le_of_ble_eq_true rfl⟩) ?_
          refine lv_ior hx hb d_G_pair_44 ?_
          obtain ⟨r13, hr12, hf⟩ := ob hf
          refine ro_calli (va_runV (C := "GuideSearch$Causes") (As := [.int (r9 ||| r11)]) (rest := []) ⟨hx, hb, hml, hown, hT⟩ (c_C_hasPair l dC dI cs a st (r9 ||| r11) r13 hr12) (cwV 1 hT (gV k_385 k_386 k_387 k_2 k_388) rfl rfl rfl (by decide +kernel) ⟨Nat.le_of_ble_eq_true rfl, Nat.le_of_ble_eq_true rfl⟩) (ro_preV hP hK hN (va_recv hK hP (ci := 1) (q0 := 1) rfl rfl)) rfl rfl hl.1 rfl (lv_room (Nat.le_of_ble_eq_true rfl)) d_G_pair_45 ⟨Nat.le_of_ble_eq_true rfl, Nat.le_of_ble_eq_true rfl⟩) ?_
          refine lv_if_eq (tgt := 54) hx hb d_G_pair_48 (by decide) (fun c14 => ?_) (fun c14 => ?_)
          · rw [if_pos c14] at hf
            refine lv_aload_n hx hb d_G_pair_54 rfl (lv_at hl 0 rfl) ?_
            refine va_get (D := (dC, dI)) (ci := 0) (v := .ref (a 1)) (C := "GuideSearch") (T := F_G) (N := 6) hx hb hT i_G hown hK hP 0 rfl rfl 0 (by decide) (hT _ k_129) (fun _ h9 => h9) rfl d_G_pair_55 ?_
            refine va_getN (D := (dC, dI)) (ci := 1) (v := .int (x_cN st)) (C := "GuideSearch$Causes") (T := F_C) (N := 5) hx hb hT i_C hown hK hP 1 rfl rfl 3 (by decide) (va_Nw.use rfl (hN _ k_32)) (fun _ h9 => h9) rfl d_G_pair_58 ?_
            refine lv_bipush (v := (12 : Int32)) hx hb d_G_pair_61 (by decide) ?_
            refine lv_icmp_lt (tgt := 69) hx hb d_G_pair_63 (by decide) (fun c15 => ?_) (fun c15 => ?_)
            · rw [if_pos c15] at hf
              refine lv_aload_n hx hb d_G_pair_69 rfl (lv_at hl 0 rfl) ?_
              refine va_get (D := (dC, dI)) (ci := 0) (v := .ref (a 1)) (C := "GuideSearch") (T := F_G) (N := 6) hx hb hT i_G hown hK hP 0 rfl rfl 0 (by decide) (hT _ k_129) (fun _ h9 => h9) rfl d_G_pair_70 ?_
              refine lv_iload_n hx hb d_G_pair_73 rfl (lv_at hl 1 rfl) ?_
              refine lv_iload_n hx hb d_G_pair_74 rfl (lv_at hl 2 rfl) ?_
              obtain ⟨r18, s17, hr16, hf⟩ := bd2_some hf
              refine rw_calli (va_runV (C := "GuideSearch$Causes") (As := [.int p1, .int p2]) (rest := []) ⟨hx, hb, hml, hown, hT⟩ (c_C_addPair l dC dI cs a hi st p1 p2 (r18, s17) hr16) (cwV 2 hT (gV k_389 k_390 k_391 k_2 k_392) rfl rfl rfl (by decide +kernel) ⟨Nat.le_of_ble_eq_true rfl, Nat.le_of_ble_eq_true rfl⟩) (ro_preV hP hK hN (va_recv hK hP (ci := 1) (q0 := 1) rfl rfl)) rfl rfl hl.1 rfl (lv_room (Nat.le_of_ble_eq_true rfl)) d_G_pair_75 ⟨Nat.le_of_ble_eq_true rfl, Nat.le_of_ble_eq_true rfl⟩) hS (fun H locs hP hS => ?_)
              exact W.iret hx hb hr (fun t ht _ => ⟨⟨_, (), rfl, congrArg Prod.fst (Option.some.inj hf), x_fin ht (congrArg Prod.snd (Option.some.inj hf)) hP⟩, hS.F ht⟩) hS.2.2 d_G_pair_78
            · rw [if_neg c15] at hf
              refine lv_bipush (v := (-4 : Int32)) hx hb d_G_pair_66 (by decide) ?_
              exact W.iret hx hb hr (fun t ht _ => ⟨⟨_, (), rfl, congrArg Prod.fst (Option.some.inj hf), x_fin ht (congrArg Prod.snd (Option.some.inj hf)) hP⟩, hS.F ht⟩) hS.2.2 d_G_pair_68
          · rw [if_neg c14] at hf
            refine lv_bipush (v := (-3 : Int32)) hx hb d_G_pair_51 (by decide) ?_
            exact W.iret hx hb hr (fun t ht _ => ⟨⟨_, (), rfl, congrArg Prod.fst (Option.some.inj hf), x_fin ht (congrArg Prod.snd (Option.some.inj hf)) hP⟩, hS.F ht⟩) hS.2.2 d_G_pair_53
        · rw [if_pos c7] at hf
          refine lv_bipush (v := (-2 : Int32)) hx hb d_G_pair_29 (by decide) ?_
          exact W.iret hx hb hr (fun t ht _ => ⟨⟨_, (), rfl, congrArg Prod.fst (Option.some.inj hf), x_fin ht (congrArg Prod.snd (Option.some.inj hf)) hP⟩, hS.F ht⟩) hS.2.2 d_G_pair_31
      · rw [if_pos c6] at hf
        refine lv_iconst (v := (-1 : Int32)) hx hb d_G_pair_22 (by decide) ?_
        exact W.iret hx hb hr (fun t ht _ => ⟨⟨_, (), rfl, congrArg Prod.fst (Option.some.inj hf), x_fin ht (congrArg Prod.snd (Option.some.inj hf)) hP⟩, hS.F ht⟩) hS.2.2 d_G_pair_23
  exact main _ _ hP va_S.rf
set_option maxHeartbeats 4000000 in
set_option maxRecDepth 100000 in
theorem c_G_learn (l : Launch) (dC : Nat → ClassId) (dI : Nat → Nat → Nat) (cs : Nat → ClassId) (a : Nat → Nat) (hi : ∀ i j : Nat, i < 29 → j < 29 → a i = a j → i = j) (st : XS) (p1 : Int32) (res : Int32 × XS) (hf : x_G_learn st p1 = some res) : Met l (⟨"GuideSearch", "learn", "(I)I"⟩ : MethodName) (Cond.code (⟨"GuideSearch", "learn", "(I)I"⟩ : MethodName) prog_1_method_12_code 2 (some .int) :: wg) { frames := 1, cells := 0, slots := 0, locals := 21 } (va_Pc ([.ref (a 0), .int p1] : List Value) (x_pre dC dI cs a st)) (va_Qi (fun r (_ : Unit) => r = res.1) (fun _ t => va_P (dC, dI) vwCl (x_W cs a res.2) t.heap) (x_A a)) 0 0 (x_A a) := by
  refine ro_start (cc := prog_1_method_12_code) (maxL := 2) (ret := (some .int)) (by decide) (Nat.le_of_ble_eq_true rfl) ?_
  intro p e s m below meth c hx hb hr hml hT hown hlocks hB ls hl
  replace hown : s.vm.findClass "GuideSearch" = some m.cls := hown
  obtain ⟨hP, hK, hN⟩ := hB
  replace hl : lv_has ls 2 [(0, .ref (a 0)), (1, .int p1)] := hl
  unfold x_G_learn at hf
  have hD : ∀ st : XS, va_D (x_A a) (x_W cs a st) := fun st => x_D hi cs st
  have main : ∀ (H : Heap) (locs : List Loc), va_P (dC, dI) vwCl (x_W cs a st) H → va_S (x_A a) s.heap H locs → W p l e { frames := 1, cells := 0, slots := 0, locals := 21 } s m ([.ref (a 0), .int p1] : List Value).toArray below meth c H locs 0 0 (MQ below (va_Qi (fun r (_ : Unit) => r = res.1) (fun _ t => va_P (dC, dI) vwCl (x_W cs a res.2) t.heap) (x_A a)) ([.ref (a 0), .int p1] : List Value).toArray s 0 0 (x_A a)) (F0 m 0 ls []) := by
    intro H locs hP hS
    refine lv_iload_n hx hb d_G_learn_0 rfl (lv_at hl 1 rfl) ?_
    refine lv_if_eq (tgt := 17) hx hb d_G_learn_1 (by decide) (fun c1 => ?_) (fun c1 => ?_)
    · rw [if_pos c1] at hf
      refine lv_aload_n hx hb d_G_learn_17 rfl (lv_at hl 0 rfl) ?_
      refine lv_iconst (v := (0 : Int32)) hx hb d_G_learn_18 (by decide) ?_
      refine va_put (D := (dC, dI)) (ci := 0) (v := .int (0 : Int32)) (ty := .int) (C := "GuideSearch") (T := F_G) (N := 6) hx hb hT i_G ft_G ft_G_ok n_G hown hK hP (hD _) hS 0 rfl rfl 4 (by decide) (hT _ k_133) (fun _ h9 => h9) rfl (by decide +kernel) rfl rfl (Nat.le_of_ble_eq_true rfl) d_G_learn_19 (fun H locs hP _ hS => ?_)
      rw [x_opn_put cs a st (0 : Int32)] at hP
      refine lv_aload_n hx hb d_G_learn_22 rfl (lv_at hl 0 rfl) ?_
      refine va_get (D := (dC, dI)) (ci := 0) (v := .ref (a 1)) (C := "GuideSearch") (T := F_G) (N := 6) hx hb hT i_G hown hK hP 0 rfl rfl 0 (by decide) (hT _ k_129) (fun _ h9 => h9) rfl d_G_learn_23 ?_
      refine lv_iload_n hx hb d_G_learn_26 rfl (lv_at hl 1 rfl) ?_
      obtain ⟨r4, s3, hr2, hf⟩ := bd2_some hf
      refine rw_calli (va_runV (C := "GuideSearch$Causes") (As := [.int p1]) (rest := []) ⟨hx, hb, hml, hown, hT⟩ (c_C_countLearned l dC dI cs a hi (x_opn_s st (0 : Int32)) p1 (r4, s3) hr2) (cwV 1 hT (gV k_398 k_399 k_400 k_2 k_401) rfl rfl rfl (by decide +kernel) ⟨Nat.le_of_ble_eq_true rfl, Nat.le_of_ble_eq_true rfl⟩) (ro_preV hP hK hN (va_recv hK hP (ci := 1) (q0 := 1) rfl rfl)) rfl rfl hl.1 rfl (lv_room (Nat.le_of_ble_eq_true rfl)) d_G_learn_27 ⟨Nat.le_of_ble_eq_true rfl, Nat.le_of_ble_eq_true rfl⟩) hS (fun H locs hP hS => ?_)
      exact W.iret hx hb hr (fun t ht _ => ⟨⟨_, (), rfl, congrArg Prod.fst (Option.some.inj hf), x_fin ht (congrArg Prod.snd (Option.some.inj hf)) hP⟩, hS.F ht⟩) hS.2.2 d_G_learn_30
    · rw [if_neg c1] at hf
      refine lv_aload_n hx hb d_G_learn_4 rfl (lv_at hl 0 rfl) ?_
      refine va_get (D := (dC, dI)) (ci := 0) (v := .ref (a 1)) (C := "GuideSearch") (T := F_G) (N := 6) hx hb hT i_G hown hK hP 0 rfl rfl 0 (by decide) (hT _ k_129) (fun _ h9 => h9) rfl d_G_learn_5 ?_
      refine lv_iload_n hx hb d_G_learn_8 rfl (lv_at hl 1 rfl) ?_
      obtain ⟨r6, hr5, hf⟩ := ob hf
      refine ro_calli (va_runV (C := "GuideSearch$Causes") (As := [.int p1]) (rest := []) ⟨hx, hb, hml, hown, hT⟩ (c_C_knows l dC dI cs a st p1 r6 hr5) (cwV 1 hT (gV k_176 k_177 k_178 k_2 k_179) rfl rfl rfl (by decide +kernel) ⟨Nat.le_of_ble_eq_true rfl, Nat.le_of_ble_eq_true rfl⟩) (ro_preV hP hK hN (va_recv hK hP (ci := 1) (q0 := 1) rfl rfl)) rfl rfl hl.1 rfl (lv_room (Nat.le_of_ble_eq_true rfl)) d_G_learn_9 ⟨Nat.le_of_ble_eq_true rfl, Nat.le_of_ble_eq_true rfl⟩) ?_
      refine lv_if_ne (tgt := 17) hx hb d_G_learn_12 (by decide) (fun c7 => ?_) (fun c7 => ?_)
      · rw [if_neg c7] at hf
        refine lv_aload_n hx hb d_G_learn_17 rfl (lv_at hl 0 rfl) ?_
        refine lv_iconst (v := (0 : Int32)) hx hb d_G_learn_18 (by decide) ?_
        refine va_put (D := (dC, dI)) (ci := 0) (v := .int (0 : Int32)) (ty := .int) (C := "GuideSearch") (T := F_G) (N := 6) hx hb hT i_G ft_G ft_G_ok n_G hown hK hP (hD _) hS 0 rfl rfl 4 (by decide) (hT _ k_133) (fun _ h9 => h9) rfl (by decide +kernel) rfl rfl (Nat.le_of_ble_eq_true rfl) d_G_learn_19 (fun H locs hP _ hS => ?_)
        rw [x_opn_put cs a st (0 : Int32)] at hP
        refine lv_aload_n hx hb d_G_learn_22 rfl (lv_at hl 0 rfl) ?_
        refine va_get (D := (dC, dI)) (ci := 0) (v := .ref (a 1)) (C := "GuideSearch") (T := F_G) (N := 6) hx hb hT i_G hown hK hP 0 rfl rfl 0 (by decide) (hT _ k_129) (fun _ h9 => h9) rfl d_G_learn_23 ?_
        refine lv_iload_n hx hb d_G_learn_26 rfl (lv_at hl 1 rfl) ?_
        obtain ⟨r10, s9, hr8, hf⟩ := bd2_some hf
        refine rw_calli (va_runV (C := "GuideSearch$Causes") (As := [.int p1]) (rest := []) ⟨hx, hb, hml, hown, hT⟩ (c_C_countLearned l dC dI cs a hi (x_opn_s st (0 : Int32)) p1 (r10, s9) hr8) (cwV 1 hT (gV k_398 k_399 k_400 k_2 k_401) rfl rfl rfl (by decide +kernel) ⟨Nat.le_of_ble_eq_true rfl, Nat.le_of_ble_eq_true rfl⟩) (ro_preV hP hK hN (va_recv hK hP (ci := 1) (q0 := 1) rfl rfl)) rfl rfl hl.1 rfl (lv_room (Nat.le_of_ble_eq_true rfl)) d_G_learn_27 ⟨Nat.le_of_ble_eq_true rfl, Nat.le_of_ble_eq_true rfl⟩) hS (fun H locs hP hS => ?_)
        exact W.iret hx hb hr (fun t ht _ => ⟨⟨_, (), rfl, congrArg Prod.fst (Option.some.inj hf), x_fin ht (congrArg Prod.snd (Option.some.inj hf)) hP⟩, hS.F ht⟩) hS.2.2 d_G_learn_30
      · rw [if_pos c7] at hf
        refine lv_iconst (v := (-1 : Int32)) hx hb d_G_learn_15 (by decide) ?_
        exact W.iret hx hb hr (fun t ht _ => ⟨⟨_, (), rfl, congrArg Prod.fst (Option.some.inj hf), x_fin ht (congrArg Prod.snd (Option.some.inj hf)) hP⟩, hS.F ht⟩) hS.2.2 d_G_learn_16
  exact main _ _ hP va_S.rf
set_option maxHeartbeats 4000000 in
set_option maxRecDepth 100000 in
theorem c_G_tree (l : Launch) (dC : Nat → ClassId) (dI : Nat → Nat → Nat) (cs : Nat → ClassId) (a : Nat → Nat) (st : XS) (p1 : Int32) (p2 : Int32) (res : Int32) (hf : x_G_tree st p1 p2 = some res) : Met l (⟨"GuideSearch", "tree", "(II)I"⟩ : MethodName) (Cond.code (⟨"GuideSearch", "tree", "(II)I"⟩ : MethodName) prog_1_method_13_code 3 (some .int) :: wg) { frames := 1, cells := 0, slots := 0, locals := 22 } (va_Pc ([.ref (a 0), .int p1, .int p2] : List Value) (x_pre dC dI cs a st)) (vp_Si (fun r => r = res)) 0 0 (fun _ => False) := by
  refine ro_start (cc := prog_1_method_13_code) (maxL := 3) (ret := (some .int)) (by decide) (Nat.le_of_ble_eq_true rfl) ?_
  intro p e s m below meth c hx hb hr hml hT hown hlocks hB ls hl
  replace hown : s.vm.findClass "GuideSearch" = some m.cls := hown
  obtain ⟨hP, hK, hN⟩ := hB
  replace hl : lv_has ls 3 [(0, .ref (a 0)), (1, .int p1), (2, .int p2)] := hl
  unfold x_G_tree at hf
  refine lv_iload_n hx hb d_G_tree_0 rfl (lv_at hl 1 rfl) ?_
  refine lv_iconst (v := (-1 : Int32)) hx hb d_G_tree_1 (by decide) ?_
  have join1 : x_G_tree_J1 st p1 p2  = some res → ∀ (ls : Array Slot), lv_has ls 3 [(0, .ref (a 0)), (1, .int p1), (2, .int p2)] → W p l e { frames := 1, cells := 0, slots := 0, locals := 22 } s m ([.ref (a 0), .int p1, .int p2] : List Value).toArray below meth c s.heap [] 0 0 (MQ below (vp_Si (fun r => r = res)) ([.ref (a 0), .int p1, .int p2] : List Value).toArray s 0 0 (fun _ => False)) (F0 m 17 ls []) := by
    intro  hf ls hl
    unfold x_G_tree_J1 at hf
    refine lv_iload_n hx hb d_G_tree_17 rfl (lv_at hl 1 rfl) ?_
    refine lv_if_lt (tgt := 32) hx hb d_G_tree_18 (by decide) (fun c1 => ?_) (fun c1 => ?_)
    · rw [if_pos c1] at hf
      refine lv_iconst (v := (-1 : Int32)) hx hb d_G_tree_32 (by decide) ?_
      exact W.iret hx hb hr (fun t ht _ => ⟨_, rfl, Option.some.inj hf, ht⟩) (fun _ h => absurd h List.not_mem_nil) d_G_tree_33
    · rw [if_neg c1] at hf
      refine lv_iload_n hx hb d_G_tree_21 rfl (lv_at hl 1 rfl) ?_
      refine lv_aload_n hx hb d_G_tree_22 rfl (lv_at hl 0 rfl) ?_
      refine va_get (D := (dC, dI)) (ci := 0) (v := .ref (a 16)) (C := "GuideSearch") (T := F_G) (N := 6) hx hb hT i_G hown hK hP 0 rfl rfl 3 (by decide) (hT _ k_132) (fun _ h9 => h9) rfl d_G_tree_23 ?_
      refine va_getN (D := (dC, dI)) (ci := 4) (v := .int (x_nod st)) (C := "GuideSearch$Plan") (T := F_P) (N := 9) hx hb hT i_P hown hK hP 16 rfl rfl 7 (by decide) (va_Nw.use rfl (hN _ k_106)) (fun _ h9 => h9) rfl d_G_tree_26 ?_
      refine lv_icmp_lt (tgt := 34) hx hb d_G_tree_29 (by decide) (fun c2 => ?_) (fun c2 => ?_)
      · rw [if_pos c2] at hf
        refine lv_aload_n hx hb d_G_tree_34 rfl (lv_at hl 0 rfl) ?_
        refine va_get (D := (dC, dI)) (ci := 0) (v := .ref (a 16)) (C := "GuideSearch") (T := F_G) (N := 6) hx hb hT i_G hown hK hP 0 rfl rfl 3 (by decide) (hT _ k_132) (fun _ h9 => h9) rfl d_G_tree_35 ?_
        refine lv_iload_n hx hb d_G_tree_38 rfl (lv_at hl 1 rfl) ?_
        refine lv_iload_n hx hb d_G_tree_39 rfl (lv_at hl 2 rfl) ?_
        obtain ⟨r4, hr3, hf⟩ := ob hf
        refine ro_calli (va_runV (C := "GuideSearch$Plan") (As := [.int p1, .int p2]) (rest := []) ⟨hx, hb, hml, hown, hT⟩ (c_P_tell l dC dI cs a st p1 p2 r4 hr3) (cwV 2 hT (gV k_406 k_407 k_408 k_6 k_409) rfl rfl rfl (by decide +kernel) ⟨Nat.le_of_ble_eq_true rfl, Nat.le_of_ble_eq_true rfl⟩) (ro_preV hP hK hN (va_recv hK hP (ci := 4) (q0 := 16) rfl rfl)) rfl rfl hl.1 rfl (lv_room (Nat.le_of_ble_eq_true rfl)) d_G_tree_40 ⟨Nat.le_of_ble_eq_true rfl, Nat.le_of_ble_eq_true rfl⟩) ?_
        exact W.iret hx hb hr (fun t ht _ => ⟨_, rfl, Option.some.inj hf, ht⟩) (fun _ h => absurd h List.not_mem_nil) d_G_tree_43
      · rw [if_neg c2] at hf
        refine lv_iconst (v := (-1 : Int32)) hx hb d_G_tree_32 (by decide) ?_
        exact W.iret hx hb hr (fun t ht _ => ⟨_, rfl, Option.some.inj hf, ht⟩) (fun _ h => absurd h List.not_mem_nil) d_G_tree_33
  refine lv_icmp_ne (tgt := 17) hx hb d_G_tree_2 (by decide) (fun c5 => ?_) (fun c5 => ?_)
  · rw [if_neg c5] at hf
    exact join1 hf ls (lv_sub hl [0, 1, 2] rfl)
  · rw [if_pos c5] at hf
    refine lv_iload_n hx hb d_G_tree_5 rfl (lv_at hl 2 rfl) ?_
    refine lv_if_ne (tgt := 17) hx hb d_G_tree_6 (by decide) (fun c6 => ?_) (fun c6 => ?_)
    · rw [if_neg c6] at hf
      exact join1 hf ls (lv_sub hl [0, 1, 2] rfl)
    · rw [if_pos c6] at hf
      refine lv_aload_n hx hb d_G_tree_9 rfl (lv_at hl 0 rfl) ?_
      refine va_get (D := (dC, dI)) (ci := 0) (v := .ref (a 16)) (C := "GuideSearch") (T := F_G) (N := 6) hx hb hT i_G hown hK hP 0 rfl rfl 3 (by decide) (hT _ k_132) (fun _ h9 => h9) rfl d_G_tree_10 ?_
      refine va_getN (D := (dC, dI)) (ci := 4) (v := .int (x_nod st)) (C := "GuideSearch$Plan") (T := F_P) (N := 9) hx hb hT i_P hown hK hP 16 rfl rfl 7 (by decide) (va_Nw.use rfl (hN _ k_106)) (fun _ h9 => h9) rfl d_G_tree_13 ?_
      exact W.iret hx hb hr (fun t ht _ => ⟨_, rfl, Option.some.inj hf, ht⟩) (fun _ h => absurd h List.not_mem_nil) d_G_tree_16
set_option maxHeartbeats 4000000 in
set_option maxRecDepth 100000 in
theorem c_G_never (l : Launch) (dC : Nat → ClassId) (dI : Nat → Nat → Nat) (cs : Nat → ClassId) (a : Nat → Nat) (st : XS) (p1 : Int32) (res : Int32) (hf : x_G_never st p1 = some res) : Met l (⟨"GuideSearch", "never", "(I)I"⟩ : MethodName) (Cond.code (⟨"GuideSearch", "never", "(I)I"⟩ : MethodName) prog_1_method_14_code 4 (some .int) :: wg) { frames := 4, cells := 0, slots := 0, locals := 90 } (va_Pc ([.ref (a 0), .int p1] : List Value) (x_pre dC dI cs a st)) (vp_Si (fun r => r = res)) 0 0 (fun _ => False) := by
  refine ro_start (cc := prog_1_method_14_code) (maxL := 4) (ret := (some .int)) (by decide) (Nat.le_of_ble_eq_true rfl) ?_
  intro p e s m below meth c hx hb hr hml hT hown hlocks hB ls hl
  replace hown : s.vm.findClass "GuideSearch" = some m.cls := hown
  obtain ⟨hP, hK, hN⟩ := hB
  replace hl : lv_has ls 4 [(0, .ref (a 0)), (1, .int p1)] := hl
  unfold x_G_never at hf
  refine lv_iload_n hx hb d_G_never_0 rfl (lv_at hl 1 rfl) ?_
  obtain ⟨r2, hr1, hf⟩ := ob hf
  refine ro_calli (va_runS (As := [.int p1]) (rest := []) ⟨hx, hb, hml, hown, hT⟩ (c_G_isAnswer l p1 r2 hr1) (va_cwS 1 hT (gS k_180 k_181 k_1 k_182) rfl rfl rfl (by decide +kernel) ⟨Nat.le_of_ble_eq_true rfl, Nat.le_of_ble_eq_true rfl⟩) ⟨fun _ _ _ _ q => q, fun _ _ _ => ⟨rfl, trivial⟩⟩ rfl rfl hl.1 rfl (lv_room (Nat.le_of_ble_eq_true rfl)) d_G_never_1 ⟨Nat.le_of_ble_eq_true rfl, Nat.le_of_ble_eq_true rfl⟩) ?_
  refine lv_if_ne (tgt := 10) hx hb d_G_never_4 (by decide) (fun c3 => ?_) (fun c3 => ?_)
  · rw [if_neg c3] at hf
    refine lv_iconst (v := (0 : Int32)) hx hb d_G_never_10 (by decide) ?_
    refine lv_istore_n (lv' := [(2, .int (0 : Int32)), (0, .ref (a 0)), (1, .int p1)]) hx hb d_G_never_11 rfl hl (by decide) rfl (fun ls hl => ?_)
    refine lv_iconst (v := (1 : Int32)) hx hb d_G_never_12 (by decide) ?_
    refine lv_istore_n (lv' := [(3, .int (1 : Int32)), (2, .int (0 : Int32)), (0, .ref (a 0)), (1, .int p1)]) hx hb d_G_never_13 rfl hl (by decide) rfl (fun ls hl => ?_)
    have loop1 : ∀ (n : Nat) (v4 : Int32) (v5 : Int32), xl2 (x_G_never_B1 st p1) n v4 v5 = some res → ∀ (ls : Array Slot), lv_has ls 4 [(3, .int v4), (2, .int v5), (0, .ref (a 0)), (1, .int p1)] → W p l e { frames := 4, cells := 0, slots := 0, locals := 90 } s m ([.ref (a 0), .int p1] : List Value).toArray below meth c s.heap [] 0 0 (MQ below (vp_Si (fun r => r = res)) ([.ref (a 0), .int p1] : List Value).toArray s 0 0 (fun _ => False)) (F0 m 14 ls []) := by
      intro n
      induction n with
      | zero => intro v4 v5 hf; exact absurd hf (by simp [xl2])
      | succ n ih1 =>
        intro v4 v5 hf ls hl
        replace hf : (x_G_never_B1 st p1) (xl2 (x_G_never_B1 st p1) n) v4 v5 = some res := hf
        generalize xl2 (x_G_never_B1 st p1) n = self1 at hf ih1
        unfold x_G_never_B1 at hf
        refine lv_iload_n hx hb d_G_never_14 rfl (lv_at hl 0 rfl) ?_
        refine lv_aload_n hx hb d_G_never_15 rfl (lv_at hl 2 rfl) ?_
        refine va_get (D := (dC, dI)) (ci := 0) (v := .ref (a 5)) (C := "GuideSearch") (T := F_G) (N := 6) hx hb hT i_G hown hK hP 0 rfl rfl 1 (by decide) (hT _ k_130) (fun _ h9 => h9) rfl d_G_never_16 ?_
        refine va_getN (D := (dC, dI)) (ci := 2) (v := .int (x_tN st)) (C := "GuideSearch$Tests") (T := F_T) (N := 4) hx hb hT i_T hown hK hP 5 rfl rfl 3 (by decide) (va_Nw.use rfl (hN _ k_65)) (fun _ h9 => h9) rfl d_G_never_19 ?_
        refine lv_icmp_gt (tgt := 53) hx hb d_G_never_22 (by decide) (fun c6 => ?_) (fun c6 => ?_)
        · rw [if_pos c6] at hf
          refine lv_iload_n hx hb d_G_never_53 rfl (lv_at hl 1 rfl) ?_
          exact W.iret hx hb hr (fun t ht _ => ⟨_, rfl, Option.some.inj hf, ht⟩) (fun _ h => absurd h List.not_mem_nil) d_G_never_54
        · rw [if_neg c6] at hf
          refine lv_aload_n hx hb d_G_never_25 rfl (lv_at hl 2 rfl) ?_
          refine va_get (D := (dC, dI)) (ci := 0) (v := .ref (a 5)) (C := "GuideSearch") (T := F_G) (N := 6) hx hb hT i_G hown hK hP 0 rfl rfl 1 (by decide) (hT _ k_130) (fun _ h9 => h9) rfl d_G_never_26 ?_
          refine lv_iload_n hx hb d_G_never_29 rfl (lv_at hl 0 rfl) ?_
          refine lv_iload_n hx hb d_G_never_30 rfl (lv_at hl 3 rfl) ?_
          refine lv_aload_n hx hb d_G_never_31 rfl (lv_at hl 2 rfl) ?_
          refine va_get (D := (dC, dI)) (ci := 0) (v := .ref (a 1)) (C := "GuideSearch") (T := F_G) (N := 6) hx hb hT i_G hown hK hP 0 rfl rfl 0 (by decide) (hT _ k_129) (fun _ h9 => h9) rfl d_G_never_32 ?_
          refine va_getN (D := (dC, dI)) (ci := 1) (v := .int (x_cN st)) (C := "GuideSearch$Causes") (T := F_C) (N := 5) hx hb hT i_C hown hK hP 1 rfl rfl 3 (by decide) (va_Nw.use rfl (hN _ k_32)) (fun _ h9 => h9) rfl d_G_never_35 ?_
          obtain ⟨r8, hr7, hf⟩ := ob hf
          refine ro_calli (va_runV (C := "GuideSearch$Tests") (As := [.int v4, .int p1, .int (x_cN st)]) (rest := []) ⟨hx, hb, hml, hown, hT⟩ (c_T_canAnswer l dC dI cs a st v4 p1 (x_cN st) r8 hr7) (cwV 3 hT (gV k_414 k_415 k_416 k_3 k_417) rfl rfl rfl (by decide +kernel) ⟨Nat.le_of_ble_eq_true rfl, Nat.le_of_ble_eq_true rfl⟩) (ro_preV hP hK hN (va_recv hK hP (ci := 2) (q0 := 5) rfl rfl)) rfl rfl hl.1 rfl (lv_room (Nat.le_of_ble_eq_true rfl)) d_G_never_38 ⟨Nat.le_of_ble_eq_true rfl, Nat.le_of_ble_eq_true rfl⟩) ?_
          refine lv_if_ne (tgt := 47) hx hb d_G_never_41 (by decide) (fun c9 => ?_) (fun c9 => ?_)
          · rw [if_neg c9] at hf
            refine lv_iinc (v := (v4 + 1)) (lv' := [(3, .int (v4 + 1)), (2, .int v5), (0, .ref (a 0)), (1, .int p1)]) hx hb d_G_never_47 hl (k := 0) rfl rfl (by decide) rfl (fun ls hl => ?_)
            refine lv_goto (tgt := 14) hx hb d_G_never_50 (by decide) ?_
            exact ih1 (v4 + 1) v5 hf ls (lv_sub hl [0, 1, 2, 3] rfl)
          · rw [if_pos c9] at hf
            refine lv_iinc (v := (v5 + 1)) (lv' := [(2, .int (v5 + 1)), (3, .int v4), (0, .ref (a 0)), (1, .int p1)]) hx hb d_G_never_44 hl (k := 1) rfl rfl (by decide) rfl (fun ls hl => ?_)
            refine lv_iinc (v := (v4 + 1)) (lv' := [(3, .int (v4 + 1)), (2, .int (v5 + 1)), (0, .ref (a 0)), (1, .int p1)]) hx hb d_G_never_47 hl (k := 1) rfl rfl (by decide) rfl (fun ls hl => ?_)
            refine lv_goto (tgt := 14) hx hb d_G_never_50 (by decide) ?_
            exact ih1 (v4 + 1) (v5 + 1) hf ls (lv_sub hl [0, 1, 2, 3] rfl)
    exact loop1 _ (1 : Int32) (0 : Int32) hf ls (lv_sub hl [0, 1, 2, 3] rfl)
  · rw [if_pos c3] at hf
    refine lv_bipush (v := (-2 : Int32)) hx hb d_G_never_7 (by decide) ?_
    exact W.iret hx hb hr (fun t ht _ => ⟨_, rfl, Option.some.inj hf, ht⟩) (fun _ h => absurd h List.not_mem_nil) d_G_never_9
end
section
theorem d_JA_fill_J_0 : decode prog_15_method_101_code 0 = .ok (.iconst 0, 1) := by decide +kernel
theorem d_JA_fill_J_1 : decode prog_15_method_101_code 1 = .ok (.istore_n 3, 1) := by decide +kernel
theorem d_JA_fill_J_2 : decode prog_15_method_101_code 2 = .ok (.aload_n 0, 1) := by decide +kernel
theorem d_JA_fill_J_3 : decode prog_15_method_101_code 3 = .ok (.arraylength, 1) := by decide +kernel
theorem d_JA_fill_J_4 : decode prog_15_method_101_code 4 = .ok (.istore 4, 2) := by decide +kernel
theorem d_JA_fill_J_6 : decode prog_15_method_101_code 6 = .ok (.iload_n 3, 1) := by decide +kernel
theorem d_JA_fill_J_7 : decode prog_15_method_101_code 7 = .ok (.iload 4, 2) := by decide +kernel
theorem d_JA_fill_J_9 : decode prog_15_method_101_code 9 = .ok (.if_icmp .ge 13, 3) := by decide +kernel
theorem d_JA_fill_J_12 : decode prog_15_method_101_code 12 = .ok (.aload_n 0, 1) := by decide +kernel
theorem d_JA_fill_J_13 : decode prog_15_method_101_code 13 = .ok (.iload_n 3, 1) := by decide +kernel
theorem d_JA_fill_J_14 : decode prog_15_method_101_code 14 = .ok (.lload_n 1, 1) := by decide +kernel
theorem d_JA_fill_J_15 : decode prog_15_method_101_code 15 = .ok (.lastore, 1) := by decide +kernel
theorem d_JA_fill_J_16 : decode prog_15_method_101_code 16 = .ok (.iinc 3 1, 3) := by decide +kernel
theorem d_JA_fill_J_19 : decode prog_15_method_101_code 19 = .ok (.goto (-13), 3) := by decide +kernel
theorem d_JA_fill_J_22 : decode prog_15_method_101_code 22 = .ok (.return_, 1) := by decide +kernel
theorem d_P_valuesBehind_0 : decode prog_4_method_10_code 0 = .ok (.lconst 0, 1) := by decide +kernel
theorem d_P_valuesBehind_1 : decode prog_4_method_10_code 1 = .ok (.lstore 4, 2) := by decide +kernel
theorem d_P_valuesBehind_3 : decode prog_4_method_10_code 3 = .ok (.iconst 0, 1) := by decide +kernel
theorem d_P_valuesBehind_4 : decode prog_4_method_10_code 4 = .ok (.istore 6, 2) := by decide +kernel
theorem d_P_valuesBehind_6 : decode prog_4_method_10_code 6 = .ok (.iload 6, 2) := by decide +kernel
theorem d_P_valuesBehind_8 : decode prog_4_method_10_code 8 = .ok (.iconst 3, 1) := by decide +kernel
theorem d_P_valuesBehind_9 : decode prog_4_method_10_code 9 = .ok (.if_icmp .ge 77, 3) := by decide +kernel
theorem d_P_valuesBehind_12 : decode prog_4_method_10_code 12 = .ok (.iload_n 2, 1) := by decide +kernel
theorem d_P_valuesBehind_13 : decode prog_4_method_10_code 13 = .ok (.iload_n 1, 1) := by decide +kernel
theorem d_P_valuesBehind_14 : decode prog_4_method_10_code 14 = .ok (.iload 6, 2) := by decide +kernel
theorem d_P_valuesBehind_16 : decode prog_4_method_10_code 16 = .ok (.invokestatic 127, 3) := by decide +kernel
theorem d_P_valuesBehind_19 : decode prog_4_method_10_code 19 = .ok (.istore 7, 2) := by decide +kernel
theorem d_P_valuesBehind_21 : decode prog_4_method_10_code 21 = .ok (.iload 7, 2) := by decide +kernel
theorem d_P_valuesBehind_23 : decode prog_4_method_10_code 23 = .ok (.ifCond .lt 57, 3) := by decide +kernel
theorem d_P_valuesBehind_26 : decode prog_4_method_10_code 26 = .ok (.iload 7, 2) := by decide +kernel
theorem d_P_valuesBehind_28 : decode prog_4_method_10_code 28 = .ok (.sipush 1024, 3) := by decide +kernel
theorem d_P_valuesBehind_31 : decode prog_4_method_10_code 31 = .ok (.if_icmp .lt 6, 3) := by decide +kernel
theorem d_P_valuesBehind_34 : decode prog_4_method_10_code 34 = .ok (.goto 46, 3) := by decide +kernel
theorem d_P_valuesBehind_37 : decode prog_4_method_10_code 37 = .ok (.aload_n 0, 1) := by decide +kernel
theorem d_P_valuesBehind_38 : decode prog_4_method_10_code 38 = .ok (.getfield 9, 3) := by decide +kernel
theorem d_P_valuesBehind_41 : decode prog_4_method_10_code 41 = .ok (.iload 7, 2) := by decide +kernel
theorem d_P_valuesBehind_43 : decode prog_4_method_10_code 43 = .ok (.laload, 1) := by decide +kernel
theorem d_P_valuesBehind_44 : decode prog_4_method_10_code 44 = .ok (.ldc2_w 37, 3) := by decide +kernel
theorem d_P_valuesBehind_47 : decode prog_4_method_10_code 47 = .ok (.lcmp, 1) := by decide +kernel
theorem d_P_valuesBehind_48 : decode prog_4_method_10_code 48 = .ok (.ifCond .ne 20, 3) := by decide +kernel
theorem d_P_valuesBehind_51 : decode prog_4_method_10_code 51 = .ok (.aload_n 0, 1) := by decide +kernel
theorem d_P_valuesBehind_52 : decode prog_4_method_10_code 52 = .ok (.iload_n 1, 1) := by decide +kernel
theorem d_P_valuesBehind_53 : decode prog_4_method_10_code 53 = .ok (.iload 6, 2) := by decide +kernel
theorem d_P_valuesBehind_55 : decode prog_4_method_10_code 55 = .ok (.iload_n 3, 1) := by decide +kernel
theorem d_P_valuesBehind_56 : decode prog_4_method_10_code 56 = .ok (.invokevirtual 130, 3) := by decide +kernel
theorem d_P_valuesBehind_59 : decode prog_4_method_10_code 59 = .ok (.aload_n 0, 1) := by decide +kernel
theorem d_P_valuesBehind_60 : decode prog_4_method_10_code 60 = .ok (.iload 7, 2) := by decide +kernel
theorem d_P_valuesBehind_62 : decode prog_4_method_10_code 62 = .ok (.iload_n 3, 1) := by decide +kernel
theorem d_P_valuesBehind_63 : decode prog_4_method_10_code 63 = .ok (.iconst 1, 1) := by decide +kernel
theorem d_P_valuesBehind_64 : decode prog_4_method_10_code 64 = .ok (.iadd, 1) := by decide +kernel
theorem d_P_valuesBehind_65 : decode prog_4_method_10_code 65 = .ok (.invokevirtual 60, 3) := by decide +kernel
theorem d_P_valuesBehind_68 : decode prog_4_method_10_code 68 = .ok (.lload 4, 2) := by decide +kernel
theorem d_P_valuesBehind_70 : decode prog_4_method_10_code 70 = .ok (.aload_n 0, 1) := by decide +kernel
theorem d_P_valuesBehind_71 : decode prog_4_method_10_code 71 = .ok (.getfield 9, 3) := by decide +kernel
theorem d_P_valuesBehind_74 : decode prog_4_method_10_code 74 = .ok (.iload 7, 2) := by decide +kernel
theorem d_P_valuesBehind_76 : decode prog_4_method_10_code 76 = .ok (.laload, 1) := by decide +kernel
theorem d_P_valuesBehind_77 : decode prog_4_method_10_code 77 = .ok (.ladd, 1) := by decide +kernel
theorem d_P_valuesBehind_78 : decode prog_4_method_10_code 78 = .ok (.lstore 4, 2) := by decide +kernel
theorem d_P_valuesBehind_80 : decode prog_4_method_10_code 80 = .ok (.iinc 6 1, 3) := by decide +kernel
theorem d_P_valuesBehind_83 : decode prog_4_method_10_code 83 = .ok (.goto (-77), 3) := by decide +kernel
theorem d_P_valuesBehind_86 : decode prog_4_method_10_code 86 = .ok (.lload 4, 2) := by decide +kernel
theorem d_P_valuesBehind_88 : decode prog_4_method_10_code 88 = .ok (.lreturn, 1) := by decide +kernel
theorem d_P_choose_0 : decode prog_4_method_9_code 0 = .ok (.iload_n 2, 1) := by decide +kernel
theorem d_P_choose_1 : decode prog_4_method_9_code 1 = .ok (.iconst 5, 1) := by decide +kernel
theorem d_P_choose_2 : decode prog_4_method_9_code 2 = .ok (.if_icmp .gt 14, 3) := by decide +kernel
theorem d_P_choose_5 : decode prog_4_method_9_code 5 = .ok (.iload_n 1, 1) := by decide +kernel
theorem d_P_choose_6 : decode prog_4_method_9_code 6 = .ok (.ifCond .lt 10, 3) := by decide +kernel
theorem d_P_choose_9 : decode prog_4_method_9_code 9 = .ok (.iload_n 1, 1) := by decide +kernel
theorem d_P_choose_10 : decode prog_4_method_9_code 10 = .ok (.sipush 1024, 3) := by decide +kernel
theorem d_P_choose_13 : decode prog_4_method_9_code 13 = .ok (.if_icmp .lt 4, 3) := by decide +kernel
theorem d_P_choose_16 : decode prog_4_method_9_code 16 = .ok (.return_, 1) := by decide +kernel
theorem d_P_choose_17 : decode prog_4_method_9_code 17 = .ok (.aload_n 0, 1) := by decide +kernel
theorem d_P_choose_18 : decode prog_4_method_9_code 18 = .ok (.iload_n 2, 1) := by decide +kernel
theorem d_P_choose_19 : decode prog_4_method_9_code 19 = .ok (.invokevirtual 96, 3) := by decide +kernel
theorem d_P_choose_22 : decode prog_4_method_9_code 22 = .ok (.istore_n 3, 1) := by decide +kernel
theorem d_P_choose_23 : decode prog_4_method_9_code 23 = .ok (.aload_n 0, 1) := by decide +kernel
theorem d_P_choose_24 : decode prog_4_method_9_code 24 = .ok (.getfield 43, 3) := by decide +kernel
theorem d_P_choose_27 : decode prog_4_method_9_code 27 = .ok (.iload_n 1, 1) := by decide +kernel
theorem d_P_choose_28 : decode prog_4_method_9_code 28 = .ok (.iload_n 3, 1) := by decide +kernel
theorem d_P_choose_29 : decode prog_4_method_9_code 29 = .ok (.invokevirtual 99, 3) := by decide +kernel
theorem d_P_choose_32 : decode prog_4_method_9_code 32 = .ok (.istore 4, 2) := by decide +kernel
theorem d_P_choose_34 : decode prog_4_method_9_code 34 = .ok (.aload_n 0, 1) := by decide +kernel
theorem d_P_choose_35 : decode prog_4_method_9_code 35 = .ok (.getfield 43, 3) := by decide +kernel
theorem d_P_choose_38 : decode prog_4_method_9_code 38 = .ok (.iload 4, 2) := by decide +kernel
theorem d_P_choose_40 : decode prog_4_method_9_code 40 = .ok (.invokevirtual 103, 3) := by decide +kernel
theorem d_P_choose_43 : decode prog_4_method_9_code 43 = .ok (.istore 5, 2) := by decide +kernel
theorem d_P_choose_45 : decode prog_4_method_9_code 45 = .ok (.iload 5, 2) := by decide +kernel
theorem d_P_choose_47 : decode prog_4_method_9_code 47 = .ok (.ifCond .eq 11, 3) := by decide +kernel
theorem d_P_choose_50 : decode prog_4_method_9_code 50 = .ok (.iload 5, 2) := by decide +kernel
theorem d_P_choose_52 : decode prog_4_method_9_code 52 = .ok (.invokestatic 92, 3) := by decide +kernel
theorem d_P_choose_55 : decode prog_4_method_9_code 55 = .ok (.goto 5, 3) := by decide +kernel
theorem d_P_choose_58 : decode prog_4_method_9_code 58 = .ok (.iload 4, 2) := by decide +kernel
theorem d_P_choose_60 : decode prog_4_method_9_code 60 = .ok (.istore 6, 2) := by decide +kernel
theorem d_P_choose_62 : decode prog_4_method_9_code 62 = .ok (.aload_n 0, 1) := by decide +kernel
theorem d_P_choose_63 : decode prog_4_method_9_code 63 = .ok (.iload_n 2, 1) := by decide +kernel
theorem d_P_choose_64 : decode prog_4_method_9_code 64 = .ok (.invokevirtual 64, 3) := by decide +kernel
theorem d_P_choose_67 : decode prog_4_method_9_code 67 = .ok (.lstore 7, 2) := by decide +kernel
theorem d_P_choose_69 : decode prog_4_method_9_code 69 = .ok (.iconst 0, 1) := by decide +kernel
theorem d_P_choose_70 : decode prog_4_method_9_code 70 = .ok (.istore 9, 2) := by decide +kernel
theorem d_P_choose_72 : decode prog_4_method_9_code 72 = .ok (.sipush 300, 3) := by decide +kernel
theorem d_P_choose_75 : decode prog_4_method_9_code 75 = .ok (.iload_n 3, 1) := by decide +kernel
theorem d_P_choose_76 : decode prog_4_method_9_code 76 = .ok (.invokestatic 106, 3) := by decide +kernel
theorem d_P_choose_79 : decode prog_4_method_9_code 79 = .ok (.iconst 1, 1) := by decide +kernel
theorem d_P_choose_80 : decode prog_4_method_9_code 80 = .ok (.isub, 1) := by decide +kernel
theorem d_P_choose_81 : decode prog_4_method_9_code 81 = .ok (.iconst 0, 1) := by decide +kernel
theorem d_P_choose_82 : decode prog_4_method_9_code 82 = .ok (.invokestatic 111, 3) := by decide +kernel
theorem d_P_choose_85 : decode prog_4_method_9_code 85 = .ok (.imul, 1) := by decide +kernel
theorem d_P_choose_86 : decode prog_4_method_9_code 86 = .ok (.i2l, 1) := by decide +kernel
theorem d_P_choose_87 : decode prog_4_method_9_code 87 = .ok (.lload 7, 2) := by decide +kernel
theorem d_P_choose_89 : decode prog_4_method_9_code 89 = .ok (.lmul, 1) := by decide +kernel
theorem d_P_choose_90 : decode prog_4_method_9_code 90 = .ok (.lstore 10, 2) := by decide +kernel
theorem d_P_choose_92 : decode prog_4_method_9_code 92 = .ok (.iconst 1, 1) := by decide +kernel
theorem d_P_choose_93 : decode prog_4_method_9_code 93 = .ok (.istore 12, 2) := by decide +kernel
theorem d_P_choose_95 : decode prog_4_method_9_code 95 = .ok (.iload 12, 2) := by decide +kernel
theorem d_P_choose_97 : decode prog_4_method_9_code 97 = .ok (.iconst 5, 1) := by decide +kernel
theorem d_P_choose_98 : decode prog_4_method_9_code 98 = .ok (.if_icmp .gt 70, 3) := by decide +kernel
theorem d_P_choose_101 : decode prog_4_method_9_code 101 = .ok (.iload 6, 2) := by decide +kernel
theorem d_P_choose_103 : decode prog_4_method_9_code 103 = .ok (.iload 12, 2) := by decide +kernel
theorem d_P_choose_105 : decode prog_4_method_9_code 105 = .ok (.invokestatic 116, 3) := by decide +kernel
theorem d_P_choose_108 : decode prog_4_method_9_code 108 = .ok (.ifCond .ne 6, 3) := by decide +kernel
theorem d_P_choose_111 : decode prog_4_method_9_code 111 = .ok (.goto 51, 3) := by decide +kernel
theorem d_P_choose_114 : decode prog_4_method_9_code 114 = .ok (.aload_n 0, 1) := by decide +kernel
theorem d_P_choose_115 : decode prog_4_method_9_code 115 = .ok (.getfield 43, 3) := by decide +kernel
theorem d_P_choose_118 : decode prog_4_method_9_code 118 = .ok (.getfield 82, 3) := by decide +kernel
theorem d_P_choose_121 : decode prog_4_method_9_code 121 = .ok (.iload 12, 2) := by decide +kernel
theorem d_P_choose_123 : decode prog_4_method_9_code 123 = .ok (.invokevirtual 120, 3) := by decide +kernel
theorem d_P_choose_126 : decode prog_4_method_9_code 126 = .ok (.i2l, 1) := by decide +kernel
theorem d_P_choose_127 : decode prog_4_method_9_code 127 = .ok (.lload 7, 2) := by decide +kernel
theorem d_P_choose_129 : decode prog_4_method_9_code 129 = .ok (.lmul, 1) := by decide +kernel
theorem d_P_choose_130 : decode prog_4_method_9_code 130 = .ok (.aload_n 0, 1) := by decide +kernel
theorem d_P_choose_131 : decode prog_4_method_9_code 131 = .ok (.iload 12, 2) := by decide +kernel
theorem d_P_choose_133 : decode prog_4_method_9_code 133 = .ok (.iload_n 1, 1) := by decide +kernel
theorem d_P_choose_134 : decode prog_4_method_9_code 134 = .ok (.iload_n 2, 1) := by decide +kernel
theorem d_P_choose_135 : decode prog_4_method_9_code 135 = .ok (.invokevirtual 123, 3) := by decide +kernel
theorem d_P_choose_138 : decode prog_4_method_9_code 138 = .ok (.ladd, 1) := by decide +kernel
theorem d_P_choose_139 : decode prog_4_method_9_code 139 = .ok (.lstore 13, 2) := by decide +kernel
theorem d_P_choose_141 : decode prog_4_method_9_code 141 = .ok (.iload 9, 2) := by decide +kernel
theorem d_P_choose_143 : decode prog_4_method_9_code 143 = .ok (.ifCond .eq 11, 3) := by decide +kernel
theorem d_P_choose_146 : decode prog_4_method_9_code 146 = .ok (.lload 13, 2) := by decide +kernel
theorem d_P_choose_148 : decode prog_4_method_9_code 148 = .ok (.lload 10, 2) := by decide +kernel
theorem d_P_choose_150 : decode prog_4_method_9_code 150 = .ok (.lcmp, 1) := by decide +kernel
theorem d_P_choose_151 : decode prog_4_method_9_code 151 = .ok (.ifCond .ge 11, 3) := by decide +kernel
theorem d_P_choose_154 : decode prog_4_method_9_code 154 = .ok (.iload 12, 2) := by decide +kernel
theorem d_P_choose_156 : decode prog_4_method_9_code 156 = .ok (.istore 9, 2) := by decide +kernel
theorem d_P_choose_158 : decode prog_4_method_9_code 158 = .ok (.lload 13, 2) := by decide +kernel
theorem d_P_choose_160 : decode prog_4_method_9_code 160 = .ok (.lstore 10, 2) := by decide +kernel
theorem d_P_choose_162 : decode prog_4_method_9_code 162 = .ok (.iinc 12 1, 3) := by decide +kernel
theorem d_P_choose_165 : decode prog_4_method_9_code 165 = .ok (.goto (-70), 3) := by decide +kernel
theorem d_P_choose_168 : decode prog_4_method_9_code 168 = .ok (.aload_n 0, 1) := by decide +kernel
theorem d_P_choose_169 : decode prog_4_method_9_code 169 = .ok (.getfield 9, 3) := by decide +kernel
theorem d_P_choose_172 : decode prog_4_method_9_code 172 = .ok (.iload_n 1, 1) := by decide +kernel
theorem d_P_choose_173 : decode prog_4_method_9_code 173 = .ok (.lload 10, 2) := by decide +kernel
theorem d_P_choose_175 : decode prog_4_method_9_code 175 = .ok (.lastore, 1) := by decide +kernel
theorem d_P_choose_176 : decode prog_4_method_9_code 176 = .ok (.aload_n 0, 1) := by decide +kernel
theorem d_P_choose_177 : decode prog_4_method_9_code 177 = .ok (.getfield 15, 3) := by decide +kernel
theorem d_P_choose_180 : decode prog_4_method_9_code 180 = .ok (.iload_n 1, 1) := by decide +kernel
theorem d_P_choose_181 : decode prog_4_method_9_code 181 = .ok (.iload 9, 2) := by decide +kernel
theorem d_P_choose_183 : decode prog_4_method_9_code 183 = .ok (.i2b, 1) := by decide +kernel
theorem d_P_choose_184 : decode prog_4_method_9_code 184 = .ok (.bastore, 1) := by decide +kernel
theorem d_P_choose_185 : decode prog_4_method_9_code 185 = .ok (.return_, 1) := by decide +kernel
theorem d_P_keep_0 : decode prog_4_method_11_code 0 = .ok (.aload_n 0, 1) := by decide +kernel
theorem d_P_keep_1 : decode prog_4_method_11_code 1 = .ok (.iload_n 3, 1) := by decide +kernel
theorem d_P_keep_2 : decode prog_4_method_11_code 2 = .ok (.invokevirtual 96, 3) := by decide +kernel
theorem d_P_keep_5 : decode prog_4_method_11_code 5 = .ok (.invokestatic 106, 3) := by decide +kernel
theorem d_P_keep_8 : decode prog_4_method_11_code 8 = .ok (.istore 4, 2) := by decide +kernel
theorem d_P_keep_10 : decode prog_4_method_11_code 10 = .ok (.iload 4, 2) := by decide +kernel
theorem d_P_keep_12 : decode prog_4_method_11_code 12 = .ok (.ifCond .eq 24, 3) := by decide +kernel
theorem d_P_keep_15 : decode prog_4_method_11_code 15 = .ok (.aload_n 0, 1) := by decide +kernel
theorem d_P_keep_16 : decode prog_4_method_11_code 16 = .ok (.getfield 33, 3) := by decide +kernel
theorem d_P_keep_19 : decode prog_4_method_11_code 19 = .ok (.sipush 300, 3) := by decide +kernel
theorem d_P_keep_22 : decode prog_4_method_11_code 22 = .ok (.if_icmp .ge 14, 3) := by decide +kernel
theorem d_P_keep_25 : decode prog_4_method_11_code 25 = .ok (.iload_n 1, 1) := by decide +kernel
theorem d_P_keep_26 : decode prog_4_method_11_code 26 = .ok (.ifCond .lt 10, 3) := by decide +kernel
theorem d_P_keep_29 : decode prog_4_method_11_code 29 = .ok (.iload_n 1, 1) := by decide +kernel
theorem d_P_keep_30 : decode prog_4_method_11_code 30 = .ok (.sipush 1024, 3) := by decide +kernel
theorem d_P_keep_33 : decode prog_4_method_11_code 33 = .ok (.if_icmp .lt 4, 3) := by decide +kernel
theorem d_P_keep_36 : decode prog_4_method_11_code 36 = .ok (.return_, 1) := by decide +kernel
theorem d_P_keep_37 : decode prog_4_method_11_code 37 = .ok (.aload_n 0, 1) := by decide +kernel
theorem d_P_keep_38 : decode prog_4_method_11_code 38 = .ok (.getfield 15, 3) := by decide +kernel
theorem d_P_keep_41 : decode prog_4_method_11_code 41 = .ok (.iload_n 1, 1) := by decide +kernel
theorem d_P_keep_42 : decode prog_4_method_11_code 42 = .ok (.baload, 1) := by decide +kernel
theorem d_P_keep_43 : decode prog_4_method_11_code 43 = .ok (.istore 5, 2) := by decide +kernel
theorem d_P_keep_45 : decode prog_4_method_11_code 45 = .ok (.aload_n 0, 1) := by decide +kernel
theorem d_P_keep_46 : decode prog_4_method_11_code 46 = .ok (.getfield 24, 3) := by decide +kernel
theorem d_P_keep_49 : decode prog_4_method_11_code 49 = .ok (.aload_n 0, 1) := by decide +kernel
theorem d_P_keep_50 : decode prog_4_method_11_code 50 = .ok (.getfield 33, 3) := by decide +kernel
theorem d_P_keep_53 : decode prog_4_method_11_code 53 = .ok (.iload 5, 2) := by decide +kernel
theorem d_P_keep_55 : decode prog_4_method_11_code 55 = .ok (.i2b, 1) := by decide +kernel
theorem d_P_keep_56 : decode prog_4_method_11_code 56 = .ok (.bastore, 1) := by decide +kernel
theorem d_P_keep_57 : decode prog_4_method_11_code 57 = .ok (.aload_n 0, 1) := by decide +kernel
theorem d_P_keep_58 : decode prog_4_method_11_code 58 = .ok (.getfield 27, 3) := by decide +kernel
theorem d_P_keep_61 : decode prog_4_method_11_code 61 = .ok (.aload_n 0, 1) := by decide +kernel
theorem d_P_keep_62 : decode prog_4_method_11_code 62 = .ok (.getfield 33, 3) := by decide +kernel
theorem d_P_keep_65 : decode prog_4_method_11_code 65 = .ok (.iload 4, 2) := by decide +kernel
theorem d_P_keep_67 : decode prog_4_method_11_code 67 = .ok (.i2b, 1) := by decide +kernel
theorem d_P_keep_68 : decode prog_4_method_11_code 68 = .ok (.bastore, 1) := by decide +kernel
theorem d_P_keep_69 : decode prog_4_method_11_code 69 = .ok (.aload_n 0, 1) := by decide +kernel
theorem d_P_keep_70 : decode prog_4_method_11_code 70 = .ok (.getfield 30, 3) := by decide +kernel
theorem d_P_keep_73 : decode prog_4_method_11_code 73 = .ok (.aload_n 0, 1) := by decide +kernel
theorem d_P_keep_74 : decode prog_4_method_11_code 74 = .ok (.getfield 33, 3) := by decide +kernel
theorem d_P_keep_77 : decode prog_4_method_11_code 77 = .ok (.iload_n 2, 1) := by decide +kernel
theorem d_P_keep_78 : decode prog_4_method_11_code 78 = .ok (.i2b, 1) := by decide +kernel
theorem d_P_keep_79 : decode prog_4_method_11_code 79 = .ok (.bastore, 1) := by decide +kernel
theorem d_P_keep_80 : decode prog_4_method_11_code 80 = .ok (.aload_n 0, 1) := by decide +kernel
theorem d_P_keep_81 : decode prog_4_method_11_code 81 = .ok (.dup, 1) := by decide +kernel
theorem d_P_keep_82 : decode prog_4_method_11_code 82 = .ok (.getfield 33, 3) := by decide +kernel
theorem d_P_keep_85 : decode prog_4_method_11_code 85 = .ok (.iconst 1, 1) := by decide +kernel
theorem d_P_keep_86 : decode prog_4_method_11_code 86 = .ok (.iadd, 1) := by decide +kernel
theorem d_P_keep_87 : decode prog_4_method_11_code 87 = .ok (.putfield 33, 3) := by decide +kernel
theorem d_P_keep_90 : decode prog_4_method_11_code 90 = .ok (.iconst 0, 1) := by decide +kernel
theorem d_P_keep_91 : decode prog_4_method_11_code 91 = .ok (.istore 6, 2) := by decide +kernel
theorem d_P_keep_93 : decode prog_4_method_11_code 93 = .ok (.iload 6, 2) := by decide +kernel
theorem d_P_keep_95 : decode prog_4_method_11_code 95 = .ok (.iconst 3, 1) := by decide +kernel
theorem d_P_keep_96 : decode prog_4_method_11_code 96 = .ok (.if_icmp .ge 45, 3) := by decide +kernel
theorem d_P_keep_99 : decode prog_4_method_11_code 99 = .ok (.iload 5, 2) := by decide +kernel
theorem d_P_keep_101 : decode prog_4_method_11_code 101 = .ok (.ifCond .eq 40, 3) := by decide +kernel
theorem d_P_keep_104 : decode prog_4_method_11_code 104 = .ok (.iload_n 3, 1) := by decide +kernel
theorem d_P_keep_105 : decode prog_4_method_11_code 105 = .ok (.iconst 5, 1) := by decide +kernel
theorem d_P_keep_106 : decode prog_4_method_11_code 106 = .ok (.if_icmp .ge 35, 3) := by decide +kernel
theorem d_P_keep_109 : decode prog_4_method_11_code 109 = .ok (.aload_n 0, 1) := by decide +kernel
theorem d_P_keep_110 : decode prog_4_method_11_code 110 = .ok (.iload 5, 2) := by decide +kernel
theorem d_P_keep_112 : decode prog_4_method_11_code 112 = .ok (.iload 6, 2) := by decide +kernel
theorem d_P_keep_114 : decode prog_4_method_11_code 114 = .ok (.iload_n 3, 1) := by decide +kernel
theorem d_P_keep_115 : decode prog_4_method_11_code 115 = .ok (.invokevirtual 130, 3) := by decide +kernel
theorem d_P_keep_118 : decode prog_4_method_11_code 118 = .ok (.aload_n 0, 1) := by decide +kernel
theorem d_P_keep_119 : decode prog_4_method_11_code 119 = .ok (.iload_n 1, 1) := by decide +kernel
theorem d_P_keep_120 : decode prog_4_method_11_code 120 = .ok (.iload 5, 2) := by decide +kernel
theorem d_P_keep_122 : decode prog_4_method_11_code 122 = .ok (.iload 6, 2) := by decide +kernel
theorem d_P_keep_124 : decode prog_4_method_11_code 124 = .ok (.invokestatic 127, 3) := by decide +kernel
theorem d_P_keep_127 : decode prog_4_method_11_code 127 = .ok (.iload 6, 2) := by decide +kernel
theorem d_P_keep_129 : decode prog_4_method_11_code 129 = .ok (.iload_n 3, 1) := by decide +kernel
theorem d_P_keep_130 : decode prog_4_method_11_code 130 = .ok (.iconst 1, 1) := by decide +kernel
theorem d_P_keep_131 : decode prog_4_method_11_code 131 = .ok (.iadd, 1) := by decide +kernel
theorem d_P_keep_132 : decode prog_4_method_11_code 132 = .ok (.invokevirtual 70, 3) := by decide +kernel
theorem d_P_keep_135 : decode prog_4_method_11_code 135 = .ok (.iinc 6 1, 3) := by decide +kernel
theorem d_P_keep_138 : decode prog_4_method_11_code 138 = .ok (.goto (-45), 3) := by decide +kernel
theorem d_P_keep_141 : decode prog_4_method_11_code 141 = .ok (.return_, 1) := by decide +kernel
theorem d_P_make_0 : decode prog_4_method_3_code 0 = .ok (.aload_n 0, 1) := by decide +kernel
theorem d_P_make_1 : decode prog_4_method_3_code 1 = .ok (.invokevirtual 47, 3) := by decide +kernel
theorem d_P_make_4 : decode prog_4_method_3_code 4 = .ok (.iload_n 1, 1) := by decide +kernel
theorem d_P_make_5 : decode prog_4_method_3_code 5 = .ok (.ifCond .lt 10, 3) := by decide +kernel
theorem d_P_make_8 : decode prog_4_method_3_code 8 = .ok (.iload_n 1, 1) := by decide +kernel
theorem d_P_make_9 : decode prog_4_method_3_code 9 = .ok (.sipush 1024, 3) := by decide +kernel
theorem d_P_make_12 : decode prog_4_method_3_code 12 = .ok (.if_icmp .lt 5, 3) := by decide +kernel
theorem d_P_make_15 : decode prog_4_method_3_code 15 = .ok (.iconst 0, 1) := by decide +kernel
theorem d_P_make_16 : decode prog_4_method_3_code 16 = .ok (.ireturn, 1) := by decide +kernel
theorem d_P_make_17 : decode prog_4_method_3_code 17 = .ok (.aload_n 0, 1) := by decide +kernel
theorem d_P_make_18 : decode prog_4_method_3_code 18 = .ok (.getfield 9, 3) := by decide +kernel
theorem d_P_make_21 : decode prog_4_method_3_code 21 = .ok (.ldc2_w 37, 3) := by decide +kernel
theorem d_P_make_24 : decode prog_4_method_3_code 24 = .ok (.invokestatic 50, 3) := by decide +kernel
theorem d_P_make_27 : decode prog_4_method_3_code 27 = .ok (.aload_n 0, 1) := by decide +kernel
theorem d_P_make_28 : decode prog_4_method_3_code 28 = .ok (.iload_n 1, 1) := by decide +kernel
theorem d_P_make_29 : decode prog_4_method_3_code 29 = .ok (.invokevirtual 56, 3) := by decide +kernel
theorem d_P_make_32 : decode prog_4_method_3_code 32 = .ok (.aload_n 0, 1) := by decide +kernel
theorem d_P_make_33 : decode prog_4_method_3_code 33 = .ok (.iload_n 1, 1) := by decide +kernel
theorem d_P_make_34 : decode prog_4_method_3_code 34 = .ok (.iconst 0, 1) := by decide +kernel
theorem d_P_make_35 : decode prog_4_method_3_code 35 = .ok (.invokevirtual 60, 3) := by decide +kernel
theorem d_P_make_38 : decode prog_4_method_3_code 38 = .ok (.aload_n 0, 1) := by decide +kernel
theorem d_P_make_39 : decode prog_4_method_3_code 39 = .ok (.iconst 0, 1) := by decide +kernel
theorem d_P_make_40 : decode prog_4_method_3_code 40 = .ok (.invokevirtual 64, 3) := by decide +kernel
theorem d_P_make_43 : decode prog_4_method_3_code 43 = .ok (.lstore_n 2, 1) := by decide +kernel
theorem d_P_make_44 : decode prog_4_method_3_code 44 = .ok (.lload_n 2, 1) := by decide +kernel
theorem d_P_make_45 : decode prog_4_method_3_code 45 = .ok (.lconst 0, 1) := by decide +kernel
theorem d_P_make_46 : decode prog_4_method_3_code 46 = .ok (.lcmp, 1) := by decide +kernel
theorem d_P_make_47 : decode prog_4_method_3_code 47 = .ok (.ifCond .le 34, 3) := by decide +kernel
theorem d_P_make_50 : decode prog_4_method_3_code 50 = .ok (.aload_n 0, 1) := by decide +kernel
theorem d_P_make_51 : decode prog_4_method_3_code 51 = .ok (.aload_n 0, 1) := by decide +kernel
theorem d_P_make_52 : decode prog_4_method_3_code 52 = .ok (.getfield 9, 3) := by decide +kernel
theorem d_P_make_55 : decode prog_4_method_3_code 55 = .ok (.iload_n 1, 1) := by decide +kernel
theorem d_P_make_56 : decode prog_4_method_3_code 56 = .ok (.laload, 1) := by decide +kernel
theorem d_P_make_57 : decode prog_4_method_3_code 57 = .ok (.lload_n 2, 1) := by decide +kernel
theorem d_P_make_58 : decode prog_4_method_3_code 58 = .ok (.ldiv, 1) := by decide +kernel
theorem d_P_make_59 : decode prog_4_method_3_code 59 = .ok (.ldc2_w 68, 3) := by decide +kernel
theorem d_P_make_62 : decode prog_4_method_3_code 62 = .ok (.lmul, 1) := by decide +kernel
theorem d_P_make_63 : decode prog_4_method_3_code 63 = .ok (.aload_n 0, 1) := by decide +kernel
theorem d_P_make_64 : decode prog_4_method_3_code 64 = .ok (.getfield 9, 3) := by decide +kernel
theorem d_P_make_67 : decode prog_4_method_3_code 67 = .ok (.iload_n 1, 1) := by decide +kernel
theorem d_P_make_68 : decode prog_4_method_3_code 68 = .ok (.laload, 1) := by decide +kernel
theorem d_P_make_69 : decode prog_4_method_3_code 69 = .ok (.lload_n 2, 1) := by decide +kernel
theorem d_P_make_70 : decode prog_4_method_3_code 70 = .ok (.lrem, 1) := by decide +kernel
theorem d_P_make_71 : decode prog_4_method_3_code 71 = .ok (.ldc2_w 68, 3) := by decide +kernel
theorem d_P_make_74 : decode prog_4_method_3_code 74 = .ok (.lmul, 1) := by decide +kernel
theorem d_P_make_75 : decode prog_4_method_3_code 75 = .ok (.lload_n 2, 1) := by decide +kernel
theorem d_P_make_76 : decode prog_4_method_3_code 76 = .ok (.ldiv, 1) := by decide +kernel
theorem d_P_make_77 : decode prog_4_method_3_code 77 = .ok (.ladd, 1) := by decide +kernel
theorem d_P_make_78 : decode prog_4_method_3_code 78 = .ok (.putfield 39, 3) := by decide +kernel
theorem d_P_make_81 : decode prog_4_method_3_code 81 = .ok (.aload_n 0, 1) := by decide +kernel
theorem d_P_make_82 : decode prog_4_method_3_code 82 = .ok (.iload_n 1, 1) := by decide +kernel
theorem d_P_make_83 : decode prog_4_method_3_code 83 = .ok (.iconst (-1), 1) := by decide +kernel
theorem d_P_make_84 : decode prog_4_method_3_code 84 = .ok (.iconst 0, 1) := by decide +kernel
theorem d_P_make_85 : decode prog_4_method_3_code 85 = .ok (.invokevirtual 70, 3) := by decide +kernel
theorem d_P_make_88 : decode prog_4_method_3_code 88 = .ok (.aload_n 0, 1) := by decide +kernel
theorem d_P_make_89 : decode prog_4_method_3_code 89 = .ok (.getfield 15, 3) := by decide +kernel
theorem d_P_make_92 : decode prog_4_method_3_code 92 = .ok (.iload_n 1, 1) := by decide +kernel
theorem d_P_make_93 : decode prog_4_method_3_code 93 = .ok (.baload, 1) := by decide +kernel
theorem d_P_make_94 : decode prog_4_method_3_code 94 = .ok (.ireturn, 1) := by decide +kernel
theorem d_G_next_0 : decode prog_1_method_6_code 0 = .ok (.lload_n 1, 1) := by decide +kernel
theorem d_G_next_1 : decode prog_1_method_6_code 1 = .ok (.lconst 0, 1) := by decide +kernel
theorem d_G_next_2 : decode prog_1_method_6_code 2 = .ok (.lcmp, 1) := by decide +kernel
theorem d_G_next_3 : decode prog_1_method_6_code 3 = .ok (.ifCond .ge 6, 3) := by decide +kernel
theorem d_G_next_6 : decode prog_1_method_6_code 6 = .ok (.bipush (-2), 2) := by decide +kernel
theorem d_G_next_8 : decode prog_1_method_6_code 8 = .ok (.ireturn, 1) := by decide +kernel
theorem d_G_next_9 : decode prog_1_method_6_code 9 = .ok (.aload_n 0, 1) := by decide +kernel
theorem d_G_next_10 : decode prog_1_method_6_code 10 = .ok (.lconst 1, 1) := by decide +kernel
theorem d_G_next_11 : decode prog_1_method_6_code 11 = .ok (.iconst 2, 1) := by decide +kernel
theorem d_G_next_12 : decode prog_1_method_6_code 12 = .ok (.aload_n 0, 1) := by decide +kernel
theorem d_G_next_13 : decode prog_1_method_6_code 13 = .ok (.getfield 19, 3) := by decide +kernel
theorem d_G_next_16 : decode prog_1_method_6_code 16 = .ok (.aload_n 0, 1) := by decide +kernel
theorem d_G_next_17 : decode prog_1_method_6_code 17 = .ok (.getfield 41, 3) := by decide +kernel
theorem d_G_next_20 : decode prog_1_method_6_code 20 = .ok (.invokevirtual 108, 3) := by decide +kernel
theorem d_G_next_23 : decode prog_1_method_6_code 23 = .ok (.imul, 1) := by decide +kernel
theorem d_G_next_24 : decode prog_1_method_6_code 24 = .ok (.lshl, 1) := by decide +kernel
theorem d_G_next_25 : decode prog_1_method_6_code 25 = .ok (.lload_n 1, 1) := by decide +kernel
theorem d_G_next_26 : decode prog_1_method_6_code 26 = .ok (.lcmp, 1) := by decide +kernel
theorem d_G_next_27 : decode prog_1_method_6_code 27 = .ok (.ifCond .gt 7, 3) := by decide +kernel
theorem d_G_next_30 : decode prog_1_method_6_code 30 = .ok (.iconst 1, 1) := by decide +kernel
theorem d_G_next_31 : decode prog_1_method_6_code 31 = .ok (.goto 4, 3) := by decide +kernel
theorem d_G_next_34 : decode prog_1_method_6_code 34 = .ok (.iconst 0, 1) := by decide +kernel
theorem d_G_next_35 : decode prog_1_method_6_code 35 = .ok (.putfield 45, 3) := by decide +kernel
theorem d_G_next_38 : decode prog_1_method_6_code 38 = .ok (.aload_n 0, 1) := by decide +kernel
theorem d_G_next_39 : decode prog_1_method_6_code 39 = .ok (.getfield 45, 3) := by decide +kernel
theorem d_G_next_42 : decode prog_1_method_6_code 42 = .ok (.ifCond .eq 15, 3) := by decide +kernel
theorem d_G_next_45 : decode prog_1_method_6_code 45 = .ok (.aload_n 0, 1) := by decide +kernel
theorem d_G_next_46 : decode prog_1_method_6_code 46 = .ok (.getfield 37, 3) := by decide +kernel
theorem d_G_next_49 : decode prog_1_method_6_code 49 = .ok (.aload_n 0, 1) := by decide +kernel
theorem d_G_next_50 : decode prog_1_method_6_code 50 = .ok (.getfield 41, 3) := by decide +kernel
theorem d_G_next_53 : decode prog_1_method_6_code 53 = .ok (.invokevirtual 111, 3) := by decide +kernel
theorem d_G_next_56 : decode prog_1_method_6_code 56 = .ok (.ireturn, 1) := by decide +kernel
theorem d_G_next_57 : decode prog_1_method_6_code 57 = .ok (.aload_n 0, 1) := by decide +kernel
theorem d_G_next_58 : decode prog_1_method_6_code 58 = .ok (.getfield 37, 3) := by decide +kernel
theorem d_G_next_61 : decode prog_1_method_6_code 61 = .ok (.invokevirtual 114, 3) := by decide +kernel
theorem d_G_next_64 : decode prog_1_method_6_code 64 = .ok (.aload_n 0, 1) := by decide +kernel
theorem d_G_next_65 : decode prog_1_method_6_code 65 = .ok (.getfield 28, 3) := by decide +kernel
theorem d_G_next_68 : decode prog_1_method_6_code 68 = .ok (.aload_n 0, 1) := by decide +kernel
theorem d_G_next_69 : decode prog_1_method_6_code 69 = .ok (.getfield 41, 3) := by decide +kernel
theorem d_G_next_72 : decode prog_1_method_6_code 72 = .ok (.invokevirtual 117, 3) := by decide +kernel
theorem d_G_next_75 : decode prog_1_method_6_code 75 = .ok (.ireturn, 1) := by decide +kernel
end
section
def x_JA_fill_J_val_B1 (p1 : Int64) (self1 : Int32 → XS → Option (XS)) (v1 : Int32) (s2 : XS) : Option (XS) :=
  if (1024 : Int32) ≤ v1 then
    some s2
  else
    ix v1 1024 fun j4 =>
    self1 (v1 + 1) (x_val_s s2 j4 p1)
def x_JA_fill_J_val (st : XS) (p1 : Int64) : Option (XS) :=
  xl2 (x_JA_fill_J_val_B1 p1) 1026 (0 : Int32) st
def x_P_valuesBehind_B1 (p1 : Int32) (p2 : Int32) (p3 : Int32) (rf : XS → Int32 → Int32 → Option (XS)) (self1 : Int32 → Int64 → XS → Option (Int64 × XS)) (v1 : Int32) (v2 : Int64) (s3 : XS) : Option (Int64 × XS) :=
  if (3 : Int32) ≤ v1 then
    some (v2, s3)
  else
    (x_G_withAnswer p2 p1 v1).bind fun r6 =>
    if r6 < 0 then
      self1 (v1 + 1) v2 s3
    else
      if r6 < (1024 : Int32) then
        ix r6 1024 fun j9 =>
        if (x_val s3 j9) = (-1 : Int64) then
          (x_P_weighBehind s3 p1 v1 p3).bind fun s17 =>
          (rf s17 r6 (p3 + (1 : Int32))).bind fun s19 =>
          ix r6 1024 fun j20 =>
          self1 (v1 + 1) (v2 + (x_val s19 j20)) s19
        else
          ix r6 1024 fun j13 =>
          self1 (v1 + 1) (v2 + (x_val s3 j13)) s3
      else
        self1 (v1 + 1) v2 s3
def x_P_valuesBehind (rf : XS → Int32 → Int32 → Option (XS)) (st : XS) (p1 : Int32) (p2 : Int32) (p3 : Int32) : Option (Int64 × XS) :=
  xl3 (x_P_valuesBehind_B1 p1 p2 p3 rf) 14 (0 : Int32) (0 : Int64) st
def x_P_choose_B2 (p1 : Int32) (p2 : Int32) (rf : XS → Int32 → Int32 → Option (XS)) (v10 : Int32) (r12 : Int64) (self2 : Int32 → Int64 → Int32 → XS → Option (XS)) (v15 : Int32) (v16 : Int64) (v17 : Int32) (s18 : XS) : Option (XS) :=
  if (5 : Int32) < v15 then
    ix p1 1024 fun j20 =>
    ix p1 1024 fun j23 =>
    some (x_pic_s (x_val_s s18 j20 v16) j23 (vp_nar .byte v17.toInt8.toInt32))
  else
    (x_G_holds v10 v15).bind fun r27 =>
    if r27 = 0 then
      self2 (v15 + 1) v16 v17 s18
    else
      (x_T_price s18 v15).bind fun r30 =>
      bd2 (x_P_valuesBehind rf s18 v15 p1 p2) fun r33 s32 =>
      if v17 = 0 then
        self2 (v15 + 1) ((r30.toInt64 * r12) + r33) v15 s32
      else
        if v16 ≤ ((r30.toInt64 * r12) + r33) then
          self2 (v15 + 1) v16 v17 s32
        else
          self2 (v15 + 1) ((r30.toInt64 * r12) + r33) v15 s32
def x_P_choose_J1 (st : XS) (p1 : Int32) (p2 : Int32) (rf : XS → Int32 → Int32 → Option (XS)) (r5 : Int32) (v10 : Int32) : Option (XS) :=
  (x_P_weightAt st p2).bind fun r12 =>
  (x_JI_bitCount r5).bind fun r14 =>
  xl4 (x_P_choose_B2 p1 p2 rf v10 r12) 14 (1 : Int32) (((300 : Int32) * (if (r14 - (1 : Int32)) < (0 : Int32) then (0 : Int32) else (r14 - (1 : Int32)))).toInt64 * r12) (0 : Int32) st
def x_P_choose_b (rf : XS → Int32 → Int32 → Option (XS)) (st : XS) (p1 : Int32) (p2 : Int32) : Option (XS) :=
  if (5 : Int32) < p2 then
    some st
  else
    if p1 < 0 then
      some st
    else
      if p1 < (1024 : Int32) then
        (x_P_leftAt st p2).bind fun r5 =>
        (x_K_usable st p1 r5).bind fun r7 =>
        (x_K_firstFree st r7).bind fun r9 =>
        if r9 = 0 then
          x_P_choose_J1 st p1 p2 rf r5 r7
        else
          (x_G_bit r9).bind fun r38 =>
          x_P_choose_J1 st p1 p2 rf r5 r38
      else
        some st
def x_P_choose : Nat → XS → Int32 → Int32 → Option (XS)
  | 0 => fun _ _ _  => none
  | d + 1 => x_P_choose_b (x_P_choose d)
def x_P_keep_B1 (st : XS) (p1 : Int32) (p3 : Int32) (rf : XS → Int32 → Int32 → Int32 → Option (XS)) (j9 : Nat) (self1 : Int32 → XS → Option (XS)) (v21 : Int32) (s22 : XS) : Option (XS) :=
  if (3 : Int32) ≤ v21 then
    some s22
  else
    if (x_pic st j9) = 0 then
      some s22
    else
      if (5 : Int32) ≤ p3 then
        some s22
      else
        (x_P_weighBehind s22 (x_pic st j9) v21 p3).bind fun s27 =>
        (x_G_withAnswer p1 (x_pic st j9) v21).bind fun r29 =>
        (rf s27 r29 v21 (p3 + (1 : Int32))).bind fun s31 =>
        self1 (v21 + 1) s31
def x_P_keep_b (rf : XS → Int32 → Int32 → Int32 → Option (XS)) (st : XS) (p1 : Int32) (p2 : Int32) (p3 : Int32) : Option (XS) :=
  (x_P_leftAt st p3).bind fun r2 =>
  (x_JI_bitCount r2).bind fun r4 =>
  if r4 = 0 then
    some st
  else
    if (300 : Int32) ≤ (x_nod st) then
      some st
    else
      if p1 < 0 then
        some st
      else
        if p1 < (1024 : Int32) then
          ix p1 1024 fun j9 =>
          ix (x_nod st) 300 fun j12 =>
          ix (x_nod (x_nT_s st j12 (vp_nar .byte (x_pic st j9).toInt8.toInt32))) 300 fun j15 =>
          ix (x_nod (x_nL_s (x_nT_s st j12 (vp_nar .byte (x_pic st j9).toInt8.toInt32)) j15 (vp_nar .byte r4.toInt8.toInt32))) 300 fun j18 =>
          xl2 (x_P_keep_B1 st p1 p3 rf j9) 14 (0 : Int32) (x_nod_s (x_nA_s (x_nL_s (x_nT_s st j12 (vp_nar .byte (x_pic st j9).toInt8.toInt32)) j15 (vp_nar .byte r4.toInt8.toInt32)) j18 (vp_nar .byte p2.toInt8.toInt32)) ((x_nod (x_nA_s (x_nL_s (x_nT_s st j12 (vp_nar .byte (x_pic st j9).toInt8.toInt32)) j15 (vp_nar .byte r4.toInt8.toInt32)) j18 (vp_nar .byte p2.toInt8.toInt32))) + (1 : Int32)))
        else
          some st
def x_P_keep : Nat → XS → Int32 → Int32 → Int32 → Option (XS)
  | 0 => fun _ _ _ _  => none
  | d + 1 => x_P_keep_b (x_P_keep d)
def x_P_make (st : XS) (p1 : Int32) : Option (Int32 × XS) :=
  (x_P_drop st).bind fun s2 =>
  if p1 < 0 then
    some ((0 : Int32), s2)
  else
    if p1 < (1024 : Int32) then
      (x_JA_fill_J_val s2 (-1 : Int64)).bind fun s6 =>
      (x_P_weighFirst s6 p1).bind fun s8 =>
      (x_P_choose 8 s8 p1 (0 : Int32)).bind fun s10 =>
      (x_P_weightAt s10 (0 : Int32)).bind fun r12 =>
      if r12 ≤ (0 : Int64) then
        (x_P_keep 8 s10 p1 (-1 : Int32) (0 : Int32)).bind fun s15 =>
        ix p1 1024 fun j16 =>
        some ((x_pic s15 j16), s15)
      else
        ix p1 1024 fun j19 =>
        dzl r12 <|
        ix p1 1024 fun j23 =>
        dzl r12 <|
        dzl r12 <|
        (x_P_keep 8 (x_tho_s s10 ((((x_val s10 j19) / r12) * (1000 : Int64)) + ((((x_val s10 j23) - (x_val s10 j23) / r12 * r12) * (1000 : Int64)) / r12))) p1 (-1 : Int32) (0 : Int32)).bind fun s29 =>
        ix p1 1024 fun j30 =>
        some ((x_pic s29 j30), s29)
    else
      some ((0 : Int32), s2)
def x_G_next (st : XS) (p1 : Int64) : Option (Int32 × XS) :=
  if (0 : Int64) ≤ p1 then
    (x_T_unanswered st (x_opn st)).bind fun r3 =>
    if p1 < ((1 : Int64) <<< (((2 : Int32) * r3).toInt64 &&& 63)) then
      if (x_pla (x_pla_s st (0 : Int32))) = 0 then
        (x_P_drop (x_pla_s st (0 : Int32))).bind fun s7 =>
        (x_K_oneStep s7 (x_opn s7)).bind fun r9 =>
        some (r9, s7)
      else
        bd2 (x_P_make (x_pla_s st (0 : Int32)) (x_opn (x_pla_s st (0 : Int32)))) fun r12 s11 =>
        some (r12, s11)
    else
      if (x_pla (x_pla_s st (1 : Int32))) = 0 then
        (x_P_drop (x_pla_s st (1 : Int32))).bind fun s15 =>
        (x_K_oneStep s15 (x_opn s15)).bind fun r17 =>
        some (r17, s15)
      else
        bd2 (x_P_make (x_pla_s st (1 : Int32)) (x_opn (x_pla_s st (1 : Int32)))) fun r20 s19 =>
        some (r20, s19)
  else
    some ((-2 : Int32), st)
end
section
set_option maxHeartbeats 4000000 in
set_option maxRecDepth 100000 in
theorem c_JA_fill_J_val (l : Launch) (dC : Nat → ClassId) (dI : Nat → Nat → Nat) (cs : Nat → ClassId) (a : Nat → Nat) (hi : ∀ i j : Nat, i < 29 → j < 29 → a i = a j → i = j) (st : XS) (p1 : Int64) (res : XS) (hf : x_JA_fill_J_val st p1 = some res) : Met l (⟨"java/util/Arrays", "fill", "([JJ)V"⟩ : MethodName) (Cond.code (⟨"java/util/Arrays", "fill", "([JJ)V"⟩ : MethodName) prog_15_method_101_code 5 none :: wg) { frames := 0, cells := 0, slots := 0, locals := 0 } (va_Pc ([.ref (a 17), .long p1] : List Value) (x_pre dC dI cs a st)) (va_Qv (fun _ : Unit => True) (fun _ t => va_P (dC, dI) vwCl (x_W cs a res) t.heap) (x_A a)) 0 0 (x_A a) := by
  refine ro_start (cc := prog_15_method_101_code) (maxL := 5) (ret := none) (by decide) (Nat.le_of_ble_eq_true rfl) ?_
  intro p e s m below meth c hx hb hr hml hT hown hlocks hB ls hl
  replace hown : s.vm.findClass "java/util/Arrays" = some m.cls := hown
  obtain ⟨hP, hK, hN⟩ := hB
  replace hl : lv_has ls 5 [(0, .ref (a 17)), (1, .long p1)] := hl
  unfold x_JA_fill_J_val at hf
  have hD : ∀ st : XS, va_D (x_A a) (x_W cs a st) := fun st => x_D hi cs st
  have main : ∀ (H : Heap) (locs : List Loc), va_P (dC, dI) vwCl (x_W cs a st) H → va_S (x_A a) s.heap H locs → W p l e { frames := 0, cells := 0, slots := 0, locals := 0 } s m ([.ref (a 17), .long p1] : List Value).toArray below meth c H locs 0 0 (MQ below (va_Qv (fun _ : Unit => True) (fun _ t => va_P (dC, dI) vwCl (x_W cs a res) t.heap) (x_A a)) ([.ref (a 17), .long p1] : List Value).toArray s 0 0 (x_A a)) (F0 m 0 ls []) := by
    intro H locs hP hS
    refine lv_iconst (v := (0 : Int32)) hx hb d_JA_fill_J_0 (by decide) ?_
    refine lv_istore_n (lv' := [(3, .int (0 : Int32)), (0, .ref (a 17)), (1, .long p1)]) hx hb d_JA_fill_J_1 rfl hl (by decide) rfl (fun ls hl => ?_)
    refine lv_aload_n hx hb d_JA_fill_J_2 rfl (lv_at hl 1 rfl) ?_
    refine va_alen (v := (1024 : Int32)) hx hb hK hP 17 0 rfl rfl rfl d_JA_fill_J_3 ?_
    refine lv_istore (lv' := [(4, .int (1024 : Int32)), (3, .int (0 : Int32)), (0, .ref (a 17)), (1, .long p1)]) hx hb d_JA_fill_J_4 hl (by decide) rfl (fun ls hl => ?_)
    have loop1 : ∀ (n : Nat) (v1 : Int32) (s2 : XS), xl2 (x_JA_fill_J_val_B1 p1) n v1 s2 = some res → ∀ (H : Heap) (locs : List Loc), va_P (dC, dI) vwCl (x_W cs a s2) H → va_S (x_A a) s.heap H locs → ∀ (ls : Array Slot), lv_has ls 5 [(4, .int (1024 : Int32)), (3, .int v1), (0, .ref (a 17)), (1, .long p1)] → W p l e { frames := 0, cells := 0, slots := 0, locals := 0 } s m ([.ref (a 17), .long p1] : List Value).toArray below meth c H locs 0 0 (MQ below (va_Qv (fun _ : Unit => True) (fun _ t => va_P (dC, dI) vwCl (x_W cs a res) t.heap) (x_A a)) ([.ref (a 17), .long p1] : List Value).toArray s 0 0 (x_A a)) (F0 m 6 ls []) := by
      intro n
      induction n with
      | zero => intro v1 s2 hf; exact absurd hf (by simp [xl2])
      | succ n ih1 =>
        intro v1 s2 hf H locs hP hS ls hl
        replace hf : (x_JA_fill_J_val_B1 p1) (xl2 (x_JA_fill_J_val_B1 p1) n) v1 s2 = some res := hf
        generalize xl2 (x_JA_fill_J_val_B1 p1) n = self1 at hf ih1
        unfold x_JA_fill_J_val_B1 at hf
        refine lv_iload_n hx hb d_JA_fill_J_6 rfl (lv_at hl 1 rfl) ?_
        refine lv_iload hx hb d_JA_fill_J_7 (lv_at hl 0 rfl) ?_
        refine lv_icmp_ge (tgt := 22) hx hb d_JA_fill_J_9 (by decide) (fun c3 => ?_) (fun c3 => ?_)
        · rw [if_pos c3] at hf
          exact W.vret hx hb hr (fun t ht _ => ⟨⟨(), rfl, trivial, x_fin ht (Option.some.inj hf) hP⟩, hS.F ht⟩) hS.2.2 d_JA_fill_J_22
        · rw [if_neg c3] at hf
          refine lv_aload_n hx hb d_JA_fill_J_12 rfl (lv_at hl 2 rfl) ?_
          refine lv_iload_n hx hb d_JA_fill_J_13 rfl (lv_at hl 1 rfl) ?_
          refine lv_lload_n hx hb d_JA_fill_J_14 rfl (lv_at hl 3 rfl) ?_
          obtain ⟨j4, ej6, hi5, hf⟩ := ix_some hf
          refine xa_last hx hb hK hP (hD _) hS 17 0 rfl rfl ej6 hi5 d_JA_fill_J_15 (fun H locs hP hS => ?_)
          rw [x_val_put cs a s2 j4 p1] at hP
          refine lv_iinc (v := (v1 + 1)) (lv' := [(3, .int (v1 + 1)), (4, .int (1024 : Int32)), (0, .ref (a 17)), (1, .long p1)]) hx hb d_JA_fill_J_16 hl (k := 1) rfl rfl (by decide) rfl (fun ls hl => ?_)
          refine lv_goto (tgt := 6) hx hb d_JA_fill_J_19 (by decide) ?_
          exact ih1 (v1 + 1) (x_val_s s2 j4 p1) hf _ _ hP hS ls (lv_sub hl [1, 0, 2, 3] rfl)
    exact loop1 _ (0 : Int32) st hf _ _ hP hS ls (lv_sub hl [0, 1, 2, 3] rfl)
  exact main _ _ hP va_S.rf
set_option maxHeartbeats 4000000 in
set_option maxRecDepth 100000 in
theorem c_P_valuesBehind (l : Launch) (dC : Nat → ClassId) (dI : Nat → Nat → Nat) (cs : Nat → ClassId) (a : Nat → Nat) (hi : ∀ i j : Nat, i < 29 → j < 29 → a i = a j → i = j) (d : Nat) (rf : XS → Int32 → Int32 → Option (XS)) (st : XS) (p1 : Int32) (p2 : Int32) (p3 : Int32) (res : Int64 × XS) (hrec : ∀ (st : XS) (p1 p2 : Int32) (res : XS), rf st p1 p2 = some res → Met l (⟨"GuideSearch$Plan", "choose", "(II)V"⟩ : MethodName) (Cond.code (⟨"GuideSearch$Plan", "choose", "(II)V"⟩ : MethodName) prog_4_method_9_code 15 none :: wg) ({ frames := 2 * d + 4, cells := 0, slots := 0, locals := 61 * d + 92 }) (va_Pc [.ref (a 16), .int p1, .int p2] (x_pre dC dI cs a st)) (va_Qv (fun _ : Unit => True) (fun _ t => va_P (dC, dI) vwCl (x_W cs a res) t.heap) (x_A a)) 0 0 (x_A a)) (hf : x_P_valuesBehind rf st p1 p2 p3 = some res) : Met l (⟨"GuideSearch$Plan", "valuesBehind", "(III)J"⟩ : MethodName) (Cond.code (⟨"GuideSearch$Plan", "valuesBehind", "(III)J"⟩ : MethodName) prog_4_method_10_code 8 (some .long) :: wg) { frames := 2 * d + 5, cells := 0, slots := 0, locals := 61 * d + 126 } (va_Pc ([.ref (a 16), .int p1, .int p2, .int p3] : List Value) (x_pre dC dI cs a st)) (va_Ql (fun r (_ : Unit) => r = res.1) (fun _ t => va_P (dC, dI) vwCl (x_W cs a res.2) t.heap) (x_A a)) 0 0 (x_A a) := by
  refine ro_start (cc := prog_4_method_10_code) (maxL := 8) (ret := (some .long)) (by decide) (Nat.le_of_ble_eq_true rfl) ?_
  intro p e s m below meth c hx hb hr hml hT hown hlocks hB ls hl
  replace hown : s.vm.findClass "GuideSearch$Plan" = some m.cls := hown
  obtain ⟨hP, hK, hN⟩ := hB
  replace hl : lv_has ls 8 [(0, .ref (a 16)), (1, .int p1), (2, .int p2), (3, .int p3)] := hl
  unfold x_P_valuesBehind at hf
  have hD : ∀ st : XS, va_D (x_A a) (x_W cs a st) := fun st => x_D hi cs st
  have main : ∀ (H : Heap) (locs : List Loc), va_P (dC, dI) vwCl (x_W cs a st) H → va_S (x_A a) s.heap H locs → W p l e { frames := 2 * d + 5, cells := 0, slots := 0, locals := 61 * d + 126 } s m ([.ref (a 16), .int p1, .int p2, .int p3] : List Value).toArray below meth c H locs 0 0 (MQ below (va_Ql (fun r (_ : Unit) => r = res.1) (fun _ t => va_P (dC, dI) vwCl (x_W cs a res.2) t.heap) (x_A a)) ([.ref (a 16), .int p1, .int p2, .int p3] : List Value).toArray s 0 0 (x_A a)) (F0 m 0 ls []) := by
    intro H locs hP hS
    refine lv_lconst (v := (0 : Int64)) hx hb d_P_valuesBehind_0 (by decide) ?_
    refine lv_lstore (lv' := [(4, .long (0 : Int64)), (0, .ref (a 16)), (1, .int p1), (2, .int p2), (3, .int p3)]) hx hb d_P_valuesBehind_1 hl (by decide) rfl (fun ls hl => ?_)
    refine lv_iconst (v := (0 : Int32)) hx hb d_P_valuesBehind_3 (by decide) ?_
    refine lv_istore (lv' := [(6, .int (0 : Int32)), (4, .long (0 : Int64)), (0, .ref (a 16)), (1, .int p1), (2, .int p2), (3, .int p3)]) hx hb d_P_valuesBehind_4 hl (by decide) rfl (fun ls hl => ?_)
    have loop1 : ∀ (n : Nat) (v1 : Int32) (v2 : Int64) (s3 : XS), xl3 (x_P_valuesBehind_B1 p1 p2 p3 rf) n v1 v2 s3 = some res → ∀ (H : Heap) (locs : List Loc), va_P (dC, dI) vwCl (x_W cs a s3) H → va_S (x_A a) s.heap H locs → ∀ (ls : Array Slot), lv_has ls 8 [(6, .int v1), (4, .long v2), (0, .ref (a 16)), (1, .int p1), (2, .int p2), (3, .int p3)] → W p l e { frames := 2 * d + 5, cells := 0, slots := 0, locals := 61 * d + 126 } s m ([.ref (a 16), .int p1, .int p2, .int p3] : List Value).toArray below meth c H locs 0 0 (MQ below (va_Ql (fun r (_ : Unit) => r = res.1) (fun _ t => va_P (dC, dI) vwCl (x_W cs a res.2) t.heap) (x_A a)) ([.ref (a 16), .int p1, .int p2, .int p3] : List Value).toArray s 0 0 (x_A a)) (F0 m 6 ls []) := by
      intro n
      induction n with
      | zero => intro v1 v2 s3 hf; exact absurd hf (by simp [xl3])
      | succ n ih1 =>
        intro v1 v2 s3 hf H locs hP hS ls hl
        replace hf : (x_P_valuesBehind_B1 p1 p2 p3 rf) (xl3 (x_P_valuesBehind_B1 p1 p2 p3 rf) n) v1 v2 s3 = some res := hf
        generalize xl3 (x_P_valuesBehind_B1 p1 p2 p3 rf) n = self1 at hf ih1
        unfold x_P_valuesBehind_B1 at hf
        refine lv_iload hx hb d_P_valuesBehind_6 (lv_at hl 0 rfl) ?_
        refine lv_iconst (v := (3 : Int32)) hx hb d_P_valuesBehind_8 (by decide) ?_
        refine lv_icmp_ge (tgt := 86) hx hb d_P_valuesBehind_9 (by decide) (fun c4 => ?_) (fun c4 => ?_)
        · rw [if_pos c4] at hf
          refine lv_lload hx hb d_P_valuesBehind_86 (lv_at hl 1 rfl) ?_
          exact W.lret hx hb hr (fun t ht _ => ⟨⟨_, (), rfl, congrArg Prod.fst (Option.some.inj hf), x_fin ht (congrArg Prod.snd (Option.some.inj hf)) hP⟩, hS.F ht⟩) hS.2.2 d_P_valuesBehind_88
        · rw [if_neg c4] at hf
          refine lv_iload_n hx hb d_P_valuesBehind_12 rfl (lv_at hl 4 rfl) ?_
          refine lv_iload_n hx hb d_P_valuesBehind_13 rfl (lv_at hl 3 rfl) ?_
          refine lv_iload hx hb d_P_valuesBehind_14 (lv_at hl 0 rfl) ?_
          obtain ⟨r6, hr5, hf⟩ := ob hf
          refine ro_calli (va_runSN (As := [.int p2, .int p1, .int v1]) (rest := []) ⟨hx, hb, hml, hown, hT⟩ (c_G_withAnswer l p2 p1 v1 r6 hr5) ⟨va_cnB 3 hT (gcode k_321) rfl rfl rfl (hN _ k_319) (hT _ k_1) (by decide +kernel) ⟨by first | omega | (dsimp only; omega), by first | omega | (dsimp only; omega)⟩, hT _ k_320, trivial⟩ ⟨fun _ _ _ _ q => q, fun _ _ _ => ⟨rfl, trivial⟩⟩ rfl rfl hl.1 rfl (lv_room (Nat.le_of_ble_eq_true rfl)) d_P_valuesBehind_16 ⟨Nat.le_of_ble_eq_true rfl, Nat.le_of_ble_eq_true rfl⟩) ?_
          refine lv_istore (lv' := [(7, .int r6), (6, .int v1), (4, .long v2), (0, .ref (a 16)), (1, .int p1), (2, .int p2), (3, .int p3)]) hx hb d_P_valuesBehind_19 hl (by decide) rfl (fun ls hl => ?_)
          refine lv_iload hx hb d_P_valuesBehind_21 (lv_at hl 0 rfl) ?_
          refine lv_if_lt (tgt := 80) hx hb d_P_valuesBehind_23 (by decide) (fun c7 => ?_) (fun c7 => ?_)
          · rw [if_pos c7] at hf
            refine lv_iinc (v := (v1 + 1)) (lv' := [(6, .int (v1 + 1)), (7, .int r6), (4, .long v2), (0, .ref (a 16)), (1, .int p1), (2, .int p2), (3, .int p3)]) hx hb d_P_valuesBehind_80 hl (k := 1) rfl rfl (by decide) rfl (fun ls hl => ?_)
            refine lv_goto (tgt := 6) hx hb d_P_valuesBehind_83 (by decide) ?_
            exact ih1 (v1 + 1) v2 s3 hf _ _ hP hS ls (lv_sub hl [0, 2, 3, 4, 5, 6] rfl)
          · rw [if_neg c7] at hf
            refine lv_iload hx hb d_P_valuesBehind_26 (lv_at hl 0 rfl) ?_
            refine lv_sipush (v := (1024 : Int32)) hx hb d_P_valuesBehind_28 (by decide) ?_
            refine lv_icmp_lt (tgt := 37) hx hb d_P_valuesBehind_31 (by decide) (fun c8 => ?_) (fun c8 => ?_)
            · rw [if_pos c8] at hf
              refine lv_aload_n hx hb d_P_valuesBehind_37 rfl (lv_at hl 3 rfl) ?_
              refine va_get (D := (dC, dI)) (ci := 4) (v := .ref (a 17)) (C := "GuideSearch$Plan") (T := F_P) (N := 9) hx hb hT i_P hown hK hP 16 rfl rfl 1 (by decide) (hT _ k_99) (fun _ h9 => h9) rfl d_P_valuesBehind_38 ?_
              refine lv_iload hx hb d_P_valuesBehind_41 (lv_at hl 0 rfl) ?_
              obtain ⟨j9, ej11, hi10, hf⟩ := ix_some hf
              refine xa_lald hx hb hK hP 17 0 rfl rfl ej11 hi10 d_P_valuesBehind_43 ?_
              refine lv_ldc2 (v := (-1 : Int64)) hx hb hown (hT _ k_97) d_P_valuesBehind_44 ?_
              refine W.lcmp hx hb d_P_valuesBehind_47 ?_
              refine lv_if_ne (tgt := 68) hx hb d_P_valuesBehind_48 (by decide) (fun c12 => ?_) (fun c12 => ?_)
              · rw [if_neg (mt (lg_cmp_eq _ _).mpr c12)] at hf
                refine lv_lload hx hb d_P_valuesBehind_68 (lv_at hl 2 rfl) ?_
                refine lv_aload_n hx hb d_P_valuesBehind_70 rfl (lv_at hl 3 rfl) ?_
                refine va_get (D := (dC, dI)) (ci := 4) (v := .ref (a 17)) (C := "GuideSearch$Plan") (T := F_P) (N := 9) hx hb hT i_P hown hK hP 16 rfl rfl 1 (by decide) (hT _ k_99) (fun _ h9 => h9) rfl d_P_valuesBehind_71 ?_
                refine lv_iload hx hb d_P_valuesBehind_74 (lv_at hl 0 rfl) ?_
                obtain ⟨j13, ej15, hi14, hf⟩ := ix_some hf
                refine xa_lald hx hb hK hP 17 0 rfl rfl ej15 hi14 d_P_valuesBehind_76 ?_
                refine lv_ladd hx hb d_P_valuesBehind_77 ?_
                refine lv_lstore (lv' := [(4, .long (v2 + (x_val s3 j13))), (7, .int r6), (6, .int v1), (0, .ref (a 16)), (1, .int p1), (2, .int p2), (3, .int p3)]) hx hb d_P_valuesBehind_78 hl (by decide) rfl (fun ls hl => ?_)
                refine lv_iinc (v := (v1 + 1)) (lv' := [(6, .int (v1 + 1)), (4, .long (v2 + (x_val s3 j13))), (7, .int r6), (0, .ref (a 16)), (1, .int p1), (2, .int p2), (3, .int p3)]) hx hb d_P_valuesBehind_80 hl (k := 2) rfl rfl (by decide) rfl (fun ls hl => ?_)
                refine lv_goto (tgt := 6) hx hb d_P_valuesBehind_83 (by decide) ?_
                exact ih1 (v1 + 1) (v2 + (x_val s3 j13)) s3 hf _ _ hP hS ls (lv_sub hl [0, 1, 3, 4, 5, 6] rfl)
              · rw [if_pos ((lg_cmp_eq _ _).mp c12)] at hf
                refine lv_aload_n hx hb d_P_valuesBehind_51 rfl (lv_at hl 3 rfl) ?_
                refine lv_iload_n hx hb d_P_valuesBehind_52 rfl (lv_at hl 4 rfl) ?_
                refine lv_iload hx hb d_P_valuesBehind_53 (lv_at hl 1 rfl) ?_
                refine lv_iload_n hx hb d_P_valuesBehind_55 rfl (lv_at hl 6 rfl) ?_
                obtain ⟨s17, hr16, hf⟩ := ob hf
                refine rw_callv (va_runV (C := "GuideSearch$Plan") (As := [.int p1, .int v1, .int p3]) (rest := []) ⟨hx, hb, hml, hown, hT⟩ (c_P_weighBehind l dC dI cs a hi s3 p1 v1 p3 s17 hr16) (cwV 3 hT (gV k_322 k_324 ks_6 k_6 k_325) rfl rfl rfl (by decide +kernel) ⟨by first | omega | (dsimp only; omega), by first | omega | (dsimp only; omega)⟩) (ro_preV hP hK hN (va_recv hK hP (ci := 4) (q0 := 16) rfl rfl)) rfl rfl hl.1 rfl (lv_room (Nat.le_of_ble_eq_true rfl)) d_P_valuesBehind_56 ⟨Nat.le_of_ble_eq_true rfl, Nat.le_of_ble_eq_true rfl⟩) hS (fun H locs hP hS => ?_)
                refine lv_aload_n hx hb d_P_valuesBehind_59 rfl (lv_at hl 3 rfl) ?_
                refine lv_iload hx hb d_P_valuesBehind_60 (lv_at hl 0 rfl) ?_
                refine lv_iload_n hx hb d_P_valuesBehind_62 rfl (lv_at hl 6 rfl) ?_
                refine lv_iconst (v := (1 : Int32)) hx hb d_P_valuesBehind_63 (by decide) ?_
                refine lv_iadd hx hb d_P_valuesBehind_64 ?_
                obtain ⟨s19, hr18, hf⟩ := ob hf
                refine rw_callv (va_runV (C := "GuideSearch$Plan") (As := [.int r6, .int (p3 + (1 : Int32))]) (rest := []) ⟨hx, hb, hml, hown, hT⟩ (hrec s17 r6 (p3 + (1 : Int32)) s19 hr18) (cwV 2 hT (gV k_273 k_275 ks_2 k_6 k_276) rfl rfl rfl (by decide +kernel) ⟨by first | omega | (dsimp only; omega), by first | omega | (dsimp only; omega)⟩) (ro_preV hP hK hN (va_recv hK hP (ci := 4) (q0 := 16) rfl rfl)) rfl rfl hl.1 rfl (lv_room (Nat.le_of_ble_eq_true rfl)) d_P_valuesBehind_65 ⟨Nat.le_of_ble_eq_true rfl, Nat.le_of_ble_eq_true rfl⟩) hS (fun H locs hP hS => ?_)
                refine lv_lload hx hb d_P_valuesBehind_68 (lv_at hl 2 rfl) ?_
                refine lv_aload_n hx hb d_P_valuesBehind_70 rfl (lv_at hl 3 rfl) ?_
                refine va_get (D := (dC, dI)) (ci := 4) (v := .ref (a 17)) (C := "GuideSearch$Plan") (T := F_P) (N := 9) hx hb hT i_P hown hK hP 16 rfl rfl 1 (by decide) (hT _ k_99) (fun _ h9 => h9) rfl d_P_valuesBehind_71 ?_
                refine lv_iload hx hb d_P_valuesBehind_74 (lv_at hl 0 rfl) ?_
                obtain ⟨j20, ej22, hi21, hf⟩ := ix_some hf
                refine xa_lald hx hb hK hP 17 0 rfl rfl ej22 hi21 d_P_valuesBehind_76 ?_
                refine lv_ladd hx hb d_P_valuesBehind_77 ?_
                refine lv_lstore (lv' := [(4, .long (v2 + (x_val s19 j20))), (7, .int r6), (6, .int v1), (0, .ref (a 16)), (1, .int p1), (2, .int p2), (3, .int p3)]) hx hb d_P_valuesBehind_78 hl (by decide) rfl (fun ls hl => ?_)
                refine lv_iinc (v := (v1 + 1)) (lv' := [(6, .int (v1 + 1)), (4, .long (v2 + (x_val s19 j20))), (7, .int r6), (0, .ref (a 16)), (1, .int p1), (2, .int p2), (3, .int p3)]) hx hb d_P_valuesBehind_80 hl (k := 2) rfl rfl (by decide) rfl (fun ls hl => ?_)
                refine lv_goto (tgt := 6) hx hb d_P_valuesBehind_83 (by decide) ?_
                exact ih1 (v1 + 1) (v2 + (x_val s19 j20)) s19 hf _ _ hP hS ls (lv_sub hl [0, 1, 3, 4, 5, 6] rfl)
            · rw [if_neg c8] at hf
              refine lv_goto (tgt := 80) hx hb d_P_valuesBehind_34 (by decide) ?_
              refine lv_iinc (v := (v1 + 1)) (lv' := [(6, .int (v1 + 1)), (7, .int r6), (4, .long v2), (0, .ref (a 16)), (1, .int p1), (2, .int p2), (3, .int p3)]) hx hb d_P_valuesBehind_80 hl (k := 1) rfl rfl (by decide) rfl (fun ls hl => ?_)
              refine lv_goto (tgt := 6) hx hb d_P_valuesBehind_83 (by decide) ?_
              exact ih1 (v1 + 1) v2 s3 hf _ _ hP hS ls (lv_sub hl [0, 2, 3, 4, 5, 6] rfl)
    exact loop1 _ (0 : Int32) (0 : Int64) st hf _ _ hP hS ls (lv_sub hl [0, 1, 2, 3, 4, 5] rfl)
  exact main _ _ hP va_S.rf
set_option maxHeartbeats 4000000 in
set_option maxRecDepth 100000 in
theorem c_P_choose_b (l : Launch) (dC : Nat → ClassId) (dI : Nat → Nat → Nat) (cs : Nat → ClassId) (a : Nat → Nat) (hi : ∀ i j : Nat, i < 29 → j < 29 → a i = a j → i = j) (d : Nat) (rf : XS → Int32 → Int32 → Option (XS)) (st : XS) (p1 : Int32) (p2 : Int32) (res : XS) (hrec : ∀ (st : XS) (p1 p2 : Int32) (res : XS), rf st p1 p2 = some res → Met l (⟨"GuideSearch$Plan", "choose", "(II)V"⟩ : MethodName) (Cond.code (⟨"GuideSearch$Plan", "choose", "(II)V"⟩ : MethodName) prog_4_method_9_code 15 none :: wg) ({ frames := 2 * d + 4, cells := 0, slots := 0, locals := 61 * d + 92 }) (va_Pc [.ref (a 16), .int p1, .int p2] (x_pre dC dI cs a st)) (va_Qv (fun _ : Unit => True) (fun _ t => va_P (dC, dI) vwCl (x_W cs a res) t.heap) (x_A a)) 0 0 (x_A a)) (hf : x_P_choose_b rf st p1 p2 = some res) : Met l (⟨"GuideSearch$Plan", "choose", "(II)V"⟩ : MethodName) (Cond.code (⟨"GuideSearch$Plan", "choose", "(II)V"⟩ : MethodName) prog_4_method_9_code 15 none :: wg) { frames := 2 * (d + 1) + 4, cells := 0, slots := 0, locals := 61 * (d + 1) + 92 } (va_Pc ([.ref (a 16), .int p1, .int p2] : List Value) (x_pre dC dI cs a st)) (va_Qv (fun _ : Unit => True) (fun _ t => va_P (dC, dI) vwCl (x_W cs a res) t.heap) (x_A a)) 0 0 (x_A a) := by
  refine ro_start (cc := prog_4_method_9_code) (maxL := 15) (ret := none) (by decide) (Nat.le_of_ble_eq_true rfl) ?_
  intro p e s m below meth c hx hb hr hml hT hown hlocks hB ls hl
  replace hown : s.vm.findClass "GuideSearch$Plan" = some m.cls := hown
  obtain ⟨hP, hK, hN⟩ := hB
  replace hl : lv_has ls 15 [(0, .ref (a 16)), (1, .int p1), (2, .int p2)] := hl
  unfold x_P_choose_b at hf
  have hD : ∀ st : XS, va_D (x_A a) (x_W cs a st) := fun st => x_D hi cs st
  have main : ∀ (H : Heap) (locs : List Loc), va_P (dC, dI) vwCl (x_W cs a st) H → va_S (x_A a) s.heap H locs → W p l e { frames := 2 * (d + 1) + 4, cells := 0, slots := 0, locals := 61 * (d + 1) + 92 } s m ([.ref (a 16), .int p1, .int p2] : List Value).toArray below meth c H locs 0 0 (MQ below (va_Qv (fun _ : Unit => True) (fun _ t => va_P (dC, dI) vwCl (x_W cs a res) t.heap) (x_A a)) ([.ref (a 16), .int p1, .int p2] : List Value).toArray s 0 0 (x_A a)) (F0 m 0 ls []) := by
    intro H locs hP hS
    refine lv_iload_n hx hb d_P_choose_0 rfl (lv_at hl 2 rfl) ?_
    refine lv_iconst (v := (5 : Int32)) hx hb d_P_choose_1 (by decide) ?_
    refine lv_icmp_gt (tgt := 16) hx hb d_P_choose_2 (by decide) (fun c1 => ?_) (fun c1 => ?_)
    · rw [if_pos c1] at hf
      exact W.vret hx hb hr (fun t ht _ => ⟨⟨(), rfl, trivial, x_fin ht (Option.some.inj hf) hP⟩, hS.F ht⟩) hS.2.2 d_P_choose_16
    · rw [if_neg c1] at hf
      refine lv_iload_n hx hb d_P_choose_5 rfl (lv_at hl 1 rfl) ?_
      refine lv_if_lt (tgt := 16) hx hb d_P_choose_6 (by decide) (fun c2 => ?_) (fun c2 => ?_)
      · rw [if_pos c2] at hf
        exact W.vret hx hb hr (fun t ht _ => ⟨⟨(), rfl, trivial, x_fin ht (Option.some.inj hf) hP⟩, hS.F ht⟩) hS.2.2 d_P_choose_16
      · rw [if_neg c2] at hf
        refine lv_iload_n hx hb d_P_choose_9 rfl (lv_at hl 1 rfl) ?_
        refine lv_sipush (v := (1024 : Int32)) hx hb d_P_choose_10 (by decide) ?_
        refine lv_icmp_lt (tgt := 17) hx hb d_P_choose_13 (by decide) (fun c3 => ?_) (fun c3 => ?_)
        · rw [if_pos c3] at hf
          refine lv_aload_n hx hb d_P_choose_17 rfl (lv_at hl 0 rfl) ?_
          refine lv_iload_n hx hb d_P_choose_18 rfl (lv_at hl 2 rfl) ?_
          obtain ⟨r5, hr4, hf⟩ := ob hf
          refine ro_calli (va_runV (C := "GuideSearch$Plan") (As := [.int p2]) (rest := []) ⟨hx, hb, hml, hown, hT⟩ (c_P_leftAt l dC dI cs a st p2 r5 hr4) (cwV 1 hT (gV k_277 k_279 ks_3 k_6 k_280) rfl rfl rfl (by decide +kernel) ⟨by first | omega | (dsimp only; omega), by first | omega | (dsimp only; omega)⟩) (ro_preV hP hK hN (va_recv hK hP (ci := 4) (q0 := 16) rfl rfl)) rfl rfl hl.1 rfl (lv_room (Nat.le_of_ble_eq_true rfl)) d_P_choose_19 ⟨Nat.le_of_ble_eq_true rfl, Nat.le_of_ble_eq_true rfl⟩) ?_
          refine lv_istore_n (lv' := [(3, .int r5), (0, .ref (a 16)), (1, .int p1), (2, .int p2)]) hx hb d_P_choose_22 rfl hl (by decide) rfl (fun ls hl => ?_)
          refine lv_aload_n hx hb d_P_choose_23 rfl (lv_at hl 1 rfl) ?_
          refine va_get (D := (dC, dI)) (ci := 4) (v := .ref (a 15)) (C := "GuideSearch$Plan") (T := F_P) (N := 9) hx hb hT i_P hown hK hP 16 rfl rfl 0 (by decide) (hT _ k_98) (fun _ h9 => h9) rfl d_P_choose_24 ?_
          refine lv_iload_n hx hb d_P_choose_27 rfl (lv_at hl 2 rfl) ?_
          refine lv_iload_n hx hb d_P_choose_28 rfl (lv_at hl 0 rfl) ?_
          obtain ⟨r7, hr6, hf⟩ := ob hf
          refine ro_calli (va_runV (C := "GuideSearch$Cases") (As := [.int p1, .int r5]) (rest := []) ⟨hx, hb, hml, hown, hT⟩ (c_K_usable l dC dI cs a st p1 r5 r7 hr6) (cwV 2 hT (gV k_282 k_283 k_284 k_5 k_285) rfl rfl rfl (by decide +kernel) ⟨by first | omega | (dsimp only; omega), by first | omega | (dsimp only; omega)⟩) (ro_preV hP hK hN (va_recv hK hP (ci := 3) (q0 := 15) rfl rfl)) rfl rfl hl.1 rfl (lv_room (Nat.le_of_ble_eq_true rfl)) d_P_choose_29 ⟨Nat.le_of_ble_eq_true rfl, Nat.le_of_ble_eq_true rfl⟩) ?_
          refine lv_istore (lv' := [(4, .int r7), (3, .int r5), (0, .ref (a 16)), (1, .int p1), (2, .int p2)]) hx hb d_P_choose_32 hl (by decide) rfl (fun ls hl => ?_)
          refine lv_aload_n hx hb d_P_choose_34 rfl (lv_at hl 2 rfl) ?_
          refine va_get (D := (dC, dI)) (ci := 4) (v := .ref (a 15)) (C := "GuideSearch$Plan") (T := F_P) (N := 9) hx hb hT i_P hown hK hP 16 rfl rfl 0 (by decide) (hT _ k_98) (fun _ h9 => h9) rfl d_P_choose_35 ?_
          refine lv_iload hx hb d_P_choose_38 (lv_at hl 0 rfl) ?_
          obtain ⟨r9, hr8, hf⟩ := ob hf
          refine ro_calli (va_runV (C := "GuideSearch$Cases") (As := [.int r7]) (rest := []) ⟨hx, hb, hml, hown, hT⟩ (c_K_firstFree l dC dI cs a st r7 r9 hr8) (cwV 1 hT (gV k_296 k_297 k_298 k_5 k_299) rfl rfl rfl (by decide +kernel) ⟨by first | omega | (dsimp only; omega), by first | omega | (dsimp only; omega)⟩) (ro_preV hP hK hN (va_recv hK hP (ci := 3) (q0 := 15) rfl rfl)) rfl rfl hl.1 rfl (lv_room (Nat.le_of_ble_eq_true rfl)) d_P_choose_40 ⟨Nat.le_of_ble_eq_true rfl, Nat.le_of_ble_eq_true rfl⟩) ?_
          refine lv_istore (lv' := [(5, .int r9), (4, .int r7), (3, .int r5), (0, .ref (a 16)), (1, .int p1), (2, .int p2)]) hx hb d_P_choose_43 hl (by decide) rfl (fun ls hl => ?_)
          refine lv_iload hx hb d_P_choose_45 (lv_at hl 0 rfl) ?_
          have join1 : ∀ (v10 : Int32), x_P_choose_J1 st p1 p2 rf r5 v10 = some res → ∀ (ls : Array Slot), lv_has ls 15 [(3, .int r5), (0, .ref (a 16)), (1, .int p1), (2, .int p2)] → W p l e { frames := 2 * (d + 1) + 4, cells := 0, slots := 0, locals := 61 * (d + 1) + 92 } s m ([.ref (a 16), .int p1, .int p2] : List Value).toArray below meth c H locs 0 0 (MQ below (va_Qv (fun _ : Unit => True) (fun _ t => va_P (dC, dI) vwCl (x_W cs a res) t.heap) (x_A a)) ([.ref (a 16), .int p1, .int p2] : List Value).toArray s 0 0 (x_A a)) (F0 m 60 ls [.int v10]) := by
            intro v10 hf ls hl
            unfold x_P_choose_J1 at hf
            refine lv_istore (lv' := [(6, .int v10), (3, .int r5), (0, .ref (a 16)), (1, .int p1), (2, .int p2)]) hx hb d_P_choose_60 hl (by decide) rfl (fun ls hl => ?_)
            refine lv_aload_n hx hb d_P_choose_62 rfl (lv_at hl 2 rfl) ?_
            refine lv_iload_n hx hb d_P_choose_63 rfl (lv_at hl 4 rfl) ?_
            obtain ⟨r12, hr11, hf⟩ := ob hf
            refine ro_calll (va_runV (C := "GuideSearch$Plan") (As := [.int p2]) (rest := []) ⟨hx, hb, hml, hown, hT⟩ (c_P_weightAt l dC dI cs a st p2 r12 hr11) (cwV 1 hT (gV k_305 k_307 ks_4 k_6 k_308) rfl rfl rfl (by decide +kernel) ⟨by first | omega | (dsimp only; omega), by first | omega | (dsimp only; omega)⟩) (ro_preV hP hK hN (va_recv hK hP (ci := 4) (q0 := 16) rfl rfl)) rfl rfl hl.1 rfl (lv_room (Nat.le_of_ble_eq_true rfl)) d_P_choose_64 ⟨Nat.le_of_ble_eq_true rfl, Nat.le_of_ble_eq_true rfl⟩) ?_
            refine lv_lstore (lv' := [(7, .long r12), (6, .int v10), (3, .int r5), (0, .ref (a 16)), (1, .int p1), (2, .int p2)]) hx hb d_P_choose_67 hl (by decide) rfl (fun ls hl => ?_)
            refine lv_iconst (v := (0 : Int32)) hx hb d_P_choose_69 (by decide) ?_
            refine lv_istore (lv' := [(9, .int (0 : Int32)), (7, .long r12), (6, .int v10), (3, .int r5), (0, .ref (a 16)), (1, .int p1), (2, .int p2)]) hx hb d_P_choose_70 hl (by decide) rfl (fun ls hl => ?_)
            refine lv_sipush (v := (300 : Int32)) hx hb d_P_choose_72 (by decide) ?_
            refine lv_iload_n hx hb d_P_choose_75 rfl (lv_at hl 3 rfl) ?_
            obtain ⟨r14, hr13, hf⟩ := ob hf
            refine ro_calli (va_runS (As := [.int r5]) (rest := [.int (300 : Int32)]) ⟨hx, hb, hml, hown, hT⟩ (c_JI_bitCount l r5 r14 hr13) (va_cwS 1 hT (gS k_309 k_228 k_8 k_229) rfl rfl rfl (by decide +kernel) ⟨by first | omega | (dsimp only; omega), by first | omega | (dsimp only; omega)⟩) ⟨fun _ _ _ _ q => q, fun _ _ _ => ⟨rfl, trivial⟩⟩ rfl rfl hl.1 rfl (lv_room (Nat.le_of_ble_eq_true rfl)) d_P_choose_76 ⟨Nat.le_of_ble_eq_true rfl, Nat.le_of_ble_eq_true rfl⟩) ?_
            refine lv_iconst (v := (1 : Int32)) hx hb d_P_choose_79 (by decide) ?_
            refine lv_isub hx hb d_P_choose_80 ?_
            refine lv_iconst (v := (0 : Int32)) hx hb d_P_choose_81 (by decide) ?_
            refine va_mmax hx hb (hml.trans hl.1.symm) hown (hT _ k_310) (hT _ k_311) (hT _ k_9) (hT _ k_312) (Nat.le_of_ble_eq_true rfl) (Nat.le_of_ble_eq_true rfl) (Nat.le_of_ble_eq_true rfl) (Nat.le_of_ble_eq_true rfl) d_P_choose_82 ?_
            refine lv_imul hx hb d_P_choose_85 ?_
            refine lv_i2l (v := ((300 : Int32) * (if (r14 - (1 : Int32)) < (0 : Int32) then (0 : Int32) else (r14 - (1 : Int32)))).toInt64) hx hb d_P_choose_86 rfl ?_
            refine lv_lload hx hb d_P_choose_87 (lv_at hl 1 rfl) ?_
            refine lv_lmul hx hb d_P_choose_89 ?_
            refine lv_lstore (lv' := [(10, .long (((300 : Int32) * (if (r14 - (1 : Int32)) < (0 : Int32) then (0 : Int32) else (r14 - (1 : Int32)))).toInt64 * r12)), (9, .int (0 : Int32)), (7, .long r12), (6, .int v10), (3, .int r5), (0, .ref (a 16)), (1, .int p1), (2, .int p2)]) hx hb d_P_choose_90 hl (by decide) rfl (fun ls hl => ?_)
            refine lv_iconst (v := (1 : Int32)) hx hb d_P_choose_92 (by decide) ?_
            refine lv_istore (lv' := [(12, .int (1 : Int32)), (10, .long (((300 : Int32) * (if (r14 - (1 : Int32)) < (0 : Int32) then (0 : Int32) else (r14 - (1 : Int32)))).toInt64 * r12)), (9, .int (0 : Int32)), (7, .long r12), (6, .int v10), (3, .int r5), (0, .ref (a 16)), (1, .int p1), (2, .int p2)]) hx hb d_P_choose_93 hl (by decide) rfl (fun ls hl => ?_)
            have loop2 : ∀ (n : Nat) (v15 : Int32) (v16 : Int64) (v17 : Int32) (s18 : XS), xl4 (x_P_choose_B2 p1 p2 rf v10 r12) n v15 v16 v17 s18 = some res → ∀ (H : Heap) (locs : List Loc), va_P (dC, dI) vwCl (x_W cs a s18) H → va_S (x_A a) s.heap H locs → ∀ (ls : Array Slot), lv_has ls 15 [(12, .int v15), (10, .long v16), (9, .int v17), (7, .long r12), (6, .int v10), (0, .ref (a 16)), (1, .int p1), (2, .int p2)] → W p l e { frames := 2 * (d + 1) + 4, cells := 0, slots := 0, locals := 61 * (d + 1) + 92 } s m ([.ref (a 16), .int p1, .int p2] : List Value).toArray below meth c H locs 0 0 (MQ below (va_Qv (fun _ : Unit => True) (fun _ t => va_P (dC, dI) vwCl (x_W cs a res) t.heap) (x_A a)) ([.ref (a 16), .int p1, .int p2] : List Value).toArray s 0 0 (x_A a)) (F0 m 95 ls []) := by
              intro n
              induction n with
              | zero => intro v15 v16 v17 s18 hf; exact absurd hf (by simp [xl4])
              | succ n ih2 =>
                intro v15 v16 v17 s18 hf H locs hP hS ls hl
                replace hf : (x_P_choose_B2 p1 p2 rf v10 r12) (xl4 (x_P_choose_B2 p1 p2 rf v10 r12) n) v15 v16 v17 s18 = some res := hf
                generalize xl4 (x_P_choose_B2 p1 p2 rf v10 r12) n = self2 at hf ih2
                unfold x_P_choose_B2 at hf
                refine lv_iload hx hb d_P_choose_95 (lv_at hl 0 rfl) ?_
                refine lv_iconst (v := (5 : Int32)) hx hb d_P_choose_97 (by decide) ?_
                refine lv_icmp_gt (tgt := 168) hx hb d_P_choose_98 (by decide) (fun c19 => ?_) (fun c19 => ?_)
                · rw [if_pos c19] at hf
                  refine lv_aload_n hx hb d_P_choose_168 rfl (lv_at hl 5 rfl) ?_
                  refine va_get (D := (dC, dI)) (ci := 4) (v := .ref (a 17)) (C := "GuideSearch$Plan") (T := F_P) (N := 9) hx hb hT i_P hown hK hP 16 rfl rfl 1 (by decide) (hT _ k_99) (fun _ h9 => h9) rfl d_P_choose_169 ?_
                  refine lv_iload_n hx hb d_P_choose_172 rfl (lv_at hl 6 rfl) ?_
                  refine lv_lload hx hb d_P_choose_173 (lv_at hl 1 rfl) ?_
                  obtain ⟨j20, ej22, hi21, hf⟩ := ix_some hf
                  refine xa_last hx hb hK hP (hD _) hS 17 0 rfl rfl ej22 hi21 d_P_choose_175 (fun H locs hP hS => ?_)
                  rw [x_val_put cs a s18 j20 v16] at hP
                  refine lv_aload_n hx hb d_P_choose_176 rfl (lv_at hl 5 rfl) ?_
                  refine va_get (D := (dC, dI)) (ci := 4) (v := .ref (a 18)) (C := "GuideSearch$Plan") (T := F_P) (N := 9) hx hb hT i_P hown hK hP 16 rfl rfl 2 (by decide) (hT _ k_100) (fun _ h9 => h9) rfl d_P_choose_177 ?_
                  refine lv_iload_n hx hb d_P_choose_180 rfl (lv_at hl 6 rfl) ?_
                  refine lv_iload hx hb d_P_choose_181 (lv_at hl 2 rfl) ?_
                  refine lv_i2b (v := v17.toInt8.toInt32) hx hb d_P_choose_183 rfl ?_
                  obtain ⟨j23, ej25, hi24, hf⟩ := ix_some hf
                  refine xa_bast hx hb hK hP (hD _) hS 18 2 rfl rfl ej25 hi24 d_P_choose_184 (fun H locs hP hS => ?_)
                  rw [x_pic_put cs a (x_val_s s18 j20 v16) j23 (vp_nar .byte v17.toInt8.toInt32)] at hP
                  exact W.vret hx hb hr (fun t ht _ => ⟨⟨(), rfl, trivial, x_fin ht (Option.some.inj hf) hP⟩, hS.F ht⟩) hS.2.2 d_P_choose_185
                · rw [if_neg c19] at hf
                  refine lv_iload hx hb d_P_choose_101 (lv_at hl 4 rfl) ?_
                  refine lv_iload hx hb d_P_choose_103 (lv_at hl 0 rfl) ?_
                  obtain ⟨r27, hr26, hf⟩ := ob hf
                  refine ro_calli (va_runSN (As := [.int v10, .int v15]) (rest := []) ⟨hx, hb, hml, hown, hT⟩ (c_G_holds l v10 v15 r27 hr26) ⟨va_cnB 2 hT (gcode k_218) rfl rfl rfl (hN _ k_313) (hT _ k_1) (by decide +kernel) ⟨by first | omega | (dsimp only; omega), by first | omega | (dsimp only; omega)⟩, hT _ k_217, trivial⟩ ⟨fun _ _ _ _ q => q, fun _ _ _ => ⟨rfl, trivial⟩⟩ rfl rfl hl.1 rfl (lv_room (Nat.le_of_ble_eq_true rfl)) d_P_choose_105 ⟨Nat.le_of_ble_eq_true rfl, Nat.le_of_ble_eq_true rfl⟩) ?_
                  refine lv_if_ne (tgt := 114) hx hb d_P_choose_108 (by decide) (fun c28 => ?_) (fun c28 => ?_)
                  · rw [if_neg c28] at hf
                    refine lv_aload_n hx hb d_P_choose_114 rfl (lv_at hl 5 rfl) ?_
                    refine va_get (D := (dC, dI)) (ci := 4) (v := .ref (a 15)) (C := "GuideSearch$Plan") (T := F_P) (N := 9) hx hb hT i_P hown hK hP 16 rfl rfl 0 (by decide) (hT _ k_98) (fun _ h9 => h9) rfl d_P_choose_115 ?_
                    refine va_getN (D := (dC, dI)) (ci := 3) (v := .ref (a 5)) (C := "GuideSearch$Cases") (T := F_K) (N := 2) hx hb hT i_K hown hK hP 15 rfl rfl 1 (by decide) (va_Nw.use rfl (hN _ k_83)) (fun _ h9 => h9) rfl d_P_choose_118 ?_
                    refine lv_iload hx hb d_P_choose_121 (lv_at hl 0 rfl) ?_
                    obtain ⟨r30, hr29, hf⟩ := ob hf
                    refine ro_calli (va_runV (C := "GuideSearch$Tests") (As := [.int v15]) (rest := []) ⟨hx, hb, hml, hown, hT⟩ (c_T_price l dC dI cs a s18 v15 r30 hr29) (cwV 1 hT (gV k_314 k_302 k_303 k_3 k_304) rfl rfl rfl (by decide +kernel) ⟨by first | omega | (dsimp only; omega), by first | omega | (dsimp only; omega)⟩) (ro_preV hP hK hN (va_recv hK hP (ci := 2) (q0 := 5) rfl rfl)) rfl rfl hl.1 rfl (lv_room (Nat.le_of_ble_eq_true rfl)) d_P_choose_123 ⟨Nat.le_of_ble_eq_true rfl, Nat.le_of_ble_eq_true rfl⟩) ?_
                    refine lv_i2l (v := r30.toInt64) hx hb d_P_choose_126 rfl ?_
                    refine lv_lload hx hb d_P_choose_127 (lv_at hl 3 rfl) ?_
                    refine lv_lmul hx hb d_P_choose_129 ?_
                    refine lv_aload_n hx hb d_P_choose_130 rfl (lv_at hl 5 rfl) ?_
                    refine lv_iload hx hb d_P_choose_131 (lv_at hl 0 rfl) ?_
                    refine lv_iload_n hx hb d_P_choose_133 rfl (lv_at hl 6 rfl) ?_
                    refine lv_iload_n hx hb d_P_choose_134 rfl (lv_at hl 7 rfl) ?_
                    obtain ⟨r33, s32, hr31, hf⟩ := bd2_some hf
                    refine rw_calll (va_runV (C := "GuideSearch$Plan") (As := [.int v15, .int p1, .int p2]) (rest := [.long (r30.toInt64 * r12)]) ⟨hx, hb, hml, hown, hT⟩ (c_P_valuesBehind l dC dI cs a hi d rf s18 v15 p1 p2 (r33, s32) hrec hr31) (cwV 3 hT (gV k_315 k_317 ks_5 k_6 k_318) rfl rfl rfl (by decide +kernel) ⟨by first | omega | (dsimp only; omega), by first | omega | (dsimp only; omega)⟩) (ro_preV hP hK hN (va_recv hK hP (ci := 4) (q0 := 16) rfl rfl)) rfl rfl hl.1 rfl (lv_room (Nat.le_of_ble_eq_true rfl)) d_P_choose_135 ⟨Nat.le_of_ble_eq_true rfl, Nat.le_of_ble_eq_true rfl⟩) hS (fun H locs hP hS => ?_)
                    refine lv_ladd hx hb d_P_choose_138 ?_
                    refine lv_lstore (lv' := [(13, .long ((r30.toInt64 * r12) + r33)), (12, .int v15), (10, .long v16), (9, .int v17), (7, .long r12), (6, .int v10), (0, .ref (a 16)), (1, .int p1), (2, .int p2)]) hx hb d_P_choose_139 hl (by decide) rfl (fun ls hl => ?_)
                    refine lv_iload hx hb d_P_choose_141 (lv_at hl 3 rfl) ?_
                    refine lv_if_eq (tgt := 154) hx hb d_P_choose_143 (by decide) (fun c34 => ?_) (fun c34 => ?_)
                    · rw [if_pos c34] at hf
                      refine lv_iload hx hb d_P_choose_154 (lv_at hl 1 rfl) ?_
                      refine lv_istore (lv' := [(9, .int v15), (13, .long ((r30.toInt64 * r12) + r33)), (12, .int v15), (10, .long v16), (7, .long r12), (6, .int v10), (0, .ref (a 16)), (1, .int p1), (2, .int p2)]) hx hb d_P_choose_156 hl (by decide) rfl (fun ls hl => ?_)
                      refine lv_lload hx hb d_P_choose_158 (lv_at hl 1 rfl) ?_
                      refine lv_lstore (lv' := [(10, .long ((r30.toInt64 * r12) + r33)), (9, .int v15), (13, .long ((r30.toInt64 * r12) + r33)), (12, .int v15), (7, .long r12), (6, .int v10), (0, .ref (a 16)), (1, .int p1), (2, .int p2)]) hx hb d_P_choose_160 hl (by decide) rfl (fun ls hl => ?_)
                      refine lv_iinc (v := (v15 + 1)) (lv' := [(12, .int (v15 + 1)), (10, .long ((r30.toInt64 * r12) + r33)), (9, .int v15), (13, .long ((r30.toInt64 * r12) + r33)), (7, .long r12), (6, .int v10), (0, .ref (a 16)), (1, .int p1), (2, .int p2)]) hx hb d_P_choose_162 hl (k := 3) rfl rfl (by decide) rfl (fun ls hl => ?_)
                      refine lv_goto (tgt := 95) hx hb d_P_choose_165 (by decide) ?_
                      exact ih2 (v15 + 1) ((r30.toInt64 * r12) + r33) v15 s32 hf _ _ hP hS ls (lv_sub hl [0, 1, 2, 4, 5, 6, 7, 8] rfl)
                    · rw [if_neg c34] at hf
                      refine lv_lload hx hb d_P_choose_146 (lv_at hl 0 rfl) ?_
                      refine lv_lload hx hb d_P_choose_148 (lv_at hl 2 rfl) ?_
                      refine W.lcmp hx hb d_P_choose_150 ?_
                      refine lv_if_ge (tgt := 162) hx hb d_P_choose_151 (by decide) (fun c35 => ?_) (fun c35 => ?_)
                      · rw [if_pos ((lg_cmp_ge _ _).mp c35)] at hf
                        refine lv_iinc (v := (v15 + 1)) (lv' := [(12, .int (v15 + 1)), (13, .long ((r30.toInt64 * r12) + r33)), (10, .long v16), (9, .int v17), (7, .long r12), (6, .int v10), (0, .ref (a 16)), (1, .int p1), (2, .int p2)]) hx hb d_P_choose_162 hl (k := 1) rfl rfl (by decide) rfl (fun ls hl => ?_)
                        refine lv_goto (tgt := 95) hx hb d_P_choose_165 (by decide) ?_
                        exact ih2 (v15 + 1) v16 v17 s32 hf _ _ hP hS ls (lv_sub hl [0, 2, 3, 4, 5, 6, 7, 8] rfl)
                      · rw [if_neg (mt (lg_cmp_ge _ _).mpr c35)] at hf
                        refine lv_iload hx hb d_P_choose_154 (lv_at hl 1 rfl) ?_
                        refine lv_istore (lv' := [(9, .int v15), (13, .long ((r30.toInt64 * r12) + r33)), (12, .int v15), (10, .long v16), (7, .long r12), (6, .int v10), (0, .ref (a 16)), (1, .int p1), (2, .int p2)]) hx hb d_P_choose_156 hl (by decide) rfl (fun ls hl => ?_)
                        refine lv_lload hx hb d_P_choose_158 (lv_at hl 1 rfl) ?_
                        refine lv_lstore (lv' := [(10, .long ((r30.toInt64 * r12) + r33)), (9, .int v15), (13, .long ((r30.toInt64 * r12) + r33)), (12, .int v15), (7, .long r12), (6, .int v10), (0, .ref (a 16)), (1, .int p1), (2, .int p2)]) hx hb d_P_choose_160 hl (by decide) rfl (fun ls hl => ?_)
                        refine lv_iinc (v := (v15 + 1)) (lv' := [(12, .int (v15 + 1)), (10, .long ((r30.toInt64 * r12) + r33)), (9, .int v15), (13, .long ((r30.toInt64 * r12) + r33)), (7, .long r12), (6, .int v10), (0, .ref (a 16)), (1, .int p1), (2, .int p2)]) hx hb d_P_choose_162 hl (k := 3) rfl rfl (by decide) rfl (fun ls hl => ?_)
                        refine lv_goto (tgt := 95) hx hb d_P_choose_165 (by decide) ?_
                        exact ih2 (v15 + 1) ((r30.toInt64 * r12) + r33) v15 s32 hf _ _ hP hS ls (lv_sub hl [0, 1, 2, 4, 5, 6, 7, 8] rfl)
                  · rw [if_pos c28] at hf
                    refine lv_goto (tgt := 162) hx hb d_P_choose_111 (by decide) ?_
                    refine lv_iinc (v := (v15 + 1)) (lv' := [(12, .int (v15 + 1)), (10, .long v16), (9, .int v17), (7, .long r12), (6, .int v10), (0, .ref (a 16)), (1, .int p1), (2, .int p2)]) hx hb d_P_choose_162 hl (k := 0) rfl rfl (by decide) rfl (fun ls hl => ?_)
                    refine lv_goto (tgt := 95) hx hb d_P_choose_165 (by decide) ?_
                    exact ih2 (v15 + 1) v16 v17 s18 hf _ _ hP hS ls (lv_sub hl [0, 1, 2, 3, 4, 5, 6, 7] rfl)
            exact loop2 _ (1 : Int32) (((300 : Int32) * (if (r14 - (1 : Int32)) < (0 : Int32) then (0 : Int32) else (r14 - (1 : Int32)))).toInt64 * r12) (0 : Int32) st hf _ _ hP hS ls (lv_sub hl [0, 1, 2, 3, 4, 6, 7, 8] rfl)
          refine lv_if_eq (tgt := 58) hx hb d_P_choose_47 (by decide) (fun c36 => ?_) (fun c36 => ?_)
          · rw [if_pos c36] at hf
            refine lv_iload hx hb d_P_choose_58 (lv_at hl 1 rfl) ?_
            exact join1 r7 hf ls (lv_sub hl [2, 3, 4, 5] rfl)
          · rw [if_neg c36] at hf
            refine lv_iload hx hb d_P_choose_50 (lv_at hl 0 rfl) ?_
            obtain ⟨r38, hr37, hf⟩ := ob hf
            refine ro_calli (va_runSN (As := [.int r9]) (rest := []) ⟨hx, hb, hml, hown, hT⟩ (c_G_bit l r9 r38 hr37) ⟨va_cnB 1 hT (gcode k_221) rfl rfl rfl (hN _ k_281) (hT _ k_1) (by decide +kernel) ⟨by first | omega | (dsimp only; omega), by first | omega | (dsimp only; omega)⟩, hT _ k_220, trivial⟩ ⟨fun _ _ _ _ q => q, fun _ _ _ => ⟨rfl, trivial⟩⟩ rfl rfl hl.1 rfl (lv_room (Nat.le_of_ble_eq_true rfl)) d_P_choose_52 ⟨Nat.le_of_ble_eq_true rfl, Nat.le_of_ble_eq_true rfl⟩) ?_
            refine lv_goto (tgt := 60) hx hb d_P_choose_55 (by decide) ?_
            exact join1 r38 hf ls (lv_sub hl [2, 3, 4, 5] rfl)
        · rw [if_neg c3] at hf
          exact W.vret hx hb hr (fun t ht _ => ⟨⟨(), rfl, trivial, x_fin ht (Option.some.inj hf) hP⟩, hS.F ht⟩) hS.2.2 d_P_choose_16
  exact main _ _ hP va_S.rf
theorem c_P_choose (l : Launch) (dC : Nat → ClassId) (dI : Nat → Nat → Nat) (cs : Nat → ClassId) (a : Nat → Nat) (hi : ∀ i j : Nat, i < 29 → j < 29 → a i = a j → i = j) : ∀ (d : Nat) (st : XS) (p1 p2 : Int32) (res : XS), x_P_choose d st p1 p2 = some res → Met l (⟨"GuideSearch$Plan", "choose", "(II)V"⟩ : MethodName) (Cond.code (⟨"GuideSearch$Plan", "choose", "(II)V"⟩ : MethodName) prog_4_method_9_code 15 none :: wg) ({ frames := 2 * d + 4, cells := 0, slots := 0, locals := 61 * d + 92 }) (va_Pc [.ref (a 16), .int p1, .int p2] (x_pre dC dI cs a st)) (va_Qv (fun _ : Unit => True) (fun _ t => va_P (dC, dI) vwCl (x_W cs a res) t.heap) (x_A a)) 0 0 (x_A a) := by
  intro d
  induction d with
  | zero => intro st p1 p2 res hf; exact absurd hf (by simp [x_P_choose])
  | succ d ih => intro st p1 p2 res hf; exact c_P_choose_b l dC dI cs a hi d (x_P_choose d) st p1 p2 res ih hf
set_option maxHeartbeats 4000000 in
set_option maxRecDepth 100000 in
theorem c_P_keep_b (l : Launch) (dC : Nat → ClassId) (dI : Nat → Nat → Nat) (cs : Nat → ClassId) (a : Nat → Nat) (hi : ∀ i j : Nat, i < 29 → j < 29 → a i = a j → i = j) (d : Nat) (rf : XS → Int32 → Int32 → Int32 → Option (XS)) (st : XS) (p1 : Int32) (p2 : Int32) (p3 : Int32) (res : XS) (hrec : ∀ (st : XS) (p1 p2 p3 : Int32) (res : XS), rf st p1 p2 p3 = some res → Met l (⟨"GuideSearch$Plan", "keep", "(III)V"⟩ : MethodName) (Cond.code (⟨"GuideSearch$Plan", "keep", "(III)V"⟩ : MethodName) prog_4_method_11_code 7 none :: wg) ({ frames := d + 4, cells := 0, slots := 0, locals := 26 * d + 92 }) (va_Pc [.ref (a 16), .int p1, .int p2, .int p3] (x_pre dC dI cs a st)) (va_Qv (fun _ : Unit => True) (fun _ t => va_P (dC, dI) vwCl (x_W cs a res) t.heap) (x_A a)) 0 0 (x_A a)) (hf : x_P_keep_b rf st p1 p2 p3 = some res) : Met l (⟨"GuideSearch$Plan", "keep", "(III)V"⟩ : MethodName) (Cond.code (⟨"GuideSearch$Plan", "keep", "(III)V"⟩ : MethodName) prog_4_method_11_code 7 none :: wg) { frames := (d + 1) + 4, cells := 0, slots := 0, locals := 26 * (d + 1) + 92 } (va_Pc ([.ref (a 16), .int p1, .int p2, .int p3] : List Value) (x_pre dC dI cs a st)) (va_Qv (fun _ : Unit => True) (fun _ t => va_P (dC, dI) vwCl (x_W cs a res) t.heap) (x_A a)) 0 0 (x_A a) := by
  refine ro_start (cc := prog_4_method_11_code) (maxL := 7) (ret := none) (by decide) (Nat.le_of_ble_eq_true rfl) ?_
  intro p e s m below meth c hx hb hr hml hT hown hlocks hB ls hl
  replace hown : s.vm.findClass "GuideSearch$Plan" = some m.cls := hown
  obtain ⟨hP, hK, hN⟩ := hB
  replace hl : lv_has ls 7 [(0, .ref (a 16)), (1, .int p1), (2, .int p2), (3, .int p3)] := hl
  unfold x_P_keep_b at hf
  have hD : ∀ st : XS, va_D (x_A a) (x_W cs a st) := fun st => x_D hi cs st
  have main : ∀ (H : Heap) (locs : List Loc), va_P (dC, dI) vwCl (x_W cs a st) H → va_S (x_A a) s.heap H locs → W p l e { frames := (d + 1) + 4, cells := 0, slots := 0, locals := 26 * (d + 1) + 92 } s m ([.ref (a 16), .int p1, .int p2, .int p3] : List Value).toArray below meth c H locs 0 0 (MQ below (va_Qv (fun _ : Unit => True) (fun _ t => va_P (dC, dI) vwCl (x_W cs a res) t.heap) (x_A a)) ([.ref (a 16), .int p1, .int p2, .int p3] : List Value).toArray s 0 0 (x_A a)) (F0 m 0 ls []) := by
    intro H locs hP hS
    refine lv_aload_n hx hb d_P_keep_0 rfl (lv_at hl 0 rfl) ?_
    refine lv_iload_n hx hb d_P_keep_1 rfl (lv_at hl 3 rfl) ?_
    obtain ⟨r2, hr1, hf⟩ := ob hf
    refine ro_calli (va_runV (C := "GuideSearch$Plan") (As := [.int p3]) (rest := []) ⟨hx, hb, hml, hown, hT⟩ (c_P_leftAt l dC dI cs a st p3 r2 hr1) (cwV 1 hT (gV k_277 k_279 ks_3 k_6 k_280) rfl rfl rfl (by decide +kernel) ⟨by first | omega | (dsimp only; omega), by first | omega | (dsimp only; omega)⟩) (ro_preV hP hK hN (va_recv hK hP (ci := 4) (q0 := 16) rfl rfl)) rfl rfl hl.1 rfl (lv_room (Nat.le_of_ble_eq_true rfl)) d_P_keep_2 ⟨Nat.le_of_ble_eq_true rfl, Nat.le_of_ble_eq_true rfl⟩) ?_
    obtain ⟨r4, hr3, hf⟩ := ob hf
    refine ro_calli (va_runS (As := [.int r2]) (rest := []) ⟨hx, hb, hml, hown, hT⟩ (c_JI_bitCount l r2 r4 hr3) (va_cwS 1 hT (gS k_309 k_228 k_8 k_229) rfl rfl rfl (by decide +kernel) ⟨by first | omega | (dsimp only; omega), by first | omega | (dsimp only; omega)⟩) ⟨fun _ _ _ _ q => q, fun _ _ _ => ⟨rfl, trivial⟩⟩ rfl rfl hl.1 rfl (lv_room (Nat.le_of_ble_eq_true rfl)) d_P_keep_5 ⟨Nat.le_of_ble_eq_true rfl, Nat.le_of_ble_eq_true rfl⟩) ?_
    refine lv_istore (lv' := [(4, .int r4), (0, .ref (a 16)), (1, .int p1), (2, .int p2), (3, .int p3)]) hx hb d_P_keep_8 hl (by decide) rfl (fun ls hl => ?_)
    refine lv_iload hx hb d_P_keep_10 (lv_at hl 0 rfl) ?_
    refine lv_if_eq (tgt := 36) hx hb d_P_keep_12 (by decide) (fun c5 => ?_) (fun c5 => ?_)
    · rw [if_pos c5] at hf
      exact W.vret hx hb hr (fun t ht _ => ⟨⟨(), rfl, trivial, x_fin ht (Option.some.inj hf) hP⟩, hS.F ht⟩) hS.2.2 d_P_keep_36
    · rw [if_neg c5] at hf
      refine lv_aload_n hx hb d_P_keep_15 rfl (lv_at hl 1 rfl) ?_
      refine va_get (D := (dC, dI)) (ci := 4) (v := .int (x_nod st)) (C := "GuideSearch$Plan") (T := F_P) (N := 9) hx hb hT i_P hown hK hP 16 rfl rfl 7 (by decide) (hT _ k_105) (fun _ h9 => h9) rfl d_P_keep_16 ?_
      refine lv_sipush (v := (300 : Int32)) hx hb d_P_keep_19 (by decide) ?_
      refine lv_icmp_ge (tgt := 36) hx hb d_P_keep_22 (by decide) (fun c6 => ?_) (fun c6 => ?_)
      · rw [if_pos c6] at hf
        exact W.vret hx hb hr (fun t ht _ => ⟨⟨(), rfl, trivial, x_fin ht (Option.some.inj hf) hP⟩, hS.F ht⟩) hS.2.2 d_P_keep_36
      · rw [if_neg c6] at hf
        refine lv_iload_n hx hb d_P_keep_25 rfl (lv_at hl 2 rfl) ?_
        refine lv_if_lt (tgt := 36) hx hb d_P_keep_26 (by decide) (fun c7 => ?_) (fun c7 => ?_)
        · rw [if_pos c7] at hf
          exact W.vret hx hb hr (fun t ht _ => ⟨⟨(), rfl, trivial, x_fin ht (Option.some.inj hf) hP⟩, hS.F ht⟩) hS.2.2 d_P_keep_36
        · rw [if_neg c7] at hf
          refine lv_iload_n hx hb d_P_keep_29 rfl (lv_at hl 2 rfl) ?_
          refine lv_sipush (v := (1024 : Int32)) hx hb d_P_keep_30 (by decide) ?_
          refine lv_icmp_lt (tgt := 37) hx hb d_P_keep_33 (by decide) (fun c8 => ?_) (fun c8 => ?_)
          · rw [if_pos c8] at hf
            refine lv_aload_n hx hb d_P_keep_37 rfl (lv_at hl 1 rfl) ?_
            refine va_get (D := (dC, dI)) (ci := 4) (v := .ref (a 18)) (C := "GuideSearch$Plan") (T := F_P) (N := 9) hx hb hT i_P hown hK hP 16 rfl rfl 2 (by decide) (hT _ k_100) (fun _ h9 => h9) rfl d_P_keep_38 ?_
            refine lv_iload_n hx hb d_P_keep_41 rfl (lv_at hl 2 rfl) ?_
            obtain ⟨j9, ej11, hi10, hf⟩ := ix_some hf
            refine xa_bald hx hb hK hP 18 2 rfl rfl ej11 hi10 d_P_keep_42 ?_
            refine lv_istore (lv' := [(5, .int (x_pic st j9)), (4, .int r4), (0, .ref (a 16)), (1, .int p1), (2, .int p2), (3, .int p3)]) hx hb d_P_keep_43 hl (by decide) rfl (fun ls hl => ?_)
            refine lv_aload_n hx hb d_P_keep_45 rfl (lv_at hl 2 rfl) ?_
            refine va_get (D := (dC, dI)) (ci := 4) (v := .ref (a 26)) (C := "GuideSearch$Plan") (T := F_P) (N := 9) hx hb hT i_P hown hK hP 16 rfl rfl 4 (by decide) (hT _ k_102) (fun _ h9 => h9) rfl d_P_keep_46 ?_
            refine lv_aload_n hx hb d_P_keep_49 rfl (lv_at hl 2 rfl) ?_
            refine va_get (D := (dC, dI)) (ci := 4) (v := .int (x_nod st)) (C := "GuideSearch$Plan") (T := F_P) (N := 9) hx hb hT i_P hown hK hP 16 rfl rfl 7 (by decide) (hT _ k_105) (fun _ h9 => h9) rfl d_P_keep_50 ?_
            refine lv_iload hx hb d_P_keep_53 (lv_at hl 0 rfl) ?_
            refine lv_i2b (v := (x_pic st j9).toInt8.toInt32) hx hb d_P_keep_55 rfl ?_
            obtain ⟨j12, ej14, hi13, hf⟩ := ix_some hf
            refine xa_bast hx hb hK hP (hD _) hS 26 2 rfl rfl ej14 hi13 d_P_keep_56 (fun H locs hP hS => ?_)
            rw [x_nT_put cs a st j12 (vp_nar .byte (x_pic st j9).toInt8.toInt32)] at hP
            refine lv_aload_n hx hb d_P_keep_57 rfl (lv_at hl 2 rfl) ?_
            refine va_get (D := (dC, dI)) (ci := 4) (v := .ref (a 27)) (C := "GuideSearch$Plan") (T := F_P) (N := 9) hx hb hT i_P hown hK hP 16 rfl rfl 5 (by decide) (hT _ k_103) (fun _ h9 => h9) rfl d_P_keep_58 ?_
            refine lv_aload_n hx hb d_P_keep_61 rfl (lv_at hl 2 rfl) ?_
            refine va_get (D := (dC, dI)) (ci := 4) (v := .int (x_nod (x_nT_s st j12 (vp_nar .byte (x_pic st j9).toInt8.toInt32)))) (C := "GuideSearch$Plan") (T := F_P) (N := 9) hx hb hT i_P hown hK hP 16 rfl rfl 7 (by decide) (hT _ k_105) (fun _ h9 => h9) rfl d_P_keep_62 ?_
            refine lv_iload hx hb d_P_keep_65 (lv_at hl 1 rfl) ?_
            refine lv_i2b (v := r4.toInt8.toInt32) hx hb d_P_keep_67 rfl ?_
            obtain ⟨j15, ej17, hi16, hf⟩ := ix_some hf
            refine xa_bast hx hb hK hP (hD _) hS 27 2 rfl rfl ej17 hi16 d_P_keep_68 (fun H locs hP hS => ?_)
            rw [x_nL_put cs a (x_nT_s st j12 (vp_nar .byte (x_pic st j9).toInt8.toInt32)) j15 (vp_nar .byte r4.toInt8.toInt32)] at hP
            refine lv_aload_n hx hb d_P_keep_69 rfl (lv_at hl 2 rfl) ?_
            refine va_get (D := (dC, dI)) (ci := 4) (v := .ref (a 28)) (C := "GuideSearch$Plan") (T := F_P) (N := 9) hx hb hT i_P hown hK hP 16 rfl rfl 6 (by decide) (hT _ k_104) (fun _ h9 => h9) rfl d_P_keep_70 ?_
            refine lv_aload_n hx hb d_P_keep_73 rfl (lv_at hl 2 rfl) ?_
            refine va_get (D := (dC, dI)) (ci := 4) (v := .int (x_nod (x_nL_s (x_nT_s st j12 (vp_nar .byte (x_pic st j9).toInt8.toInt32)) j15 (vp_nar .byte r4.toInt8.toInt32)))) (C := "GuideSearch$Plan") (T := F_P) (N := 9) hx hb hT i_P hown hK hP 16 rfl rfl 7 (by decide) (hT _ k_105) (fun _ h9 => h9) rfl d_P_keep_74 ?_
            refine lv_iload_n hx hb d_P_keep_77 rfl (lv_at hl 4 rfl) ?_
            refine lv_i2b (v := p2.toInt8.toInt32) hx hb d_P_keep_78 rfl ?_
            obtain ⟨j18, ej20, hi19, hf⟩ := ix_some hf
            refine xa_bast hx hb hK hP (hD _) hS 28 2 rfl rfl ej20 hi19 d_P_keep_79 (fun H locs hP hS => ?_)
            rw [x_nA_put cs a (x_nL_s (x_nT_s st j12 (vp_nar .byte (x_pic st j9).toInt8.toInt32)) j15 (vp_nar .byte r4.toInt8.toInt32)) j18 (vp_nar .byte p2.toInt8.toInt32)] at hP
            refine lv_aload_n hx hb d_P_keep_80 rfl (lv_at hl 2 rfl) ?_
            refine lv_dup hx hb d_P_keep_81 rfl ?_
            refine va_get (D := (dC, dI)) (ci := 4) (v := .int (x_nod (x_nA_s (x_nL_s (x_nT_s st j12 (vp_nar .byte (x_pic st j9).toInt8.toInt32)) j15 (vp_nar .byte r4.toInt8.toInt32)) j18 (vp_nar .byte p2.toInt8.toInt32)))) (C := "GuideSearch$Plan") (T := F_P) (N := 9) hx hb hT i_P hown hK hP 16 rfl rfl 7 (by decide) (hT _ k_105) (fun _ h9 => h9) rfl d_P_keep_82 ?_
            refine lv_iconst (v := (1 : Int32)) hx hb d_P_keep_85 (by decide) ?_
            refine lv_iadd hx hb d_P_keep_86 ?_
            refine va_put (D := (dC, dI)) (ci := 4) (v := .int ((x_nod (x_nA_s (x_nL_s (x_nT_s st j12 (vp_nar .byte (x_pic st j9).toInt8.toInt32)) j15 (vp_nar .byte r4.toInt8.toInt32)) j18 (vp_nar .byte p2.toInt8.toInt32))) + (1 : Int32))) (ty := .int) (C := "GuideSearch$Plan") (T := F_P) (N := 9) hx hb hT i_P ft_P ft_P_ok n_P hown hK hP (hD _) hS 16 rfl rfl 7 (by decide) (hT _ k_105) (fun _ h9 => h9) rfl (by decide +kernel) rfl rfl (Nat.le_of_ble_eq_true rfl) d_P_keep_87 (fun H locs hP _ hS => ?_)
            rw [x_nod_put cs a (x_nA_s (x_nL_s (x_nT_s st j12 (vp_nar .byte (x_pic st j9).toInt8.toInt32)) j15 (vp_nar .byte r4.toInt8.toInt32)) j18 (vp_nar .byte p2.toInt8.toInt32)) ((x_nod (x_nA_s (x_nL_s (x_nT_s st j12 (vp_nar .byte (x_pic st j9).toInt8.toInt32)) j15 (vp_nar .byte r4.toInt8.toInt32)) j18 (vp_nar .byte p2.toInt8.toInt32))) + (1 : Int32))] at hP
            refine lv_iconst (v := (0 : Int32)) hx hb d_P_keep_90 (by decide) ?_
            refine lv_istore (lv' := [(6, .int (0 : Int32)), (5, .int (x_pic st j9)), (4, .int r4), (0, .ref (a 16)), (1, .int p1), (2, .int p2), (3, .int p3)]) hx hb d_P_keep_91 hl (by decide) rfl (fun ls hl => ?_)
            have loop1 : ∀ (n : Nat) (v21 : Int32) (s22 : XS), xl2 (x_P_keep_B1 st p1 p3 rf j9) n v21 s22 = some res → ∀ (H : Heap) (locs : List Loc), va_P (dC, dI) vwCl (x_W cs a s22) H → va_S (x_A a) s.heap H locs → ∀ (ls : Array Slot), lv_has ls 7 [(6, .int v21), (5, .int (x_pic st j9)), (0, .ref (a 16)), (1, .int p1), (3, .int p3)] → W p l e { frames := (d + 1) + 4, cells := 0, slots := 0, locals := 26 * (d + 1) + 92 } s m ([.ref (a 16), .int p1, .int p2, .int p3] : List Value).toArray below meth c H locs 0 0 (MQ below (va_Qv (fun _ : Unit => True) (fun _ t => va_P (dC, dI) vwCl (x_W cs a res) t.heap) (x_A a)) ([.ref (a 16), .int p1, .int p2, .int p3] : List Value).toArray s 0 0 (x_A a)) (F0 m 93 ls []) := by
              intro n
              induction n with
              | zero => intro v21 s22 hf; exact absurd hf (by simp [xl2])
              | succ n ih1 =>
                intro v21 s22 hf H locs hP hS ls hl
                replace hf : (x_P_keep_B1 st p1 p3 rf j9) (xl2 (x_P_keep_B1 st p1 p3 rf j9) n) v21 s22 = some res := hf
                generalize xl2 (x_P_keep_B1 st p1 p3 rf j9) n = self1 at hf ih1
                unfold x_P_keep_B1 at hf
                refine lv_iload hx hb d_P_keep_93 (lv_at hl 0 rfl) ?_
                refine lv_iconst (v := (3 : Int32)) hx hb d_P_keep_95 (by decide) ?_
                refine lv_icmp_ge (tgt := 141) hx hb d_P_keep_96 (by decide) (fun c23 => ?_) (fun c23 => ?_)
                · rw [if_pos c23] at hf
                  exact W.vret hx hb hr (fun t ht _ => ⟨⟨(), rfl, trivial, x_fin ht (Option.some.inj hf) hP⟩, hS.F ht⟩) hS.2.2 d_P_keep_141
                · rw [if_neg c23] at hf
                  refine lv_iload hx hb d_P_keep_99 (lv_at hl 1 rfl) ?_
                  refine lv_if_eq (tgt := 141) hx hb d_P_keep_101 (by decide) (fun c24 => ?_) (fun c24 => ?_)
                  · rw [if_pos c24] at hf
                    exact W.vret hx hb hr (fun t ht _ => ⟨⟨(), rfl, trivial, x_fin ht (Option.some.inj hf) hP⟩, hS.F ht⟩) hS.2.2 d_P_keep_141
                  · rw [if_neg c24] at hf
                    refine lv_iload_n hx hb d_P_keep_104 rfl (lv_at hl 4 rfl) ?_
                    refine lv_iconst (v := (5 : Int32)) hx hb d_P_keep_105 (by decide) ?_
                    refine lv_icmp_ge (tgt := 141) hx hb d_P_keep_106 (by decide) (fun c25 => ?_) (fun c25 => ?_)
                    · rw [if_pos c25] at hf
                      exact W.vret hx hb hr (fun t ht _ => ⟨⟨(), rfl, trivial, x_fin ht (Option.some.inj hf) hP⟩, hS.F ht⟩) hS.2.2 d_P_keep_141
                    · rw [if_neg c25] at hf
                      refine lv_aload_n hx hb d_P_keep_109 rfl (lv_at hl 2 rfl) ?_
                      refine lv_iload hx hb d_P_keep_110 (lv_at hl 1 rfl) ?_
                      refine lv_iload hx hb d_P_keep_112 (lv_at hl 0 rfl) ?_
                      refine lv_iload_n hx hb d_P_keep_114 rfl (lv_at hl 4 rfl) ?_
                      obtain ⟨s27, hr26, hf⟩ := ob hf
                      refine rw_callv (va_runV (C := "GuideSearch$Plan") (As := [.int (x_pic st j9), .int v21, .int p3]) (rest := []) ⟨hx, hb, hml, hown, hT⟩ (c_P_weighBehind l dC dI cs a hi s22 (x_pic st j9) v21 p3 s27 hr26) (cwV 3 hT (gV k_322 k_324 ks_6 k_6 k_325) rfl rfl rfl (by decide +kernel) ⟨by first | omega | (dsimp only; omega), by first | omega | (dsimp only; omega)⟩) (ro_preV hP hK hN (va_recv hK hP (ci := 4) (q0 := 16) rfl rfl)) rfl rfl hl.1 rfl (lv_room (Nat.le_of_ble_eq_true rfl)) d_P_keep_115 ⟨Nat.le_of_ble_eq_true rfl, Nat.le_of_ble_eq_true rfl⟩) hS (fun H locs hP hS => ?_)
                      refine lv_aload_n hx hb d_P_keep_118 rfl (lv_at hl 2 rfl) ?_
                      refine lv_iload_n hx hb d_P_keep_119 rfl (lv_at hl 3 rfl) ?_
                      refine lv_iload hx hb d_P_keep_120 (lv_at hl 1 rfl) ?_
                      refine lv_iload hx hb d_P_keep_122 (lv_at hl 0 rfl) ?_
                      obtain ⟨r29, hr28, hf⟩ := ob hf
                      refine ro_calli (va_runSN (As := [.int p1, .int (x_pic st j9), .int v21]) (rest := [.ref (a 16)]) ⟨hx, hb, hml, hown, hT⟩ (c_G_withAnswer l p1 (x_pic st j9) v21 r29 hr28) ⟨va_cnB 3 hT (gcode k_321) rfl rfl rfl (hN _ k_319) (hT _ k_1) (by decide +kernel) ⟨by first | omega | (dsimp only; omega), by first | omega | (dsimp only; omega)⟩, hT _ k_320, trivial⟩ ⟨fun _ _ _ _ q => q, fun _ _ _ => ⟨rfl, trivial⟩⟩ rfl rfl hl.1 rfl (lv_room (Nat.le_of_ble_eq_true rfl)) d_P_keep_124 ⟨Nat.le_of_ble_eq_true rfl, Nat.le_of_ble_eq_true rfl⟩) ?_
                      refine lv_iload hx hb d_P_keep_127 (lv_at hl 0 rfl) ?_
                      refine lv_iload_n hx hb d_P_keep_129 rfl (lv_at hl 4 rfl) ?_
                      refine lv_iconst (v := (1 : Int32)) hx hb d_P_keep_130 (by decide) ?_
                      refine lv_iadd hx hb d_P_keep_131 ?_
                      obtain ⟨s31, hr30, hf⟩ := ob hf
                      refine rw_callv (va_runV (C := "GuideSearch$Plan") (As := [.int r29, .int v21, .int (p3 + (1 : Int32))]) (rest := []) ⟨hx, hb, hml, hown, hT⟩ (hrec s27 r29 v21 (p3 + (1 : Int32)) s31 hr30) (cwV 3 hT (gV k_329 k_331 ks_7 k_6 k_332) rfl rfl rfl (by decide +kernel) ⟨by first | omega | (dsimp only; omega), by first | omega | (dsimp only; omega)⟩) (ro_preV hP hK hN (va_recv hK hP (ci := 4) (q0 := 16) rfl rfl)) rfl rfl hl.1 rfl (lv_room (Nat.le_of_ble_eq_true rfl)) d_P_keep_132 ⟨Nat.le_of_ble_eq_true rfl, Nat.le_of_ble_eq_true rfl⟩) hS (fun H locs hP hS => ?_)
                      refine lv_iinc (v := (v21 + 1)) (lv' := [(6, .int (v21 + 1)), (5, .int (x_pic st j9)), (0, .ref (a 16)), (1, .int p1), (3, .int p3)]) hx hb d_P_keep_135 hl (k := 0) rfl rfl (by decide) rfl (fun ls hl => ?_)
                      refine lv_goto (tgt := 93) hx hb d_P_keep_138 (by decide) ?_
                      exact ih1 (v21 + 1) s31 hf _ _ hP hS ls (lv_sub hl [0, 1, 2, 3, 4] rfl)
            exact loop1 _ (0 : Int32) (x_nod_s (x_nA_s (x_nL_s (x_nT_s st j12 (vp_nar .byte (x_pic st j9).toInt8.toInt32)) j15 (vp_nar .byte r4.toInt8.toInt32)) j18 (vp_nar .byte p2.toInt8.toInt32)) ((x_nod (x_nA_s (x_nL_s (x_nT_s st j12 (vp_nar .byte (x_pic st j9).toInt8.toInt32)) j15 (vp_nar .byte r4.toInt8.toInt32)) j18 (vp_nar .byte p2.toInt8.toInt32))) + (1 : Int32))) hf _ _ hP hS ls (lv_sub hl [0, 1, 3, 4, 6] rfl)
          · rw [if_neg c8] at hf
            exact W.vret hx hb hr (fun t ht _ => ⟨⟨(), rfl, trivial, x_fin ht (Option.some.inj hf) hP⟩, hS.F ht⟩) hS.2.2 d_P_keep_36
  exact main _ _ hP va_S.rf
theorem c_P_keep (l : Launch) (dC : Nat → ClassId) (dI : Nat → Nat → Nat) (cs : Nat → ClassId) (a : Nat → Nat) (hi : ∀ i j : Nat, i < 29 → j < 29 → a i = a j → i = j) : ∀ (d : Nat) (st : XS) (p1 p2 p3 : Int32) (res : XS), x_P_keep d st p1 p2 p3 = some res → Met l (⟨"GuideSearch$Plan", "keep", "(III)V"⟩ : MethodName) (Cond.code (⟨"GuideSearch$Plan", "keep", "(III)V"⟩ : MethodName) prog_4_method_11_code 7 none :: wg) ({ frames := d + 4, cells := 0, slots := 0, locals := 26 * d + 92 }) (va_Pc [.ref (a 16), .int p1, .int p2, .int p3] (x_pre dC dI cs a st)) (va_Qv (fun _ : Unit => True) (fun _ t => va_P (dC, dI) vwCl (x_W cs a res) t.heap) (x_A a)) 0 0 (x_A a) := by
  intro d
  induction d with
  | zero => intro st p1 p2 p3 res hf; exact absurd hf (by simp [x_P_keep])
  | succ d ih => intro st p1 p2 p3 res hf; exact c_P_keep_b l dC dI cs a hi d (x_P_keep d) st p1 p2 p3 res ih hf
set_option maxHeartbeats 4000000 in
set_option maxRecDepth 100000 in
theorem c_P_make (l : Launch) (dC : Nat → ClassId) (dI : Nat → Nat → Nat) (cs : Nat → ClassId) (a : Nat → Nat) (hi : ∀ i j : Nat, i < 29 → j < 29 → a i = a j → i = j) (st : XS) (p1 : Int32) (res : Int32 × XS) (hf : x_P_make st p1 = some res) : Met l (⟨"GuideSearch$Plan", "make", "(I)I"⟩ : MethodName) (Cond.code (⟨"GuideSearch$Plan", "make", "(I)I"⟩ : MethodName) prog_4_method_3_code 4 (some .int) :: wg) { frames := 21, cells := 0, slots := 0, locals := 614 } (va_Pc ([.ref (a 16), .int p1] : List Value) (x_pre dC dI cs a st)) (va_Qi (fun r (_ : Unit) => r = res.1) (fun _ t => va_P (dC, dI) vwCl (x_W cs a res.2) t.heap) (x_A a)) 0 0 (x_A a) := by
  refine ro_start (cc := prog_4_method_3_code) (maxL := 4) (ret := (some .int)) (by decide) (Nat.le_of_ble_eq_true rfl) ?_
  intro p e s m below meth c hx hb hr hml hT hown hlocks hB ls hl
  replace hown : s.vm.findClass "GuideSearch$Plan" = some m.cls := hown
  obtain ⟨hP, hK, hN⟩ := hB
  replace hl : lv_has ls 4 [(0, .ref (a 16)), (1, .int p1)] := hl
  unfold x_P_make at hf
  have hD : ∀ st : XS, va_D (x_A a) (x_W cs a st) := fun st => x_D hi cs st
  have main : ∀ (H : Heap) (locs : List Loc), va_P (dC, dI) vwCl (x_W cs a st) H → va_S (x_A a) s.heap H locs → W p l e { frames := 21, cells := 0, slots := 0, locals := 614 } s m ([.ref (a 16), .int p1] : List Value).toArray below meth c H locs 0 0 (MQ below (va_Qi (fun r (_ : Unit) => r = res.1) (fun _ t => va_P (dC, dI) vwCl (x_W cs a res.2) t.heap) (x_A a)) ([.ref (a 16), .int p1] : List Value).toArray s 0 0 (x_A a)) (F0 m 0 ls []) := by
    intro H locs hP hS
    refine lv_aload_n hx hb d_P_make_0 rfl (lv_at hl 0 rfl) ?_
    obtain ⟨s2, hr1, hf⟩ := ob hf
    refine rw_callv (va_runV (C := "GuideSearch$Plan") (As := []) (rest := []) ⟨hx, hb, hml, hown, hT⟩ (c_P_drop l dC dI cs a hi st s2 hr1) (cwV 0 hT (gV k_246 k_247 k_248 k_6 k_249) rfl rfl rfl (by decide +kernel) ⟨Nat.le_of_ble_eq_true rfl, Nat.le_of_ble_eq_true rfl⟩) (ro_preV hP hK hN (va_recv hK hP (ci := 4) (q0 := 16) rfl rfl)) rfl rfl hl.1 rfl (lv_room (Nat.le_of_ble_eq_true rfl)) d_P_make_1 ⟨Nat.le_of_ble_eq_true rfl, Nat.le_of_ble_eq_true rfl⟩) hS (fun H locs hP hS => ?_)
    refine lv_iload_n hx hb d_P_make_4 rfl (lv_at hl 1 rfl) ?_
    refine lv_if_lt (tgt := 15) hx hb d_P_make_5 (by decide) (fun c3 => ?_) (fun c3 => ?_)
    · rw [if_pos c3] at hf
      refine lv_iconst (v := (0 : Int32)) hx hb d_P_make_15 (by decide) ?_
      exact W.iret hx hb hr (fun t ht _ => ⟨⟨_, (), rfl, congrArg Prod.fst (Option.some.inj hf), x_fin ht (congrArg Prod.snd (Option.some.inj hf)) hP⟩, hS.F ht⟩) hS.2.2 d_P_make_16
    · rw [if_neg c3] at hf
      refine lv_iload_n hx hb d_P_make_8 rfl (lv_at hl 1 rfl) ?_
      refine lv_sipush (v := (1024 : Int32)) hx hb d_P_make_9 (by decide) ?_
      refine lv_icmp_lt (tgt := 17) hx hb d_P_make_12 (by decide) (fun c4 => ?_) (fun c4 => ?_)
      · rw [if_pos c4] at hf
        refine lv_aload_n hx hb d_P_make_17 rfl (lv_at hl 0 rfl) ?_
        refine va_get (D := (dC, dI)) (ci := 4) (v := .ref (a 17)) (C := "GuideSearch$Plan") (T := F_P) (N := 9) hx hb hT i_P hown hK hP 16 rfl rfl 1 (by decide) (hT _ k_99) (fun _ h9 => h9) rfl d_P_make_18 ?_
        refine lv_ldc2 (v := (-1 : Int64)) hx hb hown (hT _ k_97) d_P_make_21 ?_
        obtain ⟨s6, hr5, hf⟩ := ob hf
        refine rw_callv (va_runS (As := [.ref (a 17), .long (-1 : Int64)]) (rest := []) ⟨hx, hb, hml, hown, hT⟩ (c_JA_fill_J_val l dC dI cs a hi s2 (-1 : Int64) s6 hr5) (va_cwS 2 hT (gS k_250 k_251 k_4 k_252) rfl rfl rfl (by decide +kernel) ⟨Nat.le_of_ble_eq_true rfl, Nat.le_of_ble_eq_true rfl⟩) (ro_preS hP hK hN) rfl rfl hl.1 rfl (lv_room (Nat.le_of_ble_eq_true rfl)) d_P_make_24 ⟨Nat.le_of_ble_eq_true rfl, Nat.le_of_ble_eq_true rfl⟩) hS (fun H locs hP hS => ?_)
        refine lv_aload_n hx hb d_P_make_27 rfl (lv_at hl 0 rfl) ?_
        refine lv_iload_n hx hb d_P_make_28 rfl (lv_at hl 1 rfl) ?_
        obtain ⟨s8, hr7, hf⟩ := ob hf
        refine rw_callv (va_runV (C := "GuideSearch$Plan") (As := [.int p1]) (rest := []) ⟨hx, hb, hml, hown, hT⟩ (c_P_weighFirst l dC dI cs a hi s6 p1 s8 hr7) (cwV 1 hT (gV k_253 k_255 ks_1 k_6 k_256) rfl rfl rfl (by decide +kernel) ⟨Nat.le_of_ble_eq_true rfl, Nat.le_of_ble_eq_true rfl⟩) (ro_preV hP hK hN (va_recv hK hP (ci := 4) (q0 := 16) rfl rfl)) rfl rfl hl.1 rfl (lv_room (Nat.le_of_ble_eq_true rfl)) d_P_make_29 ⟨Nat.le_of_ble_eq_true rfl, Nat.le_of_ble_eq_true rfl⟩) hS (fun H locs hP hS => ?_)
        refine lv_aload_n hx hb d_P_make_32 rfl (lv_at hl 0 rfl) ?_
        refine lv_iload_n hx hb d_P_make_33 rfl (lv_at hl 1 rfl) ?_
        refine lv_iconst (v := (0 : Int32)) hx hb d_P_make_34 (by decide) ?_
        obtain ⟨s10, hr9, hf⟩ := ob hf
        refine rw_callv (va_runV (C := "GuideSearch$Plan") (As := [.int p1, .int (0 : Int32)]) (rest := []) ⟨hx, hb, hml, hown, hT⟩ (c_P_choose l dC dI cs a hi 8 s8 p1 (0 : Int32) s10 hr9) (cwV 2 hT (gV k_273 k_275 ks_2 k_6 k_276) rfl rfl rfl (by decide +kernel) ⟨Nat.le_of_ble_eq_true rfl, Nat.le_of_ble_eq_true rfl⟩) (ro_preV hP hK hN (va_recv hK hP (ci := 4) (q0 := 16) rfl rfl)) rfl rfl hl.1 rfl (lv_room (Nat.le_of_ble_eq_true rfl)) d_P_make_35 ⟨Nat.le_of_ble_eq_true rfl, Nat.le_of_ble_eq_true rfl⟩) hS (fun H locs hP hS => ?_)
        refine lv_aload_n hx hb d_P_make_38 rfl (lv_at hl 0 rfl) ?_
        refine lv_iconst (v := (0 : Int32)) hx hb d_P_make_39 (by decide) ?_
        obtain ⟨r12, hr11, hf⟩ := ob hf
        refine ro_calll (va_runV (C := "GuideSearch$Plan") (As := [.int (0 : Int32)]) (rest := []) ⟨hx, hb, hml, hown, hT⟩ (c_P_weightAt l dC dI cs a s10 (0 : Int32) r12 hr11) (cwV 1 hT (gV k_305 k_307 ks_4 k_6 k_308) rfl rfl rfl (by decide +kernel) ⟨Nat.le_of_ble_eq_true rfl, Nat.le_of_ble_eq_true rfl⟩) (ro_preV hP hK hN (va_recv hK hP (ci := 4) (q0 := 16) rfl rfl)) rfl rfl hl.1 rfl (lv_room (Nat.le_of_ble_eq_true rfl)) d_P_make_40 ⟨Nat.le_of_ble_eq_true rfl, Nat.le_of_ble_eq_true rfl⟩) ?_
        refine lv_lstore_n (lv' := [(2, .long r12), (0, .ref (a 16)), (1, .int p1)]) hx hb d_P_make_43 rfl hl (by decide) rfl (fun ls hl => ?_)
        refine lv_lload_n hx hb d_P_make_44 rfl (lv_at hl 0 rfl) ?_
        refine lv_lconst (v := (0 : Int64)) hx hb d_P_make_45 (by decide) ?_
        refine W.lcmp hx hb d_P_make_46 ?_
        refine lv_if_le (tgt := 81) hx hb d_P_make_47 (by decide) (fun c13 => ?_) (fun c13 => ?_)
        · rw [if_pos ((lg_cmp_le _ _).mp c13)] at hf
          refine lv_aload_n hx hb d_P_make_81 rfl (lv_at hl 1 rfl) ?_
          refine lv_iload_n hx hb d_P_make_82 rfl (lv_at hl 2 rfl) ?_
          refine lv_iconst (v := (-1 : Int32)) hx hb d_P_make_83 (by decide) ?_
          refine lv_iconst (v := (0 : Int32)) hx hb d_P_make_84 (by decide) ?_
          obtain ⟨s15, hr14, hf⟩ := ob hf
          refine rw_callv (va_runV (C := "GuideSearch$Plan") (As := [.int p1, .int (-1 : Int32), .int (0 : Int32)]) (rest := []) ⟨hx, hb, hml, hown, hT⟩ (c_P_keep l dC dI cs a hi 8 s10 p1 (-1 : Int32) (0 : Int32) s15 hr14) (cwV 3 hT (gV k_329 k_331 ks_7 k_6 k_332) rfl rfl rfl (by decide +kernel) ⟨Nat.le_of_ble_eq_true rfl, Nat.le_of_ble_eq_true rfl⟩) (ro_preV hP hK hN (va_recv hK hP (ci := 4) (q0 := 16) rfl rfl)) rfl rfl hl.1 rfl (lv_room (Nat.le_of_ble_eq_true rfl)) d_P_make_85 ⟨Nat.le_of_ble_eq_true rfl, Nat.le_of_ble_eq_true rfl⟩) hS (fun H locs hP hS => ?_)
          refine lv_aload_n hx hb d_P_make_88 rfl (lv_at hl 1 rfl) ?_
          refine va_get (D := (dC, dI)) (ci := 4) (v := .ref (a 18)) (C := "GuideSearch$Plan") (T := F_P) (N := 9) hx hb hT i_P hown hK hP 16 rfl rfl 2 (by decide) (hT _ k_100) (fun _ h9 => h9) rfl d_P_make_89 ?_
          refine lv_iload_n hx hb d_P_make_92 rfl (lv_at hl 2 rfl) ?_
          obtain ⟨j16, ej18, hi17, hf⟩ := ix_some hf
          refine xa_bald hx hb hK hP 18 2 rfl rfl ej18 hi17 d_P_make_93 ?_
          exact W.iret hx hb hr (fun t ht _ => ⟨⟨_, (), rfl, congrArg Prod.fst (Option.some.inj hf), x_fin ht (congrArg Prod.snd (Option.some.inj hf)) hP⟩, hS.F ht⟩) hS.2.2 d_P_make_94
        · rw [if_neg (mt (lg_cmp_le _ _).mpr c13)] at hf
          refine lv_aload_n hx hb d_P_make_50 rfl (lv_at hl 1 rfl) ?_
          refine lv_aload_n hx hb d_P_make_51 rfl (lv_at hl 1 rfl) ?_
          refine va_get (D := (dC, dI)) (ci := 4) (v := .ref (a 17)) (C := "GuideSearch$Plan") (T := F_P) (N := 9) hx hb hT i_P hown hK hP 16 rfl rfl 1 (by decide) (hT _ k_99) (fun _ h9 => h9) rfl d_P_make_52 ?_
          refine lv_iload_n hx hb d_P_make_55 rfl (lv_at hl 2 rfl) ?_
          obtain ⟨j19, ej21, hi20, hf⟩ := ix_some hf
          refine xa_lald hx hb hK hP 17 0 rfl rfl ej21 hi20 d_P_make_56 ?_
          refine lv_lload_n hx hb d_P_make_57 rfl (lv_at hl 0 rfl) ?_
          obtain ⟨hz22, hf⟩ := dzl_some hf
          refine lv_ldiv hx hb d_P_make_58 hz22 ?_
          refine lv_ldc2 (v := (1000 : Int64)) hx hb hown (hT _ k_328) d_P_make_59 ?_
          refine lv_lmul hx hb d_P_make_62 ?_
          refine lv_aload_n hx hb d_P_make_63 rfl (lv_at hl 1 rfl) ?_
          refine va_get (D := (dC, dI)) (ci := 4) (v := .ref (a 17)) (C := "GuideSearch$Plan") (T := F_P) (N := 9) hx hb hT i_P hown hK hP 16 rfl rfl 1 (by decide) (hT _ k_99) (fun _ h9 => h9) rfl d_P_make_64 ?_
          refine lv_iload_n hx hb d_P_make_67 rfl (lv_at hl 2 rfl) ?_
          obtain ⟨j23, ej25, hi24, hf⟩ := ix_some hf
          refine xa_lald hx hb hK hP 17 0 rfl rfl ej25 hi24 d_P_make_68 ?_
          refine lv_lload_n hx hb d_P_make_69 rfl (lv_at hl 0 rfl) ?_
          obtain ⟨hz26, hf⟩ := dzl_some hf
          refine lv_lrem hx hb d_P_make_70 hz26 ?_
          refine lv_ldc2 (v := (1000 : Int64)) hx hb hown (hT _ k_328) d_P_make_71 ?_
          refine lv_lmul hx hb d_P_make_74 ?_
          refine lv_lload_n hx hb d_P_make_75 rfl (lv_at hl 0 rfl) ?_
          obtain ⟨hz27, hf⟩ := dzl_some hf
          refine lv_ldiv hx hb d_P_make_76 hz27 ?_
          refine lv_ladd hx hb d_P_make_77 ?_
          refine va_put (D := (dC, dI)) (ci := 4) (v := .long ((((x_val s10 j19) / r12) * (1000 : Int64)) + ((((x_val s10 j23) - (x_val s10 j23) / r12 * r12) * (1000 : Int64)) / r12))) (ty := .long) (C := "GuideSearch$Plan") (T := F_P) (N := 9) hx hb hT i_P ft_P ft_P_ok n_P hown hK hP (hD _) hS 16 rfl rfl 8 (by decide) (hT _ k_107) (fun _ h9 => h9) rfl (by decide +kernel) rfl rfl (Nat.le_of_ble_eq_true rfl) d_P_make_78 (fun H locs hP _ hS => ?_)
          rw [x_tho_put cs a s10 ((((x_val s10 j19) / r12) * (1000 : Int64)) + ((((x_val s10 j23) - (x_val s10 j23) / r12 * r12) * (1000 : Int64)) / r12))] at hP
          refine lv_aload_n hx hb d_P_make_81 rfl (lv_at hl 1 rfl) ?_
          refine lv_iload_n hx hb d_P_make_82 rfl (lv_at hl 2 rfl) ?_
          refine lv_iconst (v := (-1 : Int32)) hx hb d_P_make_83 (by decide) ?_
          refine lv_iconst (v := (0 : Int32)) hx hb d_P_make_84 (by decide) ?_
          obtain ⟨s29, hr28, hf⟩ := ob hf
          refine rw_callv (va_runV (C := "GuideSearch$Plan") (As := [.int p1, .int (-1 : Int32), .int (0 : Int32)]) (rest := []) ⟨hx, hb, hml, hown, hT⟩ (c_P_keep l dC dI cs a hi 8 (x_tho_s s10 ((((x_val s10 j19) / r12) * (1000 : Int64)) + ((((x_val s10 j23) - (x_val s10 j23) / r12 * r12) * (1000 : Int64)) / r12))) p1 (-1 : Int32) (0 : Int32) s29 hr28) (cwV 3 hT (gV k_329 k_331 ks_7 k_6 k_332) rfl rfl rfl (by decide +kernel) ⟨Nat.le_of_ble_eq_true rfl, Nat.le_of_ble_eq_true rfl⟩) (ro_preV hP hK hN (va_recv hK hP (ci := 4) (q0 := 16) rfl rfl)) rfl rfl hl.1 rfl (lv_room (Nat.le_of_ble_eq_true rfl)) d_P_make_85 ⟨Nat.le_of_ble_eq_true rfl, Nat.le_of_ble_eq_true rfl⟩) hS (fun H locs hP hS => ?_)
          refine lv_aload_n hx hb d_P_make_88 rfl (lv_at hl 1 rfl) ?_
          refine va_get (D := (dC, dI)) (ci := 4) (v := .ref (a 18)) (C := "GuideSearch$Plan") (T := F_P) (N := 9) hx hb hT i_P hown hK hP 16 rfl rfl 2 (by decide) (hT _ k_100) (fun _ h9 => h9) rfl d_P_make_89 ?_
          refine lv_iload_n hx hb d_P_make_92 rfl (lv_at hl 2 rfl) ?_
          obtain ⟨j30, ej32, hi31, hf⟩ := ix_some hf
          refine xa_bald hx hb hK hP 18 2 rfl rfl ej32 hi31 d_P_make_93 ?_
          exact W.iret hx hb hr (fun t ht _ => ⟨⟨_, (), rfl, congrArg Prod.fst (Option.some.inj hf), x_fin ht (congrArg Prod.snd (Option.some.inj hf)) hP⟩, hS.F ht⟩) hS.2.2 d_P_make_94
      · rw [if_neg c4] at hf
        refine lv_iconst (v := (0 : Int32)) hx hb d_P_make_15 (by decide) ?_
        exact W.iret hx hb hr (fun t ht _ => ⟨⟨_, (), rfl, congrArg Prod.fst (Option.some.inj hf), x_fin ht (congrArg Prod.snd (Option.some.inj hf)) hP⟩, hS.F ht⟩) hS.2.2 d_P_make_16
  exact main _ _ hP va_S.rf
set_option maxHeartbeats 4000000 in
set_option maxRecDepth 100000 in
theorem c_G_next (l : Launch) (dC : Nat → ClassId) (dI : Nat → Nat → Nat) (cs : Nat → ClassId) (a : Nat → Nat) (hi : ∀ i j : Nat, i < 29 → j < 29 → a i = a j → i = j) (st : XS) (p1 : Int64) (res : Int32 × XS) (hf : x_G_next st p1 = some res) : Met l (⟨"GuideSearch", "next", "(J)I"⟩ : MethodName) (Cond.code (⟨"GuideSearch", "next", "(J)I"⟩ : MethodName) prog_1_method_6_code 3 (some .int) :: wg) { frames := 22, cells := 0, slots := 0, locals := 637 } (va_Pc ([.ref (a 0), .long p1] : List Value) (x_pre dC dI cs a st)) (va_Qi (fun r (_ : Unit) => r = res.1) (fun _ t => va_P (dC, dI) vwCl (x_W cs a res.2) t.heap) (x_A a)) 0 0 (x_A a) := by
  refine ro_start (cc := prog_1_method_6_code) (maxL := 3) (ret := (some .int)) (by decide) (Nat.le_of_ble_eq_true rfl) ?_
  intro p e s m below meth c hx hb hr hml hT hown hlocks hB ls hl
  replace hown : s.vm.findClass "GuideSearch" = some m.cls := hown
  obtain ⟨hP, hK, hN⟩ := hB
  replace hl : lv_has ls 3 [(0, .ref (a 0)), (1, .long p1)] := hl
  unfold x_G_next at hf
  have hD : ∀ st : XS, va_D (x_A a) (x_W cs a st) := fun st => x_D hi cs st
  have main : ∀ (H : Heap) (locs : List Loc), va_P (dC, dI) vwCl (x_W cs a st) H → va_S (x_A a) s.heap H locs → W p l e { frames := 22, cells := 0, slots := 0, locals := 637 } s m ([.ref (a 0), .long p1] : List Value).toArray below meth c H locs 0 0 (MQ below (va_Qi (fun r (_ : Unit) => r = res.1) (fun _ t => va_P (dC, dI) vwCl (x_W cs a res.2) t.heap) (x_A a)) ([.ref (a 0), .long p1] : List Value).toArray s 0 0 (x_A a)) (F0 m 0 ls []) := by
    intro H locs hP hS
    refine lv_lload_n hx hb d_G_next_0 rfl (lv_at hl 1 rfl) ?_
    refine lv_lconst (v := (0 : Int64)) hx hb d_G_next_1 (by decide) ?_
    refine W.lcmp hx hb d_G_next_2 ?_
    refine lv_if_ge (tgt := 9) hx hb d_G_next_3 (by decide) (fun c1 => ?_) (fun c1 => ?_)
    · rw [if_pos ((lg_cmp_ge _ _).mp c1)] at hf
      refine lv_aload_n hx hb d_G_next_9 rfl (lv_at hl 0 rfl) ?_
      refine lv_lconst (v := (1 : Int64)) hx hb d_G_next_10 (by decide) ?_
      refine lv_iconst (v := (2 : Int32)) hx hb d_G_next_11 (by decide) ?_
      refine lv_aload_n hx hb d_G_next_12 rfl (lv_at hl 0 rfl) ?_
      refine va_get (D := (dC, dI)) (ci := 0) (v := .ref (a 5)) (C := "GuideSearch") (T := F_G) (N := 6) hx hb hT i_G hown hK hP 0 rfl rfl 1 (by decide) (hT _ k_130) (fun _ h9 => h9) rfl d_G_next_13 ?_
      refine lv_aload_n hx hb d_G_next_16 rfl (lv_at hl 0 rfl) ?_
      refine va_get (D := (dC, dI)) (ci := 0) (v := .int (x_opn st)) (C := "GuideSearch") (T := F_G) (N := 6) hx hb hT i_G hown hK hP 0 rfl rfl 4 (by decide) (hT _ k_133) (fun _ h9 => h9) rfl d_G_next_17 ?_
      obtain ⟨r3, hr2, hf⟩ := ob hf
      refine ro_calli (va_runV (C := "GuideSearch$Tests") (As := [.int (x_opn st)]) (rest := [.int (2 : Int32), .long (1 : Int64), .ref (a 0)]) ⟨hx, hb, hml, hown, hT⟩ (c_T_unanswered l dC dI cs a st (x_opn st) r3 hr2) (cwV 1 hT (gV k_237 k_238 k_239 k_3 k_240) rfl rfl rfl (by decide +kernel) ⟨Nat.le_of_ble_eq_true rfl, Nat.le_of_ble_eq_true rfl⟩) (ro_preV hP hK hN (va_recv hK hP (ci := 2) (q0 := 5) rfl rfl)) rfl rfl hl.1 rfl (lv_room (Nat.le_of_ble_eq_true rfl)) d_G_next_20 ⟨Nat.le_of_ble_eq_true rfl, Nat.le_of_ble_eq_true rfl⟩) ?_
      refine lv_imul hx hb d_G_next_23 ?_
      refine lv_lshl (v := ((1 : Int64) <<< (((2 : Int32) * r3).toInt64 &&& 63))) hx hb d_G_next_24 rfl ?_
      refine lv_lload_n hx hb d_G_next_25 rfl (lv_at hl 1 rfl) ?_
      refine W.lcmp hx hb d_G_next_26 ?_
      refine lv_if_gt (tgt := 34) hx hb d_G_next_27 (by decide) (fun c4 => ?_) (fun c4 => ?_)
      · rw [if_pos ((lg_cmp_gt _ _).mp c4)] at hf
        refine lv_iconst (v := (0 : Int32)) hx hb d_G_next_34 (by decide) ?_
        refine va_put (D := (dC, dI)) (ci := 0) (v := .int (0 : Int32)) (ty := .boolean) (C := "GuideSearch") (T := F_G) (N := 6) hx hb hT i_G ft_G ft_G_ok n_G hown hK hP (hD _) hS 0 rfl rfl 5 (by decide) (hT _ k_134) (fun _ h9 => h9) rfl (by decide +kernel) rfl rfl (Nat.le_of_ble_eq_true rfl) d_G_next_35 (fun H locs hP _ hS => ?_)
        rw [x_pla_put cs a st (0 : Int32)] at hP
        refine lv_aload_n hx hb d_G_next_38 rfl (lv_at hl 0 rfl) ?_
        refine va_get (D := (dC, dI)) (ci := 0) (v := .int (x_pla (x_pla_s st (0 : Int32)))) (C := "GuideSearch") (T := F_G) (N := 6) hx hb hT i_G hown hK hP 0 rfl rfl 5 (by decide) (hT _ k_134) (fun _ h9 => h9) rfl d_G_next_39 ?_
        refine lv_if_eq (tgt := 57) hx hb d_G_next_42 (by decide) (fun c5 => ?_) (fun c5 => ?_)
        · rw [if_pos c5] at hf
          refine lv_aload_n hx hb d_G_next_57 rfl (lv_at hl 0 rfl) ?_
          refine va_get (D := (dC, dI)) (ci := 0) (v := .ref (a 16)) (C := "GuideSearch") (T := F_G) (N := 6) hx hb hT i_G hown hK hP 0 rfl rfl 3 (by decide) (hT _ k_132) (fun _ h9 => h9) rfl d_G_next_58 ?_
          obtain ⟨s7, hr6, hf⟩ := ob hf
          refine rw_callv (va_runV (C := "GuideSearch$Plan") (As := []) (rest := []) ⟨hx, hb, hml, hown, hT⟩ (c_P_drop l dC dI cs a hi (x_pla_s st (0 : Int32)) s7 hr6) (cwV 0 hT (gV k_333 k_247 k_248 k_6 k_249) rfl rfl rfl (by decide +kernel) ⟨Nat.le_of_ble_eq_true rfl, Nat.le_of_ble_eq_true rfl⟩) (ro_preV hP hK hN (va_recv hK hP (ci := 4) (q0 := 16) rfl rfl)) rfl rfl hl.1 rfl (lv_room (Nat.le_of_ble_eq_true rfl)) d_G_next_61 ⟨Nat.le_of_ble_eq_true rfl, Nat.le_of_ble_eq_true rfl⟩) hS (fun H locs hP hS => ?_)
          refine lv_aload_n hx hb d_G_next_64 rfl (lv_at hl 0 rfl) ?_
          refine va_get (D := (dC, dI)) (ci := 0) (v := .ref (a 15)) (C := "GuideSearch") (T := F_G) (N := 6) hx hb hT i_G hown hK hP 0 rfl rfl 2 (by decide) (hT _ k_131) (fun _ h9 => h9) rfl d_G_next_65 ?_
          refine lv_aload_n hx hb d_G_next_68 rfl (lv_at hl 0 rfl) ?_
          refine va_get (D := (dC, dI)) (ci := 0) (v := .int (x_opn s7)) (C := "GuideSearch") (T := F_G) (N := 6) hx hb hT i_G hown hK hP 0 rfl rfl 4 (by decide) (hT _ k_133) (fun _ h9 => h9) rfl d_G_next_69 ?_
          obtain ⟨r9, hr8, hf⟩ := ob hf
          refine ro_calli (va_runV (C := "GuideSearch$Cases") (As := [.int (x_opn s7)]) (rest := []) ⟨hx, hb, hml, hown, hT⟩ (c_K_oneStep l dC dI cs a s7 (x_opn s7) r9 hr8) (cwV 1 hT (gV k_334 k_335 k_336 k_5 k_337) rfl rfl rfl (by decide +kernel) ⟨Nat.le_of_ble_eq_true rfl, Nat.le_of_ble_eq_true rfl⟩) (ro_preV hP hK hN (va_recv hK hP (ci := 3) (q0 := 15) rfl rfl)) rfl rfl hl.1 rfl (lv_room (Nat.le_of_ble_eq_true rfl)) d_G_next_72 ⟨Nat.le_of_ble_eq_true rfl, Nat.le_of_ble_eq_true rfl⟩) ?_
          exact W.iret hx hb hr (fun t ht _ => ⟨⟨_, (), rfl, congrArg Prod.fst (Option.some.inj hf), x_fin ht (congrArg Prod.snd (Option.some.inj hf)) hP⟩, hS.F ht⟩) hS.2.2 d_G_next_75
        · rw [if_neg c5] at hf
          refine lv_aload_n hx hb d_G_next_45 rfl (lv_at hl 0 rfl) ?_
          refine va_get (D := (dC, dI)) (ci := 0) (v := .ref (a 16)) (C := "GuideSearch") (T := F_G) (N := 6) hx hb hT i_G hown hK hP 0 rfl rfl 3 (by decide) (hT _ k_132) (fun _ h9 => h9) rfl d_G_next_46 ?_
          refine lv_aload_n hx hb d_G_next_49 rfl (lv_at hl 0 rfl) ?_
          refine va_get (D := (dC, dI)) (ci := 0) (v := .int (x_opn (x_pla_s st (0 : Int32)))) (C := "GuideSearch") (T := F_G) (N := 6) hx hb hT i_G hown hK hP 0 rfl rfl 4 (by decide) (hT _ k_133) (fun _ h9 => h9) rfl d_G_next_50 ?_
          obtain ⟨r12, s11, hr10, hf⟩ := bd2_some hf
          refine rw_calli (va_runV (C := "GuideSearch$Plan") (As := [.int (x_opn (x_pla_s st (0 : Int32)))]) (rest := []) ⟨hx, hb, hml, hown, hT⟩ (c_P_make l dC dI cs a hi (x_pla_s st (0 : Int32)) (x_opn (x_pla_s st (0 : Int32))) (r12, s11) hr10) (cwV 1 hT (gV k_242 k_243 k_244 k_6 k_245) rfl rfl rfl (by decide +kernel) ⟨Nat.le_of_ble_eq_true rfl, Nat.le_of_ble_eq_true rfl⟩) (ro_preV hP hK hN (va_recv hK hP (ci := 4) (q0 := 16) rfl rfl)) rfl rfl hl.1 rfl (lv_room (Nat.le_of_ble_eq_true rfl)) d_G_next_53 ⟨Nat.le_of_ble_eq_true rfl, Nat.le_of_ble_eq_true rfl⟩) hS (fun H locs hP hS => ?_)
          exact W.iret hx hb hr (fun t ht _ => ⟨⟨_, (), rfl, congrArg Prod.fst (Option.some.inj hf), x_fin ht (congrArg Prod.snd (Option.some.inj hf)) hP⟩, hS.F ht⟩) hS.2.2 d_G_next_56
      · rw [if_neg (mt (lg_cmp_gt _ _).mpr c4)] at hf
        refine lv_iconst (v := (1 : Int32)) hx hb d_G_next_30 (by decide) ?_
        refine lv_goto (tgt := 35) hx hb d_G_next_31 (by decide) ?_
        refine va_put (D := (dC, dI)) (ci := 0) (v := .int (1 : Int32)) (ty := .boolean) (C := "GuideSearch") (T := F_G) (N := 6) hx hb hT i_G ft_G ft_G_ok n_G hown hK hP (hD _) hS 0 rfl rfl 5 (by decide) (hT _ k_134) (fun _ h9 => h9) rfl (by decide +kernel) rfl rfl (Nat.le_of_ble_eq_true rfl) d_G_next_35 (fun H locs hP _ hS => ?_)
        rw [x_pla_put cs a st (1 : Int32)] at hP
        refine lv_aload_n hx hb d_G_next_38 rfl (lv_at hl 0 rfl) ?_
        refine va_get (D := (dC, dI)) (ci := 0) (v := .int (x_pla (x_pla_s st (1 : Int32)))) (C := "GuideSearch") (T := F_G) (N := 6) hx hb hT i_G hown hK hP 0 rfl rfl 5 (by decide) (hT _ k_134) (fun _ h9 => h9) rfl d_G_next_39 ?_
        refine lv_if_eq (tgt := 57) hx hb d_G_next_42 (by decide) (fun c13 => ?_) (fun c13 => ?_)
        · rw [if_pos c13] at hf
          refine lv_aload_n hx hb d_G_next_57 rfl (lv_at hl 0 rfl) ?_
          refine va_get (D := (dC, dI)) (ci := 0) (v := .ref (a 16)) (C := "GuideSearch") (T := F_G) (N := 6) hx hb hT i_G hown hK hP 0 rfl rfl 3 (by decide) (hT _ k_132) (fun _ h9 => h9) rfl d_G_next_58 ?_
          obtain ⟨s15, hr14, hf⟩ := ob hf
          refine rw_callv (va_runV (C := "GuideSearch$Plan") (As := []) (rest := []) ⟨hx, hb, hml, hown, hT⟩ (c_P_drop l dC dI cs a hi (x_pla_s st (1 : Int32)) s15 hr14) (cwV 0 hT (gV k_333 k_247 k_248 k_6 k_249) rfl rfl rfl (by decide +kernel) ⟨Nat.le_of_ble_eq_true rfl, Nat.le_of_ble_eq_true rfl⟩) (ro_preV hP hK hN (va_recv hK hP (ci := 4) (q0 := 16) rfl rfl)) rfl rfl hl.1 rfl (lv_room (Nat.le_of_ble_eq_true rfl)) d_G_next_61 ⟨Nat.le_of_ble_eq_true rfl, Nat.le_of_ble_eq_true rfl⟩) hS (fun H locs hP hS => ?_)
          refine lv_aload_n hx hb d_G_next_64 rfl (lv_at hl 0 rfl) ?_
          refine va_get (D := (dC, dI)) (ci := 0) (v := .ref (a 15)) (C := "GuideSearch") (T := F_G) (N := 6) hx hb hT i_G hown hK hP 0 rfl rfl 2 (by decide) (hT _ k_131) (fun _ h9 => h9) rfl d_G_next_65 ?_
          refine lv_aload_n hx hb d_G_next_68 rfl (lv_at hl 0 rfl) ?_
          refine va_get (D := (dC, dI)) (ci := 0) (v := .int (x_opn s15)) (C := "GuideSearch") (T := F_G) (N := 6) hx hb hT i_G hown hK hP 0 rfl rfl 4 (by decide) (hT _ k_133) (fun _ h9 => h9) rfl d_G_next_69 ?_
          obtain ⟨r17, hr16, hf⟩ := ob hf
          refine ro_calli (va_runV (C := "GuideSearch$Cases") (As := [.int (x_opn s15)]) (rest := []) ⟨hx, hb, hml, hown, hT⟩ (c_K_oneStep l dC dI cs a s15 (x_opn s15) r17 hr16) (cwV 1 hT (gV k_334 k_335 k_336 k_5 k_337) rfl rfl rfl (by decide +kernel) ⟨Nat.le_of_ble_eq_true rfl, Nat.le_of_ble_eq_true rfl⟩) (ro_preV hP hK hN (va_recv hK hP (ci := 3) (q0 := 15) rfl rfl)) rfl rfl hl.1 rfl (lv_room (Nat.le_of_ble_eq_true rfl)) d_G_next_72 ⟨Nat.le_of_ble_eq_true rfl, Nat.le_of_ble_eq_true rfl⟩) ?_
          exact W.iret hx hb hr (fun t ht _ => ⟨⟨_, (), rfl, congrArg Prod.fst (Option.some.inj hf), x_fin ht (congrArg Prod.snd (Option.some.inj hf)) hP⟩, hS.F ht⟩) hS.2.2 d_G_next_75
        · rw [if_neg c13] at hf
          refine lv_aload_n hx hb d_G_next_45 rfl (lv_at hl 0 rfl) ?_
          refine va_get (D := (dC, dI)) (ci := 0) (v := .ref (a 16)) (C := "GuideSearch") (T := F_G) (N := 6) hx hb hT i_G hown hK hP 0 rfl rfl 3 (by decide) (hT _ k_132) (fun _ h9 => h9) rfl d_G_next_46 ?_
          refine lv_aload_n hx hb d_G_next_49 rfl (lv_at hl 0 rfl) ?_
          refine va_get (D := (dC, dI)) (ci := 0) (v := .int (x_opn (x_pla_s st (1 : Int32)))) (C := "GuideSearch") (T := F_G) (N := 6) hx hb hT i_G hown hK hP 0 rfl rfl 4 (by decide) (hT _ k_133) (fun _ h9 => h9) rfl d_G_next_50 ?_
          obtain ⟨r20, s19, hr18, hf⟩ := bd2_some hf
          refine rw_calli (va_runV (C := "GuideSearch$Plan") (As := [.int (x_opn (x_pla_s st (1 : Int32)))]) (rest := []) ⟨hx, hb, hml, hown, hT⟩ (c_P_make l dC dI cs a hi (x_pla_s st (1 : Int32)) (x_opn (x_pla_s st (1 : Int32))) (r20, s19) hr18) (cwV 1 hT (gV k_242 k_243 k_244 k_6 k_245) rfl rfl rfl (by decide +kernel) ⟨Nat.le_of_ble_eq_true rfl, Nat.le_of_ble_eq_true rfl⟩) (ro_preV hP hK hN (va_recv hK hP (ci := 4) (q0 := 16) rfl rfl)) rfl rfl hl.1 rfl (lv_room (Nat.le_of_ble_eq_true rfl)) d_G_next_53 ⟨Nat.le_of_ble_eq_true rfl, Nat.le_of_ble_eq_true rfl⟩) hS (fun H locs hP hS => ?_)
          exact W.iret hx hb hr (fun t ht _ => ⟨⟨_, (), rfl, congrArg Prod.fst (Option.some.inj hf), x_fin ht (congrArg Prod.snd (Option.some.inj hf)) hP⟩, hS.F ht⟩) hS.2.2 d_G_next_56
    · rw [if_neg (mt (lg_cmp_ge _ _).mpr c1)] at hf
      refine lv_bipush (v := (-2 : Int32)) hx hb d_G_next_6 (by decide) ?_
      exact W.iret hx hb hr (fun t ht _ => ⟨⟨_, (), rfl, congrArg Prod.fst (Option.some.inj hf), x_fin ht (congrArg Prod.snd (Option.some.inj hf)) hP⟩, hS.F ht⟩) hS.2.2 d_G_next_8
  exact main _ _ hP va_S.rf
end
