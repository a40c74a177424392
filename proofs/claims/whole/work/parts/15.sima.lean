abbrev SMo : Type := Int32 × Int32 × Int32 × Int32 × Int32 × Int32 × Int32 × Int32 × Int32 × Int32 × Int32 × Int32 × Int32 × (Nat → Int32) × (Nat → Int32) × (Nat → Int32) × (Nat → Int32) × (Nat → Int32) × (Nat → Int32) × (Nat → Int32) × (Nat → Int32) × (Nat → Int32)
abbrev SCo : Type := Int32 × Int32 × (Nat → Int32) × (Nat → Int32) × (Nat → Int32) × Int32 × (Nat → Int32) × (Nat → Int32) × (Nat → Int32) × (Nat → Int32) × (Nat → Int32) × Int32 × Int32 × Int32 × Int32 × Int32 × Int32 × (Nat → Int32)
def oc (how wh : Int32) : Int32 := if how = 4 then 100 + wh else how
def ent (et : Int32) (en : Nat → Int32) (v : Int32) : Nat → Int32 := if 250 ≤ et then en else upd en et.toNatClampNeg v
def mx (mo uw : Int32) : Int32 := if mo < uw then uw else mo
theorem oc0 (w : Int32) : oc 0 w = 0 := if_neg (by decide)
theorem oc1 (w : Int32) : oc 1 w = 1 := if_neg (by decide)
theorem oc2 (w : Int32) : oc 2 w = 2 := if_neg (by decide)
theorem oc3 (w : Int32) : oc 3 w = 3 := if_neg (by decide)
theorem oc5 (w : Int32) : oc 5 w = 5 := if_neg (by decide)
theorem oc4 (w : Int32) : oc 4 w = 100 + w := if_pos rfl
theorem c100 : (100 : Int32).toInt = 100 := by decide
theorem c4 : (4 : Int32).toInt = 4 := by decide
theorem t100 {w : Int32} (h : 0 ≤ w.toInt ∧ w.toInt ≤ 13) : (100 + w).toInt = 100 + w.toInt := by
  rw [ti_add] <;> rw [c100] <;> omega
theorem oc_eq {how wh k : Int32} (h4 : how = 4 → 1 ≤ wh.toInt ∧ wh.toInt ≤ 13) (hk : k.toInt ≤ 100) (hk4 : ¬ k = 4) : oc how wh = k ↔ how = k := by
  by_cases q : how = 4
  · have h := h4 q
    rw [q, oc4]
    constructor
    · intro e
      have := congrArg Int32.toInt e
      rw [t100 (by omega)] at this
      omega
    · intro e
      exact absurd e.symm hk4
  · rw [show oc how wh = how from if_neg q]
theorem oc_thr {how wh : Int32} (hw : 0 ≤ how.toInt ∧ how.toInt ≤ 5) (h4 : how = 4 → 1 ≤ wh.toInt ∧ wh.toInt ≤ 13) : f_X4_isThrown (oc how wh) = 0 ↔ ¬ how = 4 := by
  unfold f_X4_isThrown
  by_cases q : how = 4
  · have h := h4 q
    rw [q, oc4, if_neg (by rw [Int32.le_iff_toInt_le, t100 (by omega), c100]; omega)]
    exact ⟨fun e => absurd e (by decide), fun e => absurd rfl e⟩
  · rw [show oc how wh = how from if_neg q, if_pos (by rw [Int32.le_iff_toInt_le, c100]; omega)]
    exact ⟨fun _ => q, fun _ => rfl⟩
theorem upd_id (f : Nat → Int32) (k : Nat) : upd f k (f k) = f := by
  funext j
  by_cases h : j = k
  · rw [h, pk_us]
  · rw [pk_un h]
theorem upd_at (f : Nat → Int32) (k : Nat) (x : Int32) : upd f k x k = x := pk_us
theorem upd_uu (f : Nat → Int32) (k : Nat) (x y : Int32) : upd (upd f k x) k y = upd f k y := by
  funext j
  by_cases h : j = k
  · rw [h, pk_us, pk_us]
  · rw [pk_un h, pk_un h, pk_un h]
theorem add1sub1 (x : Int32) : x + 1 - 1 = x := Int32.add_sub_cancel x 1
theorem addm1 (x : Int32) : x + (-1) = x - 1 := by rw [Int32.sub_eq_add_neg]
theorem addz (x : Int32) : x + 0 = x := Int32.add_zero x
theorem upd_back (f : Nat → Int32) (k : Nat) : upd (upd f k (f k + 1)) k ((upd f k (f k + 1)) k - 1) = f := by
  rw [upd_at, upd_uu, add1sub1, upd_id]
def REL (δ : Nat) (th to rn lo ma : Int32) (de si ki aa xx yy : Nat → Int32) (M : Int32 × SMo) (C : Int32 × SCo) : Prop :=
  ∃ (how' ma' rf' et' sp' ho' mo' cs' uw' wh' : Int32) (pl' nu' en' : Nat → Int32), M = (how', th, ma', to, rn, rf', et', sp', ho', mo', cs', uw', wh', lo, pl', nu', de, si, ki, aa, xx, yy, en') ∧ C = (oc how' wh', rf', ma', pl', nu', de, to, si, ki, aa, xx, yy, et', sp', ho', uw', mo', cs', en') ∧ (0 ≤ how'.toInt ∧ how'.toInt ≤ 5) ∧ (how' = 4 → 1 ≤ wh'.toInt ∧ wh'.toInt ≤ 13) ∧ ma.toInt ≤ ma'.toInt ∧ J δ (ma') (et') (sp') (pl') (nu') de si ki aa xx yy
def RR (d : Nat) (rm : TRM) (rc : TRC) : Prop := ∀ (δ : Nat) (th : Int32) (ma : Int32) (to : Int32) (rn : Int32) (rf : Int32) (et : Int32) (sp : Int32) (ho : Int32) (mo : Int32) (cs : Int32) (uw : Int32) (wh : Int32) (lo : Int32) (pl : Nat → Int32) (nu : Nat → Int32) (de : Nat → Int32) (si : Nat → Int32) (ki : Nat → Int32) (aa : Nat → Int32) (xx : Nat → Int32) (yy : Nat → Int32) (en : Nat → Int32) (b ab il : Int32), HB4 d b ab → J δ ma et sp pl nu de si ki aa xx yy → LO d lo → (il = 0 ↔ lo ≤ 0) → REL δ th to rn lo ma de si ki aa xx yy (rm th ma to rn rf et sp ho mo cs uw wh lo pl nu de si ki aa xx yy en b) (rc rf ma pl nu de to si ki aa xx yy et sp ho uw mo cs en b ab il)
theorem REL.mono {δ δ' : Nat} {th to rn lo ma ma1 : Int32} {de si ki aa xx yy : Nat → Int32} {M : Int32 × SMo} {C : Int32 × SCo} (h : REL δ' th to rn lo ma1 de si ki aa xx yy M C) (hm : ma.toInt ≤ ma1.toInt) (hd : δ ≤ δ') : REL δ th to rn lo ma de si ki aa xx yy M C := by
  obtain ⟨how1, ma1, rf1, et1, sp1, ho1, mo1, cs1, uw1, wh1, pl1, nu1, en1, hM1, hC1, hw1, h41, hm1, hJ1⟩ := h
  exact ⟨how1, ma1, rf1, et1, sp1, ho1, mo1, cs1, uw1, wh1, pl1, nu1, en1, hM1, hC1, hw1, h41, by omega, hJ1.weak hd⟩
section SIM
variable {d δ : Nat} {rm : TRM} {rc : TRC} {th ma to rn rf et sp ho mo cs uw wh lo : Int32} {pl nu de si ki aa xx yy en : Nat → Int32}
theorem x_comes (v : Int32) : f_X5_comes th ma to rn rf et sp ho mo cs uw wh lo pl nu de si ki aa xx yy en v = (th, ma, to, rn, rf, et + 1, sp, ho, mo, cs, uw, wh, lo, pl, nu, de, si, ki, aa, xx, yy, ent et en v) := by
  unfold f_X5_comes ent
  split <;> rfl
theorem x_enter (v : Int32) : f_X3_enter et sp ho uw mo cs en v = (et + 1, sp, ho, uw, mo, cs, ent et en v) := by
  unfold f_X3_enter ent
  split <;> rfl
theorem x_mark (v : Int32) : f_X3_enterMark et sp ho uw mo cs en v = (et + 1, sp, ho, uw, mo, cs, ent et en (10000 + v)) := by
  simp only [f_X3_enterMark, x_enter]
theorem x_begin (t : Int32) : f_X5_begin th ma to rn rf et sp ho mo cs uw wh lo pl nu de si ki aa xx yy en t = (th, ma, to, rn, rf, et + 1, sp, ho + 1, mx mo (uw + 1), cs, uw + 1, wh, lo, pl, nu, upd de t.toNatClampNeg (de t.toNatClampNeg + 1), si, ki, aa, xx, yy, ent et en (1000 + t)) := by
  unfold f_X5_begin
  by_cases h : uw + 1 ≤ mo
  · have h2 : mx mo (uw + 1) = mo := if_neg (by rw [Int32.lt_iff_toInt_lt]; rw [Int32.le_iff_toInt_le] at h; omega)
    simp only [if_pos h, x_comes, h2]
  · have h2 : mx mo (uw + 1) = uw + 1 := if_pos (by rw [Int32.lt_iff_toInt_lt]; rw [Int32.le_iff_toInt_le] at h; omega)
    simp only [if_neg h, x_comes, h2]
theorem is_thing {t : Int32} (h : 0 ≤ t.toInt ∧ t.toInt < ma.toInt) : f_X2_isThing ma pl nu de t = 1 := by
  unfold f_X2_isThing
  rw [if_neg (by rw [Int32.lt_iff_toInt_lt, c0]; omega), if_neg (by rw [Int32.le_iff_toInt_le]; omega)]
theorem is_thing0 {t : Int32} (h : 0 ≤ t.toInt ∧ t.toInt < ma.toInt) : ¬ f_X2_isThing ma pl nu de t = 0 := by
  rw [is_thing h]; decide
theorem is_place {x : Int32} (h : vp_in x 6) : ¬ f_X4_isPlace x = 0 := by
  rw [vp_in_iff] at h
  unfold f_X4_isPlace f_X4_isWithin
  rw [if_neg (by rw [Int32.lt_iff_toInt_lt, c0]; omega), if_neg (by rw [Int32.lt_iff_toInt_lt, c5]; omega)]
  decide
theorem x_thing {x : Int32} (h : vp_in x 6) : f_X2_thingIn ma pl nu de x = pl x.toNatClampNeg := by
  unfold f_X2_thingIn
  rw [if_neg (is_place h)]
theorem x_put {x v : Int32} (h : vp_in x 6) : f_X2_put ma pl nu de x v = (ma, upd pl x.toNatClampNeg v, nu, de) := by
  unfold f_X2_put
  rw [if_neg (is_place h)]
theorem x_cbegin {t : Int32} (h : 0 ≤ t.toInt ∧ t.toInt < ma.toInt) : f_X1_beginHold rf ma pl nu de to si ki aa xx yy et sp ho uw mo cs en t = (rf, ma, pl, nu, upd de t.toNatClampNeg (de t.toNatClampNeg + 1), to, si, ki, aa, xx, yy, et + 1, sp, ho + 1, uw + 1, mx mo (uw + 1), cs, ent et en (1000 + t)) := by
  simp only [f_X1_beginHold, f_X2_deepen, if_neg (is_thing0 h), f_X3_enterBegun, x_enter, mx]
theorem x_leave (t how : Int32) : f_X5_leave th ma to rn rf et sp ho mo cs uw wh lo pl nu de si ki aa xx yy en t how = (th, ma, to, rn, rf, et + 1, sp, ho, mo, if how < 4 then cs else cs + 1, uw - 1, wh, lo, pl, nu, upd de t.toNatClampNeg (de t.toNatClampNeg - 1), si, ki, aa, xx, yy, ent et en (2000 + 100 * how + t)) := by
  unfold f_X5_leave
  by_cases h : how < 4
  · simp only [if_pos h, x_comes, addz]
  · simp only [if_neg h, x_comes]
theorem x_cleave {t how : Int32} (h : 0 ≤ t.toInt ∧ t.toInt < ma.toInt) (hw : 0 ≤ how.toInt ∧ how.toInt ≤ 5) : f_X1_leaveHold rf ma pl nu de to si ki aa xx yy et sp ho uw mo cs en t how = (rf, ma, pl, nu, upd de t.toNatClampNeg (de t.toNatClampNeg - 1), to, si, ki, aa, xx, yy, et + 1, sp, ho, uw - 1, mo, if how < 4 then cs else cs + 1, ent et en (2000 + 100 * how + t)) := by
  by_cases q : how < 4
  · have q2 := q
    rw [Int32.lt_iff_toInt_lt, c4] at q2
    have n4 : ¬ how = 4 := fun e => by rw [e, c4] at q2; omega
    have n5 : ¬ how = 5 := fun e => by rw [e, c5] at q2; omega
    simp only [f_X1_leaveHold, f_X2_deepen, if_neg (is_thing0 h), f_X3_enterLeft, x_enter, if_pos q, if_neg n4, if_neg n5, addm1]
  · have q2 := q
    rw [Int32.lt_iff_toInt_lt, c4] at q2
    by_cases n4 : how = 4
    · simp only [f_X1_leaveHold, f_X2_deepen, if_neg (is_thing0 h), f_X3_enterLeft, x_enter, if_neg q, if_pos n4, addm1]
    · have n5 : how = 5 := eqi (by have := nei n4; rw [c4] at this; rw [c5]; omega)
      simp only [f_X1_leaveHold, f_X2_deepen, if_neg (is_thing0 h), f_X3_enterLeft, x_enter, if_neg q, if_neg n4, if_pos n5, addm1]
theorem x_throw (v : Int32) : f_X5_throwing th ma to rn rf et sp ho mo cs uw wh lo pl nu de si ki aa xx yy en v = (4, th, ma, to, rn, rf, et, sp, ho, mo, cs, uw, v, lo, pl, nu, de, si, ki, aa, xx, yy, en) := rfl
/-- a number of entries more -/
theorem J.et_add (h : J (δ + 1) ma et sp pl nu de si ki aa xx yy) : J δ ma (et + 1) sp pl nu de si ki aa xx yy := by
  have e : (et + 1).toInt = et.toInt + 1 := inc1 h.et0 (by have := h.et5; omega)
  obtain ⟨h1, h2, h3, h4, h5, h6, h7⟩ := h
  refine ⟨h1, h2, h3, fun t => ⟨(h4 t).1, ?_⟩, ⟨by omega, ?_⟩, h6, h7⟩
  · have := (h4 t).2
    omega
  · rw [e]
    omega
end SIM
