section COR
variable  {rf ma to et sp ho uw mo cs : Int32} {pl nu de si ki aa xx yy en : Nat → Int32} {rf' ma' to' et' sp' ho' uw' mo' cs' : Int32} {pl' nu' de' si' ki' aa' xx' yy' en' : Nat → Int32}
theorem begin_me {t : Int32} (h : (rf', ma', pl', nu', de', to', si', ki', aa', xx', yy', et', sp', ho', uw', mo', cs', en') = f_X1_beginHold rf ma pl nu de to si ki aa xx yy et sp ho uw mo cs en t) : ma' = ma ∧ et' = et + 1 := by
  simp only [f_X1_beginHold, f_X2_deepen, f_X3_enterBegun, x_enter] at h
  by_cases q : f_X2_isThing ma pl nu de t = 0
  · simp only [if_pos q, Prod.mk.injEq] at h
    exact ⟨h.2.1, h.2.2.2.2.2.2.2.2.2.2.2.1⟩
  · simp only [if_neg q, Prod.mk.injEq] at h
    exact ⟨h.2.1, h.2.2.2.2.2.2.2.2.2.2.2.1⟩
theorem leave_me {t how : Int32} (h : (rf', ma', pl', nu', de', to', si', ki', aa', xx', yy', et', sp', ho', uw', mo', cs', en') = f_X1_leaveHold rf ma pl nu de to si ki aa xx yy et sp ho uw mo cs en t how) : ma' = ma ∧ et' = et + 1 := by
  simp only [f_X1_leaveHold, f_X2_deepen, f_X3_enterLeft, x_enter] at h
  by_cases q : f_X2_isThing ma pl nu de t = 0 <;> by_cases q4 : how = 4 <;> by_cases q5 : how = 5 <;>
    (simp only [q, q4, q5, if_true, if_false, Prod.mk.injEq] at h
     exact ⟨h.2.1, h.2.2.2.2.2.2.2.2.2.2.2.1⟩)
theorem JC_begin {p0 : Int32} (hJ : J 14 ma et sp pl nu de si ki aa xx yy) (hn : ¬ f_X2_thingIn ma pl nu de p0 = (-1)) (h : (rf', ma', pl', nu', de', to', si', ki', aa', xx', yy', et', sp', ho', uw', mo', cs', en') = f_X1_beginHold rf ma pl nu de to si ki aa xx yy et sp ho uw mo cs en (f_X2_thingIn ma pl nu de p0)) : J 0 ma' et' sp' pl' nu' de' si' ki' aa' xx' yy' := by
  have hp : vp_in p0 6 := in_place (fun e => hn (by unfold f_X2_thingIn; rw [if_pos e]))
  rw [x_thing hp] at h hn
  have ht := pl_ok hJ hp hn
  rw [x_cbegin ht] at h
  simp only [Prod.mk.injEq] at h
  obtain ⟨rfl, rfl, rfl, rfl, rfl, rfl, rfl, rfl, rfl, rfl, rfl, rfl, rfl, rfl, rfl, rfl, rfl, rfl⟩ := h
  exact (J_begin (δ := 0) hJ ht).weak (by omega)
theorem JC_blk (d : Nat) {p0 p1 p2 r : Int32} (hB : HB4 d p0 p1) (hJ : J 0 ma et sp pl nu de si ki aa xx yy) (h : (r, rf', ma', pl', nu', de', to', si', ki', aa', xx', yy', et', sp', ho', uw', mo', cs', en') = blkC d rf ma pl nu de to si ki aa xx yy et sp ho uw mo cs en p0 p1 p2) : J 0 ma' et' sp' pl' nu' de' si' ki' aa' xx' yy' ∧ si' = si := by
  have hd := hB.2.2.2.2
  obtain ⟨lo, hlo, hil⟩ : ∃ lo : Int32, LO d lo ∧ (p2 = 0 ↔ lo ≤ 0) := by
    by_cases q : p2 = 0
    · exact ⟨0, ⟨by decide, by rw [c0]; omega, hd⟩, fun _ => by decide, fun _ => q⟩
    · exact ⟨1, ⟨by decide, by rw [c1]; omega, hd⟩, fun e => absurd e q, fun e => absurd e (by decide)⟩
  obtain ⟨how1, ma1, rf1, et1, sp1, ho1, mo1, cs1, uw1, wh1, pl1, nu1, en1, hM1, hC1, hw1, h41, hm1, hJ1⟩ := RR_all d 0 0 ma to 0 rf et sp ho mo cs uw 0 lo pl nu de si ki aa xx yy en p0 p1 p2 hB hJ hlo hil
  rw [hC1] at h
  simp only [Prod.mk.injEq] at h
  obtain ⟨-, rfl, rfl, rfl, rfl, rfl, rfl, rfl, rfl, rfl, rfl, rfl, rfl, rfl, rfl, rfl, rfl, rfl, rfl⟩ := h
  exact ⟨hJ1, rfl⟩
theorem JC_step (d : Nat) {p0 p1 p2 r : Int32} (hV : SV d p0 p1 ki aa xx yy) (hJ : J 0 ma et sp pl nu de si ki aa xx yy) (h : (r, rf', ma', pl', nu', de', to', si', ki', aa', xx', yy', et', sp', ho', uw', mo', cs', en') = f_X1_doStep (blkC d) rf ma pl nu de to si ki aa xx yy et sp ho uw mo cs en p0 p1 p2) : J 0 ma' et' sp' pl' nu' de' si' ki' aa' xx' yy' ∧ si' = si := by
  have hd := hV.d60
  by_cases hs : sp < 300
  · obtain ⟨lo, hlo, hil⟩ : ∃ lo : Int32, LO (d + 1) lo ∧ (p2 = 0 ↔ lo ≤ 0) := by
      by_cases q : p2 = 0
      · exact ⟨0, ⟨by decide, by rw [c0]; omega, by omega⟩, fun _ => by decide, fun _ => q⟩
      · exact ⟨1, ⟨by decide, by rw [c1]; omega, by omega⟩, fun e => absurd e q, fun e => absurd e (by decide)⟩
    have hs2 : sp.toInt < 300 := by rw [Int32.lt_iff_toInt_lt, c300] at hs; exact hs
    obtain ⟨how1, ma1, rf1, et1, sp1, ho1, mo1, cs1, uw1, wh1, pl1, nu1, en1, hM1, hC1, hw1, h41, hm1, hJ1⟩ := rel_step (δ := 0) (th := 0) (to := to) (rn := 0) (rf := rf) (ho := ho) (mo := mo) (cs := cs) (uw := uw) (wh := 0) (en := en) (RR_all d) hV hJ hs2 hlo hil
    rw [hC1] at h
    simp only [Prod.mk.injEq] at h
    obtain ⟨-, rfl, rfl, rfl, rfl, rfl, rfl, rfl, rfl, rfl, rfl, rfl, rfl, rfl, rfl, rfl, rfl, rfl, rfl⟩ := h
    exact ⟨hJ1, rfl⟩
  · simp only [f_X1_doStep, if_neg hs, Prod.mk.injEq] at h
    obtain ⟨-, rfl, rfl, rfl, rfl, rfl, rfl, rfl, rfl, rfl, rfl, rfl, rfl, rfl, rfl, rfl, rfl, rfl, rfl⟩ := h
    exact ⟨hJ, rfl⟩
end COR
section COM
variable  {th ma to rn rf et sp ho mo cs uw wh lo : Int32} {pl nu de si ki aa xx yy en : Nat → Int32} {th' ma' to' rn' rf' et' sp' ho' mo' cs' uw' wh' lo' : Int32} {pl' nu' de' si' ki' aa' xx' yy' en' : Nat → Int32}
theorem begin_mm {t : Int32} (h : (th', ma', to', rn', rf', et', sp', ho', mo', cs', uw', wh', lo', pl', nu', de', si', ki', aa', xx', yy', en') = f_X5_begin th ma to rn rf et sp ho mo cs uw wh lo pl nu de si ki aa xx yy en t) : pl' = pl ∧ et' = et + 1 := by
  simp only [x_begin, Prod.mk.injEq] at h
  exact ⟨h.2.2.2.2.2.2.2.2.2.2.2.2.2.1, h.2.2.2.2.2.1⟩
theorem leave_mm {t how : Int32} (h : (th', ma', to', rn', rf', et', sp', ho', mo', cs', uw', wh', lo', pl', nu', de', si', ki', aa', xx', yy', en') = f_X5_leave th ma to rn rf et sp ho mo cs uw wh lo pl nu de si ki aa xx yy en t how) : pl' = pl ∧ et' = et + 1 := by
  simp only [x_leave, Prod.mk.injEq] at h
  exact ⟨h.2.2.2.2.2.2.2.2.2.2.2.2.2.1, h.2.2.2.2.2.1⟩
theorem JM_begin {t : Int32} (hJ : J 14 ma et sp pl nu de si ki aa xx yy) (ht : 0 ≤ t.toInt ∧ t.toInt < ma.toInt) (h : (th', ma', to', rn', rf', et', sp', ho', mo', cs', uw', wh', lo', pl', nu', de', si', ki', aa', xx', yy', en') = f_X5_begin th ma to rn rf et sp ho mo cs uw wh lo pl nu de si ki aa xx yy en t) : J 0 ma' et' sp' pl' nu' de' si' ki' aa' xx' yy' ∧ lo' = lo := by
  simp only [x_begin, Prod.mk.injEq] at h
  obtain ⟨rfl, rfl, rfl, rfl, rfl, rfl, rfl, rfl, rfl, rfl, rfl, rfl, rfl, rfl, rfl, rfl, rfl, rfl, rfl, rfl, rfl, rfl⟩ := h
  exact ⟨(J_begin (δ := 0) hJ ht).weak (by omega), rfl⟩
theorem JM_blk (d : Nat) {p0 r : Int32} (hB : HM d p0) (hJ : J 0 ma et sp pl nu de si ki aa xx yy) (hlo : LO d lo) (h : (r, th', ma', to', rn', rf', et', sp', ho', mo', cs', uw', wh', lo', pl', nu', de', si', ki', aa', xx', yy', en') = blkM d th ma to rn rf et sp ho mo cs uw wh lo pl nu de si ki aa xx yy en p0) : J 0 ma' et' sp' pl' nu' de' si' ki' aa' xx' yy' ∧ lo' = lo ∧ True := by
  obtain ⟨il, hil⟩ : ∃ il : Int32, il = 0 ↔ lo ≤ 0 := by
    by_cases q : lo ≤ 0
    · exact ⟨0, fun _ => q, fun _ => rfl⟩
    · exact ⟨1, fun e => absurd e (by decide), fun e => absurd e q⟩
  obtain ⟨how1, ma1, rf1, et1, sp1, ho1, mo1, cs1, uw1, wh1, pl1, nu1, en1, hM1, hC1, hw1, h41, hm1, hJ1⟩ := RR_all d 0 th ma to rn rf et sp ho mo cs uw wh lo pl nu de si ki aa xx yy en p0 (-1) il ⟨hB.1, hB.2.1, by rw [cm1]; have := hB.1; omega, hB.2.2, hlo.2.2⟩ hJ hlo hil
  rw [hM1] at h
  simp only [Prod.mk.injEq] at h
  obtain ⟨-, rfl, rfl, rfl, rfl, rfl, rfl, rfl, rfl, rfl, rfl, rfl, rfl, rfl, rfl, rfl, rfl, rfl, rfl, rfl, rfl, rfl, rfl⟩ := h
  exact ⟨hJ1, rfl, trivial⟩
theorem JM_step (d : Nat) {p0 r : Int32} (hV : SM d p0 ki aa xx yy) (hJ : J 0 ma et sp pl nu de si ki aa xx yy) (hs : ¬ sp = 300) (hlo : LO (d + 1) lo) (h : (r, th', ma', to', rn', rf', et', sp', ho', mo', cs', uw', wh', lo', pl', nu', de', si', ki', aa', xx', yy', en') = f_X5_doStep (blkM d) th ma to rn rf et (sp + 1) ho mo cs uw wh lo pl nu de si ki aa xx yy en p0) : J 0 ma' et' sp' pl' nu' de' si' ki' aa' xx' yy' ∧ lo' = lo := by
  obtain ⟨il, hil⟩ : ∃ il : Int32, il = 0 ↔ lo ≤ 0 := by
    by_cases q : lo ≤ 0
    · exact ⟨0, fun _ => q, fun _ => rfl⟩
    · exact ⟨1, fun e => absurd e (by decide), fun e => absurd e q⟩
  obtain ⟨b, k, v1, v2, v3, v4, v5⟩ := hV
  have hV : SV d (nI b) p0 ki aa xx yy := ⟨b, k, v1, v2, v3, v4, v5, rfl, by have := hlo.2.2; omega⟩
  obtain ⟨how1, ma1, rf1, et1, sp1, ho1, mo1, cs1, uw1, wh1, pl1, nu1, en1, hM1, hC1, hw1, h41, hm1, hJ1⟩ := rel_step (δ := 0) (th := th) (to := to) (rn := rn) (rf := rf) (ho := ho) (mo := mo) (cs := cs) (uw := uw) (wh := wh) (en := en) (RR_all d) hV hJ (sp_lt hJ hs) hlo hil
  rw [hM1] at h
  simp only [Prod.mk.injEq] at h
  obtain ⟨-, rfl, rfl, rfl, rfl, rfl, rfl, rfl, rfl, rfl, rfl, rfl, rfl, rfl, rfl, rfl, rfl, rfl, rfl, rfl, rfl, rfl, rfl⟩ := h
  exact ⟨hJ1, rfl⟩
end COM
