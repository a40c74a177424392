section SIM
variable {d δ : Nat} {rm : TRM} {rc : TRC} {th ma to rn rf et sp ho mo cs uw wh lo : Int32} {pl nu de si ki aa xx yy en : Nat → Int32}
theorem rel_call (hR : RR d rm rc) {x b : Int32} (hB : HB4 d x b) (hJ : J δ ma et sp pl nu de si ki aa xx yy) (hlo : LO (d + 1) lo) : REL δ th to rn lo ma de si ki aa xx yy (f_X5_call rm th ma to rn rf et sp ho mo cs uw wh lo pl nu de si ki aa xx yy en x) (f_X1_doCall rc rf ma pl nu de to si ki aa xx yy et sp ho uw mo cs en x b) := by
  obtain ⟨how1, ma1, rf1, et1, sp1, ho1, mo1, cs1, uw1, wh1, pl1, nu1, en1, hM1, hC1, hw1, h41, hm1, hJ1⟩ := hR δ th ma to rn rf et sp ho mo cs uw wh 0 pl nu de si ki aa xx yy en x b 0 hB hJ hlo.zero ⟨fun _ => by decide, fun _ => rfl⟩
  simp only [f_X5_call, f_X1_doCall, hM1, hC1]
  by_cases q : how1 = 3
  · simp only [if_pos q, if_pos ((oc_eq h41 (by decide) (by decide)).mpr q)]
    exact ⟨0, ma1, rf1, et1, sp1, ho1, mo1, cs1, uw1, wh1, pl1, nu1, en1, rfl, by rw [oc0], by decide, fun e => absurd e (by decide), hm1, hJ1⟩
  · simp only [if_neg q, if_neg (fun e => q ((oc_eq h41 (by decide) (by decide)).mp e))]
    exact ⟨how1, ma1, rf1, et1, sp1, ho1, mo1, cs1, uw1, wh1, pl1, nu1, en1, rfl, rfl, hw1, h41, hm1, hJ1⟩
theorem rel_both (hR : RR d rm rc) {x y b il : Int32} (hB : HB4 d x b) (hB2 : HB4 d y b) (hJ : J δ ma et sp pl nu de si ki aa xx yy) (hlo : LO (d + 1) lo) (hil : il = 0 ↔ lo ≤ 0) : REL δ th to rn lo ma de si ki aa xx yy (f_X5_both rm th ma to rn rf et sp ho mo cs uw wh lo pl nu de si ki aa xx yy en x y) (f_X1_doBoth rc rf ma pl nu de to si ki aa xx yy et sp ho uw mo cs en x y b il) := by
  obtain ⟨how1, ma1, rf1, et1, sp1, ho1, mo1, cs1, uw1, wh1, pl1, nu1, en1, hM1, hC1, hw1, h41, hm1, hJ1⟩ := hR δ th ma to rn rf et sp ho mo cs uw wh lo pl nu de si ki aa xx yy en x b il hB hJ hlo.down hil
  simp only [f_X5_both, f_X1_doBoth, hM1, hC1]
  by_cases q : how1 = 5
  · simp only [if_pos q, if_pos ((oc_eq h41 (by decide) (by decide)).mpr q)]
    exact ⟨how1, ma1, rf1, et1, sp1, ho1, mo1, cs1, uw1, wh1, pl1, nu1, en1, rfl, by rw [q, oc5], hw1, h41, hm1, hJ1⟩
  · simp only [if_neg q, if_neg (fun e => q ((oc_eq h41 (by decide) (by decide)).mp e))]
    obtain ⟨how2, ma2, rf2, et2, sp2, ho2, mo2, cs2, uw2, wh2, pl2, nu2, en2, hM2, hC2, hw2, h42, hm2, hJ2⟩ := hR δ th ma1 to rn rf1 et1 sp1 ho1 mo1 cs1 uw1 wh1 lo pl1 nu1 de si ki aa xx yy en1 y b il hB2 hJ1 hlo.down hil
    simp only [hM2, hC2]
    by_cases q2 : how2 = 0
    · simp only [if_pos q2, if_pos ((oc_eq h42 (by decide) (by decide)).mpr q2)]
      exact ⟨how1, ma2, rf2, et2, sp2, ho2, mo2, cs2, uw2, wh1, pl2, nu2, en2, rfl, rfl, hw1, h41, by omega, hJ2⟩
    · simp only [if_neg q2, if_neg (fun e => q2 ((oc_eq h42 (by decide) (by decide)).mp e))]
      exact ⟨how2, ma2, rf2, et2, sp2, ho2, mo2, cs2, uw2, wh2, pl2, nu2, en2, rfl, rfl, hw2, h42, by omega, hJ2⟩
theorem rel_try (hR : RR d rm rc) {a x y b il : Int32} (ha : 0 ≤ a.toInt ∧ a.toInt ≤ 13) (hB : HB4 d x b) (hB2 : HB4 d y b) (hJ : J δ ma et sp pl nu de si ki aa xx yy) (hlo : LO (d + 1) lo) (hil : il = 0 ↔ lo ≤ 0) : REL δ th to rn lo ma de si ki aa xx yy (f_X5_tried rm th ma to rn rf et sp ho mo cs uw wh lo pl nu de si ki aa xx yy en a x y) (f_X1_doTry rc rf ma pl nu de to si ki aa xx yy et sp ho uw mo cs en a x y b il) := by
  obtain ⟨how1, ma1, rf1, et1, sp1, ho1, mo1, cs1, uw1, wh1, pl1, nu1, en1, hM1, hC1, hw1, h41, hm1, hJ1⟩ := hR δ th ma to rn rf et sp ho mo cs uw wh lo pl nu de si ki aa xx yy en x b il hB hJ hlo.down hil
  simp only [f_X5_tried, f_X1_doTry, hM1, hC1]
  have ht := oc_thr hw1 h41
  by_cases q : how1 = 4
  · have hn : ¬ f_X4_isThrown (oc how1 wh1) = 0 := fun e => ht.mp e q
    have hwh := h41 q
    obtain ⟨how2, ma2, rf2, et2, sp2, ho2, mo2, cs2, uw2, wh2, pl2, nu2, en2, hM2, hC2, hw2, h42, hm2, hJ2⟩ := hR δ th ma1 to rn rf1 et1 sp1 ho1 mo1 cs1 uw1 wh1 lo pl1 nu1 de si ki aa xx yy en1 y b il hB2 hJ1 hlo.down hil
    simp only [if_pos q, if_neg hn]
    by_cases qa : a = 0
    · simp only [if_pos qa, hM2, hC2]
      exact ⟨how2, ma2, rf2, et2, sp2, ho2, mo2, cs2, uw2, wh2, pl2, nu2, en2, rfl, rfl, hw2, h42, by omega, hJ2⟩
    · simp only [if_neg qa]
      by_cases qw : a = wh1
      · have qc : oc how1 wh1 = 100 + a := by rw [q, oc4, qw]
        simp only [if_pos qw, if_pos qc, hM2, hC2]
        exact ⟨how2, ma2, rf2, et2, sp2, ho2, mo2, cs2, uw2, wh2, pl2, nu2, en2, rfl, rfl, hw2, h42, by omega, hJ2⟩
      · have qc : ¬ oc how1 wh1 = 100 + a := fun e => qw (eqi (by
          rw [q, oc4] at e
          have e2 := congrArg Int32.toInt e
          rw [t100 (by omega), t100 ha] at e2
          omega))
        simp only [if_neg qw, if_neg qc]
        exact ⟨how1, ma1, rf1, et1, sp1, ho1, mo1, cs1, uw1, wh1, pl1, nu1, en1, rfl, rfl, hw1, h41, hm1, hJ1⟩
  · simp only [if_neg q, if_pos (ht.mpr q)]
    exact ⟨how1, ma1, rf1, et1, sp1, ho1, mo1, cs1, uw1, wh1, pl1, nu1, en1, rfl, rfl, hw1, h41, hm1, hJ1⟩
theorem lp_end {n : Nat} {t x how k : Int32} (h : ¬ how = 0) : L_X5_loop_15 rm (n + 1) t x how k th ma to rn rf et sp ho mo cs uw wh lo pl nu de si ki aa xx yy en = (if how = 1 then 0 else how, th, ma, to, rn, rf, et, sp, ho, mo, cs, uw, wh, lo - 1, pl, nu, de, si, ki, aa, xx, yy, en) := by
  simp only [L_X5_loop_15]
  by_cases q : how = 1
  · simp only [if_pos q, if_neg h]
    split <;> rfl
  · simp only [if_neg q, if_neg h]
    split <;> rfl
theorem rel_lp (hR : RR d rm rc) {t x b : Int32} (ht : t.toInt ≤ 5) (hB : HB4 d x b) (hlo : LO (d + 1) lo) : ∀ (n k : Nat) (ma rf et sp ho mo cs uw wh : Int32) (pl nu en : Nat → Int32), k ≤ 5 → 5 < k + n → J δ ma et sp pl nu de si ki aa xx yy → REL δ th to rn lo ma de si ki aa xx yy (L_X5_loop_15 rm n t x 0 (nI k) th ma to rn rf et sp ho mo cs uw wh (lo + 1) pl nu de si ki aa xx yy en) (L_X1_doLoop_10 rc n t x b t (nI k) rf ma pl nu de to si ki aa xx yy et sp ho uw mo cs en) := by
  intro n
  induction n with
  | zero =>
    intro k ma rf et sp ho mo cs uw wh pl nu en h1 h2
    exact absurd h2 (by omega)
  | succ n ih =>
    intro k ma rf et sp ho mo cs uw wh pl nu en h1 h2 hJ
    have eL : L_X5_loop_15 rm (n + 1) t x 0 (nI k) th ma to rn rf et sp ho mo cs uw wh (lo + 1) pl nu de si ki aa xx yy en = (if t ≤ nI k then (0, th, ma, to, rn, rf, et, sp, ho, mo, cs, uw, wh, lo + 1 - 1, pl, nu, de, si, ki, aa, xx, yy, en) else (match rm th ma to rn rf et sp ho mo cs uw wh (lo + 1) pl nu de si ki aa xx yy en x with | (r_5, th_5, ma_5, to_5, rn_5, rf_5, et_5, sp_5, ho_5, mo_5, cs_5, uw_5, wh_5, lo_5, pl_5, nu_5, de_5, si_5, ki_5, aa_5, xx_5, yy_5, en_5) => (if r_5 = 2 then L_X5_loop_15 rm n t x 0 (nI k + 1) th_5 ma_5 to_5 rn_5 rf_5 et_5 sp_5 ho_5 mo_5 cs_5 uw_5 wh_5 lo_5 pl_5 nu_5 de_5 si_5 ki_5 aa_5 xx_5 yy_5 en_5 else L_X5_loop_15 rm n t x r_5 (nI k + 1) th_5 ma_5 to_5 rn_5 rf_5 et_5 sp_5 ho_5 mo_5 cs_5 uw_5 wh_5 lo_5 pl_5 nu_5 de_5 si_5 ki_5 aa_5 xx_5 yy_5 en_5))) := by
      simp only [L_X5_loop_15, if_neg (show ¬ (0 : Int32) = 1 by decide), if_true]
    rw [eL]
    simp only [L_X1_doLoop_10]
    by_cases q : t ≤ nI k
    · simp only [if_pos q]
      exact ⟨0, ma, rf, et, sp, ho, mo, cs, uw, wh, pl, nu, en, by rw [add1sub1], by rw [oc0], by decide, fun e => absurd e (by decide), by omega, hJ⟩
    · simp only [if_neg q]
      have hk5 : k < 5 := by
        rw [Int32.le_iff_toInt_le, nI_ti (by omega)] at q
        omega
      have hup := hlo.up
      have hil : (1 : Int32) = 0 ↔ lo + 1 ≤ 0 := by
        constructor
        · intro e
          exact absurd e (by decide)
        · intro e
          rw [Int32.le_iff_toInt_le, c0] at e
          have e2 : (lo + 1).toInt = lo.toInt + 1 := inc1 hlo.1 (by have := hlo.2; omega)
          have := hlo.1
          omega
      obtain ⟨how1, ma1, rf1, et1, sp1, ho1, mo1, cs1, uw1, wh1, pl1, nu1, en1, hM1, hC1, hw1, h41, hm1, hJ1⟩ := hR δ th ma to rn rf et sp ho mo cs uw wh (lo + 1) pl nu de si ki aa xx yy en x b 1 hB hJ hup hil
      simp only [hM1, hC1]
      have nk : nI k + 1 = nI (k + 1) := nI_1 k
      by_cases q2 : how1 = 2
      · subst q2
        have n1 : ¬ oc 2 wh1 = 1 := by rw [oc2]; decide
        have n0 : ¬ oc 2 wh1 = 0 := by rw [oc2]; decide
        simp only [if_true, if_neg n1, if_neg n0, oc2, nk]
        exact (ih (k + 1) ma1 rf1 et1 sp1 ho1 mo1 cs1 uw1 wh1 pl1 nu1 en1 (by omega) (by omega) hJ1).mono hm1 (Nat.le_refl _)
      · have n2 : ¬ oc how1 wh1 = 2 := fun e => q2 ((oc_eq h41 (by decide) (by decide)).mp e)
        simp only [if_neg q2, if_neg n2]
        by_cases q0 : how1 = 0
        · subst q0
          have n1 : ¬ oc 0 wh1 = 1 := by rw [oc0]; decide
          simp only [if_neg n1, oc0, if_true, nk]
          exact (ih (k + 1) ma1 rf1 et1 sp1 ho1 mo1 cs1 uw1 wh1 pl1 nu1 en1 (by omega) (by omega) hJ1).mono hm1 (Nat.le_refl _)
        · have n0 : ¬ oc how1 wh1 = 0 := fun e => q0 ((oc_eq h41 (by decide) (by decide)).mp e)
          obtain ⟨n', rfl⟩ : ∃ n', n = n' + 1 := ⟨n - 1, by omega⟩
          rw [lp_end q0, add1sub1]
          by_cases q1 : how1 = 1
          · have n1 : oc how1 wh1 = 1 := (oc_eq h41 (by decide) (by decide)).mpr q1
            simp only [if_pos q1, if_pos n1]
            exact ⟨0, ma1, rf1, et1, sp1, ho1, mo1, cs1, uw1, wh1, pl1, nu1, en1, rfl, by rw [oc0], by decide, fun e => absurd e (by decide), hm1, hJ1⟩
          · have n1 : ¬ oc how1 wh1 = 1 := fun e => q1 ((oc_eq h41 (by decide) (by decide)).mp e)
            simp only [if_neg q1, if_neg n1, if_neg n0]
            exact ⟨how1, ma1, rf1, et1, sp1, ho1, mo1, cs1, uw1, wh1, pl1, nu1, en1, rfl, rfl, hw1, h41, hm1, hJ1⟩
theorem rel_loop (hR : RR d rm rc) {t x b : Int32} (ht : t.toInt ≤ 5) (hB : HB4 d x b) (hJ : J δ ma et sp pl nu de si ki aa xx yy) (hlo : LO (d + 1) lo) : REL δ th to rn lo ma de si ki aa xx yy (f_X5_loop rm th ma to rn rf et sp ho mo cs uw wh lo pl nu de si ki aa xx yy en t x) (f_X1_doLoop rc rf ma pl nu de to si ki aa xx yy et sp ho uw mo cs en t x b) := by
  have e : (if 5 < t then 5 else t : Int32) = t := if_neg (by rw [Int32.lt_iff_toInt_lt, c5]; omega)
  simp only [f_X5_loop, f_X1_doLoop, e]
  have := rel_lp (th := th) (to := to) (rn := rn) hR ht hB hlo 6 0 ma rf et sp ho mo cs uw wh pl nu en (by omega) (by omega) hJ
  rw [nI_0] at this
  exact this
theorem de_at (hJ : J (δ + 14) ma et sp pl nu de si ki aa xx yy) (n : Nat) : (de n + 1).toInt = (de n).toInt + 1 := inc1 (hJ.2.2.2.1 n).1 (by have h1 := (hJ.2.2.2.1 n).2; have h2 := hJ.2.2.2.2.2.1.2; omega)
theorem J_begin {t : Int32} (hJ : J (δ + 14) ma et sp pl nu de si ki aa xx yy) (ht : 0 ≤ t.toInt ∧ t.toInt < ma.toInt) : J (δ + 1) ma (et + 1) sp pl nu (upd de t.toNatClampNeg (de t.toNatClampNeg + 1)) si ki aa xx yy := by
  have e : (et + 1).toInt = et.toInt + 1 := inc1 hJ.et0 (by have := hJ.et5; omega)
  have ed := de_at hJ
  have hc := cln ht.1
  obtain ⟨h1, h2, h3, h4, h5, h6, h7⟩ := hJ
  refine ⟨h1, h2, fun s hs => ⟨(h3 s hs).1, ?_⟩, fun s => ?_, ⟨by omega, by rw [e]; omega⟩, h6, h7⟩
  · rw [pk_un (by omega)]
    exact (h3 s hs).2
  · by_cases q : s = t.toNatClampNeg
    · rw [q, pk_us, ed]
      have := h4 t.toNatClampNeg
      omega
    · rw [pk_un q]
      have := h4 s
      omega
theorem J_leave {t : Int32} (hJ : J (δ + 14) ma et sp pl nu de si ki aa xx yy) (ht : 0 ≤ t.toInt ∧ t.toInt < ma.toInt) {ma1 et1 sp1 : Int32} {pl1 nu1 : Nat → Int32} (hm : ma.toInt ≤ ma1.toInt) (hJ1 : J (δ + 1) ma1 et1 sp1 pl1 nu1 (upd de t.toNatClampNeg (de t.toNatClampNeg + 1)) si ki aa xx yy) : J δ ma1 (et1 + 1) sp1 pl1 nu1 de si ki aa xx yy := by
  have e : (et1 + 1).toInt = et1.toInt + 1 := inc1 hJ1.et0 (by have := hJ1.et5; omega)
  have ed := de_at hJ
  obtain ⟨g1, g2, g3, g4, g5, g6, g7⟩ := hJ1
  refine ⟨g1, g2, fun s hs => ⟨(g3 s hs).1, (hJ.2.2.1 s (by omega)).2⟩, fun s => ?_, ⟨by omega, by rw [e]; omega⟩, g6, g7⟩
  have q1 := g4 s
  have q2 := hJ.2.2.2.1 s
  by_cases q : s = t.toNatClampNeg
  · rw [q, pk_us, ed] at q1
    rw [q] at q2 ⊢
    omega
  · rw [pk_un q] at q1
    omega
theorem rel_hold (hR : RR d rm rc) {a x b il : Int32} (ha : vp_in a 6) (hB : HB4 d x b) (hJ : J (δ + 14) ma et sp pl nu de si ki aa xx yy) (hlo : LO (d + 1) lo) (hil : il = 0 ↔ lo ≤ 0) : REL δ th to rn lo ma de si ki aa xx yy (if pl a.toNatClampNeg = (-1) then (4, th, ma, to, rn, rf + 1, et, sp, ho, mo, cs, uw, 12, lo, pl, nu, de, si, ki, aa, xx, yy, en) else f_X5_hold rm th ma to rn rf et sp ho mo cs uw wh lo pl nu de si ki aa xx yy en (pl a.toNatClampNeg) x) (f_X1_doHold rc rf ma pl nu de to si ki aa xx yy et sp ho uw mo cs en a x b il) := by
  by_cases q : pl a.toNatClampNeg = (-1)
  · simp only [f_X1_doHold, x_thing ha, if_pos q]
    exact ⟨4, ma, rf + 1, et, sp, ho, mo, cs, uw, 12, pl, nu, en, rfl, by rw [oc4]; rfl, by decide, fun _ => by decide, by omega, hJ.weak (by omega)⟩
  · have ht := pl_ok hJ ha q
    have hJb := J_begin hJ ht
    simp only [f_X5_hold, f_X1_doHold, x_thing ha, if_neg q, x_begin, x_cbegin ht]
    obtain ⟨how1, ma1, rf1, et1, sp1, ho1, mo1, cs1, uw1, wh1, pl1, nu1, en1, hM1, hC1, hw1, h41, hm1, hJ1⟩ := hR (δ + 1) th ma to rn rf (et + 1) sp (ho + 1) (mx mo (uw + 1)) cs (uw + 1) wh lo pl nu (upd de (pl a.toNatClampNeg).toNatClampNeg (de (pl a.toNatClampNeg).toNatClampNeg + 1)) si ki aa xx yy (ent et en (1000 + pl a.toNatClampNeg)) x b il hB hJb hlo.down hil
    have ht1 : 0 ≤ (pl a.toNatClampNeg).toInt ∧ (pl a.toNatClampNeg).toInt < ma1.toInt := by omega
    have hfin := J_leave hJ ht hm1 hJ1
    have hth := oc_thr hw1 h41
    simp only [hM1, hC1, x_leave, upd_back]
    by_cases q4 : how1 = 4
    · simp only [if_neg (fun e => hth.mp e q4), x_cleave ht1 (show 0 ≤ (4 : Int32).toInt ∧ (4 : Int32).toInt ≤ 5 by decide), upd_back]
      subst q4
      exact ⟨4, ma1, rf1, et1 + 1, sp1, ho1, mo1, _, _, wh1, pl1, nu1, _, rfl, rfl, hw1, h41, hm1, hfin⟩
    · have e4 : oc how1 wh1 = how1 := if_neg q4
      have hz : f_X4_isThrown how1 = 0 := by
        have := hth.mpr q4
        rw [e4] at this
        exact this
      simp only [e4, if_pos hz, x_cleave ht1 hw1, upd_back]
      exact ⟨how1, ma1, rf1, et1 + 1, sp1, ho1, mo1, _, _, wh1, pl1, nu1, _, rfl, by rw [e4], hw1, h41, hm1, hfin⟩
end SIM
