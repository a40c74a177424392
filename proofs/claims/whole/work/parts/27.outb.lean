section OUT
variable {k : Nat} {th ma to rn rf et sp ho mo cs uw wh lo : Int32} {pl nu de si ki aa xx yy en : Nat → Int32}
theorem pub_thing (hO : OI k ma to et sp pl nu de si ki aa xx yy) (p : Int32) : PUB k (f_X4_thing rn ma pl nu de to si ki aa xx yy et sp ho uw mo cs en rf p) (f_X5_thing th ma to rn rf et sp ho mo cs uw wh lo pl nu de si ki aa xx yy en p) := by
  simp only [f_X4_thing, f_X5_thing]
  by_cases h1 : f_X4_isPlace p = 0
  · have g1 : f_X5_isPlace p = 0 := h1
    simp only [if_pos h1, if_pos g1]
    exact ⟨_, 0, ma, to, rn, rf, et, sp, ho, mo, cs, uw, wh, lo, pl, nu, de, si, ki, aa, xx, yy, en, rfl, rfl, hO.up⟩
  · have g1 : ¬ f_X5_isPlace p = 0 := h1
    simp only [if_neg h1, if_neg g1, f_X2_makeThing]
    have hp := in_place h1
    by_cases q : ma = 60
    · have q1 : ¬ ma < 60 := by rw [q]; decide
      simp only [if_pos q, if_neg q1]
      exact ⟨_, 0, ma, to, rn, rf, et, sp, ho, mo, cs, uw, wh, lo, pl, nu, de, si, ki, aa, xx, yy, en, rfl, rfl, hO.up⟩
    · have hn := nei q
      rw [c60] at hn
      have q1 : ma < 60 := by rw [Int32.lt_iff_toInt_lt, c60]; have := hO.1.1.2; omega
      simp only [if_neg q, if_pos q1, x_put hp, x_made hO.1]
      exact ⟨_, 0, ma + 1, to, rn, rf, et, sp, ho, mo, cs, uw, wh, lo, upd pl p.toNatClampNeg ma, nu, de, si, ki, aa, xx, yy, en, rfl, rfl, J_made hO.1 hp q, hO.2.1, hO.up.2.2⟩
theorem pub_set (hO : OI k ma to et sp pl nu de si ki aa xx yy) (a b : Int32) : PUB k (f_X4_set rn ma pl nu de to si ki aa xx yy et sp ho uw mo cs en rf a b) (f_X5_set th ma to rn rf et sp ho mo cs uw wh lo pl nu de si ki aa xx yy en a b) := by
  simp only [f_X4_set, f_X5_set, upd_at]
  by_cases h1 : f_X4_isPlace a = 0
  · have g1 : f_X5_isPlace a = 0 := h1
    simp only [if_pos h1, if_pos g1]
    exact ⟨_, 0, ma, to, rn, rf, et, sp, ho, mo, cs, uw, wh, lo, pl, nu, de, si, ki, aa, xx, yy, en, rfl, rfl, hO.up⟩
  · have g1 : ¬ f_X5_isPlace a = 0 := h1
    simp only [if_neg h1, if_neg g1]
    have hp := in_place h1
    by_cases q : b = (-1)
    · subst q
      have e1 : ¬ f_X5_in (-1) (-1) 5 = 0 := by decide
      have e2 : f_X2_thingIn ma pl nu de (-1) = (-1) := by
        unfold f_X2_thingIn
        rw [if_pos (by decide)]
      simp only [if_true, if_neg e1, e2, x_put hp]
      exact ⟨_, 0, ma, to, rn, rf, et, sp, ho, mo, cs, uw, wh, lo, upd pl a.toNatClampNeg (-1), nu, de, si, ki, aa, xx, yy, en, rfl, rfl, J_put hO.1 hp (Or.inl cm1), hO.2.1, hO.up.2.2⟩
    · have hn := nei q
      rw [cm1] at hn
      by_cases h2 : f_X4_isPlace b = 0
      · have h3 : f_X5_in b (-1) 5 = 0 := by
          have h4 : f_X4_isWithin b 0 5 = 0 := h2
          rw [iw_0, c0, c5] at h4
          rw [in_eq, iw_0, cm1, c5]
          omega
        simp only [if_neg q, if_pos h2, if_pos h3]
        exact ⟨_, 0, ma, to, rn, rf, et, sp, ho, mo, cs, uw, wh, lo, pl, nu, de, si, ki, aa, xx, yy, en, rfl, rfl, hO.up⟩
      · have h3 : ¬ f_X5_in b (-1) 5 = 0 := by
          have h4 : ¬ f_X4_isWithin b 0 5 = 0 := h2
          rw [iw_0, c0, c5] at h4
          rw [in_eq, iw_0, cm1, c5]
          omega
        have hq := in_place h2
        simp only [if_neg q, if_neg h2, if_neg h3, x_thing hq, x_put hp]
        exact ⟨_, 0, ma, to, rn, rf, et, sp, ho, mo, cs, uw, wh, lo, upd pl a.toNatClampNeg (pl b.toNatClampNeg), nu, de, si, ki, aa, xx, yy, en, rfl, rfl, J_put hO.1 hp (pl_or hO.1 hq), hO.2.1, hO.up.2.2⟩
theorem J_prog {si' ki' aa' xx' yy' : Nat → Int32} (hJ : J 0 ma et sp pl nu de si ki aa xx yy) (h : PV si' ki' aa' xx' yy') : J 0 ma et sp pl nu de (si') (ki') (aa') (xx') (yy') := ⟨hJ.1, hJ.2.1, hJ.2.2.1, hJ.2.2.2.1, hJ.2.2.2.2.1, hJ.2.2.2.2.2.1, h⟩
theorem pub_clear (hk : k ≤ 1000) (hO : OI k ma to et sp pl nu de si ki aa xx yy) (b : Int32) : PUB k (f_X4_clear rn ma pl nu de to si ki aa xx yy et sp ho uw mo cs en rf b) (f_X5_clear th ma to rn rf et sp ho mo cs uw wh lo pl nu de si ki aa xx yy en b) := by
  simp only [f_X4_clear, f_X0_empty, f_X5_clear]
  by_cases h1 : f_X4_isBlock b = 0
  · have h2 : f_X5_in b 0 39 = 0 := h1
    simp only [if_pos h1, if_pos h2]
    exact ⟨_, 0, ma, to, rn, rf, et, sp, ho, mo, cs, uw, wh, lo, pl, nu, de, si, ki, aa, xx, yy, en, rfl, rfl, hO.up⟩
  · have h2 : ¬ f_X5_in b 0 39 = 0 := h1
    simp only [if_neg h1, if_neg h2]
    obtain ⟨j, j1, j2, j3⟩ := vpn (in_block h1)
    have hs := (hO.1.pv j j1).1
    refine ⟨si b.toNatClampNeg, 0, ma, to - si b.toNatClampNeg, rn, rf, et, sp, ho, mo, cs, uw, wh, lo, pl, nu, de, upd si b.toNatClampNeg 0, ki, aa, xx, yy, en, rfl, rfl, J_prog hO.1 (fun c hc => ?_), hO.2.1, ?_⟩
    · by_cases q : c = b.toNatClampNeg
      · rw [q, pk_us]
        exact ⟨by decide, fun n hn => absurd hn (by rw [c0]; omega)⟩
      · rw [pk_un q]
        exact hO.1.pv c hc
    · have ht := hO.2.2
      rw [j3]
      have e : (to - si j).toInt = to.toInt - (si j).toInt := ti_sub (by omega) (by omega)
      rw [e]
      omega
theorem pv_add {b n : Nat} {p1 p2 p3 p4 : Int32} (hb : b < 40) (hPV : PV si ki aa xx yy) (hn : si b = nI n) (hn12 : n < 12) (hv : VS b p1 p2 p3 p4) : PV (upd si b (si b + 1)) (upd ki (12 * b + n) p1) (upd aa (12 * b + n) p2) (upd xx (12 * b + n) p3) (upd yy (12 * b + n) p4) := by
  intro c hc
  by_cases q : c = b
  · subst q
    rw [pk_us]
    have e : (si c + 1).toInt = (n : Int) + 1 := by rw [hn, nI_1, nI_ti (by omega)]; omega
    refine ⟨by rw [e]; omega, fun m hm => ?_⟩
    rw [e] at hm
    by_cases qm : m = n
    · subst qm
      rw [pk_us, pk_us, pk_us, pk_us]
      exact hv
    · rw [pk_un (by omega), pk_un (by omega), pk_un (by omega), pk_un (by omega)]
      exact (hPV c hc).2 m (by rw [hn, nI_ti (by omega)]; omega)
  · rw [pk_un q]
    refine ⟨(hPV c hc).1, fun m hm => ?_⟩
    have h12 := (hPV c hc).1.2
    rw [pk_un (by omega), pk_un (by omega), pk_un (by omega), pk_un (by omega)]
    exact (hPV c hc).2 m hm
theorem pub_step (hk : k ≤ 1000) (hO : OI k ma to et sp pl nu de si ki aa xx yy) (p0 p1 p2 p3 p4 : Int32) : PUB k (f_X4_step rn ma pl nu de to si ki aa xx yy et sp ho uw mo cs en rf p0 p1 p2 p3 p4) (f_X5_step th ma to rn rf et sp ho mo cs uw wh lo pl nu de si ki aa xx yy en p0 p1 p2 p3 p4) := by
  simp only [f_X4_step, f_X5_step]
  have BADc : f_X4_isStep p0 p1 p2 p3 p4 = 0 → PUB k (if f_X4_isStep p0 p1 p2 p3 p4 = 0 then ((-2), rn, ma, pl, nu, de, to, si, ki, aa, xx, yy, et, sp, ho, uw, mo, cs, en, rf) else (match f_X0_append to si ki aa xx yy p0 p1 p2 p3 p4 with | (r_2, to_2, si_2, ki_2, aa_2, xx_2, yy_2) => (r_2, rn, ma, pl, nu, de, to_2, si_2, ki_2, aa_2, xx_2, yy_2, et, sp, ho, uw, mo, cs, en, rf))) ((-2), 0, ma, to, rn, rf, et, sp, ho, mo, cs, uw, wh, lo, pl, nu, de, si, ki, aa, xx, yy, en) := by
    intro e
    rw [if_pos e]
    exact ⟨_, 0, ma, to, rn, rf, et, sp, ho, mo, cs, uw, wh, lo, pl, nu, de, si, ki, aa, xx, yy, en, rfl, rfl, hO.up⟩
  by_cases h1 : f_X4_isBlock p0 = 0
  · have h2 : f_X5_in p0 0 39 = 0 := h1
    simp only [if_pos h2]
    exact BADc (by unfold f_X4_isStep; rw [if_pos h1])
  · have h2 : ¬ f_X5_in p0 0 39 = 0 := h1
    simp only [if_neg h2]
    by_cases h3 : f_X5_in p1 0 14 = 0
    · simp only [if_pos h3]
      rw [in_eq, iw_0, c0, c14] at h3
      exact BADc (step_bad h3)
    · simp only [if_neg h3]
      rw [in_eq, iw_0, c0, c14] at h3
      have hk14 : 0 ≤ p1.toInt ∧ p1.toInt ≤ 14 := by omega
      have hb := in_block h1
      have hse := step_eq (p2 := p2) (p3 := p3) (p4 := p4) hb hk14
      by_cases h4 : f_X5_isRight p0 p1 p2 p3 p4 = 0
      · simp only [if_pos h4]
        exact BADc (hse.trans h4)
      · have h5 : ¬ f_X4_isStep p0 p1 p2 p3 p4 = 0 := by rw [hse]; exact h4
        obtain ⟨j, j1, j2, j3⟩ := vpn hb
        have hs := (hO.1.pv j j1).1
        have ht := hO.2.2
        simp only [if_neg h4, if_neg h5, f_X0_append, if_neg h1]
        by_cases q12 : si p0.toNatClampNeg = 12
        · have n12 : ¬ si p0.toNatClampNeg < 12 := by rw [q12]; decide
          simp only [if_pos q12, if_neg n12]
          by_cases q150 : 150 ≤ to
          · simp only [if_pos q150]
            exact ⟨_, 0, ma, to, rn, rf, et, sp, ho, mo, cs, uw, wh, lo, pl, nu, de, si, ki, aa, xx, yy, en, rfl, rfl, hO.up⟩
          · simp only [if_neg q150]
            exact ⟨_, 0, ma, to, rn, rf, et, sp, ho, mo, cs, uw, wh, lo, pl, nu, de, si, ki, aa, xx, yy, en, rfl, rfl, hO.up⟩
        · simp only [if_neg q12]
          by_cases q150 : to = 150
          · have m150 : 150 ≤ to := by rw [q150]; decide
            simp only [if_pos q150, if_pos m150]
            exact ⟨_, 0, ma, to, rn, rf, et, sp, ho, mo, cs, uw, wh, lo, pl, nu, de, si, ki, aa, xx, yy, en, rfl, rfl, hO.up⟩
          · have n150 := nei q150
            rw [show (150 : Int32).toInt = 150 by decide] at n150
            have m150 : ¬ 150 ≤ to := by
              rw [Int32.le_iff_toInt_le, show (150 : Int32).toInt = 150 by decide]
              omega
            have n12 := nei q12
            rw [c12, j3] at n12
            have m12 : si p0.toNatClampNeg < 12 := by
              rw [Int32.lt_iff_toInt_lt, c12, j3]
              omega
            obtain ⟨n, hn1, hn2⟩ : ∃ n : Nat, n < 12 ∧ si j = nI n := vp_in_of (by rw [vp_in_iff]; omega) (by decide)
            have ep : p0 = nI j := eqi (by rw [j2, nI_ti (by omega)])
            have ei : (12 * p0 + si p0.toNatClampNeg).toNatClampNeg = 12 * j + n := by
              rw [j3, hn2, ep, mul12' j1 hn1, nI_clamp (by omega)]
            have ei2 : (p0 * 12 + si p0.toNatClampNeg).toNatClampNeg = 12 * j + n := by
              rw [j3, hn2, ep, mul12 j1 hn1, nI_clamp (by omega)]
            simp only [if_neg q150, if_neg m150, if_pos m12, ei, ei2]
            refine ⟨_, 0, ma, to + 1, rn, rf, et, sp, ho, mo, cs, uw, wh, lo, pl, nu, de, upd si p0.toNatClampNeg (si p0.toNatClampNeg + 1), upd ki (12 * j + n) p1, upd aa (12 * j + n) p2, upd xx (12 * j + n) p3, upd yy (12 * j + n) p4, en, rfl, rfl, J_prog hO.1 ?_, hO.2.1, ?_⟩
            · rw [j3]
              exact pv_add j1 hO.1.pv hn2 hn1 (right_vs j2 hk14 h4)
            · have e : (to + 1).toInt = to.toInt + 1 := by rw [ti_add] <;> rw [c1] <;> omega
              rw [e]
              omega
theorem pub_trace (hO : OI k ma to et sp pl nu de si ki aa xx yy) (p : Int32) : f_X5_trace th ma to rn rf et sp ho mo cs uw wh lo pl nu de si ki aa xx yy en p = (f_X4_trace rn ma pl nu de to si ki aa xx yy et sp ho uw mo cs en rf p, 0, ma, to, rn, rf, et, sp, ho, mo, cs, uw, wh, lo, pl, nu, de, si, ki, aa, xx, yy, en) := by
  simp only [f_X4_trace, f_X3_entry, f_X5_trace]
  have h0 := hO.1.et0
  have h5 := hO.1.et5
  have e250 : (250 : Int32).toInt = 250 := by decide
  have em : ((if 250 < et then 250 else et) - 1 : Int32).toInt = (if 250 < et.toInt then 250 else et.toInt) - 1 := by
    by_cases q : 250 < et
    · rw [if_pos q]
      rw [Int32.lt_iff_toInt_lt, e250] at q
      rw [if_pos q]
      decide
    · rw [if_neg q]
      rw [Int32.lt_iff_toInt_lt, e250] at q
      rw [if_neg q, ti_sub] <;> rw [c1] <;> omega
  by_cases h1 : f_X5_in p 0 249 = 0
  · have h1'' := h1
    have h2 : f_X4_isWithin p 0 ((if 250 < et then 250 else et) - 1) = 0 := by
      rw [in_eq, iw_0, c0, show (249 : Int32).toInt = 249 by decide] at h1
      rw [iw_0, c0, em]
      split <;> omega
    simp only [if_pos h1'', if_pos h2]
  · have h1' := h1
    rw [in_eq, iw_0, c0, show (249 : Int32).toInt = 249 by decide] at h1
    by_cases h3 : et ≤ p
    · have h2 : f_X4_isWithin p 0 ((if 250 < et then 250 else et) - 1) = 0 := by
        rw [Int32.le_iff_toInt_le] at h3
        rw [iw_0, c0, em]
        split <;> omega
      simp only [if_neg h1', if_pos h3, if_pos h2]
    · have h2 : ¬ f_X4_isWithin p 0 ((if 250 < et then 250 else et) - 1) = 0 := by
        rw [Int32.le_iff_toInt_le] at h3
        rw [iw_0, c0, em]
        split <;> omega
      simp only [if_neg h1', if_neg h3, if_neg h2]
theorem pub_told (p : Int32) : f_X5_told th ma to rn rf et sp ho mo cs uw wh lo pl nu de si ki aa xx yy en p = (f_X4_told rn ma pl nu de to si ki aa xx yy et sp ho uw mo cs en rf p, 0, ma, to, rn, rf, et, sp, ho, mo, cs, uw, wh, lo, pl, nu, de, si, ki, aa, xx, yy, en) := by
  simp only [f_X4_told, f_X5_told]
  by_cases h0 : p = 0
  · simp only [if_pos h0]
  by_cases h1 : p = 1
  · simp only [if_neg h0, if_pos h1]
  by_cases h2 : p = 2
  · simp only [if_neg h0, if_neg h1, if_pos h2]
  by_cases h3 : p = 3
  · simp only [if_neg h0, if_neg h1, if_neg h2, if_pos h3]
  by_cases h4 : p = 4
  · simp only [if_neg h0, if_neg h1, if_neg h2, if_neg h3, if_pos h4]
  simp only [if_neg h0, if_neg h1, if_neg h2, if_neg h3, if_neg h4]
theorem pub_count (p : Int32) : f_X5_count th ma to rn rf et sp ho mo cs uw wh lo pl nu de si ki aa xx yy en p = (f_X4_count rn ma pl nu de to si ki aa xx yy et sp ho uw mo cs en rf p, 0, ma, to, rn, rf, et, sp, ho, mo, cs, uw, wh, lo, pl, nu, de, si, ki, aa, xx, yy, en) := by
  simp only [f_X4_count, f_X5_count]
  by_cases h0 : p = 0
  · simp only [if_pos h0]
  by_cases h1 : p = 1
  · simp only [if_neg h0, if_pos h1]
  by_cases h2 : p = 2
  · simp only [if_neg h0, if_neg h1, if_pos h2]
  by_cases h3 : p = 3
  · simp only [if_neg h0, if_neg h1, if_neg h2, if_pos h3]
  simp only [if_neg h0, if_neg h1, if_neg h2, if_neg h3]
theorem pub_at (p : Int32) : f_X5_at th ma to rn rf et sp ho mo cs uw wh lo pl nu de si ki aa xx yy en p = (f_X4_at rn ma pl nu de to si ki aa xx yy et sp ho uw mo cs en rf p, 0, ma, to, rn, rf, et, sp, ho, mo, cs, uw, wh, lo, pl, nu, de, si, ki, aa, xx, yy, en) := by
  simp only [f_X4_at, f_X5_at]
  by_cases h1 : f_X4_isPlace p = 0
  · have g1 : f_X5_isPlace p = 0 := h1
    simp only [if_pos h1, if_pos g1]
  · have g1 : ¬ f_X5_isPlace p = 0 := h1
    simp only [if_neg h1, if_neg g1, x_thing (in_place h1)]
theorem pub_number (hO : OI k ma to et sp pl nu de si ki aa xx yy) (p : Int32) : f_X5_number th ma to rn rf et sp ho mo cs uw wh lo pl nu de si ki aa xx yy en p = (f_X4_number rn ma pl nu de to si ki aa xx yy et sp ho uw mo cs en rf p, 0, ma, to, rn, rf, et, sp, ho, mo, cs, uw, wh, lo, pl, nu, de, si, ki, aa, xx, yy, en) := by
  simp only [f_X4_number, f_X2_numberOf, f_X5_number]
  have hm := hO.1.1
  have e : (ma - 1).toInt = ma.toInt - 1 := by rw [ti_sub] <;> rw [c1] <;> omega
  by_cases h1 : f_X5_in p 0 (ma - 1) = 0
  · have h2 : f_X2_isThing ma pl nu de p = 0 := by
      rw [in_eq, iw_0, c0, e] at h1
      unfold f_X2_isThing
      by_cases q : p < 0
      · rw [if_pos q]
      · rw [if_neg q]
        rw [Int32.lt_iff_toInt_lt, c0] at q
        rw [if_pos (by rw [Int32.le_iff_toInt_le]; omega)]
    simp only [if_pos h1, if_pos h2]
  · have h2 : ¬ f_X2_isThing ma pl nu de p = 0 := by
      rw [in_eq, iw_0, c0, e] at h1
      exact is_thing0 (by omega)
    simp only [if_neg h1, if_neg h2]
end OUT
