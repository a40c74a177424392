section SIM
variable {d δ : Nat} {rm : TRM} {rc : TRC} {th ma to rn rf et sp ho mo cs uw wh lo : Int32} {pl nu de si ki aa xx yy en : Nat → Int32}
theorem rel_add {a x : Int32} (hx : vp_in x 6) (hJ : J δ ma et sp pl nu de si ki aa xx yy) : REL δ th to rn lo ma de si ki aa xx yy (f_X5_add th ma to rn rf et sp ho mo cs uw wh lo pl nu de si ki aa xx yy en (pl x.toNatClampNeg) a) (f_X1_doAdd rf ma pl nu de to si ki aa xx yy et sp ho uw mo cs en a x) := by
  simp only [f_X5_add, f_X1_doAdd, x_thing hx, x_throw]
  by_cases q : pl x.toNatClampNeg = (-1)
  · simp only [if_pos q]
    exact ⟨4, ma, rf, et, sp, ho, mo, cs, uw, 12, pl, nu, en, rfl, by rw [oc4]; rfl, by decide, fun _ => by decide, by omega, hJ⟩
  · have ht := pl_ok hJ hx q
    have hd := hJ.2.2.2.1 (pl x.toNatClampNeg).toNatClampNeg
    simp only [if_neg q, f_X2_isHeld, if_neg (is_thing0 ht), f_X2_raiseNumber]
    by_cases q0 : de (pl x.toNatClampNeg).toNatClampNeg = 0
    · have q1 : de (pl x.toNatClampNeg).toNatClampNeg ≤ 0 := by rw [q0]; decide
      simp only [if_pos q0, if_pos q1, if_true]
      exact ⟨4, ma, rf, et, sp, ho, mo, cs, uw, 11, pl, nu, en, rfl, by rw [oc4]; rfl, by decide, fun _ => by decide, by omega, hJ⟩
    · have q1 : ¬ de (pl x.toNatClampNeg).toNatClampNeg ≤ 0 := by
        have := nei q0
        rw [c0] at this
        rw [Int32.le_iff_toInt_le, c0]
        omega
      simp only [if_neg q0, if_neg q1, if_neg (show ¬ (1 : Int32) = 0 by decide)]
      refine ⟨0, ma, rf, et, sp, ho, mo, cs, uw, wh, pl, _, en, rfl, by rw [oc0], by decide, fun e => absurd e (by decide), by omega, ?_⟩
      have hc := cln ht.1
      obtain ⟨h1, h2, h3, h4, h5, h6, h7⟩ := hJ
      refine ⟨h1, h2, fun s hs => ⟨?_, (h3 s hs).2⟩, h4, h5, h6, h7⟩
      rw [pk_un (by omega)]
      exact (h3 s hs).1
theorem J_put {x v : Int32} (hJ : J δ ma et sp pl nu de si ki aa xx yy) (hx : vp_in x 6) (hv : v.toInt = -1 ∨ (0 ≤ v.toInt ∧ v.toInt < ma.toInt)) : J δ ma et sp (upd pl x.toNatClampNeg v) nu de si ki aa xx yy := by
  obtain ⟨h1, h2, h3, h4, h5, h6, h7⟩ := hJ
  refine ⟨h1, fun p hp => ?_, h3, h4, h5, h6, h7⟩
  by_cases q : p = x.toNatClampNeg
  · rw [q, pk_us]
    exact hv
  · rw [pk_un q]
    exact h2 p hp
theorem pl_or {x : Int32} (hJ : J δ ma et sp pl nu de si ki aa xx yy) (hx : vp_in x 6) : (pl x.toNatClampNeg).toInt = -1 ∨ (0 ≤ (pl x.toNatClampNeg).toInt ∧ (pl x.toNatClampNeg).toInt < ma.toInt) := by
  obtain ⟨j, h1, h2, h3⟩ := vpn hx
  rw [h3]
  exact hJ.2.1 j h1
theorem x_made (hJ : J δ ma et sp pl nu de si ki aa xx yy) (p : Int32) : f_X5_made th ma to rn rf et sp ho mo cs uw wh lo pl nu de si ki aa xx yy en p = (ma, th, ma + 1, to, rn, rf, et, sp, ho, mo, cs, uw, wh, lo, upd pl p.toNatClampNeg ma, nu, de, si, ki, aa, xx, yy, en) := by
  have hc := cln hJ.1.1
  have h := hJ.2.2.1 ma.toNatClampNeg (by omega)
  have e1 : upd nu ma.toNatClampNeg 0 = nu := by
    have := upd_id nu ma.toNatClampNeg
    rw [h.1] at this
    exact this
  have e2 : upd de ma.toNatClampNeg 0 = de := by
    have := upd_id de ma.toNatClampNeg
    rw [h.2] at this
    exact this
  simp only [f_X5_made, e1, e2, add1sub1]
theorem J_made {x : Int32} (hJ : J δ ma et sp pl nu de si ki aa xx yy) (hx : vp_in x 6) (hm : ¬ ma = 60) : J δ (ma + 1) et sp (upd pl x.toNatClampNeg ma) nu de si ki aa xx yy := by
  have e : (ma + 1).toInt = ma.toInt + 1 := inc1 hJ.1.1 (by have := hJ.1.2; omega)
  have hn := nei hm
  rw [c60] at hn
  have hJ2 := J_put (δ := δ) (ma := ma + 1) (v := ma) (x := x) (et := et) (sp := sp) (pl := pl) (nu := nu) (de := de) (si := si) (ki := ki) (aa := aa) (xx := xx) (yy := yy) (by
    obtain ⟨h1, h2, h3, h4, h5, h6, h7⟩ := hJ
    exact ⟨by omega, fun p hp => (h2 p hp).imp id (fun q => by omega), fun t ht => h3 t (by omega), h4, h5, h6, h7⟩) hx (Or.inr (by have := hJ.1.1; omega))
  exact hJ2
theorem rel_new {a : Int32} (ha : vp_in a 6) (hJ : J δ ma et sp pl nu de si ki aa xx yy) : REL δ th to rn lo ma de si ki aa xx yy (if ma = 60 then (4, th, ma, to, rn, rf, et, sp, ho, mo, cs, uw, 13, lo, pl, nu, de, si, ki, aa, xx, yy, en) else (match f_X5_made th ma to rn rf et sp ho mo cs uw wh lo pl nu de si ki aa xx yy en a with | (r_27, th_27, ma_27, to_27, rn_27, rf_27, et_27, sp_27, ho_27, mo_27, cs_27, uw_27, wh_27, lo_27, pl_27, nu_27, de_27, si_27, ki_27, aa_27, xx_27, yy_27, en_27) => (0, th_27, ma_27, to_27, rn_27, rf_27, et_27, sp_27, ho_27, mo_27, cs_27, uw_27, wh_27, lo_27, pl_27, nu_27, de_27, si_27, ki_27, aa_27, xx_27, yy_27, en_27))) (f_X1_doNew rf ma pl nu de to si ki aa xx yy et sp ho uw mo cs en a) := by
  by_cases q : ma = 60
  · have q1 : ¬ ma < 60 := by rw [q]; decide
    simp only [if_pos q, f_X1_doNew, f_X2_makeThing, if_neg q1, if_true]
    exact ⟨4, ma, rf, et, sp, ho, mo, cs, uw, 13, pl, nu, en, rfl, by rw [oc4]; rfl, by decide, fun _ => by decide, by omega, hJ⟩
  · have hn := nei q
    rw [c60] at hn
    have q1 : ma < 60 := by rw [Int32.lt_iff_toInt_lt, c60]; have := hJ.1.2; omega
    have q3 : ¬ ma = (-3) := fun e => by have := hJ.1.1; rw [e] at this; exact absurd this (by decide)
    have e : (ma + 1).toInt = ma.toInt + 1 := inc1 hJ.1.1 (by have := hJ.1.2; omega)
    simp only [if_neg q, f_X1_doNew, f_X2_makeThing, if_pos q1, x_put ha, if_neg q3, x_made hJ]
    exact ⟨0, ma + 1, rf, et, sp, ho, mo, cs, uw, wh, _, nu, en, rfl, by rw [oc0], by decide, fun e => absurd e (by decide), by omega, J_made hJ ha q⟩
theorem rel_sw {a : Int32} : ∀ (n k e : Nat) (sum et ho mo uw : Int32) (en : Nat → Int32) (more last : Int32), (more = 1 ∧ last = 0) ∨ (more = 0 ∧ last = 1) → k ≤ 6 → 6 < k + n → J e ma et sp pl nu de si ki aa xx yy → δ + 13 ≤ e + 2 * k → ∃ (et' ho' mo' : Int32) (en' : Nat → Int32), L_X5_sweep_7 n a sum more (nI k) th ma to rn rf et sp ho mo cs uw wh lo pl nu de si ki aa xx yy en = (0, th, ma, to, rn, rf, et', sp, ho', mo', cs, uw, wh, lo, pl, nu, de, si, ki, aa, xx, yy, en') ∧ L_X1_doSweep_7 n a sum last (nI k) rf ma pl nu de to si ki aa xx yy et sp ho uw mo cs en = (rf, ma, pl, nu, de, to, si, ki, aa, xx, yy, et', sp, ho', uw, mo', cs, en') ∧ J δ ma (et') sp pl nu de si ki aa xx yy := by
  intro n
  induction n with
  | zero =>
    intro k e sum et ho mo uw en more last hml h1 h2
    exact absurd h2 (by omega)
  | succ n ih =>
    intro k e sum et ho mo uw en more last hml h1 h2 hJ he
    have fin : J δ ma (et + 1) sp pl nu de si ki aa xx yy := J.et_add (hJ.weak (by omega))
    simp only [L_X5_sweep_7, L_X1_doSweep_7]
    by_cases q6 : 6 ≤ nI k
    · simp only [if_pos q6, x_comes, x_mark]
      exact ⟨_, _, _, _, rfl, rfl, fin⟩
    · simp only [if_neg q6]
      have hk := lt_nI (x := nI k) (by omega) rfl q6
      have nk : nI k + 1 = nI (k + 1) := nI_1 k
      have hp : vp_in (nI k) 6 := in6 (by omega) rfl q6
      rcases hml with ⟨rfl, rfl⟩ | ⟨rfl, rfl⟩
      · simp only [if_neg (show ¬ (1 : Int32) = 0 by decide), if_true, x_thing hp, nk]
        by_cases q : pl (nI k).toNatClampNeg = (-1)
        · simp only [if_pos q]
          exact ih (k + 1) e sum et ho mo uw en 1 0 (Or.inl ⟨rfl, rfl⟩) (by omega) (by omega) hJ (by omega)
        · have ht := pl_ok hJ hp q
          have hJ2 : J (e - 2) ma (et + 1 + 1) sp pl nu de si ki aa xx yy := J.et_add (J.et_add (hJ.weak (by omega)))
          have hns : f_X2_numberOf ma pl nu (upd de (pl (nI k).toNatClampNeg).toNatClampNeg (de (pl (nI k).toNatClampNeg).toNatClampNeg + 1)) (pl (nI k).toNatClampNeg) = nu (pl (nI k).toNatClampNeg).toNatClampNeg := by
            unfold f_X2_numberOf
            rw [if_neg (is_thing0 ht)]
          have lt04 : ((0 : Int32) < 4) = True := eq_true (by decide)
          simp only [if_neg q, x_begin, x_cbegin ht, hns, x_leave, x_cleave ht (show 0 ≤ (0 : Int32).toInt ∧ (0 : Int32).toInt ≤ 5 by decide), upd_back, add1sub1, lt04, if_true]
          by_cases qa : nu (pl (nI k).toNatClampNeg).toNatClampNeg = a
          · simp only [if_pos qa]
            exact ih (k + 1) (e - 2) sum _ _ _ uw _ 1 0 (Or.inl ⟨rfl, rfl⟩) (by omega) (by omega) hJ2 (by omega)
          · simp only [if_neg qa]
            by_cases qn : nu (pl (nI k).toNatClampNeg).toNatClampNeg < 0
            · have qm : ¬ 0 ≤ nu (pl (nI k).toNatClampNeg).toNatClampNeg := by
                rw [Int32.lt_iff_toInt_lt] at qn
                rw [Int32.le_iff_toInt_le]
                omega
              simp only [if_pos qn, if_neg qm]
              exact ih (k + 1) (e - 2) _ _ _ _ uw _ 0 1 (Or.inr ⟨rfl, rfl⟩) (by omega) (by omega) hJ2 (by omega)
            · have qm : 0 ≤ nu (pl (nI k).toNatClampNeg).toNatClampNeg := by
                rw [Int32.lt_iff_toInt_lt] at qn
                rw [Int32.le_iff_toInt_le]
                omega
              simp only [if_neg qn, if_pos qm]
              exact ih (k + 1) (e - 2) _ _ _ _ uw _ 1 0 (Or.inl ⟨rfl, rfl⟩) (by omega) (by omega) hJ2 (by omega)
      · simp only [if_true, if_neg (show ¬ (1 : Int32) = 0 by decide), x_comes, x_mark]
        exact ⟨_, _, _, _, rfl, rfl, fin⟩
theorem rel_sweep {a : Int32} (hJ : J (δ + 14) ma et sp pl nu de si ki aa xx yy) : ∃ (et' ho' mo' : Int32) (en' : Nat → Int32), f_X5_sweep th ma to rn rf et sp ho mo cs uw wh lo pl nu de si ki aa xx yy en a = (0, th, ma, to, rn, rf, et', sp, ho', mo', cs, uw, wh, lo, pl, nu, de, si, ki, aa, xx, yy, en') ∧ f_X1_doSweep rf ma pl nu de to si ki aa xx yy et sp ho uw mo cs en a = (rf, ma, pl, nu, de, to, si, ki, aa, xx, yy, et', sp, ho', uw, mo', cs, en') ∧ J δ ma (et') sp pl nu de si ki aa xx yy := by
  have := rel_sw (δ := δ) (a := a) (th := th) (to := to) (rn := rn) (rf := rf) (cs := cs) (wh := wh) (lo := lo) 7 0 (δ + 14) 0 et ho mo uw en 1 0 (Or.inl ⟨rfl, rfl⟩) (by omega) (by omega) hJ (by omega)
  rw [nI_0] at this
  exact this
end SIM
