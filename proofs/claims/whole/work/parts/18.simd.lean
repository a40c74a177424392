section SIM
variable {d δ : Nat} {rm : TRM} {rc : TRC} {th ma to rn rf et sp ho mo cs uw wh lo : Int32} {pl nu de si ki aa xx yy en : Nat → Int32}
theorem rel_step (hR : RR d rm rc) {b at_ il : Int32} (hV : SV d b at_ ki aa xx yy) (hJ : J δ ma et sp pl nu de si ki aa xx yy) (hs : sp.toInt < 300) (hlo : LO (d + 1) lo) (hil : il = 0 ↔ lo ≤ 0) : REL δ th to rn lo ma de si ki aa xx yy (f_X5_doStep rm th ma to rn rf et (sp + 1) ho mo cs uw wh lo pl nu de si ki aa xx yy en at_) (f_X1_doStep rc rf ma pl nu de to si ki aa xx yy et sp ho uw mo cs en b at_ il) := by
  have hJ14 := J_stepg hJ hs
  have hsp : sp < 300 := by rw [Int32.lt_iff_toInt_lt, c300]; exact hs
  have hM := hV.sm
  by_cases h0 : ki at_.toNatClampNeg = 0
  · simp only [f_X5_doStep, f_X1_doStep, if_pos hsp, if_pos h0, x_comes, x_mark]
    exact ⟨0, ma, rf, et + 1, sp + 1, ho, mo, cs, uw, wh, pl, nu, _, rfl, by rw [oc0], by decide, fun e => absurd e (by decide), by omega, J.et_add (hJ14.weak (by omega))⟩
  by_cases h1 : ki at_.toNatClampNeg = 1
  · have h : REL δ th to rn lo ma de si ki aa xx yy (if pl (aa at_.toNatClampNeg).toNatClampNeg = (-1) then (4, th, ma, to, rn, rf + 1, et, sp + 1, ho, mo, cs, uw, 12, lo, pl, nu, de, si, ki, aa, xx, yy, en) else f_X5_hold rm th ma to rn rf et (sp + 1) ho mo cs uw wh lo pl nu de si ki aa xx yy en (pl (aa at_.toNatClampNeg).toNatClampNeg) (xx at_.toNatClampNeg)) (f_X1_doHold rc rf ma pl nu de to si ki aa xx yy et (sp + 1) ho uw mo cs en (aa at_.toNatClampNeg) (xx at_.toNatClampNeg) b il) := rel_hold hR (sm_1p hM h1) (sv_1 hV h1) hJ14 hlo hil
    by_cases q : pl (aa at_.toNatClampNeg).toNatClampNeg = (-1)
    · rw [if_pos q] at h
      obtain ⟨how1, ma1, rf1, et1, sp1, ho1, mo1, cs1, uw1, wh1, pl1, nu1, en1, hM1, hC1, hw1, h41, hm1, hJ1⟩ := h
      simp only [f_X5_doStep, f_X1_doStep, if_pos hsp, if_neg h0, if_pos h1, if_pos q, x_throw, hC1]
      exact ⟨how1, ma1, rf1, et1, sp1, ho1, mo1, cs1, uw1, wh1, pl1, nu1, en1, hM1, rfl, hw1, h41, hm1, hJ1⟩
    · rw [if_neg q] at h
      obtain ⟨how1, ma1, rf1, et1, sp1, ho1, mo1, cs1, uw1, wh1, pl1, nu1, en1, hM1, hC1, hw1, h41, hm1, hJ1⟩ := h
      simp only [f_X5_doStep, f_X1_doStep, if_pos hsp, if_neg h0, if_pos h1, if_neg q, hM1, hC1]
      exact ⟨how1, ma1, rf1, et1, sp1, ho1, mo1, cs1, uw1, wh1, pl1, nu1, en1, rfl, rfl, hw1, h41, hm1, hJ1⟩
  by_cases h2 : ki at_.toNatClampNeg = 2
  · have h : REL δ th to rn lo ma de si ki aa xx yy (f_X5_loop rm th ma to rn rf et (sp + 1) ho mo cs uw wh lo pl nu de si ki aa xx yy en (aa at_.toNatClampNeg) (xx at_.toNatClampNeg)) (f_X1_doLoop rc rf ma pl nu de to si ki aa xx yy et (sp + 1) ho uw mo cs en (aa at_.toNatClampNeg) (xx at_.toNatClampNeg) b) := rel_loop hR (sm_2a hM h2) (sv_2 hV h2) (hJ14.weak (by omega)) hlo
    obtain ⟨how1, ma1, rf1, et1, sp1, ho1, mo1, cs1, uw1, wh1, pl1, nu1, en1, hM1, hC1, hw1, h41, hm1, hJ1⟩ := h
    simp only [f_X5_doStep, f_X1_doStep, if_pos hsp, if_neg h0, if_neg h1, if_pos h2, hM1, hC1]
    exact ⟨how1, ma1, rf1, et1, sp1, ho1, mo1, cs1, uw1, wh1, pl1, nu1, en1, rfl, rfl, hw1, h41, hm1, hJ1⟩
  by_cases h3 : ki at_.toNatClampNeg = 3
  · simp only [f_X5_doStep, f_X1_doStep, if_pos hsp, if_neg h0, if_neg h1, if_neg h2, if_pos h3]
    by_cases q : lo ≤ 0
    · simp only [if_pos q, if_pos (hil.mpr q)]
      exact ⟨3, ma, rf, et, sp + 1, ho, mo, cs, uw, wh, pl, nu, en, rfl, by rw [oc3], by decide, fun e => absurd e (by decide), by omega, (hJ14.weak (by omega))⟩
    · simp only [if_neg q, if_neg (fun e => q (hil.mp e))]
      exact ⟨1, ma, rf, et, sp + 1, ho, mo, cs, uw, wh, pl, nu, en, rfl, by rw [oc1], by decide, fun e => absurd e (by decide), by omega, (hJ14.weak (by omega))⟩
  by_cases h4 : ki at_.toNatClampNeg = 4
  · simp only [f_X5_doStep, f_X1_doStep, if_pos hsp, if_neg h0, if_neg h1, if_neg h2, if_neg h3, if_pos h4]
    by_cases q : lo ≤ 0
    · simp only [if_pos q, if_pos (hil.mpr q)]
      exact ⟨3, ma, rf, et, sp + 1, ho, mo, cs, uw, wh, pl, nu, en, rfl, by rw [oc3], by decide, fun e => absurd e (by decide), by omega, (hJ14.weak (by omega))⟩
    · simp only [if_neg q, if_neg (fun e => q (hil.mp e))]
      exact ⟨2, ma, rf, et, sp + 1, ho, mo, cs, uw, wh, pl, nu, en, rfl, by rw [oc2], by decide, fun e => absurd e (by decide), by omega, (hJ14.weak (by omega))⟩
  by_cases h5 : ki at_.toNatClampNeg = 5
  · simp only [f_X5_doStep, f_X1_doStep, if_pos hsp, if_neg h0, if_neg h1, if_neg h2, if_neg h3, if_neg h4, if_pos h5]
    exact ⟨3, ma, rf, et, sp + 1, ho, mo, cs, uw, wh, pl, nu, en, rfl, by rw [oc3], by decide, fun e => absurd e (by decide), by omega, (hJ14.weak (by omega))⟩
  by_cases h6 : ki at_.toNatClampNeg = 6
  · simp only [f_X5_doStep, f_X1_doStep, if_pos hsp, if_neg h0, if_neg h1, if_neg h2, if_neg h3, if_neg h4, if_neg h5, if_pos h6, x_throw]
    exact ⟨4, ma, rf, et, sp + 1, ho, mo, cs, uw, (aa at_.toNatClampNeg), pl, nu, en, rfl, by rw [oc4], by decide, fun _ => by have := sm_6 hM h6; omega, by omega, (hJ14.weak (by omega))⟩
  by_cases h7 : ki at_.toNatClampNeg = 7
  · have h : REL δ th to rn lo ma de si ki aa xx yy (f_X5_tried rm th ma to rn rf et (sp + 1) ho mo cs uw wh lo pl nu de si ki aa xx yy en (aa at_.toNatClampNeg) (xx at_.toNatClampNeg) (yy at_.toNatClampNeg)) (f_X1_doTry rc rf ma pl nu de to si ki aa xx yy et (sp + 1) ho uw mo cs en (aa at_.toNatClampNeg) (xx at_.toNatClampNeg) (yy at_.toNatClampNeg) b il) := rel_try hR (sm_7a hM h7) (sv_7x hV h7) (sv_7y hV h7) (hJ14.weak (by omega)) hlo hil
    obtain ⟨how1, ma1, rf1, et1, sp1, ho1, mo1, cs1, uw1, wh1, pl1, nu1, en1, hM1, hC1, hw1, h41, hm1, hJ1⟩ := h
    simp only [f_X5_doStep, f_X1_doStep, if_pos hsp, if_neg h0, if_neg h1, if_neg h2, if_neg h3, if_neg h4, if_neg h5, if_neg h6, if_pos h7, hM1, hC1]
    exact ⟨how1, ma1, rf1, et1, sp1, ho1, mo1, cs1, uw1, wh1, pl1, nu1, en1, rfl, rfl, hw1, h41, hm1, hJ1⟩
  by_cases h8 : ki at_.toNatClampNeg = 8
  · have h : REL δ th to rn lo ma de si ki aa xx yy (f_X5_both rm th ma to rn rf et (sp + 1) ho mo cs uw wh lo pl nu de si ki aa xx yy en (xx at_.toNatClampNeg) (yy at_.toNatClampNeg)) (f_X1_doBoth rc rf ma pl nu de to si ki aa xx yy et (sp + 1) ho uw mo cs en (xx at_.toNatClampNeg) (yy at_.toNatClampNeg) b il) := rel_both hR (sv_8x hV h8) (sv_8y hV h8) (hJ14.weak (by omega)) hlo hil
    obtain ⟨how1, ma1, rf1, et1, sp1, ho1, mo1, cs1, uw1, wh1, pl1, nu1, en1, hM1, hC1, hw1, h41, hm1, hJ1⟩ := h
    simp only [f_X5_doStep, f_X1_doStep, if_pos hsp, if_neg h0, if_neg h1, if_neg h2, if_neg h3, if_neg h4, if_neg h5, if_neg h6, if_neg h7, if_pos h8, hM1, hC1]
    exact ⟨how1, ma1, rf1, et1, sp1, ho1, mo1, cs1, uw1, wh1, pl1, nu1, en1, rfl, rfl, hw1, h41, hm1, hJ1⟩
  by_cases h9 : ki at_.toNatClampNeg = 9
  · have h : REL δ th to rn lo ma de si ki aa xx yy (f_X5_call rm th ma to rn rf et (sp + 1) ho mo cs uw wh lo pl nu de si ki aa xx yy en (xx at_.toNatClampNeg)) (f_X1_doCall rc rf ma pl nu de to si ki aa xx yy et (sp + 1) ho uw mo cs en (xx at_.toNatClampNeg) b) := rel_call hR (sv_9 hV h9) (hJ14.weak (by omega)) hlo
    obtain ⟨how1, ma1, rf1, et1, sp1, ho1, mo1, cs1, uw1, wh1, pl1, nu1, en1, hM1, hC1, hw1, h41, hm1, hJ1⟩ := h
    simp only [f_X5_doStep, f_X1_doStep, if_pos hsp, if_neg h0, if_neg h1, if_neg h2, if_neg h3, if_neg h4, if_neg h5, if_neg h6, if_neg h7, if_neg h8, if_pos h9, hM1, hC1]
    exact ⟨how1, ma1, rf1, et1, sp1, ho1, mo1, cs1, uw1, wh1, pl1, nu1, en1, rfl, rfl, hw1, h41, hm1, hJ1⟩
  by_cases h10 : ki at_.toNatClampNeg = 10
  · have h : REL δ th to rn lo ma de si ki aa xx yy (f_X5_add th ma to rn rf et (sp + 1) ho mo cs uw wh lo pl nu de si ki aa xx yy en (pl (xx at_.toNatClampNeg).toNatClampNeg) (aa at_.toNatClampNeg)) (f_X1_doAdd rf ma pl nu de to si ki aa xx yy et (sp + 1) ho uw mo cs en (aa at_.toNatClampNeg) (xx at_.toNatClampNeg)) := rel_add (sm_10 hM h10) (hJ14.weak (by omega))
    obtain ⟨how1, ma1, rf1, et1, sp1, ho1, mo1, cs1, uw1, wh1, pl1, nu1, en1, hM1, hC1, hw1, h41, hm1, hJ1⟩ := h
    simp only [f_X5_doStep, f_X1_doStep, if_pos hsp, if_neg h0, if_neg h1, if_neg h2, if_neg h3, if_neg h4, if_neg h5, if_neg h6, if_neg h7, if_neg h8, if_neg h9, if_pos h10, hM1, hC1]
    exact ⟨how1, ma1, rf1, et1, sp1, ho1, mo1, cs1, uw1, wh1, pl1, nu1, en1, rfl, rfl, hw1, h41, hm1, hJ1⟩
  by_cases h11 : ki at_.toNatClampNeg = 11
  · simp only [f_X5_doStep, f_X1_doStep, if_pos hsp, if_neg h0, if_neg h1, if_neg h2, if_neg h3, if_neg h4, if_neg h5, if_neg h6, if_neg h7, if_neg h8, if_neg h9, if_neg h10, if_pos h11, x_thing (sm_11x hM h11), x_put (sm_11a hM h11)]
    exact ⟨0, ma, rf, et, sp + 1, ho, mo, cs, uw, wh, _, nu, en, rfl, by rw [oc0], by decide, fun e => absurd e (by decide), by omega, J_put (hJ14.weak (by omega)) (sm_11a hM h11) (pl_or hJ14 (sm_11x hM h11))⟩
  by_cases h12 : ki at_.toNatClampNeg = 12
  · have h : REL δ th to rn lo ma de si ki aa xx yy _ (f_X1_doNew rf ma pl nu de to si ki aa xx yy et (sp + 1) ho uw mo cs en (aa at_.toNatClampNeg)) := rel_new (th := th) (rn := rn) (wh := wh) (lo := lo) (sm_12 hM h12) (hJ14.weak (by omega))
    by_cases q : ma = 60
    · rw [if_pos q] at h
      obtain ⟨how1, ma1, rf1, et1, sp1, ho1, mo1, cs1, uw1, wh1, pl1, nu1, en1, hM1, hC1, hw1, h41, hm1, hJ1⟩ := h
      simp only [f_X5_doStep, f_X1_doStep, if_pos hsp, if_neg h0, if_neg h1, if_neg h2, if_neg h3, if_neg h4, if_neg h5, if_neg h6, if_neg h7, if_neg h8, if_neg h9, if_neg h10, if_neg h11, if_pos h12, if_pos q, x_throw, hC1]
      exact ⟨how1, ma1, rf1, et1, sp1, ho1, mo1, cs1, uw1, wh1, pl1, nu1, en1, hM1, rfl, hw1, h41, hm1, hJ1⟩
    · rw [if_neg q] at h
      obtain ⟨how1, ma1, rf1, et1, sp1, ho1, mo1, cs1, uw1, wh1, pl1, nu1, en1, hM1, hC1, hw1, h41, hm1, hJ1⟩ := h
      simp only [x_made (hJ14.weak (by omega) : J δ ma et (sp + 1) pl nu de si ki aa xx yy)] at hM1
      simp only [f_X5_doStep, f_X1_doStep, if_pos hsp, if_neg h0, if_neg h1, if_neg h2, if_neg h3, if_neg h4, if_neg h5, if_neg h6, if_neg h7, if_neg h8, if_neg h9, if_neg h10, if_neg h11, if_pos h12, if_neg q, x_made (hJ14.weak (by omega) : J δ ma et (sp + 1) pl nu de si ki aa xx yy), hC1]
      exact ⟨how1, ma1, rf1, et1, sp1, ho1, mo1, cs1, uw1, wh1, pl1, nu1, en1, hM1, rfl, hw1, h41, hm1, hJ1⟩
  by_cases h13 : ki at_.toNatClampNeg = 13
  · simp only [f_X5_doStep, f_X1_doStep, if_pos hsp, if_neg h0, if_neg h1, if_neg h2, if_neg h3, if_neg h4, if_neg h5, if_neg h6, if_neg h7, if_neg h8, if_neg h9, if_neg h10, if_neg h11, if_neg h12, if_pos h13, x_put (sm_13 hM h13)]
    exact ⟨0, ma, rf, et, sp + 1, ho, mo, cs, uw, wh, _, nu, en, rfl, by rw [oc0], by decide, fun e => absurd e (by decide), by omega, J_put (hJ14.weak (by omega)) (sm_13 hM h13) (Or.inl cm1)⟩
  have h14 : ki at_.toNatClampNeg = 14 := by
    have hk := sm_k hM
    apply eqi
    rw [show (14 : Int32).toInt = 14 by decide]
    have n0 := ne_ti (k := 0) (n := 0) h0 (by decide)
    have n1 := ne_ti (k := 1) (n := 1) h1 (by decide)
    have n2 := ne_ti (k := 2) (n := 2) h2 (by decide)
    have n3 := ne_ti (k := 3) (n := 3) h3 (by decide)
    have n4 := ne_ti (k := 4) (n := 4) h4 (by decide)
    have n5 := ne_ti (k := 5) (n := 5) h5 (by decide)
    have n6 := ne_ti (k := 6) (n := 6) h6 (by decide)
    have n7 := ne_ti (k := 7) (n := 7) h7 (by decide)
    have n8 := ne_ti (k := 8) (n := 8) h8 (by decide)
    have n9 := ne_ti (k := 9) (n := 9) h9 (by decide)
    have n10 := ne_ti (k := 10) (n := 10) h10 (by decide)
    have n11 := ne_ti (k := 11) (n := 11) h11 (by decide)
    have n12 := ne_ti (k := 12) (n := 12) h12 (by decide)
    have n13 := ne_ti (k := 13) (n := 13) h13 (by decide)
    omega
  obtain ⟨et', ho', mo', en', hM1, hC1, hJ1⟩ := rel_sweep (δ := δ) (th := th) (to := to) (rn := rn) (rf := rf) (ho := ho) (mo := mo) (cs := cs) (uw := uw) (wh := wh) (lo := lo) (en := en) (a := aa at_.toNatClampNeg) hJ14
  simp only [f_X5_doStep, f_X1_doStep, if_pos hsp, if_neg h0, if_neg h1, if_neg h2, if_neg h3, if_neg h4, if_neg h5, if_neg h6, if_neg h7, if_neg h8, if_neg h9, if_neg h10, if_neg h11, if_neg h12, if_neg h13, if_pos h14, hM1, hC1]
  exact ⟨0, ma, rf, et', sp + 1, ho', mo', cs, uw, wh, pl, nu, en', rfl, by rw [oc0], by decide, fun e => absurd e (by decide), by omega, hJ1⟩
theorem bl_end {n : Nat} {b ab il z r k : Int32} (h : ¬ r = 0) : L_X1_doBlock_36 rc (n + 1) b ab il z r k rf ma pl nu de to si ki aa xx yy et sp ho uw mo cs en = (r, rf, ma, pl, nu, de, to, si, ki, aa, xx, yy, et, sp, ho, uw, mo, cs, en) := by
  simp only [L_X1_doBlock_36, if_neg h]
  split <;> rfl
theorem rel_blk (hR : RR d rm rc) {b ab il : Int32} (hB : HB4 (d + 1) b ab) (hlo : LO (d + 1) lo) (hil : il = 0 ↔ lo ≤ 0) : ∀ (n k : Nat) (how ma rf et sp ho mo cs uw wh : Int32) (pl nu en : Nat → Int32), k ≤ 12 → 12 < k + n → (0 ≤ how.toInt ∧ how.toInt ≤ 5) → (how = 4 → 1 ≤ wh.toInt ∧ wh.toInt ≤ 13) → J δ ma et sp pl nu de si ki aa xx yy → REL δ th to rn lo ma de si ki aa xx yy (L_X5_block_4 rm n b how (nI k) th ma to rn rf et sp ho mo cs uw wh lo pl nu de si ki aa xx yy en) (L_X1_doBlock_36 rc n b ab il (if 12 < si b.toNatClampNeg then 12 else si b.toNatClampNeg) (oc how wh) (nI k) rf ma pl nu de to si ki aa xx yy et sp ho uw mo cs en) := by
  intro n
  induction n with
  | zero =>
    intro k how ma rf et sp ho mo cs uw wh pl nu en h1 h2
    exact absurd h2 (by omega)
  | succ n ih =>
    intro k how ma rf et sp ho mo cs uw wh pl nu en h1 h2 hw h4 hJ
    obtain ⟨j, j1, j2, j3⟩ := vpn (hb_in hB)
    have hsz : (if 12 < si b.toNatClampNeg then 12 else si b.toNatClampNeg : Int32) = si b.toNatClampNeg := if_neg (by rw [Int32.lt_iff_toInt_lt, c12, j3]; have := (hJ.pv j j1).1; omega)
    simp only [L_X5_block_4, L_X1_doBlock_36]
    by_cases q : si b.toNatClampNeg ≤ nI k
    · have q' : (if 12 < si b.toNatClampNeg then 12 else si b.toNatClampNeg : Int32) ≤ nI k := by rw [hsz]; exact q
      simp only [if_pos q, if_pos q']
      exact ⟨how, ma, rf, et, sp, ho, mo, cs, uw, wh, pl, nu, en, rfl, rfl, hw, h4, by omega, hJ⟩
    · have q' : ¬ (if 12 < si b.toNatClampNeg then 12 else si b.toNatClampNeg : Int32) ≤ nI k := by rw [hsz]; exact q
      simp only [if_neg q, if_neg q']
      by_cases q0 : how = 0
      · simp only [if_pos q0, if_pos ((oc_eq h4 (by decide) (by decide)).mpr q0)]
        have hV : SV d b (b * 12 + nI k) ki aa xx yy := sv_of hB rfl rfl rfl (by omega) rfl q' hJ
        have hk12 : k < 12 := lt_nI12 (by omega) rfl rfl q'
        have nk : nI k + 1 = nI (k + 1) := nI_1 k
        by_cases qs : sp = 300
        · have ns : ¬ sp < 300 := by rw [qs]; decide
          obtain ⟨n', rfl⟩ : ∃ n', n = n' + 1 := ⟨n - 1, by omega⟩
          simp only [if_pos qs, f_X1_doStep, if_neg ns, bl_end (show ¬ (5 : Int32) = 0 by decide)]
          exact ⟨5, ma, rf, et, sp, ho, mo, cs, uw, wh, pl, nu, en, rfl, by rw [oc5], by decide, fun e => absurd e (by decide), by omega, hJ⟩
        · have h : REL δ th to rn lo ma de si ki aa xx yy (f_X5_doStep rm th ma to rn rf et (sp + 1) ho mo cs uw wh lo pl nu de si ki aa xx yy en (12 * b + nI k)) (f_X1_doStep rc rf ma pl nu de to si ki aa xx yy et sp ho uw mo cs en b (b * 12 + nI k) il) := by
            have := rel_step (th := th) (to := to) (rn := rn) (rf := rf) (ho := ho) (mo := mo) (cs := cs) (uw := uw) (wh := wh) (en := en) hR hV hJ (sp_lt hJ qs) hlo hil
            rw [show 12 * b + nI k = b * 12 + nI k by rw [Int32.mul_comm]]
            exact this
          obtain ⟨how1, ma1, rf1, et1, sp1, ho1, mo1, cs1, uw1, wh1, pl1, nu1, en1, hM1, hC1, hw1, h41, hm1, hJ1⟩ := h
          simp only [if_neg qs, hM1, hC1, nk]
          exact (ih (k + 1) how1 ma1 rf1 et1 sp1 ho1 mo1 cs1 uw1 wh1 pl1 nu1 en1 (by omega) (by omega) hw1 h41 hJ1).mono hm1 (Nat.le_refl _)
      · simp only [if_neg q0, if_neg (fun e => q0 ((oc_eq h4 (by decide) (by decide)).mp e))]
        exact ⟨how, ma, rf, et, sp, ho, mo, cs, uw, wh, pl, nu, en, rfl, rfl, hw, h4, by omega, hJ⟩
end SIM
theorem is_block {x : Int32} (h : vp_in x 40) : ¬ f_X4_isBlock x = 0 := by
  rw [vp_in_iff] at h
  unfold f_X4_isBlock f_X4_isWithin
  rw [if_neg (by rw [Int32.lt_iff_toInt_lt, c0]; omega), if_neg (by rw [Int32.lt_iff_toInt_lt, show (39 : Int32).toInt = 39 by decide]; omega)]
  decide
theorem rel_block {d : Nat} {rm : TRM} {rc : TRC} (hR : RR d rm rc) : RR (d + 1) (f_X5_block rm) (f_X1_doBlock rc) := by
  intro δ th ma to rn rf et sp ho mo cs uw wh lo pl nu de si ki aa xx yy en b ab il hB hJ hlo hil
  have hp : ab < b := by rw [Int32.lt_iff_toInt_lt]; exact hB.2.2.1
  simp only [f_X5_block, f_X1_doBlock, if_neg (is_block (hb_in hB)), if_pos hp]
  have := rel_blk (th := th) (to := to) (rn := rn) hR hB hlo hil 13 0 0 ma rf et sp ho mo cs uw wh pl nu en (by omega) (by omega) (by decide) (fun e => absurd e (by decide)) hJ
  rw [nI_0, oc0] at this
  exact this
theorem RR_all : ∀ d, RR d (blkM d) (blkC d) := by
  intro d
  induction d with
  | zero =>
    intro δ th ma to rn rf et sp ho mo cs uw wh lo pl nu de si ki aa xx yy en b ab il hB
    exact absurd hB (by rintro ⟨h1, h2, h3, h4, -⟩; omega)
  | succ d ih => exact rel_block ih
