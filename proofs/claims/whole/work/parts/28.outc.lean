section OUT
variable {k : Nat} {th ma to rn rf et sp ho mo cs uw wh lo : Int32} {pl nu de si ki aa xx yy en : Nat → Int32}
theorem pub_run {d : Nat} (hd : d = 40) (hO : OI k ma to et sp pl nu de si ki aa xx yy) : PUB k (f_X4_run d rn ma pl nu de to si ki aa xx yy et sp ho uw mo cs en rf) (f_X5_run d th ma to rn rf et sp ho mo cs uw wh lo pl nu de si ki aa xx yy en) := by
  simp only [f_X4_run, f_X5_run, f_X3_restart]
  by_cases q : rf < 1500
  · simp only [if_pos q]
    obtain ⟨how1, ma1, rf1, et1, sp1, ho1, mo1, cs1, uw1, wh1, pl1, nu1, en1, hM1, hC1, hw1, h41, hm1, hJ1⟩ := RR_all d 0 0 ma to (rn + 1) rf 0 0 0 0 0 0 wh 0 pl nu de si ki aa xx yy en 0 (-1) 0 (hb_d hd) (J_restart hO.1 hO.2.1) (lo_d hd) ⟨fun _ => by decide, fun _ => rfl⟩
    simp only [hM1, hC1]
    have ht := oc_thr hw1 h41
    by_cases q4 : how1 = 4
    · have e5 : ¬ oc how1 wh1 = 5 := fun e => by
        have e2 := (oc_eq h41 (by decide) (by decide)).mp e
        rw [q4] at e2
        exact absurd e2 (by decide)
      have et : ¬ f_X4_isThrown (oc how1 wh1) = 0 := fun e => ht.mp e q4
      have eo : oc how1 wh1 - 100 = wh1 := by
        rw [q4, oc4, Int32.add_comm]
        exact Int32.add_sub_cancel wh1 100
      simp only [if_pos q4, if_neg e5, if_neg et, eo]
      exact ⟨wh1, 0, ma1, to, rn + 1, rf1, et1, sp1, ho1, mo1, cs1, uw1, wh1, 0, pl1, nu1, de, si, ki, aa, xx, yy, en1, rfl, rfl, hJ1, hO.2.1, hO.up.2.2⟩
    · by_cases q5 : how1 = 5
      · have e5 : oc how1 wh1 = 5 := (oc_eq h41 (by decide) (by decide)).mpr q5
        simp only [if_neg q4, if_pos q5, if_pos e5]
        exact ⟨20, 0, ma1, to, rn + 1, rf1, et1, sp1, ho1, mo1, cs1, uw1, wh1, 0, pl1, nu1, de, si, ki, aa, xx, yy, en1, rfl, rfl, hJ1, hO.2.1, hO.up.2.2⟩
      · have e5 : ¬ oc how1 wh1 = 5 := fun e => q5 ((oc_eq h41 (by decide) (by decide)).mp e)
        simp only [if_neg q4, if_neg q5, if_neg e5, if_pos (ht.mpr q4)]
        exact ⟨0, 0, ma1, to, rn + 1, rf1, et1, sp1, ho1, mo1, cs1, uw1, wh1, 0, pl1, nu1, de, si, ki, aa, xx, yy, en1, rfl, rfl, hJ1, hO.2.1, hO.up.2.2⟩
  · simp only [if_neg q]
    exact ⟨_, 0, ma, to, rn, rf, et, sp, ho, mo, cs, uw, wh, lo, pl, nu, de, si, ki, aa, xx, yy, en, rfl, rfl, hO.up⟩
end OUT
