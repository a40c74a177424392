theorem in_en {et : Int32} (h0 : 0 ≤ et.toInt) (h : ¬ 250 ≤ et) : vp_in et 250 := by
  rw [Int32.le_iff_toInt_le] at h
  have e1 : (250 : Int32).toInt = 250 := by decide
  rw [vp_in_iff]
  omega
theorem in_ent {et x : Int32} (h0 : 0 ≤ et.toInt) (h : ¬ f_X4_isWithin x 0 ((if 250 < et then 250 else et) - 1) = 0) : vp_in x 250 := by
  have h1 := iw_in h
  have e1 : (250 : Int32).toInt = 250 := by decide
  have e0 : (0 : Int32).toInt = 0 := by decide
  have e2 : ((if 250 < et then 250 else et) - 1 : Int32).toInt ≤ 249 := by
    split
    · decide
    · rename_i hh
      rw [Int32.lt_iff_toInt_lt] at hh
      rw [Int32.toInt_sub]
      have e3 : (1 : Int32).toInt = 1 := by decide
      have : (et.toInt - (1 : Int32).toInt).bmod (2 ^ 32) = et.toInt - 1 := by
        rw [e3]
        apply Int.bmod_eq_of_le <;> omega
      rw [this]
      omega
  rw [vp_in_iff]
  omega
def f_X3_restart (et : Int32) (sp : Int32) (ho : Int32) (uw : Int32) (mo : Int32) (cs : Int32) (en : Nat → Int32) : Int32 × Int32 × Int32 × Int32 × Int32 × Int32 × (Nat → Int32) := (0, 0, 0, 0, 0, 0, en)
set_option maxHeartbeats 4000000 in
set_option maxRecDepth 100000 in
theorem c_X3_restart (l : Launch) (dC : Nat → ClassId) (dI : Nat → Nat → Nat) (cA : ClassId) (q3 q3a : Nat) (sz : Nat) (et : Int32) (sp : Int32) (ho : Int32) (uw : Int32) (mo : Int32) (cs : Int32) (en : Nat → Int32) : Met l yX3_restart wsX3_restart ({ frames := 0, cells := 0, slots := 0, locals := 0 }) (pcW (dC, dI) [(q3, .inr (3, [.ref q3a, .int et, .int sp, .int ho, .int uw, .int mo, .int cs])), (q3a, .inl (cA, 250, .inl en))] [(cA, .int)] sz [.ref q3]) (QWv (dC, dI) (f_X3_restart et sp ho uw mo cs en) (wd_ta cA q3 q3a) (va_A [(q3, .inr (3, [.ref q3a, .int et, .int sp, .int ho, .int uw, .int mo, .int cs])), (q3a, .inl (cA, 250, .inl en))] sz)) 0 0 (va_A [(q3, .inr (3, [.ref q3a, .int et, .int sp, .int ho, .int uw, .int mo, .int cs])), (q3a, .inl (cA, 250, .inl en))] sz) := by
  refine Met.ofW (cc := cX3_restart) (maxL := 1) (ret := none) (by decide) rfl ?_
  intro p e s m args below meth c s₁ B hml hv
  obtain ⟨rfl, hsz, hN, hP, hK, hD0⟩ := hv
  have hx := B.exec
  have hb := B.bytes
  have hr := B.returns
  have hts := atoms_spec (ws := wsX3_restart) B.pre
  have hown : s.vm.findClass RX3 = some m.cls := findClass_of_methodNamed B.named
  have hlocks := B.notSynchronized
  subst hsz
  have hD := hD0.self (sz := s.heap.size)
  generalize hAe : va_A [(q3, .inr (3, [.ref q3a, .int et, .int sp, .int ho, .int uw, .int mo, .int cs])), (q3a, .inl (cA, 250, .inl en))] s.heap.size = A at hD ⊢
  have hA : ∀ q : Nat, s.heap.size ≤ q → A q := fun q h => by rw [← hAe]; exact Or.inr h
  have hS : va_S A s.heap s.heap [] := va_S.rf
  have hl := lv_entry ([.ref q3]) (n := 1) (Nat.le_of_ble_eq_true rfl)
  rw [lg_entry_eq]
  generalize (lg_sl ([.ref q3]) ++ List.replicate (1 - (lg_sl ([.ref q3])).length) Slot.unset).toArray = ls at hl ⊢
  have hl : lv_has ls 1 [(0, .ref q3)] := hl
  refine lv_aload_n hx hb dX3_restart_0 rfl (lv_at hl 0 rfl) ?_
  refine lv_iconst (v := 0) hx hb dX3_restart_1 (by decide) ?_
  refine va_put (D := (dC, dI)) (ci := 3) (v := .int 0) (ty := .int) (C := RX3) (T := TX3) (N := 7) hx hb hts (by decide +kernel) tyX3 tyX3_ok nmX3 hown hK hP hD hS 0 rfl rfl 1 (by decide) (hts (.fieldLink RX3 18 RX3 "entered" "I") (by decide +kernel)) (fun _ h9 => h9) rfl (by decide +kernel) rfl rfl (Nat.le_of_ble_eq_true rfl) dX3_restart_2 (fun H locs hP hD hS => ?_)
  have hP : va_P (dC, dI) vwCl [(q3, .inr (3, [.ref q3a, .int 0, .int sp, .int ho, .int uw, .int mo, .int cs])), (q3a, .inl (cA, 250, .inl en))] H := hP
  have hD : va_D A [(q3, .inr (3, [.ref q3a, .int 0, .int sp, .int ho, .int uw, .int mo, .int cs])), (q3a, .inl (cA, 250, .inl en))] := hD
  refine lv_aload_n hx hb dX3_restart_5 rfl (lv_at hl 0 rfl) ?_
  refine lv_iconst (v := 0) hx hb dX3_restart_6 (by decide) ?_
  refine va_put (D := (dC, dI)) (ci := 3) (v := .int 0) (ty := .int) (C := RX3) (T := TX3) (N := 7) hx hb hts (by decide +kernel) tyX3 tyX3_ok nmX3 hown hK hP hD hS 0 rfl rfl 2 (by decide) (hts (.fieldLink RX3 22 RX3 "steps" "I") (by decide +kernel)) (fun _ h9 => h9) rfl (by decide +kernel) rfl rfl (Nat.le_of_ble_eq_true rfl) dX3_restart_7 (fun H locs hP hD hS => ?_)
  have hP : va_P (dC, dI) vwCl [(q3, .inr (3, [.ref q3a, .int 0, .int 0, .int ho, .int uw, .int mo, .int cs])), (q3a, .inl (cA, 250, .inl en))] H := hP
  have hD : va_D A [(q3, .inr (3, [.ref q3a, .int 0, .int 0, .int ho, .int uw, .int mo, .int cs])), (q3a, .inl (cA, 250, .inl en))] := hD
  refine lv_aload_n hx hb dX3_restart_10 rfl (lv_at hl 0 rfl) ?_
  refine lv_iconst (v := 0) hx hb dX3_restart_11 (by decide) ?_
  refine va_put (D := (dC, dI)) (ci := 3) (v := .int 0) (ty := .int) (C := RX3) (T := TX3) (N := 7) hx hb hts (by decide +kernel) tyX3 tyX3_ok nmX3 hown hK hP hD hS 0 rfl rfl 3 (by decide) (hts (.fieldLink RX3 25 RX3 "holds" "I") (by decide +kernel)) (fun _ h9 => h9) rfl (by decide +kernel) rfl rfl (Nat.le_of_ble_eq_true rfl) dX3_restart_12 (fun H locs hP hD hS => ?_)
  have hP : va_P (dC, dI) vwCl [(q3, .inr (3, [.ref q3a, .int 0, .int 0, .int 0, .int uw, .int mo, .int cs])), (q3a, .inl (cA, 250, .inl en))] H := hP
  have hD : va_D A [(q3, .inr (3, [.ref q3a, .int 0, .int 0, .int 0, .int uw, .int mo, .int cs])), (q3a, .inl (cA, 250, .inl en))] := hD
  refine lv_aload_n hx hb dX3_restart_15 rfl (lv_at hl 0 rfl) ?_
  refine lv_iconst (v := 0) hx hb dX3_restart_16 (by decide) ?_
  refine va_put (D := (dC, dI)) (ci := 3) (v := .int 0) (ty := .int) (C := RX3) (T := TX3) (N := 7) hx hb hts (by decide +kernel) tyX3 tyX3_ok nmX3 hown hK hP hD hS 0 rfl rfl 4 (by decide) (hts (.fieldLink RX3 28 RX3 "underWay" "I") (by decide +kernel)) (fun _ h9 => h9) rfl (by decide +kernel) rfl rfl (Nat.le_of_ble_eq_true rfl) dX3_restart_17 (fun H locs hP hD hS => ?_)
  have hP : va_P (dC, dI) vwCl [(q3, .inr (3, [.ref q3a, .int 0, .int 0, .int 0, .int 0, .int mo, .int cs])), (q3a, .inl (cA, 250, .inl en))] H := hP
  have hD : va_D A [(q3, .inr (3, [.ref q3a, .int 0, .int 0, .int 0, .int 0, .int mo, .int cs])), (q3a, .inl (cA, 250, .inl en))] := hD
  refine lv_aload_n hx hb dX3_restart_20 rfl (lv_at hl 0 rfl) ?_
  refine lv_iconst (v := 0) hx hb dX3_restart_21 (by decide) ?_
  refine va_put (D := (dC, dI)) (ci := 3) (v := .int 0) (ty := .int) (C := RX3) (T := TX3) (N := 7) hx hb hts (by decide +kernel) tyX3 tyX3_ok nmX3 hown hK hP hD hS 0 rfl rfl 5 (by decide) (hts (.fieldLink RX3 31 RX3 "most" "I") (by decide +kernel)) (fun _ h9 => h9) rfl (by decide +kernel) rfl rfl (Nat.le_of_ble_eq_true rfl) dX3_restart_22 (fun H locs hP hD hS => ?_)
  have hP : va_P (dC, dI) vwCl [(q3, .inr (3, [.ref q3a, .int 0, .int 0, .int 0, .int 0, .int 0, .int cs])), (q3a, .inl (cA, 250, .inl en))] H := hP
  have hD : va_D A [(q3, .inr (3, [.ref q3a, .int 0, .int 0, .int 0, .int 0, .int 0, .int cs])), (q3a, .inl (cA, 250, .inl en))] := hD
  refine lv_aload_n hx hb dX3_restart_25 rfl (lv_at hl 0 rfl) ?_
  refine lv_iconst (v := 0) hx hb dX3_restart_26 (by decide) ?_
  refine va_put (D := (dC, dI)) (ci := 3) (v := .int 0) (ty := .int) (C := RX3) (T := TX3) (N := 7) hx hb hts (by decide +kernel) tyX3 tyX3_ok nmX3 hown hK hP hD hS 0 rfl rfl 6 (by decide) (hts (.fieldLink RX3 34 RX3 "cutShort" "I") (by decide +kernel)) (fun _ h9 => h9) rfl (by decide +kernel) rfl rfl (Nat.le_of_ble_eq_true rfl) dX3_restart_27 (fun H locs hP hD hS => ?_)
  have hP : va_P (dC, dI) vwCl [(q3, .inr (3, [.ref q3a, .int 0, .int 0, .int 0, .int 0, .int 0, .int 0])), (q3a, .inl (cA, 250, .inl en))] H := hP
  have hD : va_D A [(q3, .inr (3, [.ref q3a, .int 0, .int 0, .int 0, .int 0, .int 0, .int 0])), (q3a, .inl (cA, 250, .inl en))] := hD
  exact rt_v hx hb hr hlocks (0, 0, 0, 0, 0, 0, en) (by simp only [f_X3_restart]) hP hD hS dX3_restart_30
def f_X3_enter (et : Int32) (sp : Int32) (ho : Int32) (uw : Int32) (mo : Int32) (cs : Int32) (en : Nat → Int32) (p0 : Int32) : Int32 × Int32 × Int32 × Int32 × Int32 × Int32 × (Nat → Int32) := (if 250 ≤ et then ((et + 1), sp, ho, uw, mo, cs, en) else ((et + 1), sp, ho, uw, mo, cs, (upd en et.toNatClampNeg p0)))
set_option maxHeartbeats 4000000 in
set_option maxRecDepth 100000 in
theorem c_X3_enter (l : Launch) (dC : Nat → ClassId) (dI : Nat → Nat → Nat) (cA : ClassId) (q3 q3a : Nat) (sz : Nat) (et : Int32) (sp : Int32) (ho : Int32) (uw : Int32) (mo : Int32) (cs : Int32) (en : Nat → Int32) (p0 : Int32) (het : 0 ≤ et.toInt) : Met l yX3_enter wsX3_enter ({ frames := 0, cells := 0, slots := 0, locals := 0 }) (pcW (dC, dI) [(q3, .inr (3, [.ref q3a, .int et, .int sp, .int ho, .int uw, .int mo, .int cs])), (q3a, .inl (cA, 250, .inl en))] [(cA, .int)] sz [.ref q3, .int p0]) (QWv (dC, dI) (f_X3_enter et sp ho uw mo cs en p0) (wd_ta cA q3 q3a) (va_A [(q3, .inr (3, [.ref q3a, .int et, .int sp, .int ho, .int uw, .int mo, .int cs])), (q3a, .inl (cA, 250, .inl en))] sz)) 0 0 (va_A [(q3, .inr (3, [.ref q3a, .int et, .int sp, .int ho, .int uw, .int mo, .int cs])), (q3a, .inl (cA, 250, .inl en))] sz) := by
  refine Met.ofW (cc := cX3_enter) (maxL := 2) (ret := none) (by decide) rfl ?_
  intro p e s m args below meth c s₁ B hml hv
  obtain ⟨rfl, hsz, hN, hP, hK, hD0⟩ := hv
  have hx := B.exec
  have hb := B.bytes
  have hr := B.returns
  have hts := atoms_spec (ws := wsX3_enter) B.pre
  have hown : s.vm.findClass RX3 = some m.cls := findClass_of_methodNamed B.named
  have hlocks := B.notSynchronized
  subst hsz
  have hD := hD0.self (sz := s.heap.size)
  generalize hAe : va_A [(q3, .inr (3, [.ref q3a, .int et, .int sp, .int ho, .int uw, .int mo, .int cs])), (q3a, .inl (cA, 250, .inl en))] s.heap.size = A at hD ⊢
  have hA : ∀ q : Nat, s.heap.size ≤ q → A q := fun q h => by rw [← hAe]; exact Or.inr h
  have hS : va_S A s.heap s.heap [] := va_S.rf
  have hl := lv_entry ([.ref q3, .int p0]) (n := 2) (Nat.le_of_ble_eq_true rfl)
  rw [lg_entry_eq]
  generalize (lg_sl ([.ref q3, .int p0]) ++ List.replicate (2 - (lg_sl ([.ref q3, .int p0])).length) Slot.unset).toArray = ls at hl ⊢
  have hl : lv_has ls 2 [(0, .ref q3), (1, .int p0)] := hl
  refine lv_aload_n hx hb dX3_enter_0 rfl (lv_at hl 0 rfl) ?_
  refine va_get (D := (dC, dI)) (ci := 3) (v := .int et) (C := RX3) (T := TX3) (N := 7) hx hb hts (by decide +kernel) hown hK hP 0 rfl rfl 1 (by decide) (hts (.fieldLink RX3 18 RX3 "entered" "I") (by decide +kernel)) (fun _ h9 => h9) rfl dX3_enter_1 ?_
  refine lv_sipush (v := 250) hx hb dX3_enter_4 (by decide) ?_
  refine lv_icmp_ge (tgt := 20) hx hb dX3_enter_7 (by decide) (fun c_1 => ?_) (fun c_1 => ?_)
  · refine lv_aload_n hx hb dX3_enter_20 rfl (lv_at hl 0 rfl) ?_
    refine lv_dup hx hb dX3_enter_21 rfl ?_
    refine va_get (D := (dC, dI)) (ci := 3) (v := .int et) (C := RX3) (T := TX3) (N := 7) hx hb hts (by decide +kernel) hown hK hP 0 rfl rfl 1 (by decide) (hts (.fieldLink RX3 18 RX3 "entered" "I") (by decide +kernel)) (fun _ h9 => h9) rfl dX3_enter_22 ?_
    refine lv_iconst (v := 1) hx hb dX3_enter_25 (by decide) ?_
    refine lv_iadd hx hb dX3_enter_26 ?_
    refine va_put (D := (dC, dI)) (ci := 3) (v := .int (et + 1)) (ty := .int) (C := RX3) (T := TX3) (N := 7) hx hb hts (by decide +kernel) tyX3 tyX3_ok nmX3 hown hK hP hD hS 0 rfl rfl 1 (by decide) (hts (.fieldLink RX3 18 RX3 "entered" "I") (by decide +kernel)) (fun _ h9 => h9) rfl (by decide +kernel) rfl rfl (Nat.le_of_ble_eq_true rfl) dX3_enter_27 (fun H locs hP hD hS => ?_)
    have hP : va_P (dC, dI) vwCl [(q3, .inr (3, [.ref q3a, .int (et + 1), .int sp, .int ho, .int uw, .int mo, .int cs])), (q3a, .inl (cA, 250, .inl en))] H := hP
    have hD : va_D A [(q3, .inr (3, [.ref q3a, .int (et + 1), .int sp, .int ho, .int uw, .int mo, .int cs])), (q3a, .inl (cA, 250, .inl en))] := hD
    exact rt_v hx hb hr hlocks ((et + 1), sp, ho, uw, mo, cs, en) (by simp only [f_X3_enter, if_pos c_1]) hP hD hS dX3_enter_30
  · refine lv_aload_n hx hb dX3_enter_10 rfl (lv_at hl 0 rfl) ?_
    refine va_get (D := (dC, dI)) (ci := 3) (v := .ref q3a) (C := RX3) (T := TX3) (N := 7) hx hb hts (by decide +kernel) hown hK hP 0 rfl rfl 0 (by decide) (hts (.fieldLink RX3 9 RX3 "entries" "[I") (by decide +kernel)) (fun _ h9 => h9) rfl dX3_enter_11 ?_
    refine lv_aload_n hx hb dX3_enter_14 rfl (lv_at hl 0 rfl) ?_
    refine va_get (D := (dC, dI)) (ci := 3) (v := .int et) (C := RX3) (T := TX3) (N := 7) hx hb hts (by decide +kernel) hown hK hP 0 rfl rfl 1 (by decide) (hts (.fieldLink RX3 18 RX3 "entered" "I") (by decide +kernel)) (fun _ h9 => h9) rfl dX3_enter_15 ?_
    refine lv_iload_n hx hb dX3_enter_18 rfl (lv_at hl 1 rfl) ?_
    refine va_iast hx hb hK hP hD hS 1 0 rfl rfl (in_en het c_1) dX3_enter_19 (fun H locs hP hD hS => ?_)
    have hP : va_P (dC, dI) vwCl [(q3, .inr (3, [.ref q3a, .int et, .int sp, .int ho, .int uw, .int mo, .int cs])), (q3a, .inl (cA, 250, .inl (upd en et.toNatClampNeg p0)))] H := hP
    have hD : va_D A [(q3, .inr (3, [.ref q3a, .int et, .int sp, .int ho, .int uw, .int mo, .int cs])), (q3a, .inl (cA, 250, .inl (upd en et.toNatClampNeg p0)))] := hD
    refine lv_aload_n hx hb dX3_enter_20 rfl (lv_at hl 0 rfl) ?_
    refine lv_dup hx hb dX3_enter_21 rfl ?_
    refine va_get (D := (dC, dI)) (ci := 3) (v := .int et) (C := RX3) (T := TX3) (N := 7) hx hb hts (by decide +kernel) hown hK hP 0 rfl rfl 1 (by decide) (hts (.fieldLink RX3 18 RX3 "entered" "I") (by decide +kernel)) (fun _ h9 => h9) rfl dX3_enter_22 ?_
    refine lv_iconst (v := 1) hx hb dX3_enter_25 (by decide) ?_
    refine lv_iadd hx hb dX3_enter_26 ?_
    refine va_put (D := (dC, dI)) (ci := 3) (v := .int (et + 1)) (ty := .int) (C := RX3) (T := TX3) (N := 7) hx hb hts (by decide +kernel) tyX3 tyX3_ok nmX3 hown hK hP hD hS 0 rfl rfl 1 (by decide) (hts (.fieldLink RX3 18 RX3 "entered" "I") (by decide +kernel)) (fun _ h9 => h9) rfl (by decide +kernel) rfl rfl (Nat.le_of_ble_eq_true rfl) dX3_enter_27 (fun H locs hP hD hS => ?_)
    have hP : va_P (dC, dI) vwCl [(q3, .inr (3, [.ref q3a, .int (et + 1), .int sp, .int ho, .int uw, .int mo, .int cs])), (q3a, .inl (cA, 250, .inl (upd en et.toNatClampNeg p0)))] H := hP
    have hD : va_D A [(q3, .inr (3, [.ref q3a, .int (et + 1), .int sp, .int ho, .int uw, .int mo, .int cs])), (q3a, .inl (cA, 250, .inl (upd en et.toNatClampNeg p0)))] := hD
    exact rt_v hx hb hr hlocks ((et + 1), sp, ho, uw, mo, cs, (upd en et.toNatClampNeg p0)) (by simp only [f_X3_enter, if_neg c_1]) hP hD hS dX3_enter_30
def f_X3_enterMark (et : Int32) (sp : Int32) (ho : Int32) (uw : Int32) (mo : Int32) (cs : Int32) (en : Nat → Int32) (p0 : Int32) : Int32 × Int32 × Int32 × Int32 × Int32 × Int32 × (Nat → Int32) := (match f_X3_enter et sp ho uw mo cs en (10000 + p0) with | (et_1, sp_1, ho_1, uw_1, mo_1, cs_1, en_1) => (et_1, sp_1, ho_1, uw_1, mo_1, cs_1, en_1))
set_option maxHeartbeats 4000000 in
set_option maxRecDepth 100000 in
theorem c_X3_enterMark (l : Launch) (dC : Nat → ClassId) (dI : Nat → Nat → Nat) (cA : ClassId) (q3 q3a : Nat) (sz : Nat) (et : Int32) (sp : Int32) (ho : Int32) (uw : Int32) (mo : Int32) (cs : Int32) (en : Nat → Int32) (p0 : Int32) (het : 0 ≤ et.toInt) : Met l yX3_enterMark wsX3_enterMark ({ frames := 1, cells := 0, slots := 0, locals := 21 }) (pcW (dC, dI) [(q3, .inr (3, [.ref q3a, .int et, .int sp, .int ho, .int uw, .int mo, .int cs])), (q3a, .inl (cA, 250, .inl en))] [(cA, .int)] sz [.ref q3, .int p0]) (QWv (dC, dI) (f_X3_enterMark et sp ho uw mo cs en p0) (wd_ta cA q3 q3a) (va_A [(q3, .inr (3, [.ref q3a, .int et, .int sp, .int ho, .int uw, .int mo, .int cs])), (q3a, .inl (cA, 250, .inl en))] sz)) 0 0 (va_A [(q3, .inr (3, [.ref q3a, .int et, .int sp, .int ho, .int uw, .int mo, .int cs])), (q3a, .inl (cA, 250, .inl en))] sz) := by
  refine Met.ofW (cc := cX3_enterMark) (maxL := 2) (ret := none) (by decide) rfl ?_
  intro p e s m args below meth c s₁ B hml hv
  obtain ⟨rfl, hsz, hN, hP, hK, hD0⟩ := hv
  have hx := B.exec
  have hb := B.bytes
  have hr := B.returns
  have hts := atoms_spec (ws := wsX3_enterMark) B.pre
  have hown : s.vm.findClass RX3 = some m.cls := findClass_of_methodNamed B.named
  have hlocks := B.notSynchronized
  subst hsz
  have hD := hD0.self (sz := s.heap.size)
  generalize hAe : va_A [(q3, .inr (3, [.ref q3a, .int et, .int sp, .int ho, .int uw, .int mo, .int cs])), (q3a, .inl (cA, 250, .inl en))] s.heap.size = A at hD ⊢
  have hA : ∀ q : Nat, s.heap.size ≤ q → A q := fun q h => by rw [← hAe]; exact Or.inr h
  have hS : va_S A s.heap s.heap [] := va_S.rf
  have hl := lv_entry ([.ref q3, .int p0]) (n := 2) (Nat.le_of_ble_eq_true rfl)
  rw [lg_entry_eq]
  generalize (lg_sl ([.ref q3, .int p0]) ++ List.replicate (2 - (lg_sl ([.ref q3, .int p0])).length) Slot.unset).toArray = ls at hl ⊢
  have hl : lv_has ls 2 [(0, .ref q3), (1, .int p0)] := hl
  refine lv_aload_n hx hb dX3_enterMark_0 rfl (lv_at hl 0 rfl) ?_
  refine lv_sipush (v := 10000) hx hb dX3_enterMark_1 (by decide) ?_
  refine lv_iload_n hx hb dX3_enterMark_4 rfl (lv_at hl 1 rfl) ?_
  refine lv_iadd hx hb dX3_enterMark_5 ?_
  refine kx_wv (wr := []) hP hD hS hA [0, 1] [] rfl rfl (by decide) (by decide) (va_runV (As := [.int (10000 + p0)]) (rest := []) ⟨hx, hb, hml, hown, hts⟩ (c_X3_enter l dC dI cA q3 q3a s.heap.size et sp ho uw mo cs en (10000 + p0) het) (cwV 1 hts gX3_enterMark_X3_enter rfl rfl rfl (by decide +kernel) ⟨(Nat.le_of_ble_eq_true rfl), (Nat.le_of_ble_eq_true rfl)⟩) (pW hN (hP.sub (ws' := [(q3, .inr (3, [.ref q3a, .int et, .int sp, .int ho, .int uw, .int mo, .int cs])), (q3a, .inl (cA, 250, .inl en))]) [0, 1] rfl) hK (hD.sub (ws' := [(q3, .inr (3, [.ref q3a, .int et, .int sp, .int ho, .int uw, .int mo, .int cs])), (q3a, .inl (cA, 250, .inl en))]) [0, 1] (by decide) rfl) (ci := 3) (q0 := 0) rfl rfl rfl) rfl rfl hl.1 rfl (lv_room (Nat.le_of_ble_eq_true rfl)) dX3_enterMark_6 ⟨Nat.zero_le _, Nat.zero_le _⟩) (fun u_1 H locs hw_1 hP hD hS => ?_)
  obtain ⟨et_1, sp_1, ho_1, uw_1, mo_1, cs_1, en_1⟩ := u_1
  have hP : va_P (dC, dI) vwCl [(q3, .inr (3, [.ref q3a, .int et_1, .int sp_1, .int ho_1, .int uw_1, .int mo_1, .int cs_1])), (q3a, .inl (cA, 250, .inl en_1))] H := hP
  have hD : va_D A [(q3, .inr (3, [.ref q3a, .int et_1, .int sp_1, .int ho_1, .int uw_1, .int mo_1, .int cs_1])), (q3a, .inl (cA, 250, .inl en_1))] := hD
  exact rt_v hx hb hr hlocks (et_1, sp_1, ho_1, uw_1, mo_1, cs_1, en_1) (by simp only [f_X3_enterMark, ← hw_1]) hP hD hS dX3_enterMark_9
def f_X3_enterBegun (et : Int32) (sp : Int32) (ho : Int32) (uw : Int32) (mo : Int32) (cs : Int32) (en : Nat → Int32) (p0 : Int32) : Int32 × Int32 × Int32 × Int32 × Int32 × Int32 × (Nat → Int32) := (match f_X3_enter et sp (ho + 1) (uw + 1) (if mo < (uw + 1) then (uw + 1) else mo) cs en (1000 + p0) with | (et_1, sp_1, ho_1, uw_1, mo_1, cs_1, en_1) => (et_1, sp_1, ho_1, uw_1, mo_1, cs_1, en_1))
set_option maxHeartbeats 4000000 in
set_option maxRecDepth 100000 in
theorem c_X3_enterBegun (l : Launch) (dC : Nat → ClassId) (dI : Nat → Nat → Nat) (cA : ClassId) (q3 q3a : Nat) (sz : Nat) (et : Int32) (sp : Int32) (ho : Int32) (uw : Int32) (mo : Int32) (cs : Int32) (en : Nat → Int32) (p0 : Int32) (het : 0 ≤ et.toInt) : Met l yX3_enterBegun wsX3_enterBegun ({ frames := 1, cells := 0, slots := 0, locals := 21 }) (pcW (dC, dI) [(q3, .inr (3, [.ref q3a, .int et, .int sp, .int ho, .int uw, .int mo, .int cs])), (q3a, .inl (cA, 250, .inl en))] [(cA, .int)] sz [.ref q3, .int p0]) (QWv (dC, dI) (f_X3_enterBegun et sp ho uw mo cs en p0) (wd_ta cA q3 q3a) (va_A [(q3, .inr (3, [.ref q3a, .int et, .int sp, .int ho, .int uw, .int mo, .int cs])), (q3a, .inl (cA, 250, .inl en))] sz)) 0 0 (va_A [(q3, .inr (3, [.ref q3a, .int et, .int sp, .int ho, .int uw, .int mo, .int cs])), (q3a, .inl (cA, 250, .inl en))] sz) := by
  refine Met.ofW (cc := cX3_enterBegun) (maxL := 2) (ret := none) (by decide) rfl ?_
  intro p e s m args below meth c s₁ B hml hv
  obtain ⟨rfl, hsz, hN, hP, hK, hD0⟩ := hv
  have hx := B.exec
  have hb := B.bytes
  have hr := B.returns
  have hts := atoms_spec (ws := wsX3_enterBegun) B.pre
  have hown : s.vm.findClass RX3 = some m.cls := findClass_of_methodNamed B.named
  have hlocks := B.notSynchronized
  subst hsz
  have hD := hD0.self (sz := s.heap.size)
  generalize hAe : va_A [(q3, .inr (3, [.ref q3a, .int et, .int sp, .int ho, .int uw, .int mo, .int cs])), (q3a, .inl (cA, 250, .inl en))] s.heap.size = A at hD ⊢
  have hA : ∀ q : Nat, s.heap.size ≤ q → A q := fun q h => by rw [← hAe]; exact Or.inr h
  have hS : va_S A s.heap s.heap [] := va_S.rf
  have hl := lv_entry ([.ref q3, .int p0]) (n := 2) (Nat.le_of_ble_eq_true rfl)
  rw [lg_entry_eq]
  generalize (lg_sl ([.ref q3, .int p0]) ++ List.replicate (2 - (lg_sl ([.ref q3, .int p0])).length) Slot.unset).toArray = ls at hl ⊢
  have hl : lv_has ls 2 [(0, .ref q3), (1, .int p0)] := hl
  refine lv_aload_n hx hb dX3_enterBegun_0 rfl (lv_at hl 0 rfl) ?_
  refine lv_dup hx hb dX3_enterBegun_1 rfl ?_
  refine va_get (D := (dC, dI)) (ci := 3) (v := .int ho) (C := RX3) (T := TX3) (N := 7) hx hb hts (by decide +kernel) hown hK hP 0 rfl rfl 3 (by decide) (hts (.fieldLink RX3 25 RX3 "holds" "I") (by decide +kernel)) (fun _ h9 => h9) rfl dX3_enterBegun_2 ?_
  refine lv_iconst (v := 1) hx hb dX3_enterBegun_5 (by decide) ?_
  refine lv_iadd hx hb dX3_enterBegun_6 ?_
  refine va_put (D := (dC, dI)) (ci := 3) (v := .int (ho + 1)) (ty := .int) (C := RX3) (T := TX3) (N := 7) hx hb hts (by decide +kernel) tyX3 tyX3_ok nmX3 hown hK hP hD hS 0 rfl rfl 3 (by decide) (hts (.fieldLink RX3 25 RX3 "holds" "I") (by decide +kernel)) (fun _ h9 => h9) rfl (by decide +kernel) rfl rfl (Nat.le_of_ble_eq_true rfl) dX3_enterBegun_7 (fun H locs hP hD hS => ?_)
  have hP : va_P (dC, dI) vwCl [(q3, .inr (3, [.ref q3a, .int et, .int sp, .int (ho + 1), .int uw, .int mo, .int cs])), (q3a, .inl (cA, 250, .inl en))] H := hP
  have hD : va_D A [(q3, .inr (3, [.ref q3a, .int et, .int sp, .int (ho + 1), .int uw, .int mo, .int cs])), (q3a, .inl (cA, 250, .inl en))] := hD
  refine lv_aload_n hx hb dX3_enterBegun_10 rfl (lv_at hl 0 rfl) ?_
  refine lv_dup hx hb dX3_enterBegun_11 rfl ?_
  refine va_get (D := (dC, dI)) (ci := 3) (v := .int uw) (C := RX3) (T := TX3) (N := 7) hx hb hts (by decide +kernel) hown hK hP 0 rfl rfl 4 (by decide) (hts (.fieldLink RX3 28 RX3 "underWay" "I") (by decide +kernel)) (fun _ h9 => h9) rfl dX3_enterBegun_12 ?_
  refine lv_iconst (v := 1) hx hb dX3_enterBegun_15 (by decide) ?_
  refine lv_iadd hx hb dX3_enterBegun_16 ?_
  refine va_put (D := (dC, dI)) (ci := 3) (v := .int (uw + 1)) (ty := .int) (C := RX3) (T := TX3) (N := 7) hx hb hts (by decide +kernel) tyX3 tyX3_ok nmX3 hown hK hP hD hS 0 rfl rfl 4 (by decide) (hts (.fieldLink RX3 28 RX3 "underWay" "I") (by decide +kernel)) (fun _ h9 => h9) rfl (by decide +kernel) rfl rfl (Nat.le_of_ble_eq_true rfl) dX3_enterBegun_17 (fun H locs hP hD hS => ?_)
  have hP : va_P (dC, dI) vwCl [(q3, .inr (3, [.ref q3a, .int et, .int sp, .int (ho + 1), .int (uw + 1), .int mo, .int cs])), (q3a, .inl (cA, 250, .inl en))] H := hP
  have hD : va_D A [(q3, .inr (3, [.ref q3a, .int et, .int sp, .int (ho + 1), .int (uw + 1), .int mo, .int cs])), (q3a, .inl (cA, 250, .inl en))] := hD
  refine lv_aload_n hx hb dX3_enterBegun_20 rfl (lv_at hl 0 rfl) ?_
  refine lv_aload_n hx hb dX3_enterBegun_21 rfl (lv_at hl 0 rfl) ?_
  refine va_get (D := (dC, dI)) (ci := 3) (v := .int mo) (C := RX3) (T := TX3) (N := 7) hx hb hts (by decide +kernel) hown hK hP 0 rfl rfl 5 (by decide) (hts (.fieldLink RX3 31 RX3 "most" "I") (by decide +kernel)) (fun _ h9 => h9) rfl dX3_enterBegun_22 ?_
  refine lv_aload_n hx hb dX3_enterBegun_25 rfl (lv_at hl 0 rfl) ?_
  refine va_get (D := (dC, dI)) (ci := 3) (v := .int (uw + 1)) (C := RX3) (T := TX3) (N := 7) hx hb hts (by decide +kernel) hown hK hP 0 rfl rfl 4 (by decide) (hts (.fieldLink RX3 28 RX3 "underWay" "I") (by decide +kernel)) (fun _ h9 => h9) rfl dX3_enterBegun_26 ?_
  refine va_mmax hx hb (hml.trans hl.1.symm) hown (hts (.methodLink RX3 51 Lib.Math.max.name) (by decide +kernel)) (hts (.static Lib.Math.max.name) (by decide +kernel)) (hts (.initialized "java/lang/Math") (by decide +kernel)) (hts (.code Lib.Math.max.name Lib.Math.max.code 2 (some .int)) (by decide +kernel)) (Nat.le_of_ble_eq_true rfl) (Nat.le_of_ble_eq_true rfl) (Nat.zero_le _) (Nat.zero_le _) dX3_enterBegun_29 ?_
  refine va_put (D := (dC, dI)) (ci := 3) (v := .int (if mo < (uw + 1) then (uw + 1) else mo)) (ty := .int) (C := RX3) (T := TX3) (N := 7) hx hb hts (by decide +kernel) tyX3 tyX3_ok nmX3 hown hK hP hD hS 0 rfl rfl 5 (by decide) (hts (.fieldLink RX3 31 RX3 "most" "I") (by decide +kernel)) (fun _ h9 => h9) rfl (by decide +kernel) rfl rfl (Nat.le_of_ble_eq_true rfl) dX3_enterBegun_32 (fun H locs hP hD hS => ?_)
  have hP : va_P (dC, dI) vwCl [(q3, .inr (3, [.ref q3a, .int et, .int sp, .int (ho + 1), .int (uw + 1), .int (if mo < (uw + 1) then (uw + 1) else mo), .int cs])), (q3a, .inl (cA, 250, .inl en))] H := hP
  have hD : va_D A [(q3, .inr (3, [.ref q3a, .int et, .int sp, .int (ho + 1), .int (uw + 1), .int (if mo < (uw + 1) then (uw + 1) else mo), .int cs])), (q3a, .inl (cA, 250, .inl en))] := hD
  refine lv_aload_n hx hb dX3_enterBegun_35 rfl (lv_at hl 0 rfl) ?_
  refine lv_sipush (v := 1000) hx hb dX3_enterBegun_36 (by decide) ?_
  refine lv_iload_n hx hb dX3_enterBegun_39 rfl (lv_at hl 1 rfl) ?_
  refine lv_iadd hx hb dX3_enterBegun_40 ?_
  refine kx_wv (wr := []) hP hD hS hA [0, 1] [] rfl rfl (by decide) (by decide) (va_runV (As := [.int (1000 + p0)]) (rest := []) ⟨hx, hb, hml, hown, hts⟩ (c_X3_enter l dC dI cA q3 q3a H.size et sp (ho + 1) (uw + 1) (if mo < (uw + 1) then (uw + 1) else mo) cs en (1000 + p0) het) (cwV 1 hts gX3_enterBegun_X3_enter rfl rfl rfl (by decide +kernel) ⟨(Nat.le_of_ble_eq_true rfl), (Nat.le_of_ble_eq_true rfl)⟩) (pW hN (hP.sub (ws' := [(q3, .inr (3, [.ref q3a, .int et, .int sp, .int (ho + 1), .int (uw + 1), .int (if mo < (uw + 1) then (uw + 1) else mo), .int cs])), (q3a, .inl (cA, 250, .inl en))]) [0, 1] rfl) hK (hD.sub (ws' := [(q3, .inr (3, [.ref q3a, .int et, .int sp, .int (ho + 1), .int (uw + 1), .int (if mo < (uw + 1) then (uw + 1) else mo), .int cs])), (q3a, .inl (cA, 250, .inl en))]) [0, 1] (by decide) rfl) (ci := 3) (q0 := 0) rfl rfl rfl) rfl rfl hl.1 rfl (lv_room (Nat.le_of_ble_eq_true rfl)) dX3_enterBegun_41 ⟨Nat.zero_le _, Nat.zero_le _⟩) (fun u_1 H locs hw_1 hP hD hS => ?_)
  obtain ⟨et_1, sp_1, ho_1, uw_1, mo_1, cs_1, en_1⟩ := u_1
  have hP : va_P (dC, dI) vwCl [(q3, .inr (3, [.ref q3a, .int et_1, .int sp_1, .int ho_1, .int uw_1, .int mo_1, .int cs_1])), (q3a, .inl (cA, 250, .inl en_1))] H := hP
  have hD : va_D A [(q3, .inr (3, [.ref q3a, .int et_1, .int sp_1, .int ho_1, .int uw_1, .int mo_1, .int cs_1])), (q3a, .inl (cA, 250, .inl en_1))] := hD
  exact rt_v hx hb hr hlocks (et_1, sp_1, ho_1, uw_1, mo_1, cs_1, en_1) (by simp only [f_X3_enterBegun, ← hw_1]) hP hD hS dX3_enterBegun_44
def f_X3_enterLeft (et : Int32) (sp : Int32) (ho : Int32) (uw : Int32) (mo : Int32) (cs : Int32) (en : Nat → Int32) (p0 : Int32) (p1 : Int32) : Int32 × Int32 × Int32 × Int32 × Int32 × Int32 × (Nat → Int32) := (if p1 = 4 then (match f_X3_enter et sp ho (uw - 1) mo (cs + 1) en ((2000 + (100 * p1)) + p0) with | (et_2, sp_2, ho_2, uw_2, mo_2, cs_2, en_2) => (et_2, sp_2, ho_2, uw_2, mo_2, cs_2, en_2)) else (if p1 = 5 then (match f_X3_enter et sp ho (uw - 1) mo (cs + 1) en ((2000 + (100 * p1)) + p0) with | (et_5, sp_5, ho_5, uw_5, mo_5, cs_5, en_5) => (et_5, sp_5, ho_5, uw_5, mo_5, cs_5, en_5)) else (match f_X3_enter et sp ho (uw - 1) mo cs en ((2000 + (100 * p1)) + p0) with | (et_4, sp_4, ho_4, uw_4, mo_4, cs_4, en_4) => (et_4, sp_4, ho_4, uw_4, mo_4, cs_4, en_4))))
set_option maxHeartbeats 4000000 in
set_option maxRecDepth 100000 in
theorem c_X3_enterLeft (l : Launch) (dC : Nat → ClassId) (dI : Nat → Nat → Nat) (cA : ClassId) (q3 q3a : Nat) (sz : Nat) (et : Int32) (sp : Int32) (ho : Int32) (uw : Int32) (mo : Int32) (cs : Int32) (en : Nat → Int32) (p0 : Int32) (p1 : Int32) (het : 0 ≤ et.toInt) : Met l yX3_enterLeft wsX3_enterLeft ({ frames := 1, cells := 0, slots := 0, locals := 21 }) (pcW (dC, dI) [(q3, .inr (3, [.ref q3a, .int et, .int sp, .int ho, .int uw, .int mo, .int cs])), (q3a, .inl (cA, 250, .inl en))] [(cA, .int)] sz [.ref q3, .int p0, .int p1]) (QWv (dC, dI) (f_X3_enterLeft et sp ho uw mo cs en p0 p1) (wd_ta cA q3 q3a) (va_A [(q3, .inr (3, [.ref q3a, .int et, .int sp, .int ho, .int uw, .int mo, .int cs])), (q3a, .inl (cA, 250, .inl en))] sz)) 0 0 (va_A [(q3, .inr (3, [.ref q3a, .int et, .int sp, .int ho, .int uw, .int mo, .int cs])), (q3a, .inl (cA, 250, .inl en))] sz) := by
  refine Met.ofW (cc := cX3_enterLeft) (maxL := 3) (ret := none) (by decide) rfl ?_
  intro p e s m args below meth c s₁ B hml hv
  obtain ⟨rfl, hsz, hN, hP, hK, hD0⟩ := hv
  have hx := B.exec
  have hb := B.bytes
  have hr := B.returns
  have hts := atoms_spec (ws := wsX3_enterLeft) B.pre
  have hown : s.vm.findClass RX3 = some m.cls := findClass_of_methodNamed B.named
  have hlocks := B.notSynchronized
  subst hsz
  have hD := hD0.self (sz := s.heap.size)
  generalize hAe : va_A [(q3, .inr (3, [.ref q3a, .int et, .int sp, .int ho, .int uw, .int mo, .int cs])), (q3a, .inl (cA, 250, .inl en))] s.heap.size = A at hD ⊢
  have hA : ∀ q : Nat, s.heap.size ≤ q → A q := fun q h => by rw [← hAe]; exact Or.inr h
  have hS : va_S A s.heap s.heap [] := va_S.rf
  have hl := lv_entry ([.ref q3, .int p0, .int p1]) (n := 3) (Nat.le_of_ble_eq_true rfl)
  rw [lg_entry_eq]
  generalize (lg_sl ([.ref q3, .int p0, .int p1]) ++ List.replicate (3 - (lg_sl ([.ref q3, .int p0, .int p1])).length) Slot.unset).toArray = ls at hl ⊢
  have hl : lv_has ls 3 [(0, .ref q3), (1, .int p0), (2, .int p1)] := hl
  refine lv_aload_n hx hb dX3_enterLeft_0 rfl (lv_at hl 0 rfl) ?_
  refine lv_dup hx hb dX3_enterLeft_1 rfl ?_
  refine va_get (D := (dC, dI)) (ci := 3) (v := .int uw) (C := RX3) (T := TX3) (N := 7) hx hb hts (by decide +kernel) hown hK hP 0 rfl rfl 4 (by decide) (hts (.fieldLink RX3 28 RX3 "underWay" "I") (by decide +kernel)) (fun _ h9 => h9) rfl dX3_enterLeft_2 ?_
  refine lv_iconst (v := 1) hx hb dX3_enterLeft_5 (by decide) ?_
  refine lv_isub hx hb dX3_enterLeft_6 ?_
  refine va_put (D := (dC, dI)) (ci := 3) (v := .int (uw - 1)) (ty := .int) (C := RX3) (T := TX3) (N := 7) hx hb hts (by decide +kernel) tyX3 tyX3_ok nmX3 hown hK hP hD hS 0 rfl rfl 4 (by decide) (hts (.fieldLink RX3 28 RX3 "underWay" "I") (by decide +kernel)) (fun _ h9 => h9) rfl (by decide +kernel) rfl rfl (Nat.le_of_ble_eq_true rfl) dX3_enterLeft_7 (fun H locs hP hD hS => ?_)
  have hP : va_P (dC, dI) vwCl [(q3, .inr (3, [.ref q3a, .int et, .int sp, .int ho, .int (uw - 1), .int mo, .int cs])), (q3a, .inl (cA, 250, .inl en))] H := hP
  have hD : va_D A [(q3, .inr (3, [.ref q3a, .int et, .int sp, .int ho, .int (uw - 1), .int mo, .int cs])), (q3a, .inl (cA, 250, .inl en))] := hD
  refine lv_iload_n hx hb dX3_enterLeft_10 rfl (lv_at hl 2 rfl) ?_
  refine lv_iconst (v := 4) hx hb dX3_enterLeft_11 (by decide) ?_
  refine lv_icmp_eq (tgt := 20) hx hb dX3_enterLeft_12 (by decide) (fun c_1 => ?_) (fun c_1 => ?_)
  · refine lv_aload_n hx hb dX3_enterLeft_20 rfl (lv_at hl 0 rfl) ?_
    refine lv_dup hx hb dX3_enterLeft_21 rfl ?_
    refine va_get (D := (dC, dI)) (ci := 3) (v := .int cs) (C := RX3) (T := TX3) (N := 7) hx hb hts (by decide +kernel) hown hK hP 0 rfl rfl 6 (by decide) (hts (.fieldLink RX3 34 RX3 "cutShort" "I") (by decide +kernel)) (fun _ h9 => h9) rfl dX3_enterLeft_22 ?_
    refine lv_iconst (v := 1) hx hb dX3_enterLeft_25 (by decide) ?_
    refine lv_iadd hx hb dX3_enterLeft_26 ?_
    refine va_put (D := (dC, dI)) (ci := 3) (v := .int (cs + 1)) (ty := .int) (C := RX3) (T := TX3) (N := 7) hx hb hts (by decide +kernel) tyX3 tyX3_ok nmX3 hown hK hP hD hS 0 rfl rfl 6 (by decide) (hts (.fieldLink RX3 34 RX3 "cutShort" "I") (by decide +kernel)) (fun _ h9 => h9) rfl (by decide +kernel) rfl rfl (Nat.le_of_ble_eq_true rfl) dX3_enterLeft_27 (fun H locs hP hD hS => ?_)
    have hP : va_P (dC, dI) vwCl [(q3, .inr (3, [.ref q3a, .int et, .int sp, .int ho, .int (uw - 1), .int mo, .int (cs + 1)])), (q3a, .inl (cA, 250, .inl en))] H := hP
    have hD : va_D A [(q3, .inr (3, [.ref q3a, .int et, .int sp, .int ho, .int (uw - 1), .int mo, .int (cs + 1)])), (q3a, .inl (cA, 250, .inl en))] := hD
    refine lv_aload_n hx hb dX3_enterLeft_30 rfl (lv_at hl 0 rfl) ?_
    refine lv_sipush (v := 2000) hx hb dX3_enterLeft_31 (by decide) ?_
    refine lv_bipush (v := 100) hx hb dX3_enterLeft_34 (by decide) ?_
    refine lv_iload_n hx hb dX3_enterLeft_36 rfl (lv_at hl 2 rfl) ?_
    refine lv_imul hx hb dX3_enterLeft_37 ?_
    refine lv_iadd hx hb dX3_enterLeft_38 ?_
    refine lv_iload_n hx hb dX3_enterLeft_39 rfl (lv_at hl 1 rfl) ?_
    refine lv_iadd hx hb dX3_enterLeft_40 ?_
    refine kx_wv (wr := []) hP hD hS hA [0, 1] [] rfl rfl (by decide) (by decide) (va_runV (As := [.int ((2000 + (100 * p1)) + p0)]) (rest := []) ⟨hx, hb, hml, hown, hts⟩ (c_X3_enter l dC dI cA q3 q3a H.size et sp ho (uw - 1) mo (cs + 1) en ((2000 + (100 * p1)) + p0) het) (cwV 1 hts gX3_enterLeft_X3_enter rfl rfl rfl (by decide +kernel) ⟨(Nat.le_of_ble_eq_true rfl), (Nat.le_of_ble_eq_true rfl)⟩) (pW hN (hP.sub (ws' := [(q3, .inr (3, [.ref q3a, .int et, .int sp, .int ho, .int (uw - 1), .int mo, .int (cs + 1)])), (q3a, .inl (cA, 250, .inl en))]) [0, 1] rfl) hK (hD.sub (ws' := [(q3, .inr (3, [.ref q3a, .int et, .int sp, .int ho, .int (uw - 1), .int mo, .int (cs + 1)])), (q3a, .inl (cA, 250, .inl en))]) [0, 1] (by decide) rfl) (ci := 3) (q0 := 0) rfl rfl rfl) rfl rfl hl.1 rfl (lv_room (Nat.le_of_ble_eq_true rfl)) dX3_enterLeft_41 ⟨Nat.zero_le _, Nat.zero_le _⟩) (fun u_2 H locs hw_2 hP hD hS => ?_)
    obtain ⟨et_2, sp_2, ho_2, uw_2, mo_2, cs_2, en_2⟩ := u_2
    have hP : va_P (dC, dI) vwCl [(q3, .inr (3, [.ref q3a, .int et_2, .int sp_2, .int ho_2, .int uw_2, .int mo_2, .int cs_2])), (q3a, .inl (cA, 250, .inl en_2))] H := hP
    have hD : va_D A [(q3, .inr (3, [.ref q3a, .int et_2, .int sp_2, .int ho_2, .int uw_2, .int mo_2, .int cs_2])), (q3a, .inl (cA, 250, .inl en_2))] := hD
    exact rt_v hx hb hr hlocks (et_2, sp_2, ho_2, uw_2, mo_2, cs_2, en_2) (by simp only [f_X3_enterLeft, if_pos c_1, ← hw_2]) hP hD hS dX3_enterLeft_44
  · refine lv_iload_n hx hb dX3_enterLeft_15 rfl (lv_at hl 2 rfl) ?_
    refine lv_iconst (v := 5) hx hb dX3_enterLeft_16 (by decide) ?_
    refine lv_icmp_ne (tgt := 30) hx hb dX3_enterLeft_17 (by decide) (fun c_3 => ?_) (fun c_3 => ?_)
    · refine lv_aload_n hx hb dX3_enterLeft_30 rfl (lv_at hl 0 rfl) ?_
      refine lv_sipush (v := 2000) hx hb dX3_enterLeft_31 (by decide) ?_
      refine lv_bipush (v := 100) hx hb dX3_enterLeft_34 (by decide) ?_
      refine lv_iload_n hx hb dX3_enterLeft_36 rfl (lv_at hl 2 rfl) ?_
      refine lv_imul hx hb dX3_enterLeft_37 ?_
      refine lv_iadd hx hb dX3_enterLeft_38 ?_
      refine lv_iload_n hx hb dX3_enterLeft_39 rfl (lv_at hl 1 rfl) ?_
      refine lv_iadd hx hb dX3_enterLeft_40 ?_
      refine kx_wv (wr := []) hP hD hS hA [0, 1] [] rfl rfl (by decide) (by decide) (va_runV (As := [.int ((2000 + (100 * p1)) + p0)]) (rest := []) ⟨hx, hb, hml, hown, hts⟩ (c_X3_enter l dC dI cA q3 q3a H.size et sp ho (uw - 1) mo cs en ((2000 + (100 * p1)) + p0) het) (cwV 1 hts gX3_enterLeft_X3_enter rfl rfl rfl (by decide +kernel) ⟨(Nat.le_of_ble_eq_true rfl), (Nat.le_of_ble_eq_true rfl)⟩) (pW hN (hP.sub (ws' := [(q3, .inr (3, [.ref q3a, .int et, .int sp, .int ho, .int (uw - 1), .int mo, .int cs])), (q3a, .inl (cA, 250, .inl en))]) [0, 1] rfl) hK (hD.sub (ws' := [(q3, .inr (3, [.ref q3a, .int et, .int sp, .int ho, .int (uw - 1), .int mo, .int cs])), (q3a, .inl (cA, 250, .inl en))]) [0, 1] (by decide) rfl) (ci := 3) (q0 := 0) rfl rfl rfl) rfl rfl hl.1 rfl (lv_room (Nat.le_of_ble_eq_true rfl)) dX3_enterLeft_41 ⟨Nat.zero_le _, Nat.zero_le _⟩) (fun u_4 H locs hw_4 hP hD hS => ?_)
      obtain ⟨et_4, sp_4, ho_4, uw_4, mo_4, cs_4, en_4⟩ := u_4
      have hP : va_P (dC, dI) vwCl [(q3, .inr (3, [.ref q3a, .int et_4, .int sp_4, .int ho_4, .int uw_4, .int mo_4, .int cs_4])), (q3a, .inl (cA, 250, .inl en_4))] H := hP
      have hD : va_D A [(q3, .inr (3, [.ref q3a, .int et_4, .int sp_4, .int ho_4, .int uw_4, .int mo_4, .int cs_4])), (q3a, .inl (cA, 250, .inl en_4))] := hD
      exact rt_v hx hb hr hlocks (et_4, sp_4, ho_4, uw_4, mo_4, cs_4, en_4) (by simp only [f_X3_enterLeft, if_neg c_1, if_neg c_3, ← hw_4]) hP hD hS dX3_enterLeft_44
    · refine lv_aload_n hx hb dX3_enterLeft_20 rfl (lv_at hl 0 rfl) ?_
      refine lv_dup hx hb dX3_enterLeft_21 rfl ?_
      refine va_get (D := (dC, dI)) (ci := 3) (v := .int cs) (C := RX3) (T := TX3) (N := 7) hx hb hts (by decide +kernel) hown hK hP 0 rfl rfl 6 (by decide) (hts (.fieldLink RX3 34 RX3 "cutShort" "I") (by decide +kernel)) (fun _ h9 => h9) rfl dX3_enterLeft_22 ?_
      refine lv_iconst (v := 1) hx hb dX3_enterLeft_25 (by decide) ?_
      refine lv_iadd hx hb dX3_enterLeft_26 ?_
      refine va_put (D := (dC, dI)) (ci := 3) (v := .int (cs + 1)) (ty := .int) (C := RX3) (T := TX3) (N := 7) hx hb hts (by decide +kernel) tyX3 tyX3_ok nmX3 hown hK hP hD hS 0 rfl rfl 6 (by decide) (hts (.fieldLink RX3 34 RX3 "cutShort" "I") (by decide +kernel)) (fun _ h9 => h9) rfl (by decide +kernel) rfl rfl (Nat.le_of_ble_eq_true rfl) dX3_enterLeft_27 (fun H locs hP hD hS => ?_)
      have hP : va_P (dC, dI) vwCl [(q3, .inr (3, [.ref q3a, .int et, .int sp, .int ho, .int (uw - 1), .int mo, .int (cs + 1)])), (q3a, .inl (cA, 250, .inl en))] H := hP
      have hD : va_D A [(q3, .inr (3, [.ref q3a, .int et, .int sp, .int ho, .int (uw - 1), .int mo, .int (cs + 1)])), (q3a, .inl (cA, 250, .inl en))] := hD
      refine lv_aload_n hx hb dX3_enterLeft_30 rfl (lv_at hl 0 rfl) ?_
      refine lv_sipush (v := 2000) hx hb dX3_enterLeft_31 (by decide) ?_
      refine lv_bipush (v := 100) hx hb dX3_enterLeft_34 (by decide) ?_
      refine lv_iload_n hx hb dX3_enterLeft_36 rfl (lv_at hl 2 rfl) ?_
      refine lv_imul hx hb dX3_enterLeft_37 ?_
      refine lv_iadd hx hb dX3_enterLeft_38 ?_
      refine lv_iload_n hx hb dX3_enterLeft_39 rfl (lv_at hl 1 rfl) ?_
      refine lv_iadd hx hb dX3_enterLeft_40 ?_
      refine kx_wv (wr := []) hP hD hS hA [0, 1] [] rfl rfl (by decide) (by decide) (va_runV (As := [.int ((2000 + (100 * p1)) + p0)]) (rest := []) ⟨hx, hb, hml, hown, hts⟩ (c_X3_enter l dC dI cA q3 q3a H.size et sp ho (uw - 1) mo (cs + 1) en ((2000 + (100 * p1)) + p0) het) (cwV 1 hts gX3_enterLeft_X3_enter rfl rfl rfl (by decide +kernel) ⟨(Nat.le_of_ble_eq_true rfl), (Nat.le_of_ble_eq_true rfl)⟩) (pW hN (hP.sub (ws' := [(q3, .inr (3, [.ref q3a, .int et, .int sp, .int ho, .int (uw - 1), .int mo, .int (cs + 1)])), (q3a, .inl (cA, 250, .inl en))]) [0, 1] rfl) hK (hD.sub (ws' := [(q3, .inr (3, [.ref q3a, .int et, .int sp, .int ho, .int (uw - 1), .int mo, .int (cs + 1)])), (q3a, .inl (cA, 250, .inl en))]) [0, 1] (by decide) rfl) (ci := 3) (q0 := 0) rfl rfl rfl) rfl rfl hl.1 rfl (lv_room (Nat.le_of_ble_eq_true rfl)) dX3_enterLeft_41 ⟨Nat.zero_le _, Nat.zero_le _⟩) (fun u_5 H locs hw_5 hP hD hS => ?_)
      obtain ⟨et_5, sp_5, ho_5, uw_5, mo_5, cs_5, en_5⟩ := u_5
      have hP : va_P (dC, dI) vwCl [(q3, .inr (3, [.ref q3a, .int et_5, .int sp_5, .int ho_5, .int uw_5, .int mo_5, .int cs_5])), (q3a, .inl (cA, 250, .inl en_5))] H := hP
      have hD : va_D A [(q3, .inr (3, [.ref q3a, .int et_5, .int sp_5, .int ho_5, .int uw_5, .int mo_5, .int cs_5])), (q3a, .inl (cA, 250, .inl en_5))] := hD
      exact rt_v hx hb hr hlocks (et_5, sp_5, ho_5, uw_5, mo_5, cs_5, en_5) (by simp only [f_X3_enterLeft, if_neg c_1, if_pos c_3, ← hw_5]) hP hD hS dX3_enterLeft_44
def f_X3_entry (et : Int32) (sp : Int32) (ho : Int32) (uw : Int32) (mo : Int32) (cs : Int32) (en : Nat → Int32) (p0 : Int32) : Int32 := (if (f_X4_isWithin p0 0 ((if 250 < et then 250 else et) - 1)) = 0 then (-1) else (en p0.toNatClampNeg))
set_option maxHeartbeats 4000000 in
set_option maxRecDepth 100000 in
theorem c_X3_entry (l : Launch) (dC : Nat → ClassId) (dI : Nat → Nat → Nat) (cA : ClassId) (q3 q3a : Nat) (et : Int32) (sp : Int32) (ho : Int32) (uw : Int32) (mo : Int32) (cs : Int32) (en : Nat → Int32) (p0 : Int32) (het : 0 ≤ et.toInt) : Met l yX3_entry wsX3_entry ({ frames := 1, cells := 0, slots := 0, locals := 22 }) (pcR (dC, dI) [(q3, .inr (3, [.ref q3a, .int et, .int sp, .int ho, .int uw, .int mo, .int cs])), (q3a, .inl (cA, 250, .inl en))] [(cA, .int)] [.ref q3, .int p0]) (QcRead (f_X3_entry et sp ho uw mo cs en p0)) 0 0 (fun _ => False) := by
  refine Met.ofW (cc := cX3_entry) (maxL := 2) (ret := (some .int)) (by decide) rfl ?_
  intro p e s m args below meth c s₁ B hml hv
  obtain ⟨rfl, hN, hP, hK⟩ := hv
  have hx := B.exec
  have hb := B.bytes
  have hr := B.returns
  have hts := atoms_spec (ws := wsX3_entry) B.pre
  have hown : s.vm.findClass RX3 = some m.cls := findClass_of_methodNamed B.named
  have hlocks := B.notSynchronized
  have hl := lv_entry ([.ref q3, .int p0]) (n := 2) (Nat.le_of_ble_eq_true rfl)
  rw [lg_entry_eq]
  generalize (lg_sl ([.ref q3, .int p0]) ++ List.replicate (2 - (lg_sl ([.ref q3, .int p0])).length) Slot.unset).toArray = ls at hl ⊢
  have hl : lv_has ls 2 [(0, .ref q3), (1, .int p0)] := hl
  refine lv_iload_n hx hb dX3_entry_0 rfl (lv_at hl 1 rfl) ?_
  refine lv_iconst (v := 0) hx hb dX3_entry_1 (by decide) ?_
  refine lv_aload_n hx hb dX3_entry_2 rfl (lv_at hl 0 rfl) ?_
  refine va_get (D := (dC, dI)) (ci := 3) (v := .int et) (C := RX3) (T := TX3) (N := 7) hx hb hts (by decide +kernel) hown hK hP 0 rfl rfl 1 (by decide) (hts (.fieldLink RX3 18 RX3 "entered" "I") (by decide +kernel)) (fun _ h9 => h9) rfl dX3_entry_3 ?_
  refine lv_sipush (v := 250) hx hb dX3_entry_6 (by decide) ?_
  refine va_mmin hx hb (hml.trans hl.1.symm) hown (hts (.methodLink RX3 37 Lib.Math.min.name) (by decide +kernel)) (hts (.static Lib.Math.min.name) (by decide +kernel)) (hts (.initialized "java/lang/Math") (by decide +kernel)) (hts (.code Lib.Math.min.name Lib.Math.min.code 2 (some .int)) (by decide +kernel)) (Nat.le_of_ble_eq_true rfl) (Nat.le_of_ble_eq_true rfl) (Nat.zero_le _) (Nat.zero_le _) dX3_entry_9 ?_
  refine lv_iconst (v := 1) hx hb dX3_entry_12 (by decide) ?_
  refine lv_isub hx hb dX3_entry_13 ?_
  refine kx_read (va_runSN (As := [.int p0, .int 0, .int ((if 250 < et then 250 else et) - 1)]) (rest := []) ⟨hx, hb, hml, hown, hts⟩ (c_X4_isWithin l p0 0 ((if 250 < et then 250 else et) - 1)) ⟨va_cnB 3 hts gX3_entry_X4_isWithin_n43 rfl rfl rfl (hN.at 26 rfl) (hts (.initialized RX4) (by decide +kernel)) (by decide +kernel) ⟨(Nat.le_of_ble_eq_true rfl), (Nat.le_of_ble_eq_true rfl)⟩, (hts (.static yX4_isWithin) (by decide +kernel)), trivial⟩ (pS hN) rfl rfl hl.1 rfl (lv_room (Nat.le_of_ble_eq_true rfl)) dX3_entry_14 ⟨Nat.zero_le _, Nat.zero_le _⟩) ?_
  refine lv_if_eq (tgt := 29) hx hb dX3_entry_17 (by decide) (fun c_1 => ?_) (fun c_1 => ?_)
  · refine lv_iconst (v := (-1)) hx hb dX3_entry_29 (by decide) ?_
    exact rd_i hx hb hr hlocks (by simp only [f_X3_entry, if_pos c_1]) dX3_entry_30
  · refine lv_aload_n hx hb dX3_entry_20 rfl (lv_at hl 0 rfl) ?_
    refine va_get (D := (dC, dI)) (ci := 3) (v := .ref q3a) (C := RX3) (T := TX3) (N := 7) hx hb hts (by decide +kernel) hown hK hP 0 rfl rfl 0 (by decide) (hts (.fieldLink RX3 9 RX3 "entries" "[I") (by decide +kernel)) (fun _ h9 => h9) rfl dX3_entry_21 ?_
    refine lv_iload_n hx hb dX3_entry_24 rfl (lv_at hl 1 rfl) ?_
    refine va_iald hx hb hK hP 1 0 rfl rfl (in_ent het c_1) dX3_entry_25 ?_
    refine lv_goto (tgt := 30) hx hb dX3_entry_26 (by decide) ?_
    exact rd_i hx hb hr hlocks (by simp only [f_X3_entry, if_neg c_1]) dX3_entry_30
