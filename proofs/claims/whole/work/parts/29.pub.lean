set_option maxHeartbeats 4000000 in
set_option maxRecDepth 100000 in
theorem c_X4_thing (l : Launch) (dC : Nat → ClassId) (dI : Nat → Nat → Nat) (cA : ClassId) (q4 q2 q2a q2b q2c q0 q0a q0b q0c q0d q0e q3 q3a q1 : Nat) (sz : Nat) (rn : Int32) (ma : Int32) (pl : Nat → Int32) (nu : Nat → Int32) (de : Nat → Int32) (to : Int32) (si : Nat → Int32) (ki : Nat → Int32) (aa : Nat → Int32) (xx : Nat → Int32) (yy : Nat → Int32) (et : Int32) (sp : Int32) (ho : Int32) (uw : Int32) (mo : Int32) (cs : Int32) (en : Nat → Int32) (rf : Int32) (p0 : Int32) : Met l yX4_thing wsX4_thing ({ frames := 4, cells := 0, slots := 0, locals := 86 }) (pcW (dC, dI) [(q4, .inr (4, [.ref q1, .ref q2, .ref q0, .ref q3, .int rn])), (q2, .inr (2, [.ref q2a, .ref q2b, .ref q2c, .int ma])), (q2a, .inl (cA, 6, .inl pl)), (q2b, .inl (cA, 60, .inl nu)), (q2c, .inl (cA, 60, .inl de)), (q0, .inr (0, [.ref q0a, .ref q0b, .ref q0c, .ref q0d, .ref q0e, .int to])), (q0a, .inl (cA, 40, .inl si)), (q0b, .inl (cA, 480, .inl ki)), (q0c, .inl (cA, 480, .inl aa)), (q0d, .inl (cA, 480, .inl xx)), (q0e, .inl (cA, 480, .inl yy)), (q3, .inr (3, [.ref q3a, .int et, .int sp, .int ho, .int uw, .int mo, .int cs])), (q3a, .inl (cA, 250, .inl en)), (q1, .inr (1, [.ref q2, .ref q0, .ref q3, .int rf]))] [(cA, .int)] sz [.ref q4, .int p0]) (QWi (dC, dI) (f_X4_thing rn ma pl nu de to si ki aa xx yy et sp ho uw mo cs en rf p0) (wd_hb cA q4 q2 q2a q2b q2c q0 q0a q0b q0c q0d q0e q3 q3a q1) (va_A [(q4, .inr (4, [.ref q1, .ref q2, .ref q0, .ref q3, .int rn])), (q2, .inr (2, [.ref q2a, .ref q2b, .ref q2c, .int ma])), (q2a, .inl (cA, 6, .inl pl)), (q2b, .inl (cA, 60, .inl nu)), (q2c, .inl (cA, 60, .inl de)), (q0, .inr (0, [.ref q0a, .ref q0b, .ref q0c, .ref q0d, .ref q0e, .int to])), (q0a, .inl (cA, 40, .inl si)), (q0b, .inl (cA, 480, .inl ki)), (q0c, .inl (cA, 480, .inl aa)), (q0d, .inl (cA, 480, .inl xx)), (q0e, .inl (cA, 480, .inl yy)), (q3, .inr (3, [.ref q3a, .int et, .int sp, .int ho, .int uw, .int mo, .int cs])), (q3a, .inl (cA, 250, .inl en)), (q1, .inr (1, [.ref q2, .ref q0, .ref q3, .int rf]))] sz)) 0 0 (va_A [(q4, .inr (4, [.ref q1, .ref q2, .ref q0, .ref q3, .int rn])), (q2, .inr (2, [.ref q2a, .ref q2b, .ref q2c, .int ma])), (q2a, .inl (cA, 6, .inl pl)), (q2b, .inl (cA, 60, .inl nu)), (q2c, .inl (cA, 60, .inl de)), (q0, .inr (0, [.ref q0a, .ref q0b, .ref q0c, .ref q0d, .ref q0e, .int to])), (q0a, .inl (cA, 40, .inl si)), (q0b, .inl (cA, 480, .inl ki)), (q0c, .inl (cA, 480, .inl aa)), (q0d, .inl (cA, 480, .inl xx)), (q0e, .inl (cA, 480, .inl yy)), (q3, .inr (3, [.ref q3a, .int et, .int sp, .int ho, .int uw, .int mo, .int cs])), (q3a, .inl (cA, 250, .inl en)), (q1, .inr (1, [.ref q2, .ref q0, .ref q3, .int rf]))] sz) := by
  refine Met.ofW (cc := cX4_thing) (maxL := 2) (ret := (some .int)) (by decide) rfl ?_
  intro p e s m args below meth c s₁ B hml hv
  obtain ⟨rfl, hsz, hN, hP, hK, hD0⟩ := hv
  have hx := B.exec
  have hb := B.bytes
  have hr := B.returns
  have hts := atoms_spec (ws := wsX4_thing) B.pre
  have hown : s.vm.findClass RX4 = some m.cls := findClass_of_methodNamed B.named
  have hlocks := B.notSynchronized
  subst hsz
  have hD := hD0.self (sz := s.heap.size)
  generalize hAe : va_A [(q4, .inr (4, [.ref q1, .ref q2, .ref q0, .ref q3, .int rn])), (q2, .inr (2, [.ref q2a, .ref q2b, .ref q2c, .int ma])), (q2a, .inl (cA, 6, .inl pl)), (q2b, .inl (cA, 60, .inl nu)), (q2c, .inl (cA, 60, .inl de)), (q0, .inr (0, [.ref q0a, .ref q0b, .ref q0c, .ref q0d, .ref q0e, .int to])), (q0a, .inl (cA, 40, .inl si)), (q0b, .inl (cA, 480, .inl ki)), (q0c, .inl (cA, 480, .inl aa)), (q0d, .inl (cA, 480, .inl xx)), (q0e, .inl (cA, 480, .inl yy)), (q3, .inr (3, [.ref q3a, .int et, .int sp, .int ho, .int uw, .int mo, .int cs])), (q3a, .inl (cA, 250, .inl en)), (q1, .inr (1, [.ref q2, .ref q0, .ref q3, .int rf]))] s.heap.size = A at hD ⊢
  have hA : ∀ q : Nat, s.heap.size ≤ q → A q := fun q h => by rw [← hAe]; exact Or.inr h
  have hS : va_S A s.heap s.heap [] := va_S.rf
  have hl := lv_entry ([.ref q4, .int p0]) (n := 2) (Nat.le_of_ble_eq_true rfl)
  rw [lg_entry_eq]
  generalize (lg_sl ([.ref q4, .int p0]) ++ List.replicate (2 - (lg_sl ([.ref q4, .int p0])).length) Slot.unset).toArray = ls at hl ⊢
  have hl : lv_has ls 2 [(0, .ref q4), (1, .int p0)] := hl
  refine lv_iload_n hx hb dX4_thing_0 rfl (lv_at hl 1 rfl) ?_
  refine kx_read (va_runS (As := [.int p0]) (rest := []) ⟨hx, hb, hml, hown, hts⟩ (c_X4_isPlace l p0) (cwS 1 hts gX4_thing_X4_isPlace rfl rfl rfl (by decide +kernel) ⟨(Nat.le_of_ble_eq_true rfl), (Nat.le_of_ble_eq_true rfl)⟩) (pS hN) rfl rfl hl.1 rfl (lv_room (Nat.le_of_ble_eq_true rfl)) dX4_thing_1 ⟨Nat.zero_le _, Nat.zero_le _⟩) ?_
  refine lv_if_eq (tgt := 18) hx hb dX4_thing_4 (by decide) (fun c_1 => ?_) (fun c_1 => ?_)
  · refine lv_bipush (v := (-2)) hx hb dX4_thing_18 (by decide) ?_
    exact rt_i hx hb hr hlocks (rn, ma, pl, nu, de, to, si, ki, aa, xx, yy, et, sp, ho, uw, mo, cs, en, rf) (by simp only [f_X4_thing, if_pos c_1]) hP hD hS dX4_thing_20
  · refine lv_aload_n hx hb dX4_thing_7 rfl (lv_at hl 0 rfl) ?_
    refine va_get (D := (dC, dI)) (ci := 4) (v := .ref q2) (C := RX4) (T := TX4) (N := 5) hx hb hts (by decide +kernel) hown hK hP 0 rfl rfl 1 (by decide) (hts (.fieldLink RX4 20 RX4 "shelf" "LHoldBench$Shelf;") (by decide +kernel)) (fun _ h9 => h9) rfl dX4_thing_8 ?_
    refine lv_iload_n hx hb dX4_thing_11 rfl (lv_at hl 1 rfl) ?_
    refine kx_wi (wr := [(q4, .inr (4, [.ref q1, .ref q2, .ref q0, .ref q3, .int rn])), (q0, .inr (0, [.ref q0a, .ref q0b, .ref q0c, .ref q0d, .ref q0e, .int to])), (q0a, .inl (cA, 40, .inl si)), (q0b, .inl (cA, 480, .inl ki)), (q0c, .inl (cA, 480, .inl aa)), (q0d, .inl (cA, 480, .inl xx)), (q0e, .inl (cA, 480, .inl yy)), (q3, .inr (3, [.ref q3a, .int et, .int sp, .int ho, .int uw, .int mo, .int cs])), (q3a, .inl (cA, 250, .inl en)), (q1, .inr (1, [.ref q2, .ref q0, .ref q3, .int rf]))]) hP hD hS hA [1, 2, 3, 4] [0, 5, 6, 7, 8, 9, 10, 11, 12, 13] rfl rfl (by decide) (by decide) (va_runVN (As := [.int p0]) (rest := []) ⟨hx, hb, hml, hown, hts⟩ (c_X2_makeThing l dC dI cA q2 q2a q2b q2c s.heap.size ma pl nu de p0) ⟨va_cnB 1 hts gX4_thing_X2_makeThing_n39 rfl rfl rfl (hN.at 4 rfl) (hts (.initialized RX2) (by decide +kernel)) (by decide +kernel) ⟨(Nat.le_of_ble_eq_true rfl), (Nat.le_of_ble_eq_true rfl)⟩, (hts (.instanceMethod yX2_makeThing) (by decide +kernel)), (hts (.selects RX2 yX2_makeThing yX2_makeThing) (by decide +kernel))⟩ (pW hN (hP.sub (ws' := [(q2, .inr (2, [.ref q2a, .ref q2b, .ref q2c, .int ma])), (q2a, .inl (cA, 6, .inl pl)), (q2b, .inl (cA, 60, .inl nu)), (q2c, .inl (cA, 60, .inl de))]) [1, 2, 3, 4] rfl) hK (hD.sub (ws' := [(q2, .inr (2, [.ref q2a, .ref q2b, .ref q2c, .int ma])), (q2a, .inl (cA, 6, .inl pl)), (q2b, .inl (cA, 60, .inl nu)), (q2c, .inl (cA, 60, .inl de))]) [1, 2, 3, 4] (by decide) rfl) (ci := 2) (q0 := 0) rfl rfl rfl) rfl rfl hl.1 rfl (lv_room (Nat.le_of_ble_eq_true rfl)) dX4_thing_12 ⟨Nat.zero_le _, Nat.zero_le _⟩) (fun r_2 u_2 H locs hw_2 hP hD hS => ?_)
    obtain ⟨ma_2, pl_2, nu_2, de_2⟩ := u_2
    have hP : va_P (dC, dI) vwCl [(q4, .inr (4, [.ref q1, .ref q2, .ref q0, .ref q3, .int rn])), (q2, .inr (2, [.ref q2a, .ref q2b, .ref q2c, .int ma_2])), (q2a, .inl (cA, 6, .inl pl_2)), (q2b, .inl (cA, 60, .inl nu_2)), (q2c, .inl (cA, 60, .inl de_2)), (q0, .inr (0, [.ref q0a, .ref q0b, .ref q0c, .ref q0d, .ref q0e, .int to])), (q0a, .inl (cA, 40, .inl si)), (q0b, .inl (cA, 480, .inl ki)), (q0c, .inl (cA, 480, .inl aa)), (q0d, .inl (cA, 480, .inl xx)), (q0e, .inl (cA, 480, .inl yy)), (q3, .inr (3, [.ref q3a, .int et, .int sp, .int ho, .int uw, .int mo, .int cs])), (q3a, .inl (cA, 250, .inl en)), (q1, .inr (1, [.ref q2, .ref q0, .ref q3, .int rf]))] H := hP.sub [0, 10, 11, 12, 13, 1, 2, 3, 4, 5, 6, 7, 8, 9] rfl
    have hD : va_D A [(q4, .inr (4, [.ref q1, .ref q2, .ref q0, .ref q3, .int rn])), (q2, .inr (2, [.ref q2a, .ref q2b, .ref q2c, .int ma_2])), (q2a, .inl (cA, 6, .inl pl_2)), (q2b, .inl (cA, 60, .inl nu_2)), (q2c, .inl (cA, 60, .inl de_2)), (q0, .inr (0, [.ref q0a, .ref q0b, .ref q0c, .ref q0d, .ref q0e, .int to])), (q0a, .inl (cA, 40, .inl si)), (q0b, .inl (cA, 480, .inl ki)), (q0c, .inl (cA, 480, .inl aa)), (q0d, .inl (cA, 480, .inl xx)), (q0e, .inl (cA, 480, .inl yy)), (q3, .inr (3, [.ref q3a, .int et, .int sp, .int ho, .int uw, .int mo, .int cs])), (q3a, .inl (cA, 250, .inl en)), (q1, .inr (1, [.ref q2, .ref q0, .ref q3, .int rf]))] := hD.sub [0, 10, 11, 12, 13, 1, 2, 3, 4, 5, 6, 7, 8, 9] (by decide) rfl
    refine lv_goto (tgt := 20) hx hb dX4_thing_15 (by decide) ?_
    exact rt_i hx hb hr hlocks (rn, ma_2, pl_2, nu_2, de_2, to, si, ki, aa, xx, yy, et, sp, ho, uw, mo, cs, en, rf) (by simp only [f_X4_thing, if_neg c_1, ← hw_2]) hP hD hS dX4_thing_20
set_option maxHeartbeats 4000000 in
set_option maxRecDepth 100000 in
theorem c_X4_set (l : Launch) (dC : Nat → ClassId) (dI : Nat → Nat → Nat) (cA : ClassId) (q4 q2 q2a q2b q2c q0 q0a q0b q0c q0d q0e q3 q3a q1 : Nat) (sz : Nat) (rn : Int32) (ma : Int32) (pl : Nat → Int32) (nu : Nat → Int32) (de : Nat → Int32) (to : Int32) (si : Nat → Int32) (ki : Nat → Int32) (aa : Nat → Int32) (xx : Nat → Int32) (yy : Nat → Int32) (et : Int32) (sp : Int32) (ho : Int32) (uw : Int32) (mo : Int32) (cs : Int32) (en : Nat → Int32) (rf : Int32) (p0 : Int32) (p1 : Int32) : Met l yX4_set wsX4_set ({ frames := 3, cells := 0, slots := 0, locals := 64 }) (pcW (dC, dI) [(q4, .inr (4, [.ref q1, .ref q2, .ref q0, .ref q3, .int rn])), (q2, .inr (2, [.ref q2a, .ref q2b, .ref q2c, .int ma])), (q2a, .inl (cA, 6, .inl pl)), (q2b, .inl (cA, 60, .inl nu)), (q2c, .inl (cA, 60, .inl de)), (q0, .inr (0, [.ref q0a, .ref q0b, .ref q0c, .ref q0d, .ref q0e, .int to])), (q0a, .inl (cA, 40, .inl si)), (q0b, .inl (cA, 480, .inl ki)), (q0c, .inl (cA, 480, .inl aa)), (q0d, .inl (cA, 480, .inl xx)), (q0e, .inl (cA, 480, .inl yy)), (q3, .inr (3, [.ref q3a, .int et, .int sp, .int ho, .int uw, .int mo, .int cs])), (q3a, .inl (cA, 250, .inl en)), (q1, .inr (1, [.ref q2, .ref q0, .ref q3, .int rf]))] [(cA, .int)] sz [.ref q4, .int p0, .int p1]) (QWi (dC, dI) (f_X4_set rn ma pl nu de to si ki aa xx yy et sp ho uw mo cs en rf p0 p1) (wd_hb cA q4 q2 q2a q2b q2c q0 q0a q0b q0c q0d q0e q3 q3a q1) (va_A [(q4, .inr (4, [.ref q1, .ref q2, .ref q0, .ref q3, .int rn])), (q2, .inr (2, [.ref q2a, .ref q2b, .ref q2c, .int ma])), (q2a, .inl (cA, 6, .inl pl)), (q2b, .inl (cA, 60, .inl nu)), (q2c, .inl (cA, 60, .inl de)), (q0, .inr (0, [.ref q0a, .ref q0b, .ref q0c, .ref q0d, .ref q0e, .int to])), (q0a, .inl (cA, 40, .inl si)), (q0b, .inl (cA, 480, .inl ki)), (q0c, .inl (cA, 480, .inl aa)), (q0d, .inl (cA, 480, .inl xx)), (q0e, .inl (cA, 480, .inl yy)), (q3, .inr (3, [.ref q3a, .int et, .int sp, .int ho, .int uw, .int mo, .int cs])), (q3a, .inl (cA, 250, .inl en)), (q1, .inr (1, [.ref q2, .ref q0, .ref q3, .int rf]))] sz)) 0 0 (va_A [(q4, .inr (4, [.ref q1, .ref q2, .ref q0, .ref q3, .int rn])), (q2, .inr (2, [.ref q2a, .ref q2b, .ref q2c, .int ma])), (q2a, .inl (cA, 6, .inl pl)), (q2b, .inl (cA, 60, .inl nu)), (q2c, .inl (cA, 60, .inl de)), (q0, .inr (0, [.ref q0a, .ref q0b, .ref q0c, .ref q0d, .ref q0e, .int to])), (q0a, .inl (cA, 40, .inl si)), (q0b, .inl (cA, 480, .inl ki)), (q0c, .inl (cA, 480, .inl aa)), (q0d, .inl (cA, 480, .inl xx)), (q0e, .inl (cA, 480, .inl yy)), (q3, .inr (3, [.ref q3a, .int et, .int sp, .int ho, .int uw, .int mo, .int cs])), (q3a, .inl (cA, 250, .inl en)), (q1, .inr (1, [.ref q2, .ref q0, .ref q3, .int rf]))] sz) := by
  refine Met.ofW (cc := cX4_set) (maxL := 4) (ret := (some .int)) (by decide) rfl ?_
  intro p e s m args below meth c s₁ B hml hv
  obtain ⟨rfl, hsz, hN, hP, hK, hD0⟩ := hv
  have hx := B.exec
  have hb := B.bytes
  have hr := B.returns
  have hts := atoms_spec (ws := wsX4_set) B.pre
  have hown : s.vm.findClass RX4 = some m.cls := findClass_of_methodNamed B.named
  have hlocks := B.notSynchronized
  subst hsz
  have hD := hD0.self (sz := s.heap.size)
  generalize hAe : va_A [(q4, .inr (4, [.ref q1, .ref q2, .ref q0, .ref q3, .int rn])), (q2, .inr (2, [.ref q2a, .ref q2b, .ref q2c, .int ma])), (q2a, .inl (cA, 6, .inl pl)), (q2b, .inl (cA, 60, .inl nu)), (q2c, .inl (cA, 60, .inl de)), (q0, .inr (0, [.ref q0a, .ref q0b, .ref q0c, .ref q0d, .ref q0e, .int to])), (q0a, .inl (cA, 40, .inl si)), (q0b, .inl (cA, 480, .inl ki)), (q0c, .inl (cA, 480, .inl aa)), (q0d, .inl (cA, 480, .inl xx)), (q0e, .inl (cA, 480, .inl yy)), (q3, .inr (3, [.ref q3a, .int et, .int sp, .int ho, .int uw, .int mo, .int cs])), (q3a, .inl (cA, 250, .inl en)), (q1, .inr (1, [.ref q2, .ref q0, .ref q3, .int rf]))] s.heap.size = A at hD ⊢
  have hA : ∀ q : Nat, s.heap.size ≤ q → A q := fun q h => by rw [← hAe]; exact Or.inr h
  have hS : va_S A s.heap s.heap [] := va_S.rf
  have hl := lv_entry ([.ref q4, .int p0, .int p1]) (n := 4) (Nat.le_of_ble_eq_true rfl)
  rw [lg_entry_eq]
  generalize (lg_sl ([.ref q4, .int p0, .int p1]) ++ List.replicate (4 - (lg_sl ([.ref q4, .int p0, .int p1])).length) Slot.unset).toArray = ls at hl ⊢
  have hl : lv_has ls 4 [(0, .ref q4), (1, .int p0), (2, .int p1)] := hl
  refine lv_iload_n hx hb dX4_set_0 rfl (lv_at hl 1 rfl) ?_
  refine kx_read (va_runS (As := [.int p0]) (rest := []) ⟨hx, hb, hml, hown, hts⟩ (c_X4_isPlace l p0) (cwS 1 hts gX4_set_X4_isPlace rfl rfl rfl (by decide +kernel) ⟨(Nat.le_of_ble_eq_true rfl), (Nat.le_of_ble_eq_true rfl)⟩) (pS hN) rfl rfl hl.1 rfl (lv_room (Nat.le_of_ble_eq_true rfl)) dX4_set_1 ⟨Nat.zero_le _, Nat.zero_le _⟩) ?_
  refine lv_if_eq (tgt := 19) hx hb dX4_set_4 (by decide) (fun c_1 => ?_) (fun c_1 => ?_)
  · refine lv_bipush (v := (-2)) hx hb dX4_set_19 (by decide) ?_
    exact rt_i hx hb hr hlocks (rn, ma, pl, nu, de, to, si, ki, aa, xx, yy, et, sp, ho, uw, mo, cs, en, rf) (by simp only [f_X4_set, if_pos c_1]) hP hD hS dX4_set_21
  · refine lv_iload_n hx hb dX4_set_7 rfl (lv_at hl 2 rfl) ?_
    refine lv_iconst (v := (-1)) hx hb dX4_set_8 (by decide) ?_
    refine lv_icmp_eq (tgt := 22) hx hb dX4_set_9 (by decide) (fun c_2 => ?_) (fun c_2 => ?_)
    · refine lv_aload_n hx hb dX4_set_22 rfl (lv_at hl 0 rfl) ?_
      refine va_get (D := (dC, dI)) (ci := 4) (v := .ref q2) (C := RX4) (T := TX4) (N := 5) hx hb hts (by decide +kernel) hown hK hP 0 rfl rfl 1 (by decide) (hts (.fieldLink RX4 20 RX4 "shelf" "LHoldBench$Shelf;") (by decide +kernel)) (fun _ h9 => h9) rfl dX4_set_23 ?_
      refine lv_iload_n hx hb dX4_set_26 rfl (lv_at hl 2 rfl) ?_
      have hPc := hP.sub (ws' := [(q2, .inr (2, [.ref q2a, .ref q2b, .ref q2c, .int ma])), (q2a, .inl (cA, 6, .inl pl)), (q2b, .inl (cA, 60, .inl nu)), (q2c, .inl (cA, 60, .inl de))]) [1, 2, 3, 4] rfl
      refine kx_read (va_runVN (As := [.int p1]) (rest := []) ⟨hx, hb, hml, hown, hts⟩ (c_X2_thingIn l dC dI cA q2 q2a q2b q2c ma pl nu de p1) ⟨va_cnB 1 hts gX4_set_X2_thingIn_n45 rfl rfl rfl (hN.at 6 rfl) (hts (.initialized RX2) (by decide +kernel)) (by decide +kernel) ⟨(Nat.le_of_ble_eq_true rfl), (Nat.le_of_ble_eq_true rfl)⟩, (hts (.instanceMethod yX2_thingIn) (by decide +kernel)), (hts (.selects RX2 yX2_thingIn yX2_thingIn) (by decide +kernel))⟩ (pR hN hPc hK (ci := 2) (q0 := 0) rfl rfl rfl) rfl rfl hl.1 rfl (lv_room (Nat.le_of_ble_eq_true rfl)) dX4_set_27 ⟨Nat.zero_le _, Nat.zero_le _⟩) ?_
      refine lv_istore_n (lv' := [(3, .int (f_X2_thingIn ma pl nu de p1)), (0, .ref q4), (1, .int p0), (2, .int p1)]) hx hb dX4_set_30 rfl hl (by decide) rfl (fun ls hl => ?_)
      refine lv_aload_n hx hb dX4_set_31 rfl (lv_at hl 1 rfl) ?_
      refine va_get (D := (dC, dI)) (ci := 4) (v := .ref q2) (C := RX4) (T := TX4) (N := 5) hx hb hts (by decide +kernel) hown hK hP 0 rfl rfl 1 (by decide) (hts (.fieldLink RX4 20 RX4 "shelf" "LHoldBench$Shelf;") (by decide +kernel)) (fun _ h9 => h9) rfl dX4_set_32 ?_
      refine lv_iload_n hx hb dX4_set_35 rfl (lv_at hl 2 rfl) ?_
      refine lv_iload_n hx hb dX4_set_36 rfl (lv_at hl 0 rfl) ?_
      refine kx_wv (wr := [(q4, .inr (4, [.ref q1, .ref q2, .ref q0, .ref q3, .int rn])), (q0, .inr (0, [.ref q0a, .ref q0b, .ref q0c, .ref q0d, .ref q0e, .int to])), (q0a, .inl (cA, 40, .inl si)), (q0b, .inl (cA, 480, .inl ki)), (q0c, .inl (cA, 480, .inl aa)), (q0d, .inl (cA, 480, .inl xx)), (q0e, .inl (cA, 480, .inl yy)), (q3, .inr (3, [.ref q3a, .int et, .int sp, .int ho, .int uw, .int mo, .int cs])), (q3a, .inl (cA, 250, .inl en)), (q1, .inr (1, [.ref q2, .ref q0, .ref q3, .int rf]))]) hP hD hS hA [1, 2, 3, 4] [0, 5, 6, 7, 8, 9, 10, 11, 12, 13] rfl rfl (by decide) (by decide) (va_runVN (As := [.int p0, .int (f_X2_thingIn ma pl nu de p1)]) (rest := []) ⟨hx, hb, hml, hown, hts⟩ (c_X2_put l dC dI cA q2 q2a q2b q2c s.heap.size ma pl nu de p0 (f_X2_thingIn ma pl nu de p1)) ⟨va_cnB 2 hts gX4_set_X2_put_n48 rfl rfl rfl (hN.at 7 rfl) (hts (.initialized RX2) (by decide +kernel)) (by decide +kernel) ⟨(Nat.le_of_ble_eq_true rfl), (Nat.le_of_ble_eq_true rfl)⟩, (hts (.instanceMethod yX2_put) (by decide +kernel)), (hts (.selects RX2 yX2_put yX2_put) (by decide +kernel))⟩ (pW hN (hP.sub (ws' := [(q2, .inr (2, [.ref q2a, .ref q2b, .ref q2c, .int ma])), (q2a, .inl (cA, 6, .inl pl)), (q2b, .inl (cA, 60, .inl nu)), (q2c, .inl (cA, 60, .inl de))]) [1, 2, 3, 4] rfl) hK (hD.sub (ws' := [(q2, .inr (2, [.ref q2a, .ref q2b, .ref q2c, .int ma])), (q2a, .inl (cA, 6, .inl pl)), (q2b, .inl (cA, 60, .inl nu)), (q2c, .inl (cA, 60, .inl de))]) [1, 2, 3, 4] (by decide) rfl) (ci := 2) (q0 := 0) rfl rfl rfl) rfl rfl hl.1 rfl (lv_room (Nat.le_of_ble_eq_true rfl)) dX4_set_37 ⟨Nat.zero_le _, Nat.zero_le _⟩) (fun u_3 H locs hw_3 hP hD hS => ?_)
      obtain ⟨ma_3, pl_3, nu_3, de_3⟩ := u_3
      have hP : va_P (dC, dI) vwCl [(q4, .inr (4, [.ref q1, .ref q2, .ref q0, .ref q3, .int rn])), (q2, .inr (2, [.ref q2a, .ref q2b, .ref q2c, .int ma_3])), (q2a, .inl (cA, 6, .inl pl_3)), (q2b, .inl (cA, 60, .inl nu_3)), (q2c, .inl (cA, 60, .inl de_3)), (q0, .inr (0, [.ref q0a, .ref q0b, .ref q0c, .ref q0d, .ref q0e, .int to])), (q0a, .inl (cA, 40, .inl si)), (q0b, .inl (cA, 480, .inl ki)), (q0c, .inl (cA, 480, .inl aa)), (q0d, .inl (cA, 480, .inl xx)), (q0e, .inl (cA, 480, .inl yy)), (q3, .inr (3, [.ref q3a, .int et, .int sp, .int ho, .int uw, .int mo, .int cs])), (q3a, .inl (cA, 250, .inl en)), (q1, .inr (1, [.ref q2, .ref q0, .ref q3, .int rf]))] H := hP.sub [0, 10, 11, 12, 13, 1, 2, 3, 4, 5, 6, 7, 8, 9] rfl
      have hD : va_D A [(q4, .inr (4, [.ref q1, .ref q2, .ref q0, .ref q3, .int rn])), (q2, .inr (2, [.ref q2a, .ref q2b, .ref q2c, .int ma_3])), (q2a, .inl (cA, 6, .inl pl_3)), (q2b, .inl (cA, 60, .inl nu_3)), (q2c, .inl (cA, 60, .inl de_3)), (q0, .inr (0, [.ref q0a, .ref q0b, .ref q0c, .ref q0d, .ref q0e, .int to])), (q0a, .inl (cA, 40, .inl si)), (q0b, .inl (cA, 480, .inl ki)), (q0c, .inl (cA, 480, .inl aa)), (q0d, .inl (cA, 480, .inl xx)), (q0e, .inl (cA, 480, .inl yy)), (q3, .inr (3, [.ref q3a, .int et, .int sp, .int ho, .int uw, .int mo, .int cs])), (q3a, .inl (cA, 250, .inl en)), (q1, .inr (1, [.ref q2, .ref q0, .ref q3, .int rf]))] := hD.sub [0, 10, 11, 12, 13, 1, 2, 3, 4, 5, 6, 7, 8, 9] (by decide) rfl
      refine lv_iload_n hx hb dX4_set_40 rfl (lv_at hl 0 rfl) ?_
      exact rt_i hx hb hr hlocks (rn, ma_3, pl_3, nu_3, de_3, to, si, ki, aa, xx, yy, et, sp, ho, uw, mo, cs, en, rf) (by simp only [f_X4_set, if_neg c_1, if_pos c_2, ← hw_3]) hP hD hS dX4_set_41
    · refine lv_iload_n hx hb dX4_set_12 rfl (lv_at hl 2 rfl) ?_
      refine kx_read (va_runS (As := [.int p1]) (rest := []) ⟨hx, hb, hml, hown, hts⟩ (c_X4_isPlace l p1) (cwS 1 hts gX4_set_X4_isPlace rfl rfl rfl (by decide +kernel) ⟨(Nat.le_of_ble_eq_true rfl), (Nat.le_of_ble_eq_true rfl)⟩) (pS hN) rfl rfl hl.1 rfl (lv_room (Nat.le_of_ble_eq_true rfl)) dX4_set_13 ⟨Nat.zero_le _, Nat.zero_le _⟩) ?_
      refine lv_if_ne (tgt := 22) hx hb dX4_set_16 (by decide) (fun c_4 => ?_) (fun c_4 => ?_)
      · refine lv_aload_n hx hb dX4_set_22 rfl (lv_at hl 0 rfl) ?_
        refine va_get (D := (dC, dI)) (ci := 4) (v := .ref q2) (C := RX4) (T := TX4) (N := 5) hx hb hts (by decide +kernel) hown hK hP 0 rfl rfl 1 (by decide) (hts (.fieldLink RX4 20 RX4 "shelf" "LHoldBench$Shelf;") (by decide +kernel)) (fun _ h9 => h9) rfl dX4_set_23 ?_
        refine lv_iload_n hx hb dX4_set_26 rfl (lv_at hl 2 rfl) ?_
        have hPc := hP.sub (ws' := [(q2, .inr (2, [.ref q2a, .ref q2b, .ref q2c, .int ma])), (q2a, .inl (cA, 6, .inl pl)), (q2b, .inl (cA, 60, .inl nu)), (q2c, .inl (cA, 60, .inl de))]) [1, 2, 3, 4] rfl
        refine kx_read (va_runVN (As := [.int p1]) (rest := []) ⟨hx, hb, hml, hown, hts⟩ (c_X2_thingIn l dC dI cA q2 q2a q2b q2c ma pl nu de p1) ⟨va_cnB 1 hts gX4_set_X2_thingIn_n45 rfl rfl rfl (hN.at 6 rfl) (hts (.initialized RX2) (by decide +kernel)) (by decide +kernel) ⟨(Nat.le_of_ble_eq_true rfl), (Nat.le_of_ble_eq_true rfl)⟩, (hts (.instanceMethod yX2_thingIn) (by decide +kernel)), (hts (.selects RX2 yX2_thingIn yX2_thingIn) (by decide +kernel))⟩ (pR hN hPc hK (ci := 2) (q0 := 0) rfl rfl rfl) rfl rfl hl.1 rfl (lv_room (Nat.le_of_ble_eq_true rfl)) dX4_set_27 ⟨Nat.zero_le _, Nat.zero_le _⟩) ?_
        refine lv_istore_n (lv' := [(3, .int (f_X2_thingIn ma pl nu de p1)), (0, .ref q4), (1, .int p0), (2, .int p1)]) hx hb dX4_set_30 rfl hl (by decide) rfl (fun ls hl => ?_)
        refine lv_aload_n hx hb dX4_set_31 rfl (lv_at hl 1 rfl) ?_
        refine va_get (D := (dC, dI)) (ci := 4) (v := .ref q2) (C := RX4) (T := TX4) (N := 5) hx hb hts (by decide +kernel) hown hK hP 0 rfl rfl 1 (by decide) (hts (.fieldLink RX4 20 RX4 "shelf" "LHoldBench$Shelf;") (by decide +kernel)) (fun _ h9 => h9) rfl dX4_set_32 ?_
        refine lv_iload_n hx hb dX4_set_35 rfl (lv_at hl 2 rfl) ?_
        refine lv_iload_n hx hb dX4_set_36 rfl (lv_at hl 0 rfl) ?_
        refine kx_wv (wr := [(q4, .inr (4, [.ref q1, .ref q2, .ref q0, .ref q3, .int rn])), (q0, .inr (0, [.ref q0a, .ref q0b, .ref q0c, .ref q0d, .ref q0e, .int to])), (q0a, .inl (cA, 40, .inl si)), (q0b, .inl (cA, 480, .inl ki)), (q0c, .inl (cA, 480, .inl aa)), (q0d, .inl (cA, 480, .inl xx)), (q0e, .inl (cA, 480, .inl yy)), (q3, .inr (3, [.ref q3a, .int et, .int sp, .int ho, .int uw, .int mo, .int cs])), (q3a, .inl (cA, 250, .inl en)), (q1, .inr (1, [.ref q2, .ref q0, .ref q3, .int rf]))]) hP hD hS hA [1, 2, 3, 4] [0, 5, 6, 7, 8, 9, 10, 11, 12, 13] rfl rfl (by decide) (by decide) (va_runVN (As := [.int p0, .int (f_X2_thingIn ma pl nu de p1)]) (rest := []) ⟨hx, hb, hml, hown, hts⟩ (c_X2_put l dC dI cA q2 q2a q2b q2c s.heap.size ma pl nu de p0 (f_X2_thingIn ma pl nu de p1)) ⟨va_cnB 2 hts gX4_set_X2_put_n48 rfl rfl rfl (hN.at 7 rfl) (hts (.initialized RX2) (by decide +kernel)) (by decide +kernel) ⟨(Nat.le_of_ble_eq_true rfl), (Nat.le_of_ble_eq_true rfl)⟩, (hts (.instanceMethod yX2_put) (by decide +kernel)), (hts (.selects RX2 yX2_put yX2_put) (by decide +kernel))⟩ (pW hN (hP.sub (ws' := [(q2, .inr (2, [.ref q2a, .ref q2b, .ref q2c, .int ma])), (q2a, .inl (cA, 6, .inl pl)), (q2b, .inl (cA, 60, .inl nu)), (q2c, .inl (cA, 60, .inl de))]) [1, 2, 3, 4] rfl) hK (hD.sub (ws' := [(q2, .inr (2, [.ref q2a, .ref q2b, .ref q2c, .int ma])), (q2a, .inl (cA, 6, .inl pl)), (q2b, .inl (cA, 60, .inl nu)), (q2c, .inl (cA, 60, .inl de))]) [1, 2, 3, 4] (by decide) rfl) (ci := 2) (q0 := 0) rfl rfl rfl) rfl rfl hl.1 rfl (lv_room (Nat.le_of_ble_eq_true rfl)) dX4_set_37 ⟨Nat.zero_le _, Nat.zero_le _⟩) (fun u_5 H locs hw_5 hP hD hS => ?_)
        obtain ⟨ma_5, pl_5, nu_5, de_5⟩ := u_5
        have hP : va_P (dC, dI) vwCl [(q4, .inr (4, [.ref q1, .ref q2, .ref q0, .ref q3, .int rn])), (q2, .inr (2, [.ref q2a, .ref q2b, .ref q2c, .int ma_5])), (q2a, .inl (cA, 6, .inl pl_5)), (q2b, .inl (cA, 60, .inl nu_5)), (q2c, .inl (cA, 60, .inl de_5)), (q0, .inr (0, [.ref q0a, .ref q0b, .ref q0c, .ref q0d, .ref q0e, .int to])), (q0a, .inl (cA, 40, .inl si)), (q0b, .inl (cA, 480, .inl ki)), (q0c, .inl (cA, 480, .inl aa)), (q0d, .inl (cA, 480, .inl xx)), (q0e, .inl (cA, 480, .inl yy)), (q3, .inr (3, [.ref q3a, .int et, .int sp, .int ho, .int uw, .int mo, .int cs])), (q3a, .inl (cA, 250, .inl en)), (q1, .inr (1, [.ref q2, .ref q0, .ref q3, .int rf]))] H := hP.sub [0, 10, 11, 12, 13, 1, 2, 3, 4, 5, 6, 7, 8, 9] rfl
        have hD : va_D A [(q4, .inr (4, [.ref q1, .ref q2, .ref q0, .ref q3, .int rn])), (q2, .inr (2, [.ref q2a, .ref q2b, .ref q2c, .int ma_5])), (q2a, .inl (cA, 6, .inl pl_5)), (q2b, .inl (cA, 60, .inl nu_5)), (q2c, .inl (cA, 60, .inl de_5)), (q0, .inr (0, [.ref q0a, .ref q0b, .ref q0c, .ref q0d, .ref q0e, .int to])), (q0a, .inl (cA, 40, .inl si)), (q0b, .inl (cA, 480, .inl ki)), (q0c, .inl (cA, 480, .inl aa)), (q0d, .inl (cA, 480, .inl xx)), (q0e, .inl (cA, 480, .inl yy)), (q3, .inr (3, [.ref q3a, .int et, .int sp, .int ho, .int uw, .int mo, .int cs])), (q3a, .inl (cA, 250, .inl en)), (q1, .inr (1, [.ref q2, .ref q0, .ref q3, .int rf]))] := hD.sub [0, 10, 11, 12, 13, 1, 2, 3, 4, 5, 6, 7, 8, 9] (by decide) rfl
        refine lv_iload_n hx hb dX4_set_40 rfl (lv_at hl 0 rfl) ?_
        exact rt_i hx hb hr hlocks (rn, ma_5, pl_5, nu_5, de_5, to, si, ki, aa, xx, yy, et, sp, ho, uw, mo, cs, en, rf) (by simp only [f_X4_set, if_neg c_1, if_neg c_2, if_neg c_4, ← hw_5]) hP hD hS dX4_set_41
      · refine lv_bipush (v := (-2)) hx hb dX4_set_19 (by decide) ?_
        exact rt_i hx hb hr hlocks (rn, ma, pl, nu, de, to, si, ki, aa, xx, yy, et, sp, ho, uw, mo, cs, en, rf) (by simp only [f_X4_set, if_neg c_1, if_neg c_2, if_pos c_4]) hP hD hS dX4_set_21
set_option maxHeartbeats 4000000 in
set_option maxRecDepth 100000 in
theorem c_X4_step (l : Launch) (dC : Nat → ClassId) (dI : Nat → Nat → Nat) (cA : ClassId) (q4 q2 q2a q2b q2c q0 q0a q0b q0c q0d q0e q3 q3a q1 : Nat) (sz : Nat) (rn : Int32) (ma : Int32) (pl : Nat → Int32) (nu : Nat → Int32) (de : Nat → Int32) (to : Int32) (si : Nat → Int32) (ki : Nat → Int32) (aa : Nat → Int32) (xx : Nat → Int32) (yy : Nat → Int32) (et : Int32) (sp : Int32) (ho : Int32) (uw : Int32) (mo : Int32) (cs : Int32) (en : Nat → Int32) (rf : Int32) (p0 : Int32) (p1 : Int32) (p2 : Int32) (p3 : Int32) (p4 : Int32) (hsi : ∀ b : Nat, b < 40 → 0 ≤ (si b).toInt ∧ (si b).toInt ≤ 12) : Met l yX4_step wsX4_step ({ frames := 3, cells := 0, slots := 0, locals := 68 }) (pcW (dC, dI) [(q4, .inr (4, [.ref q1, .ref q2, .ref q0, .ref q3, .int rn])), (q2, .inr (2, [.ref q2a, .ref q2b, .ref q2c, .int ma])), (q2a, .inl (cA, 6, .inl pl)), (q2b, .inl (cA, 60, .inl nu)), (q2c, .inl (cA, 60, .inl de)), (q0, .inr (0, [.ref q0a, .ref q0b, .ref q0c, .ref q0d, .ref q0e, .int to])), (q0a, .inl (cA, 40, .inl si)), (q0b, .inl (cA, 480, .inl ki)), (q0c, .inl (cA, 480, .inl aa)), (q0d, .inl (cA, 480, .inl xx)), (q0e, .inl (cA, 480, .inl yy)), (q3, .inr (3, [.ref q3a, .int et, .int sp, .int ho, .int uw, .int mo, .int cs])), (q3a, .inl (cA, 250, .inl en)), (q1, .inr (1, [.ref q2, .ref q0, .ref q3, .int rf]))] [(cA, .int)] sz [.ref q4, .int p0, .int p1, .int p2, .int p3, .int p4]) (QWi (dC, dI) (f_X4_step rn ma pl nu de to si ki aa xx yy et sp ho uw mo cs en rf p0 p1 p2 p3 p4) (wd_hb cA q4 q2 q2a q2b q2c q0 q0a q0b q0c q0d q0e q3 q3a q1) (va_A [(q4, .inr (4, [.ref q1, .ref q2, .ref q0, .ref q3, .int rn])), (q2, .inr (2, [.ref q2a, .ref q2b, .ref q2c, .int ma])), (q2a, .inl (cA, 6, .inl pl)), (q2b, .inl (cA, 60, .inl nu)), (q2c, .inl (cA, 60, .inl de)), (q0, .inr (0, [.ref q0a, .ref q0b, .ref q0c, .ref q0d, .ref q0e, .int to])), (q0a, .inl (cA, 40, .inl si)), (q0b, .inl (cA, 480, .inl ki)), (q0c, .inl (cA, 480, .inl aa)), (q0d, .inl (cA, 480, .inl xx)), (q0e, .inl (cA, 480, .inl yy)), (q3, .inr (3, [.ref q3a, .int et, .int sp, .int ho, .int uw, .int mo, .int cs])), (q3a, .inl (cA, 250, .inl en)), (q1, .inr (1, [.ref q2, .ref q0, .ref q3, .int rf]))] sz)) 0 0 (va_A [(q4, .inr (4, [.ref q1, .ref q2, .ref q0, .ref q3, .int rn])), (q2, .inr (2, [.ref q2a, .ref q2b, .ref q2c, .int ma])), (q2a, .inl (cA, 6, .inl pl)), (q2b, .inl (cA, 60, .inl nu)), (q2c, .inl (cA, 60, .inl de)), (q0, .inr (0, [.ref q0a, .ref q0b, .ref q0c, .ref q0d, .ref q0e, .int to])), (q0a, .inl (cA, 40, .inl si)), (q0b, .inl (cA, 480, .inl ki)), (q0c, .inl (cA, 480, .inl aa)), (q0d, .inl (cA, 480, .inl xx)), (q0e, .inl (cA, 480, .inl yy)), (q3, .inr (3, [.ref q3a, .int et, .int sp, .int ho, .int uw, .int mo, .int cs])), (q3a, .inl (cA, 250, .inl en)), (q1, .inr (1, [.ref q2, .ref q0, .ref q3, .int rf]))] sz) := by
  refine Met.ofW (cc := cX4_step) (maxL := 6) (ret := (some .int)) (by decide) rfl ?_
  intro p e s m args below meth c s₁ B hml hv
  obtain ⟨rfl, hsz, hN, hP, hK, hD0⟩ := hv
  have hx := B.exec
  have hb := B.bytes
  have hr := B.returns
  have hts := atoms_spec (ws := wsX4_step) B.pre
  have hown : s.vm.findClass RX4 = some m.cls := findClass_of_methodNamed B.named
  have hlocks := B.notSynchronized
  subst hsz
  have hD := hD0.self (sz := s.heap.size)
  generalize hAe : va_A [(q4, .inr (4, [.ref q1, .ref q2, .ref q0, .ref q3, .int rn])), (q2, .inr (2, [.ref q2a, .ref q2b, .ref q2c, .int ma])), (q2a, .inl (cA, 6, .inl pl)), (q2b, .inl (cA, 60, .inl nu)), (q2c, .inl (cA, 60, .inl de)), (q0, .inr (0, [.ref q0a, .ref q0b, .ref q0c, .ref q0d, .ref q0e, .int to])), (q0a, .inl (cA, 40, .inl si)), (q0b, .inl (cA, 480, .inl ki)), (q0c, .inl (cA, 480, .inl aa)), (q0d, .inl (cA, 480, .inl xx)), (q0e, .inl (cA, 480, .inl yy)), (q3, .inr (3, [.ref q3a, .int et, .int sp, .int ho, .int uw, .int mo, .int cs])), (q3a, .inl (cA, 250, .inl en)), (q1, .inr (1, [.ref q2, .ref q0, .ref q3, .int rf]))] s.heap.size = A at hD ⊢
  have hA : ∀ q : Nat, s.heap.size ≤ q → A q := fun q h => by rw [← hAe]; exact Or.inr h
  have hS : va_S A s.heap s.heap [] := va_S.rf
  have hl := lv_entry ([.ref q4, .int p0, .int p1, .int p2, .int p3, .int p4]) (n := 6) (Nat.le_of_ble_eq_true rfl)
  rw [lg_entry_eq]
  generalize (lg_sl ([.ref q4, .int p0, .int p1, .int p2, .int p3, .int p4]) ++ List.replicate (6 - (lg_sl ([.ref q4, .int p0, .int p1, .int p2, .int p3, .int p4])).length) Slot.unset).toArray = ls at hl ⊢
  have hl : lv_has ls 6 [(0, .ref q4), (1, .int p0), (2, .int p1), (3, .int p2), (4, .int p3), (5, .int p4)] := hl
  refine lv_iload_n hx hb dX4_step_0 rfl (lv_at hl 1 rfl) ?_
  refine lv_iload_n hx hb dX4_step_1 rfl (lv_at hl 2 rfl) ?_
  refine lv_iload_n hx hb dX4_step_2 rfl (lv_at hl 3 rfl) ?_
  refine lv_iload hx hb dX4_step_3 (lv_at hl 4 rfl) ?_
  refine lv_iload hx hb dX4_step_5 (lv_at hl 5 rfl) ?_
  refine kx_read (va_runS (As := [.int p0, .int p1, .int p2, .int p3, .int p4]) (rest := []) ⟨hx, hb, hml, hown, hts⟩ (c_X4_isStep l p0 p1 p2 p3 p4) (cwS 5 hts gX4_step_X4_isStep rfl rfl rfl (by decide +kernel) ⟨(Nat.le_of_ble_eq_true rfl), (Nat.le_of_ble_eq_true rfl)⟩) (pS hN) rfl rfl hl.1 rfl (lv_room (Nat.le_of_ble_eq_true rfl)) dX4_step_7 ⟨Nat.zero_le _, Nat.zero_le _⟩) ?_
  refine lv_if_eq (tgt := 30) hx hb dX4_step_10 (by decide) (fun c_1 => ?_) (fun c_1 => ?_)
  · refine lv_bipush (v := (-2)) hx hb dX4_step_30 (by decide) ?_
    exact rt_i hx hb hr hlocks (rn, ma, pl, nu, de, to, si, ki, aa, xx, yy, et, sp, ho, uw, mo, cs, en, rf) (by simp only [f_X4_step, if_pos c_1]) hP hD hS dX4_step_32
  · refine lv_aload_n hx hb dX4_step_13 rfl (lv_at hl 0 rfl) ?_
    refine va_get (D := (dC, dI)) (ci := 4) (v := .ref q0) (C := RX4) (T := TX4) (N := 5) hx hb hts (by decide +kernel) hown hK hP 0 rfl rfl 2 (by decide) (hts (.fieldLink RX4 25 RX4 "program" "LHoldBench$Program;") (by decide +kernel)) (fun _ h9 => h9) rfl dX4_step_14 ?_
    refine lv_iload_n hx hb dX4_step_17 rfl (lv_at hl 1 rfl) ?_
    refine lv_iload_n hx hb dX4_step_18 rfl (lv_at hl 2 rfl) ?_
    refine lv_iload_n hx hb dX4_step_19 rfl (lv_at hl 3 rfl) ?_
    refine lv_iload hx hb dX4_step_20 (lv_at hl 4 rfl) ?_
    refine lv_iload hx hb dX4_step_22 (lv_at hl 5 rfl) ?_
    refine kx_wi (wr := [(q4, .inr (4, [.ref q1, .ref q2, .ref q0, .ref q3, .int rn])), (q2, .inr (2, [.ref q2a, .ref q2b, .ref q2c, .int ma])), (q2a, .inl (cA, 6, .inl pl)), (q2b, .inl (cA, 60, .inl nu)), (q2c, .inl (cA, 60, .inl de)), (q3, .inr (3, [.ref q3a, .int et, .int sp, .int ho, .int uw, .int mo, .int cs])), (q3a, .inl (cA, 250, .inl en)), (q1, .inr (1, [.ref q2, .ref q0, .ref q3, .int rf]))]) hP hD hS hA [5, 6, 7, 8, 9, 10] [0, 1, 2, 3, 4, 11, 12, 13] rfl rfl (by decide) (by decide) (va_runVN (As := [.int p0, .int p1, .int p2, .int p3, .int p4]) (rest := []) ⟨hx, hb, hml, hown, hts⟩ (c_X0_append l dC dI cA q0 q0a q0b q0c q0d q0e s.heap.size to si ki aa xx yy p0 p1 p2 p3 p4 hsi) ⟨va_cnB 5 hts gX4_step_X0_append_n56 rfl rfl rfl (hN.at 8 rfl) (hts (.initialized RX0) (by decide +kernel)) (by decide +kernel) ⟨(Nat.le_of_ble_eq_true rfl), (Nat.le_of_ble_eq_true rfl)⟩, (hts (.instanceMethod yX0_append) (by decide +kernel)), (hts (.selects RX0 yX0_append yX0_append) (by decide +kernel))⟩ (pW hN (hP.sub (ws' := [(q0, .inr (0, [.ref q0a, .ref q0b, .ref q0c, .ref q0d, .ref q0e, .int to])), (q0a, .inl (cA, 40, .inl si)), (q0b, .inl (cA, 480, .inl ki)), (q0c, .inl (cA, 480, .inl aa)), (q0d, .inl (cA, 480, .inl xx)), (q0e, .inl (cA, 480, .inl yy))]) [5, 6, 7, 8, 9, 10] rfl) hK (hD.sub (ws' := [(q0, .inr (0, [.ref q0a, .ref q0b, .ref q0c, .ref q0d, .ref q0e, .int to])), (q0a, .inl (cA, 40, .inl si)), (q0b, .inl (cA, 480, .inl ki)), (q0c, .inl (cA, 480, .inl aa)), (q0d, .inl (cA, 480, .inl xx)), (q0e, .inl (cA, 480, .inl yy))]) [5, 6, 7, 8, 9, 10] (by decide) rfl) (ci := 0) (q0 := 0) rfl rfl rfl) rfl rfl hl.1 rfl (lv_room (Nat.le_of_ble_eq_true rfl)) dX4_step_24 ⟨Nat.zero_le _, Nat.zero_le _⟩) (fun r_2 u_2 H locs hw_2 hP hD hS => ?_)
    obtain ⟨to_2, si_2, ki_2, aa_2, xx_2, yy_2⟩ := u_2
    have hP : va_P (dC, dI) vwCl [(q4, .inr (4, [.ref q1, .ref q2, .ref q0, .ref q3, .int rn])), (q2, .inr (2, [.ref q2a, .ref q2b, .ref q2c, .int ma])), (q2a, .inl (cA, 6, .inl pl)), (q2b, .inl (cA, 60, .inl nu)), (q2c, .inl (cA, 60, .inl de)), (q0, .inr (0, [.ref q0a, .ref q0b, .ref q0c, .ref q0d, .ref q0e, .int to_2])), (q0a, .inl (cA, 40, .inl si_2)), (q0b, .inl (cA, 480, .inl ki_2)), (q0c, .inl (cA, 480, .inl aa_2)), (q0d, .inl (cA, 480, .inl xx_2)), (q0e, .inl (cA, 480, .inl yy_2)), (q3, .inr (3, [.ref q3a, .int et, .int sp, .int ho, .int uw, .int mo, .int cs])), (q3a, .inl (cA, 250, .inl en)), (q1, .inr (1, [.ref q2, .ref q0, .ref q3, .int rf]))] H := hP.sub [0, 1, 2, 3, 4, 8, 9, 10, 11, 12, 13, 5, 6, 7] rfl
    have hD : va_D A [(q4, .inr (4, [.ref q1, .ref q2, .ref q0, .ref q3, .int rn])), (q2, .inr (2, [.ref q2a, .ref q2b, .ref q2c, .int ma])), (q2a, .inl (cA, 6, .inl pl)), (q2b, .inl (cA, 60, .inl nu)), (q2c, .inl (cA, 60, .inl de)), (q0, .inr (0, [.ref q0a, .ref q0b, .ref q0c, .ref q0d, .ref q0e, .int to_2])), (q0a, .inl (cA, 40, .inl si_2)), (q0b, .inl (cA, 480, .inl ki_2)), (q0c, .inl (cA, 480, .inl aa_2)), (q0d, .inl (cA, 480, .inl xx_2)), (q0e, .inl (cA, 480, .inl yy_2)), (q3, .inr (3, [.ref q3a, .int et, .int sp, .int ho, .int uw, .int mo, .int cs])), (q3a, .inl (cA, 250, .inl en)), (q1, .inr (1, [.ref q2, .ref q0, .ref q3, .int rf]))] := hD.sub [0, 1, 2, 3, 4, 8, 9, 10, 11, 12, 13, 5, 6, 7] (by decide) rfl
    refine lv_goto (tgt := 32) hx hb dX4_step_27 (by decide) ?_
    exact rt_i hx hb hr hlocks (rn, ma, pl, nu, de, to_2, si_2, ki_2, aa_2, xx_2, yy_2, et, sp, ho, uw, mo, cs, en, rf) (by simp only [f_X4_step, if_neg c_1, ← hw_2]) hP hD hS dX4_step_32
set_option maxHeartbeats 4000000 in
set_option maxRecDepth 100000 in
theorem c_X4_clear (l : Launch) (dC : Nat → ClassId) (dI : Nat → Nat → Nat) (cA : ClassId) (q4 q2 q2a q2b q2c q0 q0a q0b q0c q0d q0e q3 q3a q1 : Nat) (sz : Nat) (rn : Int32) (ma : Int32) (pl : Nat → Int32) (nu : Nat → Int32) (de : Nat → Int32) (to : Int32) (si : Nat → Int32) (ki : Nat → Int32) (aa : Nat → Int32) (xx : Nat → Int32) (yy : Nat → Int32) (et : Int32) (sp : Int32) (ho : Int32) (uw : Int32) (mo : Int32) (cs : Int32) (en : Nat → Int32) (rf : Int32) (p0 : Int32) : Met l yX4_clear wsX4_clear ({ frames := 3, cells := 0, slots := 0, locals := 64 }) (pcW (dC, dI) [(q4, .inr (4, [.ref q1, .ref q2, .ref q0, .ref q3, .int rn])), (q2, .inr (2, [.ref q2a, .ref q2b, .ref q2c, .int ma])), (q2a, .inl (cA, 6, .inl pl)), (q2b, .inl (cA, 60, .inl nu)), (q2c, .inl (cA, 60, .inl de)), (q0, .inr (0, [.ref q0a, .ref q0b, .ref q0c, .ref q0d, .ref q0e, .int to])), (q0a, .inl (cA, 40, .inl si)), (q0b, .inl (cA, 480, .inl ki)), (q0c, .inl (cA, 480, .inl aa)), (q0d, .inl (cA, 480, .inl xx)), (q0e, .inl (cA, 480, .inl yy)), (q3, .inr (3, [.ref q3a, .int et, .int sp, .int ho, .int uw, .int mo, .int cs])), (q3a, .inl (cA, 250, .inl en)), (q1, .inr (1, [.ref q2, .ref q0, .ref q3, .int rf]))] [(cA, .int)] sz [.ref q4, .int p0]) (QWi (dC, dI) (f_X4_clear rn ma pl nu de to si ki aa xx yy et sp ho uw mo cs en rf p0) (wd_hb cA q4 q2 q2a q2b q2c q0 q0a q0b q0c q0d q0e q3 q3a q1) (va_A [(q4, .inr (4, [.ref q1, .ref q2, .ref q0, .ref q3, .int rn])), (q2, .inr (2, [.ref q2a, .ref q2b, .ref q2c, .int ma])), (q2a, .inl (cA, 6, .inl pl)), (q2b, .inl (cA, 60, .inl nu)), (q2c, .inl (cA, 60, .inl de)), (q0, .inr (0, [.ref q0a, .ref q0b, .ref q0c, .ref q0d, .ref q0e, .int to])), (q0a, .inl (cA, 40, .inl si)), (q0b, .inl (cA, 480, .inl ki)), (q0c, .inl (cA, 480, .inl aa)), (q0d, .inl (cA, 480, .inl xx)), (q0e, .inl (cA, 480, .inl yy)), (q3, .inr (3, [.ref q3a, .int et, .int sp, .int ho, .int uw, .int mo, .int cs])), (q3a, .inl (cA, 250, .inl en)), (q1, .inr (1, [.ref q2, .ref q0, .ref q3, .int rf]))] sz)) 0 0 (va_A [(q4, .inr (4, [.ref q1, .ref q2, .ref q0, .ref q3, .int rn])), (q2, .inr (2, [.ref q2a, .ref q2b, .ref q2c, .int ma])), (q2a, .inl (cA, 6, .inl pl)), (q2b, .inl (cA, 60, .inl nu)), (q2c, .inl (cA, 60, .inl de)), (q0, .inr (0, [.ref q0a, .ref q0b, .ref q0c, .ref q0d, .ref q0e, .int to])), (q0a, .inl (cA, 40, .inl si)), (q0b, .inl (cA, 480, .inl ki)), (q0c, .inl (cA, 480, .inl aa)), (q0d, .inl (cA, 480, .inl xx)), (q0e, .inl (cA, 480, .inl yy)), (q3, .inr (3, [.ref q3a, .int et, .int sp, .int ho, .int uw, .int mo, .int cs])), (q3a, .inl (cA, 250, .inl en)), (q1, .inr (1, [.ref q2, .ref q0, .ref q3, .int rf]))] sz) := by
  refine Met.ofW (cc := cX4_clear) (maxL := 2) (ret := (some .int)) (by decide) rfl ?_
  intro p e s m args below meth c s₁ B hml hv
  obtain ⟨rfl, hsz, hN, hP, hK, hD0⟩ := hv
  have hx := B.exec
  have hb := B.bytes
  have hr := B.returns
  have hts := atoms_spec (ws := wsX4_clear) B.pre
  have hown : s.vm.findClass RX4 = some m.cls := findClass_of_methodNamed B.named
  have hlocks := B.notSynchronized
  subst hsz
  have hD := hD0.self (sz := s.heap.size)
  generalize hAe : va_A [(q4, .inr (4, [.ref q1, .ref q2, .ref q0, .ref q3, .int rn])), (q2, .inr (2, [.ref q2a, .ref q2b, .ref q2c, .int ma])), (q2a, .inl (cA, 6, .inl pl)), (q2b, .inl (cA, 60, .inl nu)), (q2c, .inl (cA, 60, .inl de)), (q0, .inr (0, [.ref q0a, .ref q0b, .ref q0c, .ref q0d, .ref q0e, .int to])), (q0a, .inl (cA, 40, .inl si)), (q0b, .inl (cA, 480, .inl ki)), (q0c, .inl (cA, 480, .inl aa)), (q0d, .inl (cA, 480, .inl xx)), (q0e, .inl (cA, 480, .inl yy)), (q3, .inr (3, [.ref q3a, .int et, .int sp, .int ho, .int uw, .int mo, .int cs])), (q3a, .inl (cA, 250, .inl en)), (q1, .inr (1, [.ref q2, .ref q0, .ref q3, .int rf]))] s.heap.size = A at hD ⊢
  have hA : ∀ q : Nat, s.heap.size ≤ q → A q := fun q h => by rw [← hAe]; exact Or.inr h
  have hS : va_S A s.heap s.heap [] := va_S.rf
  have hl := lv_entry ([.ref q4, .int p0]) (n := 2) (Nat.le_of_ble_eq_true rfl)
  rw [lg_entry_eq]
  generalize (lg_sl ([.ref q4, .int p0]) ++ List.replicate (2 - (lg_sl ([.ref q4, .int p0])).length) Slot.unset).toArray = ls at hl ⊢
  have hl : lv_has ls 2 [(0, .ref q4), (1, .int p0)] := hl
  refine lv_aload_n hx hb dX4_clear_0 rfl (lv_at hl 0 rfl) ?_
  refine va_get (D := (dC, dI)) (ci := 4) (v := .ref q0) (C := RX4) (T := TX4) (N := 5) hx hb hts (by decide +kernel) hown hK hP 0 rfl rfl 2 (by decide) (hts (.fieldLink RX4 25 RX4 "program" "LHoldBench$Program;") (by decide +kernel)) (fun _ h9 => h9) rfl dX4_clear_1 ?_
  refine lv_iload_n hx hb dX4_clear_4 rfl (lv_at hl 1 rfl) ?_
  refine kx_wi (wr := [(q4, .inr (4, [.ref q1, .ref q2, .ref q0, .ref q3, .int rn])), (q2, .inr (2, [.ref q2a, .ref q2b, .ref q2c, .int ma])), (q2a, .inl (cA, 6, .inl pl)), (q2b, .inl (cA, 60, .inl nu)), (q2c, .inl (cA, 60, .inl de)), (q3, .inr (3, [.ref q3a, .int et, .int sp, .int ho, .int uw, .int mo, .int cs])), (q3a, .inl (cA, 250, .inl en)), (q1, .inr (1, [.ref q2, .ref q0, .ref q3, .int rf]))]) hP hD hS hA [5, 6, 7, 8, 9, 10] [0, 1, 2, 3, 4, 11, 12, 13] rfl rfl (by decide) (by decide) (va_runVN (As := [.int p0]) (rest := []) ⟨hx, hb, hml, hown, hts⟩ (c_X0_empty l dC dI cA q0 q0a q0b q0c q0d q0e s.heap.size to si ki aa xx yy p0) ⟨va_cnB 1 hts gX4_clear_X0_empty_n62 rfl rfl rfl (hN.at 10 rfl) (hts (.initialized RX0) (by decide +kernel)) (by decide +kernel) ⟨(Nat.le_of_ble_eq_true rfl), (Nat.le_of_ble_eq_true rfl)⟩, (hts (.instanceMethod yX0_empty) (by decide +kernel)), (hts (.selects RX0 yX0_empty yX0_empty) (by decide +kernel))⟩ (pW hN (hP.sub (ws' := [(q0, .inr (0, [.ref q0a, .ref q0b, .ref q0c, .ref q0d, .ref q0e, .int to])), (q0a, .inl (cA, 40, .inl si)), (q0b, .inl (cA, 480, .inl ki)), (q0c, .inl (cA, 480, .inl aa)), (q0d, .inl (cA, 480, .inl xx)), (q0e, .inl (cA, 480, .inl yy))]) [5, 6, 7, 8, 9, 10] rfl) hK (hD.sub (ws' := [(q0, .inr (0, [.ref q0a, .ref q0b, .ref q0c, .ref q0d, .ref q0e, .int to])), (q0a, .inl (cA, 40, .inl si)), (q0b, .inl (cA, 480, .inl ki)), (q0c, .inl (cA, 480, .inl aa)), (q0d, .inl (cA, 480, .inl xx)), (q0e, .inl (cA, 480, .inl yy))]) [5, 6, 7, 8, 9, 10] (by decide) rfl) (ci := 0) (q0 := 0) rfl rfl rfl) rfl rfl hl.1 rfl (lv_room (Nat.le_of_ble_eq_true rfl)) dX4_clear_5 ⟨Nat.zero_le _, Nat.zero_le _⟩) (fun r_1 u_1 H locs hw_1 hP hD hS => ?_)
  obtain ⟨to_1, si_1, ki_1, aa_1, xx_1, yy_1⟩ := u_1
  have hP : va_P (dC, dI) vwCl [(q4, .inr (4, [.ref q1, .ref q2, .ref q0, .ref q3, .int rn])), (q2, .inr (2, [.ref q2a, .ref q2b, .ref q2c, .int ma])), (q2a, .inl (cA, 6, .inl pl)), (q2b, .inl (cA, 60, .inl nu)), (q2c, .inl (cA, 60, .inl de)), (q0, .inr (0, [.ref q0a, .ref q0b, .ref q0c, .ref q0d, .ref q0e, .int to_1])), (q0a, .inl (cA, 40, .inl si_1)), (q0b, .inl (cA, 480, .inl ki_1)), (q0c, .inl (cA, 480, .inl aa_1)), (q0d, .inl (cA, 480, .inl xx_1)), (q0e, .inl (cA, 480, .inl yy_1)), (q3, .inr (3, [.ref q3a, .int et, .int sp, .int ho, .int uw, .int mo, .int cs])), (q3a, .inl (cA, 250, .inl en)), (q1, .inr (1, [.ref q2, .ref q0, .ref q3, .int rf]))] H := hP.sub [0, 1, 2, 3, 4, 8, 9, 10, 11, 12, 13, 5, 6, 7] rfl
  have hD : va_D A [(q4, .inr (4, [.ref q1, .ref q2, .ref q0, .ref q3, .int rn])), (q2, .inr (2, [.ref q2a, .ref q2b, .ref q2c, .int ma])), (q2a, .inl (cA, 6, .inl pl)), (q2b, .inl (cA, 60, .inl nu)), (q2c, .inl (cA, 60, .inl de)), (q0, .inr (0, [.ref q0a, .ref q0b, .ref q0c, .ref q0d, .ref q0e, .int to_1])), (q0a, .inl (cA, 40, .inl si_1)), (q0b, .inl (cA, 480, .inl ki_1)), (q0c, .inl (cA, 480, .inl aa_1)), (q0d, .inl (cA, 480, .inl xx_1)), (q0e, .inl (cA, 480, .inl yy_1)), (q3, .inr (3, [.ref q3a, .int et, .int sp, .int ho, .int uw, .int mo, .int cs])), (q3a, .inl (cA, 250, .inl en)), (q1, .inr (1, [.ref q2, .ref q0, .ref q3, .int rf]))] := hD.sub [0, 1, 2, 3, 4, 8, 9, 10, 11, 12, 13, 5, 6, 7] (by decide) rfl
  exact rt_i hx hb hr hlocks (rn, ma, pl, nu, de, to_1, si_1, ki_1, aa_1, xx_1, yy_1, et, sp, ho, uw, mo, cs, en, rf) (by simp only [f_X4_clear, ← hw_1]) hP hD hS dX4_clear_8
set_option maxHeartbeats 4000000 in
set_option maxRecDepth 100000 in
theorem c_X4_trace (l : Launch) (dC : Nat → ClassId) (dI : Nat → Nat → Nat) (cA : ClassId) (q4 q2 q2a q2b q2c q0 q0a q0b q0c q0d q0e q3 q3a q1 : Nat) (rn : Int32) (ma : Int32) (pl : Nat → Int32) (nu : Nat → Int32) (de : Nat → Int32) (to : Int32) (si : Nat → Int32) (ki : Nat → Int32) (aa : Nat → Int32) (xx : Nat → Int32) (yy : Nat → Int32) (et : Int32) (sp : Int32) (ho : Int32) (uw : Int32) (mo : Int32) (cs : Int32) (en : Nat → Int32) (rf : Int32) (p0 : Int32) (het : 0 ≤ et.toInt) : Met l yX4_trace wsX4_trace ({ frames := 2, cells := 0, slots := 0, locals := 43 }) (pcR (dC, dI) [(q4, .inr (4, [.ref q1, .ref q2, .ref q0, .ref q3, .int rn])), (q2, .inr (2, [.ref q2a, .ref q2b, .ref q2c, .int ma])), (q2a, .inl (cA, 6, .inl pl)), (q2b, .inl (cA, 60, .inl nu)), (q2c, .inl (cA, 60, .inl de)), (q0, .inr (0, [.ref q0a, .ref q0b, .ref q0c, .ref q0d, .ref q0e, .int to])), (q0a, .inl (cA, 40, .inl si)), (q0b, .inl (cA, 480, .inl ki)), (q0c, .inl (cA, 480, .inl aa)), (q0d, .inl (cA, 480, .inl xx)), (q0e, .inl (cA, 480, .inl yy)), (q3, .inr (3, [.ref q3a, .int et, .int sp, .int ho, .int uw, .int mo, .int cs])), (q3a, .inl (cA, 250, .inl en)), (q1, .inr (1, [.ref q2, .ref q0, .ref q3, .int rf]))] [(cA, .int)] [.ref q4, .int p0]) (QcRead (f_X4_trace rn ma pl nu de to si ki aa xx yy et sp ho uw mo cs en rf p0)) 0 0 (fun _ => False) := by
  refine Met.ofW (cc := cX4_trace) (maxL := 2) (ret := (some .int)) (by decide) rfl ?_
  intro p e s m args below meth c s₁ B hml hv
  obtain ⟨rfl, hN, hP, hK⟩ := hv
  have hx := B.exec
  have hb := B.bytes
  have hr := B.returns
  have hts := atoms_spec (ws := wsX4_trace) B.pre
  have hown : s.vm.findClass RX4 = some m.cls := findClass_of_methodNamed B.named
  have hlocks := B.notSynchronized
  have hl := lv_entry ([.ref q4, .int p0]) (n := 2) (Nat.le_of_ble_eq_true rfl)
  rw [lg_entry_eq]
  generalize (lg_sl ([.ref q4, .int p0]) ++ List.replicate (2 - (lg_sl ([.ref q4, .int p0])).length) Slot.unset).toArray = ls at hl ⊢
  have hl : lv_has ls 2 [(0, .ref q4), (1, .int p0)] := hl
  refine lv_aload_n hx hb dX4_trace_0 rfl (lv_at hl 0 rfl) ?_
  refine va_get (D := (dC, dI)) (ci := 4) (v := .ref q3) (C := RX4) (T := TX4) (N := 5) hx hb hts (by decide +kernel) hown hK hP 0 rfl rfl 3 (by decide) (hts (.fieldLink RX4 30 RX4 "tally" "LHoldBench$Tally;") (by decide +kernel)) (fun _ h9 => h9) rfl dX4_trace_1 ?_
  refine lv_iload_n hx hb dX4_trace_4 rfl (lv_at hl 1 rfl) ?_
  have hPc := hP.sub (ws' := [(q3, .inr (3, [.ref q3a, .int et, .int sp, .int ho, .int uw, .int mo, .int cs])), (q3a, .inl (cA, 250, .inl en))]) [11, 12] rfl
  refine kx_read (va_runVN (As := [.int p0]) (rest := []) ⟨hx, hb, hml, hown, hts⟩ (c_X3_entry l dC dI cA q3 q3a et sp ho uw mo cs en p0 het) ⟨va_cnB 1 hts gX4_trace_X3_entry_n80 rfl rfl rfl (hN.at 25 rfl) (hts (.initialized RX3) (by decide +kernel)) (by decide +kernel) ⟨(Nat.le_of_ble_eq_true rfl), (Nat.le_of_ble_eq_true rfl)⟩, (hts (.instanceMethod yX3_entry) (by decide +kernel)), (hts (.selects RX3 yX3_entry yX3_entry) (by decide +kernel))⟩ (pR hN hPc hK (ci := 3) (q0 := 0) rfl rfl rfl) rfl rfl hl.1 rfl (lv_room (Nat.le_of_ble_eq_true rfl)) dX4_trace_5 ⟨Nat.zero_le _, Nat.zero_le _⟩) ?_
  exact rd_i hx hb hr hlocks (by simp only [f_X4_trace]) dX4_trace_8
set_option maxHeartbeats 4000000 in
set_option maxRecDepth 100000 in
theorem c_X4_told (l : Launch) (dC : Nat → ClassId) (dI : Nat → Nat → Nat) (cA : ClassId) (q4 q2 q2a q2b q2c q0 q0a q0b q0c q0d q0e q3 q3a q1 : Nat) (rn : Int32) (ma : Int32) (pl : Nat → Int32) (nu : Nat → Int32) (de : Nat → Int32) (to : Int32) (si : Nat → Int32) (ki : Nat → Int32) (aa : Nat → Int32) (xx : Nat → Int32) (yy : Nat → Int32) (et : Int32) (sp : Int32) (ho : Int32) (uw : Int32) (mo : Int32) (cs : Int32) (en : Nat → Int32) (rf : Int32) (p0 : Int32) : Met l yX4_told wsX4_told ({ frames := 0, cells := 0, slots := 0, locals := 0 }) (pcR (dC, dI) [(q4, .inr (4, [.ref q1, .ref q2, .ref q0, .ref q3, .int rn])), (q2, .inr (2, [.ref q2a, .ref q2b, .ref q2c, .int ma])), (q2a, .inl (cA, 6, .inl pl)), (q2b, .inl (cA, 60, .inl nu)), (q2c, .inl (cA, 60, .inl de)), (q0, .inr (0, [.ref q0a, .ref q0b, .ref q0c, .ref q0d, .ref q0e, .int to])), (q0a, .inl (cA, 40, .inl si)), (q0b, .inl (cA, 480, .inl ki)), (q0c, .inl (cA, 480, .inl aa)), (q0d, .inl (cA, 480, .inl xx)), (q0e, .inl (cA, 480, .inl yy)), (q3, .inr (3, [.ref q3a, .int et, .int sp, .int ho, .int uw, .int mo, .int cs])), (q3a, .inl (cA, 250, .inl en)), (q1, .inr (1, [.ref q2, .ref q0, .ref q3, .int rf]))] [(cA, .int)] [.ref q4, .int p0]) (QcRead (f_X4_told rn ma pl nu de to si ki aa xx yy et sp ho uw mo cs en rf p0)) 0 0 (fun _ => False) := by
  refine Met.ofW (cc := cX4_told) (maxL := 2) (ret := (some .int)) (by decide) rfl ?_
  intro p e s m args below meth c s₁ B hml hv
  obtain ⟨rfl, hN, hP, hK⟩ := hv
  have hx := B.exec
  have hb := B.bytes
  have hr := B.returns
  have hts := atoms_spec (ws := wsX4_told) B.pre
  have hown : s.vm.findClass RX4 = some m.cls := findClass_of_methodNamed B.named
  have hlocks := B.notSynchronized
  have hl := lv_entry ([.ref q4, .int p0]) (n := 2) (Nat.le_of_ble_eq_true rfl)
  rw [lg_entry_eq]
  generalize (lg_sl ([.ref q4, .int p0]) ++ List.replicate (2 - (lg_sl ([.ref q4, .int p0])).length) Slot.unset).toArray = ls at hl ⊢
  have hl : lv_has ls 2 [(0, .ref q4), (1, .int p0)] := hl
  refine lv_iload_n hx hb dX4_told_0 rfl (lv_at hl 1 rfl) ?_
  by_cases s_1 : p0 = 0
  · refine lv_tableIn (tgt := 36) (off := 35) hx hb dX4_told_1 (by rw [s_1]; decide) (by rw [s_1]; decide) (by rw [s_1]; rfl) (by decide) ?_
    refine lv_aload_n hx hb dX4_told_36 rfl (lv_at hl 0 rfl) ?_
    refine va_get (D := (dC, dI)) (ci := 4) (v := .ref q3) (C := RX4) (T := TX4) (N := 5) hx hb hts (by decide +kernel) hown hK hP 0 rfl rfl 3 (by decide) (hts (.fieldLink RX4 30 RX4 "tally" "LHoldBench$Tally;") (by decide +kernel)) (fun _ h9 => h9) rfl dX4_told_37 ?_
    refine va_getN (D := (dC, dI)) (ci := 3) (v := .int et) (C := RX3) (T := TX3) (N := 7) hx hb hts (by decide +kernel) hown hK hP 11 rfl rfl 1 (by decide) (va_Nw.use rfl (hN.at 35 rfl)) (fun _ h9 => h9) rfl dX4_told_40 ?_
    exact rd_i hx hb hr hlocks (by simp only [f_X4_told, if_pos s_1]) dX4_told_43
  by_cases s_2 : p0 = 1
  · refine lv_tableIn (tgt := 44) (off := 43) hx hb dX4_told_1 (by rw [s_2]; decide) (by rw [s_2]; decide) (by rw [s_2]; rfl) (by decide) ?_
    refine lv_aload_n hx hb dX4_told_44 rfl (lv_at hl 0 rfl) ?_
    refine va_get (D := (dC, dI)) (ci := 4) (v := .ref q3) (C := RX4) (T := TX4) (N := 5) hx hb hts (by decide +kernel) hown hK hP 0 rfl rfl 3 (by decide) (hts (.fieldLink RX4 30 RX4 "tally" "LHoldBench$Tally;") (by decide +kernel)) (fun _ h9 => h9) rfl dX4_told_45 ?_
    refine va_getN (D := (dC, dI)) (ci := 3) (v := .int sp) (C := RX3) (T := TX3) (N := 7) hx hb hts (by decide +kernel) hown hK hP 11 rfl rfl 2 (by decide) (va_Nw.use rfl (hN.at 37 rfl)) (fun _ h9 => h9) rfl dX4_told_48 ?_
    exact rd_i hx hb hr hlocks (by simp only [f_X4_told, if_neg s_1, if_pos s_2]) dX4_told_51
  by_cases s_3 : p0 = 2
  · refine lv_tableIn (tgt := 52) (off := 51) hx hb dX4_told_1 (by rw [s_3]; decide) (by rw [s_3]; decide) (by rw [s_3]; rfl) (by decide) ?_
    refine lv_aload_n hx hb dX4_told_52 rfl (lv_at hl 0 rfl) ?_
    refine va_get (D := (dC, dI)) (ci := 4) (v := .ref q3) (C := RX4) (T := TX4) (N := 5) hx hb hts (by decide +kernel) hown hK hP 0 rfl rfl 3 (by decide) (hts (.fieldLink RX4 30 RX4 "tally" "LHoldBench$Tally;") (by decide +kernel)) (fun _ h9 => h9) rfl dX4_told_53 ?_
    refine va_getN (D := (dC, dI)) (ci := 3) (v := .int ho) (C := RX3) (T := TX3) (N := 7) hx hb hts (by decide +kernel) hown hK hP 11 rfl rfl 3 (by decide) (va_Nw.use rfl (hN.at 38 rfl)) (fun _ h9 => h9) rfl dX4_told_56 ?_
    exact rd_i hx hb hr hlocks (by simp only [f_X4_told, if_neg s_1, if_neg s_2, if_pos s_3]) dX4_told_59
  by_cases s_4 : p0 = 3
  · refine lv_tableIn (tgt := 60) (off := 59) hx hb dX4_told_1 (by rw [s_4]; decide) (by rw [s_4]; decide) (by rw [s_4]; rfl) (by decide) ?_
    refine lv_aload_n hx hb dX4_told_60 rfl (lv_at hl 0 rfl) ?_
    refine va_get (D := (dC, dI)) (ci := 4) (v := .ref q3) (C := RX4) (T := TX4) (N := 5) hx hb hts (by decide +kernel) hown hK hP 0 rfl rfl 3 (by decide) (hts (.fieldLink RX4 30 RX4 "tally" "LHoldBench$Tally;") (by decide +kernel)) (fun _ h9 => h9) rfl dX4_told_61 ?_
    refine va_getN (D := (dC, dI)) (ci := 3) (v := .int mo) (C := RX3) (T := TX3) (N := 7) hx hb hts (by decide +kernel) hown hK hP 11 rfl rfl 5 (by decide) (va_Nw.use rfl (hN.at 39 rfl)) (fun _ h9 => h9) rfl dX4_told_64 ?_
    exact rd_i hx hb hr hlocks (by simp only [f_X4_told, if_neg s_1, if_neg s_2, if_neg s_3, if_pos s_4]) dX4_told_67
  by_cases s_5 : p0 = 4
  · refine lv_tableIn (tgt := 68) (off := 67) hx hb dX4_told_1 (by rw [s_5]; decide) (by rw [s_5]; decide) (by rw [s_5]; rfl) (by decide) ?_
    refine lv_aload_n hx hb dX4_told_68 rfl (lv_at hl 0 rfl) ?_
    refine va_get (D := (dC, dI)) (ci := 4) (v := .ref q3) (C := RX4) (T := TX4) (N := 5) hx hb hts (by decide +kernel) hown hK hP 0 rfl rfl 3 (by decide) (hts (.fieldLink RX4 30 RX4 "tally" "LHoldBench$Tally;") (by decide +kernel)) (fun _ h9 => h9) rfl dX4_told_69 ?_
    refine va_getN (D := (dC, dI)) (ci := 3) (v := .int cs) (C := RX3) (T := TX3) (N := 7) hx hb hts (by decide +kernel) hown hK hP 11 rfl rfl 6 (by decide) (va_Nw.use rfl (hN.at 40 rfl)) (fun _ h9 => h9) rfl dX4_told_72 ?_
    exact rd_i hx hb hr hlocks (by simp only [f_X4_told, if_neg s_1, if_neg s_2, if_neg s_3, if_neg s_4, if_pos s_5]) dX4_told_75
  have t_6 : (p0 : Int32).toInt < 0 ∨ 4 < (p0 : Int32).toInt := by
    have z0 := ne_ti (k := 0) (n := 0) s_1 (by decide)
    have z1 := ne_ti (k := 1) (n := 1) s_2 (by decide)
    have z2 := ne_ti (k := 2) (n := 2) s_3 (by decide)
    have z3 := ne_ti (k := 3) (n := 3) s_4 (by decide)
    have z4 := ne_ti (k := 4) (n := 4) s_5 (by decide)
    omega
  refine lv_tableOut (tgt := 76) hx hb dX4_told_1 t_6 (by decide) ?_
  refine lv_bipush (v := (-2)) hx hb dX4_told_76 (by decide) ?_
  exact rd_i hx hb hr hlocks (by simp only [f_X4_told, if_neg s_1, if_neg s_2, if_neg s_3, if_neg s_4, if_neg s_5]) dX4_told_78
set_option maxHeartbeats 4000000 in
set_option maxRecDepth 100000 in
theorem c_X4_at (l : Launch) (dC : Nat → ClassId) (dI : Nat → Nat → Nat) (cA : ClassId) (q4 q2 q2a q2b q2c q0 q0a q0b q0c q0d q0e q3 q3a q1 : Nat) (rn : Int32) (ma : Int32) (pl : Nat → Int32) (nu : Nat → Int32) (de : Nat → Int32) (to : Int32) (si : Nat → Int32) (ki : Nat → Int32) (aa : Nat → Int32) (xx : Nat → Int32) (yy : Nat → Int32) (et : Int32) (sp : Int32) (ho : Int32) (uw : Int32) (mo : Int32) (cs : Int32) (en : Nat → Int32) (rf : Int32) (p0 : Int32) : Met l yX4_at wsX4_at ({ frames := 3, cells := 0, slots := 0, locals := 63 }) (pcR (dC, dI) [(q4, .inr (4, [.ref q1, .ref q2, .ref q0, .ref q3, .int rn])), (q2, .inr (2, [.ref q2a, .ref q2b, .ref q2c, .int ma])), (q2a, .inl (cA, 6, .inl pl)), (q2b, .inl (cA, 60, .inl nu)), (q2c, .inl (cA, 60, .inl de)), (q0, .inr (0, [.ref q0a, .ref q0b, .ref q0c, .ref q0d, .ref q0e, .int to])), (q0a, .inl (cA, 40, .inl si)), (q0b, .inl (cA, 480, .inl ki)), (q0c, .inl (cA, 480, .inl aa)), (q0d, .inl (cA, 480, .inl xx)), (q0e, .inl (cA, 480, .inl yy)), (q3, .inr (3, [.ref q3a, .int et, .int sp, .int ho, .int uw, .int mo, .int cs])), (q3a, .inl (cA, 250, .inl en)), (q1, .inr (1, [.ref q2, .ref q0, .ref q3, .int rf]))] [(cA, .int)] [.ref q4, .int p0]) (QcRead (f_X4_at rn ma pl nu de to si ki aa xx yy et sp ho uw mo cs en rf p0)) 0 0 (fun _ => False) := by
  refine Met.ofW (cc := cX4_at) (maxL := 2) (ret := (some .int)) (by decide) rfl ?_
  intro p e s m args below meth c s₁ B hml hv
  obtain ⟨rfl, hN, hP, hK⟩ := hv
  have hx := B.exec
  have hb := B.bytes
  have hr := B.returns
  have hts := atoms_spec (ws := wsX4_at) B.pre
  have hown : s.vm.findClass RX4 = some m.cls := findClass_of_methodNamed B.named
  have hlocks := B.notSynchronized
  have hl := lv_entry ([.ref q4, .int p0]) (n := 2) (Nat.le_of_ble_eq_true rfl)
  rw [lg_entry_eq]
  generalize (lg_sl ([.ref q4, .int p0]) ++ List.replicate (2 - (lg_sl ([.ref q4, .int p0])).length) Slot.unset).toArray = ls at hl ⊢
  have hl : lv_has ls 2 [(0, .ref q4), (1, .int p0)] := hl
  refine lv_iload_n hx hb dX4_at_0 rfl (lv_at hl 1 rfl) ?_
  refine kx_read (va_runS (As := [.int p0]) (rest := []) ⟨hx, hb, hml, hown, hts⟩ (c_X4_isPlace l p0) (cwS 1 hts gX4_at_X4_isPlace rfl rfl rfl (by decide +kernel) ⟨(Nat.le_of_ble_eq_true rfl), (Nat.le_of_ble_eq_true rfl)⟩) (pS hN) rfl rfl hl.1 rfl (lv_room (Nat.le_of_ble_eq_true rfl)) dX4_at_1 ⟨Nat.zero_le _, Nat.zero_le _⟩) ?_
  refine lv_if_eq (tgt := 18) hx hb dX4_at_4 (by decide) (fun c_1 => ?_) (fun c_1 => ?_)
  · refine lv_bipush (v := (-2)) hx hb dX4_at_18 (by decide) ?_
    exact rd_i hx hb hr hlocks (by simp only [f_X4_at, if_pos c_1]) dX4_at_20
  · refine lv_aload_n hx hb dX4_at_7 rfl (lv_at hl 0 rfl) ?_
    refine va_get (D := (dC, dI)) (ci := 4) (v := .ref q2) (C := RX4) (T := TX4) (N := 5) hx hb hts (by decide +kernel) hown hK hP 0 rfl rfl 1 (by decide) (hts (.fieldLink RX4 20 RX4 "shelf" "LHoldBench$Shelf;") (by decide +kernel)) (fun _ h9 => h9) rfl dX4_at_8 ?_
    refine lv_iload_n hx hb dX4_at_11 rfl (lv_at hl 1 rfl) ?_
    have hPc := hP.sub (ws' := [(q2, .inr (2, [.ref q2a, .ref q2b, .ref q2c, .int ma])), (q2a, .inl (cA, 6, .inl pl)), (q2b, .inl (cA, 60, .inl nu)), (q2c, .inl (cA, 60, .inl de))]) [1, 2, 3, 4] rfl
    refine kx_read (va_runVN (As := [.int p0]) (rest := []) ⟨hx, hb, hml, hown, hts⟩ (c_X2_thingIn l dC dI cA q2 q2a q2b q2c ma pl nu de p0) ⟨va_cnB 1 hts gX4_at_X2_thingIn_n45 rfl rfl rfl (hN.at 6 rfl) (hts (.initialized RX2) (by decide +kernel)) (by decide +kernel) ⟨(Nat.le_of_ble_eq_true rfl), (Nat.le_of_ble_eq_true rfl)⟩, (hts (.instanceMethod yX2_thingIn) (by decide +kernel)), (hts (.selects RX2 yX2_thingIn yX2_thingIn) (by decide +kernel))⟩ (pR hN hPc hK (ci := 2) (q0 := 0) rfl rfl rfl) rfl rfl hl.1 rfl (lv_room (Nat.le_of_ble_eq_true rfl)) dX4_at_12 ⟨Nat.zero_le _, Nat.zero_le _⟩) ?_
    refine lv_goto (tgt := 20) hx hb dX4_at_15 (by decide) ?_
    exact rd_i hx hb hr hlocks (by simp only [f_X4_at, if_neg c_1]) dX4_at_20
set_option maxHeartbeats 4000000 in
set_option maxRecDepth 100000 in
theorem c_X4_number (l : Launch) (dC : Nat → ClassId) (dI : Nat → Nat → Nat) (cA : ClassId) (q4 q2 q2a q2b q2c q0 q0a q0b q0c q0d q0e q3 q3a q1 : Nat) (rn : Int32) (ma : Int32) (pl : Nat → Int32) (nu : Nat → Int32) (de : Nat → Int32) (to : Int32) (si : Nat → Int32) (ki : Nat → Int32) (aa : Nat → Int32) (xx : Nat → Int32) (yy : Nat → Int32) (et : Int32) (sp : Int32) (ho : Int32) (uw : Int32) (mo : Int32) (cs : Int32) (en : Nat → Int32) (rf : Int32) (p0 : Int32) (hma : ma.toInt ≤ 60) : Met l yX4_number wsX4_number ({ frames := 2, cells := 0, slots := 0, locals := 42 }) (pcR (dC, dI) [(q4, .inr (4, [.ref q1, .ref q2, .ref q0, .ref q3, .int rn])), (q2, .inr (2, [.ref q2a, .ref q2b, .ref q2c, .int ma])), (q2a, .inl (cA, 6, .inl pl)), (q2b, .inl (cA, 60, .inl nu)), (q2c, .inl (cA, 60, .inl de)), (q0, .inr (0, [.ref q0a, .ref q0b, .ref q0c, .ref q0d, .ref q0e, .int to])), (q0a, .inl (cA, 40, .inl si)), (q0b, .inl (cA, 480, .inl ki)), (q0c, .inl (cA, 480, .inl aa)), (q0d, .inl (cA, 480, .inl xx)), (q0e, .inl (cA, 480, .inl yy)), (q3, .inr (3, [.ref q3a, .int et, .int sp, .int ho, .int uw, .int mo, .int cs])), (q3a, .inl (cA, 250, .inl en)), (q1, .inr (1, [.ref q2, .ref q0, .ref q3, .int rf]))] [(cA, .int)] [.ref q4, .int p0]) (QcRead (f_X4_number rn ma pl nu de to si ki aa xx yy et sp ho uw mo cs en rf p0)) 0 0 (fun _ => False) := by
  refine Met.ofW (cc := cX4_number) (maxL := 2) (ret := (some .int)) (by decide) rfl ?_
  intro p e s m args below meth c s₁ B hml hv
  obtain ⟨rfl, hN, hP, hK⟩ := hv
  have hx := B.exec
  have hb := B.bytes
  have hr := B.returns
  have hts := atoms_spec (ws := wsX4_number) B.pre
  have hown : s.vm.findClass RX4 = some m.cls := findClass_of_methodNamed B.named
  have hlocks := B.notSynchronized
  have hl := lv_entry ([.ref q4, .int p0]) (n := 2) (Nat.le_of_ble_eq_true rfl)
  rw [lg_entry_eq]
  generalize (lg_sl ([.ref q4, .int p0]) ++ List.replicate (2 - (lg_sl ([.ref q4, .int p0])).length) Slot.unset).toArray = ls at hl ⊢
  have hl : lv_has ls 2 [(0, .ref q4), (1, .int p0)] := hl
  refine lv_aload_n hx hb dX4_number_0 rfl (lv_at hl 0 rfl) ?_
  refine va_get (D := (dC, dI)) (ci := 4) (v := .ref q2) (C := RX4) (T := TX4) (N := 5) hx hb hts (by decide +kernel) hown hK hP 0 rfl rfl 1 (by decide) (hts (.fieldLink RX4 20 RX4 "shelf" "LHoldBench$Shelf;") (by decide +kernel)) (fun _ h9 => h9) rfl dX4_number_1 ?_
  refine lv_iload_n hx hb dX4_number_4 rfl (lv_at hl 1 rfl) ?_
  have hPc := hP.sub (ws' := [(q2, .inr (2, [.ref q2a, .ref q2b, .ref q2c, .int ma])), (q2a, .inl (cA, 6, .inl pl)), (q2b, .inl (cA, 60, .inl nu)), (q2c, .inl (cA, 60, .inl de))]) [1, 2, 3, 4] rfl
  refine kx_read (va_runVN (As := [.int p0]) (rest := []) ⟨hx, hb, hml, hown, hts⟩ (c_X2_numberOf l dC dI cA q2 q2a q2b q2c ma pl nu de p0 hma) ⟨va_cnB 1 hts gX4_number_X2_numberOf_n98 rfl rfl rfl (hN.at 27 rfl) (hts (.initialized RX2) (by decide +kernel)) (by decide +kernel) ⟨(Nat.le_of_ble_eq_true rfl), (Nat.le_of_ble_eq_true rfl)⟩, (hts (.instanceMethod yX2_numberOf) (by decide +kernel)), (hts (.selects RX2 yX2_numberOf yX2_numberOf) (by decide +kernel))⟩ (pR hN hPc hK (ci := 2) (q0 := 0) rfl rfl rfl) rfl rfl hl.1 rfl (lv_room (Nat.le_of_ble_eq_true rfl)) dX4_number_5 ⟨Nat.zero_le _, Nat.zero_le _⟩) ?_
  exact rd_i hx hb hr hlocks (by simp only [f_X4_number]) dX4_number_8
set_option maxHeartbeats 4000000 in
set_option maxRecDepth 100000 in
theorem c_X4_count (l : Launch) (dC : Nat → ClassId) (dI : Nat → Nat → Nat) (cA : ClassId) (q4 q2 q2a q2b q2c q0 q0a q0b q0c q0d q0e q3 q3a q1 : Nat) (rn : Int32) (ma : Int32) (pl : Nat → Int32) (nu : Nat → Int32) (de : Nat → Int32) (to : Int32) (si : Nat → Int32) (ki : Nat → Int32) (aa : Nat → Int32) (xx : Nat → Int32) (yy : Nat → Int32) (et : Int32) (sp : Int32) (ho : Int32) (uw : Int32) (mo : Int32) (cs : Int32) (en : Nat → Int32) (rf : Int32) (p0 : Int32) : Met l yX4_count wsX4_count ({ frames := 0, cells := 0, slots := 0, locals := 0 }) (pcR (dC, dI) [(q4, .inr (4, [.ref q1, .ref q2, .ref q0, .ref q3, .int rn])), (q2, .inr (2, [.ref q2a, .ref q2b, .ref q2c, .int ma])), (q2a, .inl (cA, 6, .inl pl)), (q2b, .inl (cA, 60, .inl nu)), (q2c, .inl (cA, 60, .inl de)), (q0, .inr (0, [.ref q0a, .ref q0b, .ref q0c, .ref q0d, .ref q0e, .int to])), (q0a, .inl (cA, 40, .inl si)), (q0b, .inl (cA, 480, .inl ki)), (q0c, .inl (cA, 480, .inl aa)), (q0d, .inl (cA, 480, .inl xx)), (q0e, .inl (cA, 480, .inl yy)), (q3, .inr (3, [.ref q3a, .int et, .int sp, .int ho, .int uw, .int mo, .int cs])), (q3a, .inl (cA, 250, .inl en)), (q1, .inr (1, [.ref q2, .ref q0, .ref q3, .int rf]))] [(cA, .int)] [.ref q4, .int p0]) (QcRead (f_X4_count rn ma pl nu de to si ki aa xx yy et sp ho uw mo cs en rf p0)) 0 0 (fun _ => False) := by
  refine Met.ofW (cc := cX4_count) (maxL := 2) (ret := (some .int)) (by decide) rfl ?_
  intro p e s m args below meth c s₁ B hml hv
  obtain ⟨rfl, hN, hP, hK⟩ := hv
  have hx := B.exec
  have hb := B.bytes
  have hr := B.returns
  have hts := atoms_spec (ws := wsX4_count) B.pre
  have hown : s.vm.findClass RX4 = some m.cls := findClass_of_methodNamed B.named
  have hlocks := B.notSynchronized
  have hl := lv_entry ([.ref q4, .int p0]) (n := 2) (Nat.le_of_ble_eq_true rfl)
  rw [lg_entry_eq]
  generalize (lg_sl ([.ref q4, .int p0]) ++ List.replicate (2 - (lg_sl ([.ref q4, .int p0])).length) Slot.unset).toArray = ls at hl ⊢
  have hl : lv_has ls 2 [(0, .ref q4), (1, .int p0)] := hl
  refine lv_iload_n hx hb dX4_count_0 rfl (lv_at hl 1 rfl) ?_
  by_cases s_1 : p0 = 0
  · refine lv_tableIn (tgt := 32) (off := 31) hx hb dX4_count_1 (by rw [s_1]; decide) (by rw [s_1]; decide) (by rw [s_1]; rfl) (by decide) ?_
    refine lv_aload_n hx hb dX4_count_32 rfl (lv_at hl 0 rfl) ?_
    refine va_get (D := (dC, dI)) (ci := 4) (v := .ref q2) (C := RX4) (T := TX4) (N := 5) hx hb hts (by decide +kernel) hown hK hP 0 rfl rfl 1 (by decide) (hts (.fieldLink RX4 20 RX4 "shelf" "LHoldBench$Shelf;") (by decide +kernel)) (fun _ h9 => h9) rfl dX4_count_33 ?_
    refine va_getN (D := (dC, dI)) (ci := 2) (v := .int ma) (C := RX2) (T := TX2) (N := 4) hx hb hts (by decide +kernel) hown hK hP 1 rfl rfl 3 (by decide) (va_Nw.use rfl (hN.at 28 rfl)) (fun _ h9 => h9) rfl dX4_count_36 ?_
    exact rd_i hx hb hr hlocks (by simp only [f_X4_count, if_pos s_1]) dX4_count_39
  by_cases s_2 : p0 = 1
  · refine lv_tableIn (tgt := 40) (off := 39) hx hb dX4_count_1 (by rw [s_2]; decide) (by rw [s_2]; decide) (by rw [s_2]; rfl) (by decide) ?_
    refine lv_aload_n hx hb dX4_count_40 rfl (lv_at hl 0 rfl) ?_
    refine va_get (D := (dC, dI)) (ci := 4) (v := .ref q0) (C := RX4) (T := TX4) (N := 5) hx hb hts (by decide +kernel) hown hK hP 0 rfl rfl 2 (by decide) (hts (.fieldLink RX4 25 RX4 "program" "LHoldBench$Program;") (by decide +kernel)) (fun _ h9 => h9) rfl dX4_count_41 ?_
    refine va_getN (D := (dC, dI)) (ci := 0) (v := .int to) (C := RX0) (T := TX0) (N := 6) hx hb hts (by decide +kernel) hown hK hP 5 rfl rfl 5 (by decide) (va_Nw.use rfl (hN.at 34 rfl)) (fun _ h9 => h9) rfl dX4_count_44 ?_
    exact rd_i hx hb hr hlocks (by simp only [f_X4_count, if_neg s_1, if_pos s_2]) dX4_count_47
  by_cases s_3 : p0 = 2
  · refine lv_tableIn (tgt := 48) (off := 47) hx hb dX4_count_1 (by rw [s_3]; decide) (by rw [s_3]; decide) (by rw [s_3]; rfl) (by decide) ?_
    refine lv_aload_n hx hb dX4_count_48 rfl (lv_at hl 0 rfl) ?_
    refine va_get (D := (dC, dI)) (ci := 4) (v := .int rn) (C := RX4) (T := TX4) (N := 5) hx hb hts (by decide +kernel) hown hK hP 0 rfl rfl 4 (by decide) (hts (.fieldLink RX4 31 RX4 "runs" "I") (by decide +kernel)) (fun _ h9 => h9) rfl dX4_count_49 ?_
    exact rd_i hx hb hr hlocks (by simp only [f_X4_count, if_neg s_1, if_neg s_2, if_pos s_3]) dX4_count_52
  by_cases s_4 : p0 = 3
  · refine lv_tableIn (tgt := 53) (off := 52) hx hb dX4_count_1 (by rw [s_4]; decide) (by rw [s_4]; decide) (by rw [s_4]; rfl) (by decide) ?_
    refine lv_aload_n hx hb dX4_count_53 rfl (lv_at hl 0 rfl) ?_
    refine va_get (D := (dC, dI)) (ci := 4) (v := .ref q1) (C := RX4) (T := TX4) (N := 5) hx hb hts (by decide +kernel) hown hK hP 0 rfl rfl 0 (by decide) (hts (.fieldLink RX4 10 RX4 "runner" "LHoldBench$Runner;") (by decide +kernel)) (fun _ h9 => h9) rfl dX4_count_54 ?_
    refine va_getN (D := (dC, dI)) (ci := 1) (v := .int rf) (C := RX1) (T := TX1) (N := 4) hx hb hts (by decide +kernel) hown hK hP 13 rfl rfl 3 (by decide) (va_Nw.use rfl (hN.at 44 rfl)) (fun _ h9 => h9) rfl dX4_count_57 ?_
    exact rd_i hx hb hr hlocks (by simp only [f_X4_count, if_neg s_1, if_neg s_2, if_neg s_3, if_pos s_4]) dX4_count_60
  have t_5 : (p0 : Int32).toInt < 0 ∨ 3 < (p0 : Int32).toInt := by
    have z0 := ne_ti (k := 0) (n := 0) s_1 (by decide)
    have z1 := ne_ti (k := 1) (n := 1) s_2 (by decide)
    have z2 := ne_ti (k := 2) (n := 2) s_3 (by decide)
    have z3 := ne_ti (k := 3) (n := 3) s_4 (by decide)
    omega
  refine lv_tableOut (tgt := 61) hx hb dX4_count_1 t_5 (by decide) ?_
  refine lv_bipush (v := (-2)) hx hb dX4_count_61 (by decide) ?_
  exact rd_i hx hb hr hlocks (by simp only [f_X4_count, if_neg s_1, if_neg s_2, if_neg s_3, if_neg s_4]) dX4_count_63
set_option maxHeartbeats 4000000 in
set_option maxRecDepth 100000 in
theorem c_X4_run (l : Launch) (dC : Nat → ClassId) (dI : Nat → Nat → Nat) (cA : ClassId) (q4 q2 q2a q2b q2c q0 q0a q0b q0c q0d q0e q3 q3a q1 : Nat) (sz : Nat) (rn : Int32) (ma : Int32) (pl : Nat → Int32) (nu : Nat → Int32) (de : Nat → Int32) (to : Int32) (si : Nat → Int32) (ki : Nat → Int32) (aa : Nat → Int32) (xx : Nat → Int32) (yy : Nat → Int32) (et : Int32) (sp : Int32) (ho : Int32) (uw : Int32) (mo : Int32) (cs : Int32) (en : Nat → Int32) (rf : Int32) (d : Nat) (hd : d = 40) (hJ : J 0 ma et sp pl nu de si ki aa xx yy) (hde : ∀ t : Nat, de t = 0) : Met l yX4_run wsX4_run ({ frames := 129, cells := 0, slots := 0, locals := 5000 }) (pcW (dC, dI) [(q4, .inr (4, [.ref q1, .ref q2, .ref q0, .ref q3, .int rn])), (q2, .inr (2, [.ref q2a, .ref q2b, .ref q2c, .int ma])), (q2a, .inl (cA, 6, .inl pl)), (q2b, .inl (cA, 60, .inl nu)), (q2c, .inl (cA, 60, .inl de)), (q0, .inr (0, [.ref q0a, .ref q0b, .ref q0c, .ref q0d, .ref q0e, .int to])), (q0a, .inl (cA, 40, .inl si)), (q0b, .inl (cA, 480, .inl ki)), (q0c, .inl (cA, 480, .inl aa)), (q0d, .inl (cA, 480, .inl xx)), (q0e, .inl (cA, 480, .inl yy)), (q3, .inr (3, [.ref q3a, .int et, .int sp, .int ho, .int uw, .int mo, .int cs])), (q3a, .inl (cA, 250, .inl en)), (q1, .inr (1, [.ref q2, .ref q0, .ref q3, .int rf]))] [(cA, .int)] sz [.ref q4]) (QWi (dC, dI) (f_X4_run d rn ma pl nu de to si ki aa xx yy et sp ho uw mo cs en rf) (wd_hb cA q4 q2 q2a q2b q2c q0 q0a q0b q0c q0d q0e q3 q3a q1) (va_A [(q4, .inr (4, [.ref q1, .ref q2, .ref q0, .ref q3, .int rn])), (q2, .inr (2, [.ref q2a, .ref q2b, .ref q2c, .int ma])), (q2a, .inl (cA, 6, .inl pl)), (q2b, .inl (cA, 60, .inl nu)), (q2c, .inl (cA, 60, .inl de)), (q0, .inr (0, [.ref q0a, .ref q0b, .ref q0c, .ref q0d, .ref q0e, .int to])), (q0a, .inl (cA, 40, .inl si)), (q0b, .inl (cA, 480, .inl ki)), (q0c, .inl (cA, 480, .inl aa)), (q0d, .inl (cA, 480, .inl xx)), (q0e, .inl (cA, 480, .inl yy)), (q3, .inr (3, [.ref q3a, .int et, .int sp, .int ho, .int uw, .int mo, .int cs])), (q3a, .inl (cA, 250, .inl en)), (q1, .inr (1, [.ref q2, .ref q0, .ref q3, .int rf]))] sz)) 0 0 (va_A [(q4, .inr (4, [.ref q1, .ref q2, .ref q0, .ref q3, .int rn])), (q2, .inr (2, [.ref q2a, .ref q2b, .ref q2c, .int ma])), (q2a, .inl (cA, 6, .inl pl)), (q2b, .inl (cA, 60, .inl nu)), (q2c, .inl (cA, 60, .inl de)), (q0, .inr (0, [.ref q0a, .ref q0b, .ref q0c, .ref q0d, .ref q0e, .int to])), (q0a, .inl (cA, 40, .inl si)), (q0b, .inl (cA, 480, .inl ki)), (q0c, .inl (cA, 480, .inl aa)), (q0d, .inl (cA, 480, .inl xx)), (q0e, .inl (cA, 480, .inl yy)), (q3, .inr (3, [.ref q3a, .int et, .int sp, .int ho, .int uw, .int mo, .int cs])), (q3a, .inl (cA, 250, .inl en)), (q1, .inr (1, [.ref q2, .ref q0, .ref q3, .int rf]))] sz) := by
  refine Met.ofW (cc := cX4_run) (maxL := 2) (ret := (some .int)) (by decide) rfl ?_
  intro p e s m args below meth c s₁ B hml hv
  obtain ⟨rfl, hsz, hN, hP, hK, hD0⟩ := hv
  have hx := B.exec
  have hb := B.bytes
  have hr := B.returns
  have hts := atoms_spec (ws := wsX4_run) B.pre
  have hown : s.vm.findClass RX4 = some m.cls := findClass_of_methodNamed B.named
  have hlocks := B.notSynchronized
  subst hsz
  have hD := hD0.self (sz := s.heap.size)
  generalize hAe : va_A [(q4, .inr (4, [.ref q1, .ref q2, .ref q0, .ref q3, .int rn])), (q2, .inr (2, [.ref q2a, .ref q2b, .ref q2c, .int ma])), (q2a, .inl (cA, 6, .inl pl)), (q2b, .inl (cA, 60, .inl nu)), (q2c, .inl (cA, 60, .inl de)), (q0, .inr (0, [.ref q0a, .ref q0b, .ref q0c, .ref q0d, .ref q0e, .int to])), (q0a, .inl (cA, 40, .inl si)), (q0b, .inl (cA, 480, .inl ki)), (q0c, .inl (cA, 480, .inl aa)), (q0d, .inl (cA, 480, .inl xx)), (q0e, .inl (cA, 480, .inl yy)), (q3, .inr (3, [.ref q3a, .int et, .int sp, .int ho, .int uw, .int mo, .int cs])), (q3a, .inl (cA, 250, .inl en)), (q1, .inr (1, [.ref q2, .ref q0, .ref q3, .int rf]))] s.heap.size = A at hD ⊢
  have hA : ∀ q : Nat, s.heap.size ≤ q → A q := fun q h => by rw [← hAe]; exact Or.inr h
  have hS : va_S A s.heap s.heap [] := va_S.rf
  have hl := lv_entry ([.ref q4]) (n := 2) (Nat.le_of_ble_eq_true rfl)
  rw [lg_entry_eq]
  generalize (lg_sl ([.ref q4]) ++ List.replicate (2 - (lg_sl ([.ref q4])).length) Slot.unset).toArray = ls at hl ⊢
  have hl : lv_has ls 2 [(0, .ref q4)] := hl
  refine lv_aload_n hx hb dX4_run_0 rfl (lv_at hl 0 rfl) ?_
  refine va_get (D := (dC, dI)) (ci := 4) (v := .ref q1) (C := RX4) (T := TX4) (N := 5) hx hb hts (by decide +kernel) hown hK hP 0 rfl rfl 0 (by decide) (hts (.fieldLink RX4 10 RX4 "runner" "LHoldBench$Runner;") (by decide +kernel)) (fun _ h9 => h9) rfl dX4_run_1 ?_
  refine va_getN (D := (dC, dI)) (ci := 1) (v := .int rf) (C := RX1) (T := TX1) (N := 4) hx hb hts (by decide +kernel) hown hK hP 13 rfl rfl 3 (by decide) (va_Nw.use rfl (hN.at 44 rfl)) (fun _ h9 => h9) rfl dX4_run_4 ?_
  refine lv_sipush (v := 1500) hx hb dX4_run_7 (by decide) ?_
  refine lv_icmp_lt (tgt := 16) hx hb dX4_run_10 (by decide) (fun c_1 => ?_) (fun c_1 => ?_)
  · refine lv_aload_n hx hb dX4_run_16 rfl (lv_at hl 0 rfl) ?_
    refine lv_dup hx hb dX4_run_17 rfl ?_
    refine va_get (D := (dC, dI)) (ci := 4) (v := .int rn) (C := RX4) (T := TX4) (N := 5) hx hb hts (by decide +kernel) hown hK hP 0 rfl rfl 4 (by decide) (hts (.fieldLink RX4 31 RX4 "runs" "I") (by decide +kernel)) (fun _ h9 => h9) rfl dX4_run_18 ?_
    refine lv_iconst (v := 1) hx hb dX4_run_21 (by decide) ?_
    refine lv_iadd hx hb dX4_run_22 ?_
    refine va_put (D := (dC, dI)) (ci := 4) (v := .int (rn + 1)) (ty := .int) (C := RX4) (T := TX4) (N := 5) hx hb hts (by decide +kernel) tyX4 tyX4_ok nmX4 hown hK hP hD hS 0 rfl rfl 4 (by decide) (hts (.fieldLink RX4 31 RX4 "runs" "I") (by decide +kernel)) (fun _ h9 => h9) rfl (by decide +kernel) rfl rfl (Nat.le_of_ble_eq_true rfl) dX4_run_23 (fun H locs hP hD hS => ?_)
    have hP : va_P (dC, dI) vwCl [(q4, .inr (4, [.ref q1, .ref q2, .ref q0, .ref q3, .int (rn + 1)])), (q2, .inr (2, [.ref q2a, .ref q2b, .ref q2c, .int ma])), (q2a, .inl (cA, 6, .inl pl)), (q2b, .inl (cA, 60, .inl nu)), (q2c, .inl (cA, 60, .inl de)), (q0, .inr (0, [.ref q0a, .ref q0b, .ref q0c, .ref q0d, .ref q0e, .int to])), (q0a, .inl (cA, 40, .inl si)), (q0b, .inl (cA, 480, .inl ki)), (q0c, .inl (cA, 480, .inl aa)), (q0d, .inl (cA, 480, .inl xx)), (q0e, .inl (cA, 480, .inl yy)), (q3, .inr (3, [.ref q3a, .int et, .int sp, .int ho, .int uw, .int mo, .int cs])), (q3a, .inl (cA, 250, .inl en)), (q1, .inr (1, [.ref q2, .ref q0, .ref q3, .int rf]))] H := hP
    have hD : va_D A [(q4, .inr (4, [.ref q1, .ref q2, .ref q0, .ref q3, .int (rn + 1)])), (q2, .inr (2, [.ref q2a, .ref q2b, .ref q2c, .int ma])), (q2a, .inl (cA, 6, .inl pl)), (q2b, .inl (cA, 60, .inl nu)), (q2c, .inl (cA, 60, .inl de)), (q0, .inr (0, [.ref q0a, .ref q0b, .ref q0c, .ref q0d, .ref q0e, .int to])), (q0a, .inl (cA, 40, .inl si)), (q0b, .inl (cA, 480, .inl ki)), (q0c, .inl (cA, 480, .inl aa)), (q0d, .inl (cA, 480, .inl xx)), (q0e, .inl (cA, 480, .inl yy)), (q3, .inr (3, [.ref q3a, .int et, .int sp, .int ho, .int uw, .int mo, .int cs])), (q3a, .inl (cA, 250, .inl en)), (q1, .inr (1, [.ref q2, .ref q0, .ref q3, .int rf]))] := hD
    refine lv_aload_n hx hb dX4_run_26 rfl (lv_at hl 0 rfl) ?_
    refine va_get (D := (dC, dI)) (ci := 4) (v := .ref q3) (C := RX4) (T := TX4) (N := 5) hx hb hts (by decide +kernel) hown hK hP 0 rfl rfl 3 (by decide) (hts (.fieldLink RX4 30 RX4 "tally" "LHoldBench$Tally;") (by decide +kernel)) (fun _ h9 => h9) rfl dX4_run_27 ?_
    refine kx_wv (wr := [(q4, .inr (4, [.ref q1, .ref q2, .ref q0, .ref q3, .int (rn + 1)])), (q2, .inr (2, [.ref q2a, .ref q2b, .ref q2c, .int ma])), (q2a, .inl (cA, 6, .inl pl)), (q2b, .inl (cA, 60, .inl nu)), (q2c, .inl (cA, 60, .inl de)), (q0, .inr (0, [.ref q0a, .ref q0b, .ref q0c, .ref q0d, .ref q0e, .int to])), (q0a, .inl (cA, 40, .inl si)), (q0b, .inl (cA, 480, .inl ki)), (q0c, .inl (cA, 480, .inl aa)), (q0d, .inl (cA, 480, .inl xx)), (q0e, .inl (cA, 480, .inl yy)), (q1, .inr (1, [.ref q2, .ref q0, .ref q3, .int rf]))]) hP hD hS hA [11, 12] [0, 1, 2, 3, 4, 5, 6, 7, 8, 9, 10, 13] rfl rfl (by decide) (by decide) (va_runVN (As := []) (rest := []) ⟨hx, hb, hml, hown, hts⟩ (c_X3_restart l dC dI cA q3 q3a H.size et sp ho uw mo cs en ) ⟨va_cnB 0 hts gX4_run_X3_restart_n68 rfl rfl rfl (hN.at 11 rfl) (hts (.initialized RX3) (by decide +kernel)) (by decide +kernel) ⟨(show 0 + 1 ≤ 129 from by omega), (show 8 + (1 + 11) + (0) ≤ 5000 from by omega)⟩, (hts (.instanceMethod yX3_restart) (by decide +kernel)), (hts (.selects RX3 yX3_restart yX3_restart) (by decide +kernel))⟩ (pW hN (hP.sub (ws' := [(q3, .inr (3, [.ref q3a, .int et, .int sp, .int ho, .int uw, .int mo, .int cs])), (q3a, .inl (cA, 250, .inl en))]) [11, 12] rfl) hK (hD.sub (ws' := [(q3, .inr (3, [.ref q3a, .int et, .int sp, .int ho, .int uw, .int mo, .int cs])), (q3a, .inl (cA, 250, .inl en))]) [11, 12] (by decide) rfl) (ci := 3) (q0 := 0) rfl rfl rfl) rfl rfl hl.1 rfl (lv_room (Nat.le_of_ble_eq_true rfl)) dX4_run_30 ⟨Nat.zero_le _, Nat.zero_le _⟩) (fun u_2 H locs hw_2 hP hD hS => ?_)
    obtain ⟨et_2, sp_2, ho_2, uw_2, mo_2, cs_2, en_2⟩ := u_2
    have hP : va_P (dC, dI) vwCl [(q4, .inr (4, [.ref q1, .ref q2, .ref q0, .ref q3, .int (rn + 1)])), (q2, .inr (2, [.ref q2a, .ref q2b, .ref q2c, .int ma])), (q2a, .inl (cA, 6, .inl pl)), (q2b, .inl (cA, 60, .inl nu)), (q2c, .inl (cA, 60, .inl de)), (q0, .inr (0, [.ref q0a, .ref q0b, .ref q0c, .ref q0d, .ref q0e, .int to])), (q0a, .inl (cA, 40, .inl si)), (q0b, .inl (cA, 480, .inl ki)), (q0c, .inl (cA, 480, .inl aa)), (q0d, .inl (cA, 480, .inl xx)), (q0e, .inl (cA, 480, .inl yy)), (q3, .inr (3, [.ref q3a, .int et_2, .int sp_2, .int ho_2, .int uw_2, .int mo_2, .int cs_2])), (q3a, .inl (cA, 250, .inl en_2)), (q1, .inr (1, [.ref q2, .ref q0, .ref q3, .int rf]))] H := hP.sub [0, 1, 2, 3, 4, 5, 6, 7, 8, 9, 10, 12, 13, 11] rfl
    have hD : va_D A [(q4, .inr (4, [.ref q1, .ref q2, .ref q0, .ref q3, .int (rn + 1)])), (q2, .inr (2, [.ref q2a, .ref q2b, .ref q2c, .int ma])), (q2a, .inl (cA, 6, .inl pl)), (q2b, .inl (cA, 60, .inl nu)), (q2c, .inl (cA, 60, .inl de)), (q0, .inr (0, [.ref q0a, .ref q0b, .ref q0c, .ref q0d, .ref q0e, .int to])), (q0a, .inl (cA, 40, .inl si)), (q0b, .inl (cA, 480, .inl ki)), (q0c, .inl (cA, 480, .inl aa)), (q0d, .inl (cA, 480, .inl xx)), (q0e, .inl (cA, 480, .inl yy)), (q3, .inr (3, [.ref q3a, .int et_2, .int sp_2, .int ho_2, .int uw_2, .int mo_2, .int cs_2])), (q3a, .inl (cA, 250, .inl en_2)), (q1, .inr (1, [.ref q2, .ref q0, .ref q3, .int rf]))] := hD.sub [0, 1, 2, 3, 4, 5, 6, 7, 8, 9, 10, 12, 13, 11] (by decide) rfl
    have hz_2 := hw_2
    simp only [f_X3_restart, Prod.mk.injEq] at hz_2
    have hJ_2 : J 0 ma et_2 sp_2 pl nu de si ki aa xx yy := by rw [hz_2.1, hz_2.2.1]; exact J_restart hJ hde
    refine lv_aload_n hx hb dX4_run_33 rfl (lv_at hl 0 rfl) ?_
    refine va_get (D := (dC, dI)) (ci := 4) (v := .ref q1) (C := RX4) (T := TX4) (N := 5) hx hb hts (by decide +kernel) hown hK hP 0 rfl rfl 0 (by decide) (hts (.fieldLink RX4 10 RX4 "runner" "LHoldBench$Runner;") (by decide +kernel)) (fun _ h9 => h9) rfl dX4_run_34 ?_
    refine lv_iconst (v := 0) hx hb dX4_run_37 (by decide) ?_
    refine lv_iconst (v := (-1)) hx hb dX4_run_38 (by decide) ?_
    refine lv_iconst (v := 0) hx hb dX4_run_39 (by decide) ?_
    refine kx_wi (wr := [(q4, .inr (4, [.ref q1, .ref q2, .ref q0, .ref q3, .int (rn + 1)]))]) hP hD hS hA [13, 1, 2, 3, 4, 5, 6, 7, 8, 9, 10, 11, 12] [0] rfl rfl (by decide) (by decide) (va_runVN (As := [.int 0, .int (-1), .int 0]) (rest := []) ⟨hx, hb, hml, hown, hts⟩ (CB_all l dC dI cA q1 q2 q2a q2b q2c q0 q0a q0b q0c q0d q0e q3 q3a d H.size rf ma pl nu de to si ki aa xx yy et_2 sp_2 ho_2 uw_2 mo_2 cs_2 en_2 0 (-1) 0 (hb_d hd) hJ_2) ⟨va_cnB 3 hts gX4_run_X1_doBlock_n73 rfl rfl rfl (hN.at 12 rfl) (hts (.initialized RX1) (by decide +kernel)) (by decide +kernel) ⟨(show 3 * d + 8 + 1 ≤ 129 from by omega), (show 8 + (7 + 11) + (100 * d + 200) ≤ 5000 from by omega)⟩, (hts (.instanceMethod yX1_doBlock) (by decide +kernel)), (hts (.selects RX1 yX1_doBlock yX1_doBlock) (by decide +kernel))⟩ (pW hN (hP.sub (ws' := [(q1, .inr (1, [.ref q2, .ref q0, .ref q3, .int rf])), (q2, .inr (2, [.ref q2a, .ref q2b, .ref q2c, .int ma])), (q2a, .inl (cA, 6, .inl pl)), (q2b, .inl (cA, 60, .inl nu)), (q2c, .inl (cA, 60, .inl de)), (q0, .inr (0, [.ref q0a, .ref q0b, .ref q0c, .ref q0d, .ref q0e, .int to])), (q0a, .inl (cA, 40, .inl si)), (q0b, .inl (cA, 480, .inl ki)), (q0c, .inl (cA, 480, .inl aa)), (q0d, .inl (cA, 480, .inl xx)), (q0e, .inl (cA, 480, .inl yy)), (q3, .inr (3, [.ref q3a, .int et_2, .int sp_2, .int ho_2, .int uw_2, .int mo_2, .int cs_2])), (q3a, .inl (cA, 250, .inl en_2))]) [13, 1, 2, 3, 4, 5, 6, 7, 8, 9, 10, 11, 12] rfl) hK (hD.sub (ws' := [(q1, .inr (1, [.ref q2, .ref q0, .ref q3, .int rf])), (q2, .inr (2, [.ref q2a, .ref q2b, .ref q2c, .int ma])), (q2a, .inl (cA, 6, .inl pl)), (q2b, .inl (cA, 60, .inl nu)), (q2c, .inl (cA, 60, .inl de)), (q0, .inr (0, [.ref q0a, .ref q0b, .ref q0c, .ref q0d, .ref q0e, .int to])), (q0a, .inl (cA, 40, .inl si)), (q0b, .inl (cA, 480, .inl ki)), (q0c, .inl (cA, 480, .inl aa)), (q0d, .inl (cA, 480, .inl xx)), (q0e, .inl (cA, 480, .inl yy)), (q3, .inr (3, [.ref q3a, .int et_2, .int sp_2, .int ho_2, .int uw_2, .int mo_2, .int cs_2])), (q3a, .inl (cA, 250, .inl en_2))]) [13, 1, 2, 3, 4, 5, 6, 7, 8, 9, 10, 11, 12] (by decide) rfl) (ci := 1) (q0 := 0) rfl rfl rfl) rfl rfl hl.1 rfl (lv_room (Nat.le_of_ble_eq_true rfl)) dX4_run_40 ⟨Nat.zero_le _, Nat.zero_le _⟩) (fun r_3 u_3 H locs hw_3 hP hD hS => ?_)
    obtain ⟨rf_3, ma_3, pl_3, nu_3, de_3, to_3, si_3, ki_3, aa_3, xx_3, yy_3, et_3, sp_3, ho_3, uw_3, mo_3, cs_3, en_3⟩ := u_3
    have hP : va_P (dC, dI) vwCl [(q4, .inr (4, [.ref q1, .ref q2, .ref q0, .ref q3, .int (rn + 1)])), (q2, .inr (2, [.ref q2a, .ref q2b, .ref q2c, .int ma_3])), (q2a, .inl (cA, 6, .inl pl_3)), (q2b, .inl (cA, 60, .inl nu_3)), (q2c, .inl (cA, 60, .inl de_3)), (q0, .inr (0, [.ref q0a, .ref q0b, .ref q0c, .ref q0d, .ref q0e, .int to_3])), (q0a, .inl (cA, 40, .inl si_3)), (q0b, .inl (cA, 480, .inl ki_3)), (q0c, .inl (cA, 480, .inl aa_3)), (q0d, .inl (cA, 480, .inl xx_3)), (q0e, .inl (cA, 480, .inl yy_3)), (q3, .inr (3, [.ref q3a, .int et_3, .int sp_3, .int ho_3, .int uw_3, .int mo_3, .int cs_3])), (q3a, .inl (cA, 250, .inl en_3)), (q1, .inr (1, [.ref q2, .ref q0, .ref q3, .int rf_3]))] H := hP.sub [0, 2, 3, 4, 5, 6, 7, 8, 9, 10, 11, 12, 13, 1] rfl
    have hD : va_D A [(q4, .inr (4, [.ref q1, .ref q2, .ref q0, .ref q3, .int (rn + 1)])), (q2, .inr (2, [.ref q2a, .ref q2b, .ref q2c, .int ma_3])), (q2a, .inl (cA, 6, .inl pl_3)), (q2b, .inl (cA, 60, .inl nu_3)), (q2c, .inl (cA, 60, .inl de_3)), (q0, .inr (0, [.ref q0a, .ref q0b, .ref q0c, .ref q0d, .ref q0e, .int to_3])), (q0a, .inl (cA, 40, .inl si_3)), (q0b, .inl (cA, 480, .inl ki_3)), (q0c, .inl (cA, 480, .inl aa_3)), (q0d, .inl (cA, 480, .inl xx_3)), (q0e, .inl (cA, 480, .inl yy_3)), (q3, .inr (3, [.ref q3a, .int et_3, .int sp_3, .int ho_3, .int uw_3, .int mo_3, .int cs_3])), (q3a, .inl (cA, 250, .inl en_3)), (q1, .inr (1, [.ref q2, .ref q0, .ref q3, .int rf_3]))] := hD.sub [0, 2, 3, 4, 5, 6, 7, 8, 9, 10, 11, 12, 13, 1] (by decide) rfl
    refine lv_istore_n (lv' := [(1, .int r_3), (0, .ref q4)]) hx hb dX4_run_43 rfl hl (by decide) rfl (fun ls hl => ?_)
    refine lv_iload_n hx hb dX4_run_44 rfl (lv_at hl 0 rfl) ?_
    refine lv_iconst (v := 5) hx hb dX4_run_45 (by decide) ?_
    refine lv_icmp_ne (tgt := 52) hx hb dX4_run_46 (by decide) (fun c_4 => ?_) (fun c_4 => ?_)
    · refine lv_iload_n hx hb dX4_run_52 rfl (lv_at hl 0 rfl) ?_
      refine kx_read (va_runS (As := [.int r_3]) (rest := []) ⟨hx, hb, hml, hown, hts⟩ (c_X4_isThrown l r_3) (cwS 1 hts gX4_run_X4_isThrown rfl rfl rfl (by decide +kernel) ⟨(show 0 + 1 ≤ 129 from by omega), (show 8 + (1 + 11) + (0) ≤ 5000 from by omega)⟩) (pS hN) rfl rfl hl.1 rfl (lv_room (Nat.le_of_ble_eq_true rfl)) dX4_run_53 ⟨Nat.zero_le _, Nat.zero_le _⟩) ?_
      refine lv_if_eq (tgt := 66) hx hb dX4_run_56 (by decide) (fun c_5 => ?_) (fun c_5 => ?_)
      · refine lv_iconst (v := 0) hx hb dX4_run_66 (by decide) ?_
        exact rt_i hx hb hr hlocks ((rn + 1), ma_3, pl_3, nu_3, de_3, to_3, si_3, ki_3, aa_3, xx_3, yy_3, et_3, sp_3, ho_3, uw_3, mo_3, cs_3, en_3, rf_3) (by simp only [f_X4_run, if_pos c_1, ← hw_2, ← hw_3, if_neg c_4, if_pos c_5]) hP hD hS dX4_run_67
      · refine lv_iload_n hx hb dX4_run_59 rfl (lv_at hl 0 rfl) ?_
        refine lv_bipush (v := 100) hx hb dX4_run_60 (by decide) ?_
        refine lv_isub hx hb dX4_run_62 ?_
        refine lv_goto (tgt := 67) hx hb dX4_run_63 (by decide) ?_
        exact rt_i hx hb hr hlocks ((rn + 1), ma_3, pl_3, nu_3, de_3, to_3, si_3, ki_3, aa_3, xx_3, yy_3, et_3, sp_3, ho_3, uw_3, mo_3, cs_3, en_3, rf_3) (by simp only [f_X4_run, if_pos c_1, ← hw_2, ← hw_3, if_neg c_4, if_neg c_5]) hP hD hS dX4_run_67
    · refine lv_bipush (v := 20) hx hb dX4_run_49 (by decide) ?_
      exact rt_i hx hb hr hlocks ((rn + 1), ma_3, pl_3, nu_3, de_3, to_3, si_3, ki_3, aa_3, xx_3, yy_3, et_3, sp_3, ho_3, uw_3, mo_3, cs_3, en_3, rf_3) (by simp only [f_X4_run, if_pos c_1, ← hw_2, ← hw_3, if_pos c_4]) hP hD hS dX4_run_51
  · refine lv_bipush (v := (-3)) hx hb dX4_run_13 (by decide) ?_
    exact rt_i hx hb hr hlocks (rn, ma, pl, nu, de, to, si, ki, aa, xx, yy, et, sp, ho, uw, mo, cs, en, rf) (by simp only [f_X4_run, if_neg c_1]) hP hD hS dX4_run_15
set_option maxHeartbeats 4000000 in
set_option maxRecDepth 100000 in
theorem c_X5_thing (l : Launch) (dC : Nat → ClassId) (dI : Nat → Nat → Nat) (cA : ClassId) (q5 q5a q5b q5c q5d q5e q5f q5g q5h q5i : Nat) (sz : Nat) (th : Int32) (ma : Int32) (to : Int32) (rn : Int32) (rf : Int32) (et : Int32) (sp : Int32) (ho : Int32) (mo : Int32) (cs : Int32) (uw : Int32) (wh : Int32) (lo : Int32) (pl : Nat → Int32) (nu : Nat → Int32) (de : Nat → Int32) (si : Nat → Int32) (ki : Nat → Int32) (aa : Nat → Int32) (xx : Nat → Int32) (yy : Nat → Int32) (en : Nat → Int32) (p0 : Int32) (hma0 : 0 ≤ ma.toInt ∧ ma.toInt ≤ 60) : Met l yX5_thing wsX5_thing ({ frames := 2, cells := 0, slots := 0, locals := 42 }) (pcW (dC, dI) [(q5, .inr (5, [.int th, .ref q5a, .int ma, .ref q5b, .ref q5c, .int to, .ref q5d, .ref q5e, .ref q5f, .ref q5g, .ref q5h, .int rn, .int rf, .int et, .ref q5i, .int sp, .int ho, .int mo, .int cs, .int uw, .int wh, .int lo])), (q5a, .inl (cA, 6, .inl pl)), (q5b, .inl (cA, 60, .inl nu)), (q5c, .inl (cA, 60, .inl de)), (q5d, .inl (cA, 40, .inl si)), (q5e, .inl (cA, 480, .inl ki)), (q5f, .inl (cA, 480, .inl aa)), (q5g, .inl (cA, 480, .inl xx)), (q5h, .inl (cA, 480, .inl yy)), (q5i, .inl (cA, 250, .inl en))] [(cA, .int)] sz [.ref q5, .int p0]) (QWi (dC, dI) (f_X5_thing th ma to rn rf et sp ho mo cs uw wh lo pl nu de si ki aa xx yy en p0) (wd_mo cA q5 q5a q5b q5c q5d q5e q5f q5g q5h q5i) (va_A [(q5, .inr (5, [.int th, .ref q5a, .int ma, .ref q5b, .ref q5c, .int to, .ref q5d, .ref q5e, .ref q5f, .ref q5g, .ref q5h, .int rn, .int rf, .int et, .ref q5i, .int sp, .int ho, .int mo, .int cs, .int uw, .int wh, .int lo])), (q5a, .inl (cA, 6, .inl pl)), (q5b, .inl (cA, 60, .inl nu)), (q5c, .inl (cA, 60, .inl de)), (q5d, .inl (cA, 40, .inl si)), (q5e, .inl (cA, 480, .inl ki)), (q5f, .inl (cA, 480, .inl aa)), (q5g, .inl (cA, 480, .inl xx)), (q5h, .inl (cA, 480, .inl yy)), (q5i, .inl (cA, 250, .inl en))] sz)) 0 0 (va_A [(q5, .inr (5, [.int th, .ref q5a, .int ma, .ref q5b, .ref q5c, .int to, .ref q5d, .ref q5e, .ref q5f, .ref q5g, .ref q5h, .int rn, .int rf, .int et, .ref q5i, .int sp, .int ho, .int mo, .int cs, .int uw, .int wh, .int lo])), (q5a, .inl (cA, 6, .inl pl)), (q5b, .inl (cA, 60, .inl nu)), (q5c, .inl (cA, 60, .inl de)), (q5d, .inl (cA, 40, .inl si)), (q5e, .inl (cA, 480, .inl ki)), (q5f, .inl (cA, 480, .inl aa)), (q5g, .inl (cA, 480, .inl xx)), (q5h, .inl (cA, 480, .inl yy)), (q5i, .inl (cA, 250, .inl en))] sz) := by
  refine Met.ofW (cc := cX5_thing) (maxL := 2) (ret := (some .int)) (by decide) rfl ?_
  intro p e s m args below meth c s₁ B hml hv
  obtain ⟨rfl, hsz, hN, hP, hK, hD0⟩ := hv
  have hx := B.exec
  have hb := B.bytes
  have hr := B.returns
  have hts := atoms_spec (ws := wsX5_thing) B.pre
  have hown : s.vm.findClass RX5 = some m.cls := findClass_of_methodNamed B.named
  have hlocks := B.notSynchronized
  subst hsz
  have hD := hD0.self (sz := s.heap.size)
  generalize hAe : va_A [(q5, .inr (5, [.int th, .ref q5a, .int ma, .ref q5b, .ref q5c, .int to, .ref q5d, .ref q5e, .ref q5f, .ref q5g, .ref q5h, .int rn, .int rf, .int et, .ref q5i, .int sp, .int ho, .int mo, .int cs, .int uw, .int wh, .int lo])), (q5a, .inl (cA, 6, .inl pl)), (q5b, .inl (cA, 60, .inl nu)), (q5c, .inl (cA, 60, .inl de)), (q5d, .inl (cA, 40, .inl si)), (q5e, .inl (cA, 480, .inl ki)), (q5f, .inl (cA, 480, .inl aa)), (q5g, .inl (cA, 480, .inl xx)), (q5h, .inl (cA, 480, .inl yy)), (q5i, .inl (cA, 250, .inl en))] s.heap.size = A at hD ⊢
  have hA : ∀ q : Nat, s.heap.size ≤ q → A q := fun q h => by rw [← hAe]; exact Or.inr h
  have hS : va_S A s.heap s.heap [] := va_S.rf
  have hl := lv_entry ([.ref q5, .int p0]) (n := 2) (Nat.le_of_ble_eq_true rfl)
  rw [lg_entry_eq]
  generalize (lg_sl ([.ref q5, .int p0]) ++ List.replicate (2 - (lg_sl ([.ref q5, .int p0])).length) Slot.unset).toArray = ls at hl ⊢
  have hl : lv_has ls 2 [(0, .ref q5), (1, .int p0)] := hl
  refine lv_aload_n hx hb dX5_thing_0 rfl (lv_at hl 0 rfl) ?_
  refine lv_iconst (v := 0) hx hb dX5_thing_1 (by decide) ?_
  refine va_put (D := (dC, dI)) (ci := 5) (v := .int 0) (ty := .int) (C := RX5) (T := TX5) (N := 22) hx hb hts (by decide +kernel) tyX5 tyX5_ok nmX5 hown hK hP hD hS 0 rfl rfl 0 (by decide) (hts (.fieldLink RX5 37 RX5 "thrown" "I") (by decide +kernel)) (fun _ h9 => h9) rfl (by decide +kernel) rfl rfl (Nat.le_of_ble_eq_true rfl) dX5_thing_2 (fun H locs hP hD hS => ?_)
  have hP : va_P (dC, dI) vwCl [(q5, .inr (5, [.int 0, .ref q5a, .int ma, .ref q5b, .ref q5c, .int to, .ref q5d, .ref q5e, .ref q5f, .ref q5g, .ref q5h, .int rn, .int rf, .int et, .ref q5i, .int sp, .int ho, .int mo, .int cs, .int uw, .int wh, .int lo])), (q5a, .inl (cA, 6, .inl pl)), (q5b, .inl (cA, 60, .inl nu)), (q5c, .inl (cA, 60, .inl de)), (q5d, .inl (cA, 40, .inl si)), (q5e, .inl (cA, 480, .inl ki)), (q5f, .inl (cA, 480, .inl aa)), (q5g, .inl (cA, 480, .inl xx)), (q5h, .inl (cA, 480, .inl yy)), (q5i, .inl (cA, 250, .inl en))] H := hP
  have hD : va_D A [(q5, .inr (5, [.int 0, .ref q5a, .int ma, .ref q5b, .ref q5c, .int to, .ref q5d, .ref q5e, .ref q5f, .ref q5g, .ref q5h, .int rn, .int rf, .int et, .ref q5i, .int sp, .int ho, .int mo, .int cs, .int uw, .int wh, .int lo])), (q5a, .inl (cA, 6, .inl pl)), (q5b, .inl (cA, 60, .inl nu)), (q5c, .inl (cA, 60, .inl de)), (q5d, .inl (cA, 40, .inl si)), (q5e, .inl (cA, 480, .inl ki)), (q5f, .inl (cA, 480, .inl aa)), (q5g, .inl (cA, 480, .inl xx)), (q5h, .inl (cA, 480, .inl yy)), (q5i, .inl (cA, 250, .inl en))] := hD
  refine lv_iload_n hx hb dX5_thing_5 rfl (lv_at hl 1 rfl) ?_
  refine kx_read (va_runS (As := [.int p0]) (rest := []) ⟨hx, hb, hml, hown, hts⟩ (c_X5_isPlace l p0) (cwS 1 hts gX5_thing_X5_isPlace rfl rfl rfl (by decide +kernel) ⟨(Nat.le_of_ble_eq_true rfl), (Nat.le_of_ble_eq_true rfl)⟩) (pS hN) rfl rfl hl.1 rfl (lv_room (Nat.le_of_ble_eq_true rfl)) dX5_thing_6 ⟨Nat.zero_le _, Nat.zero_le _⟩) ?_
  refine lv_if_ne (tgt := 17) hx hb dX5_thing_9 (by decide) (fun c_1 => ?_) (fun c_1 => ?_)
  · refine lv_aload_n hx hb dX5_thing_17 rfl (lv_at hl 0 rfl) ?_
    refine va_get (D := (dC, dI)) (ci := 5) (v := .int ma) (C := RX5) (T := TX5) (N := 22) hx hb hts (by decide +kernel) hown hK hP 0 rfl rfl 2 (by decide) (hts (.fieldLink RX5 45 RX5 "things" "I") (by decide +kernel)) (fun _ h9 => h9) rfl dX5_thing_18 ?_
    refine lv_bipush (v := 60) hx hb dX5_thing_21 (by decide) ?_
    refine lv_icmp_ne (tgt := 31) hx hb dX5_thing_23 (by decide) (fun c_2 => ?_) (fun c_2 => ?_)
    · refine lv_aload_n hx hb dX5_thing_31 rfl (lv_at hl 0 rfl) ?_
      refine lv_iload_n hx hb dX5_thing_32 rfl (lv_at hl 1 rfl) ?_
      refine kx_wi (wr := []) hP hD hS hA [0, 1, 2, 3, 4, 5, 6, 7, 8, 9] [] rfl rfl (by decide) (by decide) (va_runV (As := [.int p0]) (rest := []) ⟨hx, hb, hml, hown, hts⟩ (c_X5_made l dC dI cA q5 q5a q5b q5c q5d q5e q5f q5g q5h q5i H.size 0 ma to rn rf et sp ho mo cs uw wh lo pl nu de si ki aa xx yy en p0 (m_ma hma0 c_2) (m_place c_1)) (cwV 1 hts gX5_thing_X5_made rfl rfl rfl (by decide +kernel) ⟨(Nat.le_of_ble_eq_true rfl), (Nat.le_of_ble_eq_true rfl)⟩) (pW hN (hP.sub (ws' := [(q5, .inr (5, [.int 0, .ref q5a, .int ma, .ref q5b, .ref q5c, .int to, .ref q5d, .ref q5e, .ref q5f, .ref q5g, .ref q5h, .int rn, .int rf, .int et, .ref q5i, .int sp, .int ho, .int mo, .int cs, .int uw, .int wh, .int lo])), (q5a, .inl (cA, 6, .inl pl)), (q5b, .inl (cA, 60, .inl nu)), (q5c, .inl (cA, 60, .inl de)), (q5d, .inl (cA, 40, .inl si)), (q5e, .inl (cA, 480, .inl ki)), (q5f, .inl (cA, 480, .inl aa)), (q5g, .inl (cA, 480, .inl xx)), (q5h, .inl (cA, 480, .inl yy)), (q5i, .inl (cA, 250, .inl en))]) [0, 1, 2, 3, 4, 5, 6, 7, 8, 9] rfl) hK (hD.sub (ws' := [(q5, .inr (5, [.int 0, .ref q5a, .int ma, .ref q5b, .ref q5c, .int to, .ref q5d, .ref q5e, .ref q5f, .ref q5g, .ref q5h, .int rn, .int rf, .int et, .ref q5i, .int sp, .int ho, .int mo, .int cs, .int uw, .int wh, .int lo])), (q5a, .inl (cA, 6, .inl pl)), (q5b, .inl (cA, 60, .inl nu)), (q5c, .inl (cA, 60, .inl de)), (q5d, .inl (cA, 40, .inl si)), (q5e, .inl (cA, 480, .inl ki)), (q5f, .inl (cA, 480, .inl aa)), (q5g, .inl (cA, 480, .inl xx)), (q5h, .inl (cA, 480, .inl yy)), (q5i, .inl (cA, 250, .inl en))]) [0, 1, 2, 3, 4, 5, 6, 7, 8, 9] (by decide) rfl) (ci := 5) (q0 := 0) rfl rfl rfl) rfl rfl hl.1 rfl (lv_room (Nat.le_of_ble_eq_true rfl)) dX5_thing_33 ⟨Nat.zero_le _, Nat.zero_le _⟩) (fun r_3 u_3 H locs hw_3 hP hD hS => ?_)
      obtain ⟨th_3, ma_3, to_3, rn_3, rf_3, et_3, sp_3, ho_3, mo_3, cs_3, uw_3, wh_3, lo_3, pl_3, nu_3, de_3, si_3, ki_3, aa_3, xx_3, yy_3, en_3⟩ := u_3
      have hP : va_P (dC, dI) vwCl [(q5, .inr (5, [.int th_3, .ref q5a, .int ma_3, .ref q5b, .ref q5c, .int to_3, .ref q5d, .ref q5e, .ref q5f, .ref q5g, .ref q5h, .int rn_3, .int rf_3, .int et_3, .ref q5i, .int sp_3, .int ho_3, .int mo_3, .int cs_3, .int uw_3, .int wh_3, .int lo_3])), (q5a, .inl (cA, 6, .inl pl_3)), (q5b, .inl (cA, 60, .inl nu_3)), (q5c, .inl (cA, 60, .inl de_3)), (q5d, .inl (cA, 40, .inl si_3)), (q5e, .inl (cA, 480, .inl ki_3)), (q5f, .inl (cA, 480, .inl aa_3)), (q5g, .inl (cA, 480, .inl xx_3)), (q5h, .inl (cA, 480, .inl yy_3)), (q5i, .inl (cA, 250, .inl en_3))] H := hP
      have hD : va_D A [(q5, .inr (5, [.int th_3, .ref q5a, .int ma_3, .ref q5b, .ref q5c, .int to_3, .ref q5d, .ref q5e, .ref q5f, .ref q5g, .ref q5h, .int rn_3, .int rf_3, .int et_3, .ref q5i, .int sp_3, .int ho_3, .int mo_3, .int cs_3, .int uw_3, .int wh_3, .int lo_3])), (q5a, .inl (cA, 6, .inl pl_3)), (q5b, .inl (cA, 60, .inl nu_3)), (q5c, .inl (cA, 60, .inl de_3)), (q5d, .inl (cA, 40, .inl si_3)), (q5e, .inl (cA, 480, .inl ki_3)), (q5f, .inl (cA, 480, .inl aa_3)), (q5g, .inl (cA, 480, .inl xx_3)), (q5h, .inl (cA, 480, .inl yy_3)), (q5i, .inl (cA, 250, .inl en_3))] := hD
      exact rt_i hx hb hr hlocks (th_3, ma_3, to_3, rn_3, rf_3, et_3, sp_3, ho_3, mo_3, cs_3, uw_3, wh_3, lo_3, pl_3, nu_3, de_3, si_3, ki_3, aa_3, xx_3, yy_3, en_3) (by simp only [f_X5_thing, if_neg c_1, if_neg c_2, ← hw_3]) hP hD hS dX5_thing_36
    · refine lv_bipush (v := (-3)) hx hb dX5_thing_26 (by decide) ?_
      refine lv_goto (tgt := 36) hx hb dX5_thing_28 (by decide) ?_
      exact rt_i hx hb hr hlocks (0, ma, to, rn, rf, et, sp, ho, mo, cs, uw, wh, lo, pl, nu, de, si, ki, aa, xx, yy, en) (by simp only [f_X5_thing, if_neg c_1, if_pos c_2]) hP hD hS dX5_thing_36
  · refine lv_bipush (v := (-2)) hx hb dX5_thing_12 (by decide) ?_
    refine lv_goto (tgt := 36) hx hb dX5_thing_14 (by decide) ?_
    exact rt_i hx hb hr hlocks (0, ma, to, rn, rf, et, sp, ho, mo, cs, uw, wh, lo, pl, nu, de, si, ki, aa, xx, yy, en) (by simp only [f_X5_thing, if_pos c_1]) hP hD hS dX5_thing_36
set_option maxHeartbeats 4000000 in
set_option maxRecDepth 100000 in
theorem c_X5_set (l : Launch) (dC : Nat → ClassId) (dI : Nat → Nat → Nat) (cA : ClassId) (q5 q5a q5b q5c q5d q5e q5f q5g q5h q5i : Nat) (sz : Nat) (th : Int32) (ma : Int32) (to : Int32) (rn : Int32) (rf : Int32) (et : Int32) (sp : Int32) (ho : Int32) (mo : Int32) (cs : Int32) (uw : Int32) (wh : Int32) (lo : Int32) (pl : Nat → Int32) (nu : Nat → Int32) (de : Nat → Int32) (si : Nat → Int32) (ki : Nat → Int32) (aa : Nat → Int32) (xx : Nat → Int32) (yy : Nat → Int32) (en : Nat → Int32) (p0 : Int32) (p1 : Int32) : Met l yX5_set wsX5_set ({ frames := 2, cells := 0, slots := 0, locals := 42 }) (pcW (dC, dI) [(q5, .inr (5, [.int th, .ref q5a, .int ma, .ref q5b, .ref q5c, .int to, .ref q5d, .ref q5e, .ref q5f, .ref q5g, .ref q5h, .int rn, .int rf, .int et, .ref q5i, .int sp, .int ho, .int mo, .int cs, .int uw, .int wh, .int lo])), (q5a, .inl (cA, 6, .inl pl)), (q5b, .inl (cA, 60, .inl nu)), (q5c, .inl (cA, 60, .inl de)), (q5d, .inl (cA, 40, .inl si)), (q5e, .inl (cA, 480, .inl ki)), (q5f, .inl (cA, 480, .inl aa)), (q5g, .inl (cA, 480, .inl xx)), (q5h, .inl (cA, 480, .inl yy)), (q5i, .inl (cA, 250, .inl en))] [(cA, .int)] sz [.ref q5, .int p0, .int p1]) (QWi (dC, dI) (f_X5_set th ma to rn rf et sp ho mo cs uw wh lo pl nu de si ki aa xx yy en p0 p1) (wd_mo cA q5 q5a q5b q5c q5d q5e q5f q5g q5h q5i) (va_A [(q5, .inr (5, [.int th, .ref q5a, .int ma, .ref q5b, .ref q5c, .int to, .ref q5d, .ref q5e, .ref q5f, .ref q5g, .ref q5h, .int rn, .int rf, .int et, .ref q5i, .int sp, .int ho, .int mo, .int cs, .int uw, .int wh, .int lo])), (q5a, .inl (cA, 6, .inl pl)), (q5b, .inl (cA, 60, .inl nu)), (q5c, .inl (cA, 60, .inl de)), (q5d, .inl (cA, 40, .inl si)), (q5e, .inl (cA, 480, .inl ki)), (q5f, .inl (cA, 480, .inl aa)), (q5g, .inl (cA, 480, .inl xx)), (q5h, .inl (cA, 480, .inl yy)), (q5i, .inl (cA, 250, .inl en))] sz)) 0 0 (va_A [(q5, .inr (5, [.int th, .ref q5a, .int ma, .ref q5b, .ref q5c, .int to, .ref q5d, .ref q5e, .ref q5f, .ref q5g, .ref q5h, .int rn, .int rf, .int et, .ref q5i, .int sp, .int ho, .int mo, .int cs, .int uw, .int wh, .int lo])), (q5a, .inl (cA, 6, .inl pl)), (q5b, .inl (cA, 60, .inl nu)), (q5c, .inl (cA, 60, .inl de)), (q5d, .inl (cA, 40, .inl si)), (q5e, .inl (cA, 480, .inl ki)), (q5f, .inl (cA, 480, .inl aa)), (q5g, .inl (cA, 480, .inl xx)), (q5h, .inl (cA, 480, .inl yy)), (q5i, .inl (cA, 250, .inl en))] sz) := by
  refine Met.ofW (cc := cX5_set) (maxL := 3) (ret := (some .int)) (by decide) rfl ?_
  intro p e s m args below meth c s₁ B hml hv
  obtain ⟨rfl, hsz, hN, hP, hK, hD0⟩ := hv
  have hx := B.exec
  have hb := B.bytes
  have hr := B.returns
  have hts := atoms_spec (ws := wsX5_set) B.pre
  have hown : s.vm.findClass RX5 = some m.cls := findClass_of_methodNamed B.named
  have hlocks := B.notSynchronized
  subst hsz
  have hD := hD0.self (sz := s.heap.size)
  generalize hAe : va_A [(q5, .inr (5, [.int th, .ref q5a, .int ma, .ref q5b, .ref q5c, .int to, .ref q5d, .ref q5e, .ref q5f, .ref q5g, .ref q5h, .int rn, .int rf, .int et, .ref q5i, .int sp, .int ho, .int mo, .int cs, .int uw, .int wh, .int lo])), (q5a, .inl (cA, 6, .inl pl)), (q5b, .inl (cA, 60, .inl nu)), (q5c, .inl (cA, 60, .inl de)), (q5d, .inl (cA, 40, .inl si)), (q5e, .inl (cA, 480, .inl ki)), (q5f, .inl (cA, 480, .inl aa)), (q5g, .inl (cA, 480, .inl xx)), (q5h, .inl (cA, 480, .inl yy)), (q5i, .inl (cA, 250, .inl en))] s.heap.size = A at hD ⊢
  have hA : ∀ q : Nat, s.heap.size ≤ q → A q := fun q h => by rw [← hAe]; exact Or.inr h
  have hS : va_S A s.heap s.heap [] := va_S.rf
  have hl := lv_entry ([.ref q5, .int p0, .int p1]) (n := 3) (Nat.le_of_ble_eq_true rfl)
  rw [lg_entry_eq]
  generalize (lg_sl ([.ref q5, .int p0, .int p1]) ++ List.replicate (3 - (lg_sl ([.ref q5, .int p0, .int p1])).length) Slot.unset).toArray = ls at hl ⊢
  have hl : lv_has ls 3 [(0, .ref q5), (1, .int p0), (2, .int p1)] := hl
  refine lv_aload_n hx hb dX5_set_0 rfl (lv_at hl 0 rfl) ?_
  refine lv_iconst (v := 0) hx hb dX5_set_1 (by decide) ?_
  refine va_put (D := (dC, dI)) (ci := 5) (v := .int 0) (ty := .int) (C := RX5) (T := TX5) (N := 22) hx hb hts (by decide +kernel) tyX5 tyX5_ok nmX5 hown hK hP hD hS 0 rfl rfl 0 (by decide) (hts (.fieldLink RX5 37 RX5 "thrown" "I") (by decide +kernel)) (fun _ h9 => h9) rfl (by decide +kernel) rfl rfl (Nat.le_of_ble_eq_true rfl) dX5_set_2 (fun H locs hP hD hS => ?_)
  have hP : va_P (dC, dI) vwCl [(q5, .inr (5, [.int 0, .ref q5a, .int ma, .ref q5b, .ref q5c, .int to, .ref q5d, .ref q5e, .ref q5f, .ref q5g, .ref q5h, .int rn, .int rf, .int et, .ref q5i, .int sp, .int ho, .int mo, .int cs, .int uw, .int wh, .int lo])), (q5a, .inl (cA, 6, .inl pl)), (q5b, .inl (cA, 60, .inl nu)), (q5c, .inl (cA, 60, .inl de)), (q5d, .inl (cA, 40, .inl si)), (q5e, .inl (cA, 480, .inl ki)), (q5f, .inl (cA, 480, .inl aa)), (q5g, .inl (cA, 480, .inl xx)), (q5h, .inl (cA, 480, .inl yy)), (q5i, .inl (cA, 250, .inl en))] H := hP
  have hD : va_D A [(q5, .inr (5, [.int 0, .ref q5a, .int ma, .ref q5b, .ref q5c, .int to, .ref q5d, .ref q5e, .ref q5f, .ref q5g, .ref q5h, .int rn, .int rf, .int et, .ref q5i, .int sp, .int ho, .int mo, .int cs, .int uw, .int wh, .int lo])), (q5a, .inl (cA, 6, .inl pl)), (q5b, .inl (cA, 60, .inl nu)), (q5c, .inl (cA, 60, .inl de)), (q5d, .inl (cA, 40, .inl si)), (q5e, .inl (cA, 480, .inl ki)), (q5f, .inl (cA, 480, .inl aa)), (q5g, .inl (cA, 480, .inl xx)), (q5h, .inl (cA, 480, .inl yy)), (q5i, .inl (cA, 250, .inl en))] := hD
  refine lv_iload_n hx hb dX5_set_5 rfl (lv_at hl 1 rfl) ?_
  refine kx_read (va_runS (As := [.int p0]) (rest := []) ⟨hx, hb, hml, hown, hts⟩ (c_X5_isPlace l p0) (cwS 1 hts gX5_set_X5_isPlace rfl rfl rfl (by decide +kernel) ⟨(Nat.le_of_ble_eq_true rfl), (Nat.le_of_ble_eq_true rfl)⟩) (pS hN) rfl rfl hl.1 rfl (lv_room (Nat.le_of_ble_eq_true rfl)) dX5_set_6 ⟨Nat.zero_le _, Nat.zero_le _⟩) ?_
  refine lv_if_eq (tgt := 21) hx hb dX5_set_9 (by decide) (fun c_1 => ?_) (fun c_1 => ?_)
  · refine lv_bipush (v := (-2)) hx hb dX5_set_21 (by decide) ?_
    exact rt_i hx hb hr hlocks (0, ma, to, rn, rf, et, sp, ho, mo, cs, uw, wh, lo, pl, nu, de, si, ki, aa, xx, yy, en) (by simp only [f_X5_set, if_pos c_1]) hP hD hS dX5_set_23
  · refine lv_iload_n hx hb dX5_set_12 rfl (lv_at hl 2 rfl) ?_
    refine lv_iconst (v := (-1)) hx hb dX5_set_13 (by decide) ?_
    refine lv_iconst (v := 5) hx hb dX5_set_14 (by decide) ?_
    refine kx_read (va_runS (As := [.int p1, .int (-1), .int 5]) (rest := []) ⟨hx, hb, hml, hown, hts⟩ (c_X5_in l p1 (-1) 5) (cwS 3 hts gX5_set_X5_in rfl rfl rfl (by decide +kernel) ⟨(Nat.le_of_ble_eq_true rfl), (Nat.le_of_ble_eq_true rfl)⟩) (pS hN) rfl rfl hl.1 rfl (lv_room (Nat.le_of_ble_eq_true rfl)) dX5_set_15 ⟨Nat.zero_le _, Nat.zero_le _⟩) ?_
    refine lv_if_ne (tgt := 24) hx hb dX5_set_18 (by decide) (fun c_2 => ?_) (fun c_2 => ?_)
    · refine lv_aload_n hx hb dX5_set_24 rfl (lv_at hl 0 rfl) ?_
      refine va_get (D := (dC, dI)) (ci := 5) (v := .ref q5a) (C := RX5) (T := TX5) (N := 22) hx hb hts (by decide +kernel) hown hK hP 0 rfl rfl 1 (by decide) (hts (.fieldLink RX5 7 RX5 "placed" "[I") (by decide +kernel)) (fun _ h9 => h9) rfl dX5_set_25 ?_
      refine lv_iload_n hx hb dX5_set_28 rfl (lv_at hl 1 rfl) ?_
      refine lv_iload_n hx hb dX5_set_29 rfl (lv_at hl 2 rfl) ?_
      refine lv_iconst (v := (-1)) hx hb dX5_set_30 (by decide) ?_
      refine lv_icmp_ne (tgt := 38) hx hb dX5_set_31 (by decide) (fun c_3 => ?_) (fun c_3 => ?_)
      · refine lv_aload_n hx hb dX5_set_38 rfl (lv_at hl 0 rfl) ?_
        refine va_get (D := (dC, dI)) (ci := 5) (v := .ref q5a) (C := RX5) (T := TX5) (N := 22) hx hb hts (by decide +kernel) hown hK hP 0 rfl rfl 1 (by decide) (hts (.fieldLink RX5 7 RX5 "placed" "[I") (by decide +kernel)) (fun _ h9 => h9) rfl dX5_set_39 ?_
        refine lv_iload_n hx hb dX5_set_42 rfl (lv_at hl 2 rfl) ?_
        refine va_iald hx hb hK hP 1 0 rfl rfl (m_setb c_2 c_3) dX5_set_43 ?_
        refine va_iast hx hb hK hP hD hS 1 0 rfl rfl (m_place c_1) dX5_set_44 (fun H locs hP hD hS => ?_)
        have hP : va_P (dC, dI) vwCl [(q5, .inr (5, [.int 0, .ref q5a, .int ma, .ref q5b, .ref q5c, .int to, .ref q5d, .ref q5e, .ref q5f, .ref q5g, .ref q5h, .int rn, .int rf, .int et, .ref q5i, .int sp, .int ho, .int mo, .int cs, .int uw, .int wh, .int lo])), (q5a, .inl (cA, 6, .inl (upd pl p0.toNatClampNeg (pl p1.toNatClampNeg)))), (q5b, .inl (cA, 60, .inl nu)), (q5c, .inl (cA, 60, .inl de)), (q5d, .inl (cA, 40, .inl si)), (q5e, .inl (cA, 480, .inl ki)), (q5f, .inl (cA, 480, .inl aa)), (q5g, .inl (cA, 480, .inl xx)), (q5h, .inl (cA, 480, .inl yy)), (q5i, .inl (cA, 250, .inl en))] H := hP
        have hD : va_D A [(q5, .inr (5, [.int 0, .ref q5a, .int ma, .ref q5b, .ref q5c, .int to, .ref q5d, .ref q5e, .ref q5f, .ref q5g, .ref q5h, .int rn, .int rf, .int et, .ref q5i, .int sp, .int ho, .int mo, .int cs, .int uw, .int wh, .int lo])), (q5a, .inl (cA, 6, .inl (upd pl p0.toNatClampNeg (pl p1.toNatClampNeg)))), (q5b, .inl (cA, 60, .inl nu)), (q5c, .inl (cA, 60, .inl de)), (q5d, .inl (cA, 40, .inl si)), (q5e, .inl (cA, 480, .inl ki)), (q5f, .inl (cA, 480, .inl aa)), (q5g, .inl (cA, 480, .inl xx)), (q5h, .inl (cA, 480, .inl yy)), (q5i, .inl (cA, 250, .inl en))] := hD
        refine lv_aload_n hx hb dX5_set_45 rfl (lv_at hl 0 rfl) ?_
        refine va_get (D := (dC, dI)) (ci := 5) (v := .ref q5a) (C := RX5) (T := TX5) (N := 22) hx hb hts (by decide +kernel) hown hK hP 0 rfl rfl 1 (by decide) (hts (.fieldLink RX5 7 RX5 "placed" "[I") (by decide +kernel)) (fun _ h9 => h9) rfl dX5_set_46 ?_
        refine lv_iload_n hx hb dX5_set_49 rfl (lv_at hl 1 rfl) ?_
        refine va_iald hx hb hK hP 1 0 rfl rfl (m_place c_1) dX5_set_50 ?_
        exact rt_i hx hb hr hlocks (0, ma, to, rn, rf, et, sp, ho, mo, cs, uw, wh, lo, (upd pl p0.toNatClampNeg (pl p1.toNatClampNeg)), nu, de, si, ki, aa, xx, yy, en) (by simp only [f_X5_set, if_neg c_1, if_neg c_2, if_neg c_3]) hP hD hS dX5_set_51
      · refine lv_iconst (v := (-1)) hx hb dX5_set_34 (by decide) ?_
        refine lv_goto (tgt := 44) hx hb dX5_set_35 (by decide) ?_
        refine va_iast hx hb hK hP hD hS 1 0 rfl rfl (m_place c_1) dX5_set_44 (fun H locs hP hD hS => ?_)
        have hP : va_P (dC, dI) vwCl [(q5, .inr (5, [.int 0, .ref q5a, .int ma, .ref q5b, .ref q5c, .int to, .ref q5d, .ref q5e, .ref q5f, .ref q5g, .ref q5h, .int rn, .int rf, .int et, .ref q5i, .int sp, .int ho, .int mo, .int cs, .int uw, .int wh, .int lo])), (q5a, .inl (cA, 6, .inl (upd pl p0.toNatClampNeg (-1)))), (q5b, .inl (cA, 60, .inl nu)), (q5c, .inl (cA, 60, .inl de)), (q5d, .inl (cA, 40, .inl si)), (q5e, .inl (cA, 480, .inl ki)), (q5f, .inl (cA, 480, .inl aa)), (q5g, .inl (cA, 480, .inl xx)), (q5h, .inl (cA, 480, .inl yy)), (q5i, .inl (cA, 250, .inl en))] H := hP
        have hD : va_D A [(q5, .inr (5, [.int 0, .ref q5a, .int ma, .ref q5b, .ref q5c, .int to, .ref q5d, .ref q5e, .ref q5f, .ref q5g, .ref q5h, .int rn, .int rf, .int et, .ref q5i, .int sp, .int ho, .int mo, .int cs, .int uw, .int wh, .int lo])), (q5a, .inl (cA, 6, .inl (upd pl p0.toNatClampNeg (-1)))), (q5b, .inl (cA, 60, .inl nu)), (q5c, .inl (cA, 60, .inl de)), (q5d, .inl (cA, 40, .inl si)), (q5e, .inl (cA, 480, .inl ki)), (q5f, .inl (cA, 480, .inl aa)), (q5g, .inl (cA, 480, .inl xx)), (q5h, .inl (cA, 480, .inl yy)), (q5i, .inl (cA, 250, .inl en))] := hD
        refine lv_aload_n hx hb dX5_set_45 rfl (lv_at hl 0 rfl) ?_
        refine va_get (D := (dC, dI)) (ci := 5) (v := .ref q5a) (C := RX5) (T := TX5) (N := 22) hx hb hts (by decide +kernel) hown hK hP 0 rfl rfl 1 (by decide) (hts (.fieldLink RX5 7 RX5 "placed" "[I") (by decide +kernel)) (fun _ h9 => h9) rfl dX5_set_46 ?_
        refine lv_iload_n hx hb dX5_set_49 rfl (lv_at hl 1 rfl) ?_
        refine va_iald hx hb hK hP 1 0 rfl rfl (m_place c_1) dX5_set_50 ?_
        exact rt_i hx hb hr hlocks (0, ma, to, rn, rf, et, sp, ho, mo, cs, uw, wh, lo, (upd pl p0.toNatClampNeg (-1)), nu, de, si, ki, aa, xx, yy, en) (by simp only [f_X5_set, if_neg c_1, if_neg c_2, if_pos c_3]) hP hD hS dX5_set_51
    · refine lv_bipush (v := (-2)) hx hb dX5_set_21 (by decide) ?_
      exact rt_i hx hb hr hlocks (0, ma, to, rn, rf, et, sp, ho, mo, cs, uw, wh, lo, pl, nu, de, si, ki, aa, xx, yy, en) (by simp only [f_X5_set, if_neg c_1, if_pos c_2]) hP hD hS dX5_set_23
set_option maxHeartbeats 4000000 in
set_option maxRecDepth 100000 in
theorem c_X5_step (l : Launch) (dC : Nat → ClassId) (dI : Nat → Nat → Nat) (cA : ClassId) (q5 q5a q5b q5c q5d q5e q5f q5g q5h q5i : Nat) (sz : Nat) (th : Int32) (ma : Int32) (to : Int32) (rn : Int32) (rf : Int32) (et : Int32) (sp : Int32) (ho : Int32) (mo : Int32) (cs : Int32) (uw : Int32) (wh : Int32) (lo : Int32) (pl : Nat → Int32) (nu : Nat → Int32) (de : Nat → Int32) (si : Nat → Int32) (ki : Nat → Int32) (aa : Nat → Int32) (xx : Nat → Int32) (yy : Nat → Int32) (en : Nat → Int32) (p0 : Int32) (p1 : Int32) (p2 : Int32) (p3 : Int32) (p4 : Int32) (hsi : ∀ b : Nat, b < 40 → 0 ≤ (si b).toInt ∧ (si b).toInt ≤ 12) : Met l yX5_step wsX5_step ({ frames := 3, cells := 0, slots := 0, locals := 66 }) (pcW (dC, dI) [(q5, .inr (5, [.int th, .ref q5a, .int ma, .ref q5b, .ref q5c, .int to, .ref q5d, .ref q5e, .ref q5f, .ref q5g, .ref q5h, .int rn, .int rf, .int et, .ref q5i, .int sp, .int ho, .int mo, .int cs, .int uw, .int wh, .int lo])), (q5a, .inl (cA, 6, .inl pl)), (q5b, .inl (cA, 60, .inl nu)), (q5c, .inl (cA, 60, .inl de)), (q5d, .inl (cA, 40, .inl si)), (q5e, .inl (cA, 480, .inl ki)), (q5f, .inl (cA, 480, .inl aa)), (q5g, .inl (cA, 480, .inl xx)), (q5h, .inl (cA, 480, .inl yy)), (q5i, .inl (cA, 250, .inl en))] [(cA, .int)] sz [.ref q5, .int p0, .int p1, .int p2, .int p3, .int p4]) (QWi (dC, dI) (f_X5_step th ma to rn rf et sp ho mo cs uw wh lo pl nu de si ki aa xx yy en p0 p1 p2 p3 p4) (wd_mo cA q5 q5a q5b q5c q5d q5e q5f q5g q5h q5i) (va_A [(q5, .inr (5, [.int th, .ref q5a, .int ma, .ref q5b, .ref q5c, .int to, .ref q5d, .ref q5e, .ref q5f, .ref q5g, .ref q5h, .int rn, .int rf, .int et, .ref q5i, .int sp, .int ho, .int mo, .int cs, .int uw, .int wh, .int lo])), (q5a, .inl (cA, 6, .inl pl)), (q5b, .inl (cA, 60, .inl nu)), (q5c, .inl (cA, 60, .inl de)), (q5d, .inl (cA, 40, .inl si)), (q5e, .inl (cA, 480, .inl ki)), (q5f, .inl (cA, 480, .inl aa)), (q5g, .inl (cA, 480, .inl xx)), (q5h, .inl (cA, 480, .inl yy)), (q5i, .inl (cA, 250, .inl en))] sz)) 0 0 (va_A [(q5, .inr (5, [.int th, .ref q5a, .int ma, .ref q5b, .ref q5c, .int to, .ref q5d, .ref q5e, .ref q5f, .ref q5g, .ref q5h, .int rn, .int rf, .int et, .ref q5i, .int sp, .int ho, .int mo, .int cs, .int uw, .int wh, .int lo])), (q5a, .inl (cA, 6, .inl pl)), (q5b, .inl (cA, 60, .inl nu)), (q5c, .inl (cA, 60, .inl de)), (q5d, .inl (cA, 40, .inl si)), (q5e, .inl (cA, 480, .inl ki)), (q5f, .inl (cA, 480, .inl aa)), (q5g, .inl (cA, 480, .inl xx)), (q5h, .inl (cA, 480, .inl yy)), (q5i, .inl (cA, 250, .inl en))] sz) := by
  refine Met.ofW (cc := cX5_step) (maxL := 7) (ret := (some .int)) (by decide) rfl ?_
  intro p e s m args below meth c s₁ B hml hv
  obtain ⟨rfl, hsz, hN, hP, hK, hD0⟩ := hv
  have hx := B.exec
  have hb := B.bytes
  have hr := B.returns
  have hts := atoms_spec (ws := wsX5_step) B.pre
  have hown : s.vm.findClass RX5 = some m.cls := findClass_of_methodNamed B.named
  have hlocks := B.notSynchronized
  subst hsz
  have hD := hD0.self (sz := s.heap.size)
  generalize hAe : va_A [(q5, .inr (5, [.int th, .ref q5a, .int ma, .ref q5b, .ref q5c, .int to, .ref q5d, .ref q5e, .ref q5f, .ref q5g, .ref q5h, .int rn, .int rf, .int et, .ref q5i, .int sp, .int ho, .int mo, .int cs, .int uw, .int wh, .int lo])), (q5a, .inl (cA, 6, .inl pl)), (q5b, .inl (cA, 60, .inl nu)), (q5c, .inl (cA, 60, .inl de)), (q5d, .inl (cA, 40, .inl si)), (q5e, .inl (cA, 480, .inl ki)), (q5f, .inl (cA, 480, .inl aa)), (q5g, .inl (cA, 480, .inl xx)), (q5h, .inl (cA, 480, .inl yy)), (q5i, .inl (cA, 250, .inl en))] s.heap.size = A at hD ⊢
  have hA : ∀ q : Nat, s.heap.size ≤ q → A q := fun q h => by rw [← hAe]; exact Or.inr h
  have hS : va_S A s.heap s.heap [] := va_S.rf
  have hl := lv_entry ([.ref q5, .int p0, .int p1, .int p2, .int p3, .int p4]) (n := 7) (Nat.le_of_ble_eq_true rfl)
  rw [lg_entry_eq]
  generalize (lg_sl ([.ref q5, .int p0, .int p1, .int p2, .int p3, .int p4]) ++ List.replicate (7 - (lg_sl ([.ref q5, .int p0, .int p1, .int p2, .int p3, .int p4])).length) Slot.unset).toArray = ls at hl ⊢
  have hl : lv_has ls 7 [(0, .ref q5), (1, .int p0), (2, .int p1), (3, .int p2), (4, .int p3), (5, .int p4)] := hl
  refine lv_aload_n hx hb dX5_step_0 rfl (lv_at hl 0 rfl) ?_
  refine lv_iconst (v := 0) hx hb dX5_step_1 (by decide) ?_
  refine va_put (D := (dC, dI)) (ci := 5) (v := .int 0) (ty := .int) (C := RX5) (T := TX5) (N := 22) hx hb hts (by decide +kernel) tyX5 tyX5_ok nmX5 hown hK hP hD hS 0 rfl rfl 0 (by decide) (hts (.fieldLink RX5 37 RX5 "thrown" "I") (by decide +kernel)) (fun _ h9 => h9) rfl (by decide +kernel) rfl rfl (Nat.le_of_ble_eq_true rfl) dX5_step_2 (fun H locs hP hD hS => ?_)
  have hP : va_P (dC, dI) vwCl [(q5, .inr (5, [.int 0, .ref q5a, .int ma, .ref q5b, .ref q5c, .int to, .ref q5d, .ref q5e, .ref q5f, .ref q5g, .ref q5h, .int rn, .int rf, .int et, .ref q5i, .int sp, .int ho, .int mo, .int cs, .int uw, .int wh, .int lo])), (q5a, .inl (cA, 6, .inl pl)), (q5b, .inl (cA, 60, .inl nu)), (q5c, .inl (cA, 60, .inl de)), (q5d, .inl (cA, 40, .inl si)), (q5e, .inl (cA, 480, .inl ki)), (q5f, .inl (cA, 480, .inl aa)), (q5g, .inl (cA, 480, .inl xx)), (q5h, .inl (cA, 480, .inl yy)), (q5i, .inl (cA, 250, .inl en))] H := hP
  have hD : va_D A [(q5, .inr (5, [.int 0, .ref q5a, .int ma, .ref q5b, .ref q5c, .int to, .ref q5d, .ref q5e, .ref q5f, .ref q5g, .ref q5h, .int rn, .int rf, .int et, .ref q5i, .int sp, .int ho, .int mo, .int cs, .int uw, .int wh, .int lo])), (q5a, .inl (cA, 6, .inl pl)), (q5b, .inl (cA, 60, .inl nu)), (q5c, .inl (cA, 60, .inl de)), (q5d, .inl (cA, 40, .inl si)), (q5e, .inl (cA, 480, .inl ki)), (q5f, .inl (cA, 480, .inl aa)), (q5g, .inl (cA, 480, .inl xx)), (q5h, .inl (cA, 480, .inl yy)), (q5i, .inl (cA, 250, .inl en))] := hD
  refine lv_iload_n hx hb dX5_step_5 rfl (lv_at hl 1 rfl) ?_
  refine lv_iconst (v := 0) hx hb dX5_step_6 (by decide) ?_
  refine lv_bipush (v := 39) hx hb dX5_step_7 (by decide) ?_
  refine kx_read (va_runS (As := [.int p0, .int 0, .int 39]) (rest := []) ⟨hx, hb, hml, hown, hts⟩ (c_X5_in l p0 0 39) (cwS 3 hts gX5_step_X5_in rfl rfl rfl (by decide +kernel) ⟨(Nat.le_of_ble_eq_true rfl), (Nat.le_of_ble_eq_true rfl)⟩) (pS hN) rfl rfl hl.1 rfl (lv_room (Nat.le_of_ble_eq_true rfl)) dX5_step_9 ⟨Nat.zero_le _, Nat.zero_le _⟩) ?_
  refine lv_if_eq (tgt := 38) hx hb dX5_step_12 (by decide) (fun c_1 => ?_) (fun c_1 => ?_)
  · refine lv_bipush (v := (-2)) hx hb dX5_step_38 (by decide) ?_
    exact rt_i hx hb hr hlocks (0, ma, to, rn, rf, et, sp, ho, mo, cs, uw, wh, lo, pl, nu, de, si, ki, aa, xx, yy, en) (by simp only [f_X5_step, if_pos c_1]) hP hD hS dX5_step_40
  · refine lv_iload_n hx hb dX5_step_15 rfl (lv_at hl 2 rfl) ?_
    refine lv_iconst (v := 0) hx hb dX5_step_16 (by decide) ?_
    refine lv_bipush (v := 14) hx hb dX5_step_17 (by decide) ?_
    refine kx_read (va_runS (As := [.int p1, .int 0, .int 14]) (rest := []) ⟨hx, hb, hml, hown, hts⟩ (c_X5_in l p1 0 14) (cwS 3 hts gX5_step_X5_in rfl rfl rfl (by decide +kernel) ⟨(Nat.le_of_ble_eq_true rfl), (Nat.le_of_ble_eq_true rfl)⟩) (pS hN) rfl rfl hl.1 rfl (lv_room (Nat.le_of_ble_eq_true rfl)) dX5_step_19 ⟨Nat.zero_le _, Nat.zero_le _⟩) ?_
    refine lv_if_eq (tgt := 38) hx hb dX5_step_22 (by decide) (fun c_2 => ?_) (fun c_2 => ?_)
    · refine lv_bipush (v := (-2)) hx hb dX5_step_38 (by decide) ?_
      exact rt_i hx hb hr hlocks (0, ma, to, rn, rf, et, sp, ho, mo, cs, uw, wh, lo, pl, nu, de, si, ki, aa, xx, yy, en) (by simp only [f_X5_step, if_neg c_1, if_pos c_2]) hP hD hS dX5_step_40
    · refine lv_iload_n hx hb dX5_step_25 rfl (lv_at hl 1 rfl) ?_
      refine lv_iload_n hx hb dX5_step_26 rfl (lv_at hl 2 rfl) ?_
      refine lv_iload_n hx hb dX5_step_27 rfl (lv_at hl 3 rfl) ?_
      refine lv_iload hx hb dX5_step_28 (lv_at hl 4 rfl) ?_
      refine lv_iload hx hb dX5_step_30 (lv_at hl 5 rfl) ?_
      refine kx_read (va_runS (As := [.int p0, .int p1, .int p2, .int p3, .int p4]) (rest := []) ⟨hx, hb, hml, hown, hts⟩ (c_X5_isRight l p0 p1 p2 p3 p4) (cwS 5 hts gX5_step_X5_isRight rfl rfl rfl (by decide +kernel) ⟨(Nat.le_of_ble_eq_true rfl), (Nat.le_of_ble_eq_true rfl)⟩) (pS hN) rfl rfl hl.1 rfl (lv_room (Nat.le_of_ble_eq_true rfl)) dX5_step_32 ⟨Nat.zero_le _, Nat.zero_le _⟩) ?_
      refine lv_if_ne (tgt := 41) hx hb dX5_step_35 (by decide) (fun c_3 => ?_) (fun c_3 => ?_)
      · refine lv_aload_n hx hb dX5_step_41 rfl (lv_at hl 0 rfl) ?_
        refine va_get (D := (dC, dI)) (ci := 5) (v := .ref q5d) (C := RX5) (T := TX5) (N := 22) hx hb hts (by decide +kernel) hown hK hP 0 rfl rfl 6 (by decide) (hts (.fieldLink RX5 19 RX5 "many" "[I") (by decide +kernel)) (fun _ h9 => h9) rfl dX5_step_42 ?_
        refine lv_iload_n hx hb dX5_step_45 rfl (lv_at hl 1 rfl) ?_
        refine va_iald hx hb hK hP 4 0 rfl rfl (m_block c_1) dX5_step_46 ?_
        refine lv_bipush (v := 12) hx hb dX5_step_47 (by decide) ?_
        refine lv_icmp_eq (tgt := 62) hx hb dX5_step_49 (by decide) (fun c_4 => ?_) (fun c_4 => ?_)
        · refine lv_bipush (v := (-3)) hx hb dX5_step_62 (by decide) ?_
          exact rt_i hx hb hr hlocks (0, ma, to, rn, rf, et, sp, ho, mo, cs, uw, wh, lo, pl, nu, de, si, ki, aa, xx, yy, en) (by simp only [f_X5_step, if_neg c_1, if_neg c_2, if_neg c_3, if_pos c_4]) hP hD hS dX5_step_64
        · refine lv_aload_n hx hb dX5_step_52 rfl (lv_at hl 0 rfl) ?_
          refine va_get (D := (dC, dI)) (ci := 5) (v := .int to) (C := RX5) (T := TX5) (N := 22) hx hb hts (by decide +kernel) hown hK hP 0 rfl rfl 5 (by decide) (hts (.fieldLink RX5 64 RX5 "steps" "I") (by decide +kernel)) (fun _ h9 => h9) rfl dX5_step_53 ?_
          refine lv_sipush (v := 150) hx hb dX5_step_56 (by decide) ?_
          refine lv_icmp_ne (tgt := 65) hx hb dX5_step_59 (by decide) (fun c_5 => ?_) (fun c_5 => ?_)
          · refine lv_bipush (v := 12) hx hb dX5_step_65 (by decide) ?_
            refine lv_iload_n hx hb dX5_step_67 rfl (lv_at hl 1 rfl) ?_
            refine lv_imul hx hb dX5_step_68 ?_
            refine lv_aload_n hx hb dX5_step_69 rfl (lv_at hl 0 rfl) ?_
            refine va_get (D := (dC, dI)) (ci := 5) (v := .ref q5d) (C := RX5) (T := TX5) (N := 22) hx hb hts (by decide +kernel) hown hK hP 0 rfl rfl 6 (by decide) (hts (.fieldLink RX5 19 RX5 "many" "[I") (by decide +kernel)) (fun _ h9 => h9) rfl dX5_step_70 ?_
            refine lv_iload_n hx hb dX5_step_73 rfl (lv_at hl 1 rfl) ?_
            refine va_iald hx hb hK hP 4 0 rfl rfl (m_block c_1) dX5_step_74 ?_
            refine lv_iadd hx hb dX5_step_75 ?_
            refine lv_istore (lv' := [(6, .int ((12 * p0) + (si p0.toNatClampNeg))), (0, .ref q5), (1, .int p0), (2, .int p1), (3, .int p2), (4, .int p3), (5, .int p4)]) hx hb dX5_step_76 hl (by decide) rfl (fun ls hl => ?_)
            refine lv_aload_n hx hb dX5_step_78 rfl (lv_at hl 1 rfl) ?_
            refine va_get (D := (dC, dI)) (ci := 5) (v := .ref q5e) (C := RX5) (T := TX5) (N := 22) hx hb hts (by decide +kernel) hown hK hP 0 rfl rfl 7 (by decide) (hts (.fieldLink RX5 22 RX5 "kinds" "[I") (by decide +kernel)) (fun _ h9 => h9) rfl dX5_step_79 ?_
            refine lv_iload hx hb dX5_step_82 (lv_at hl 0 rfl) ?_
            refine lv_iload_n hx hb dX5_step_84 rfl (lv_at hl 3 rfl) ?_
            refine va_iast hx hb hK hP hD hS 5 0 rfl rfl (m_slot hsi (m_block c_1) c_4) dX5_step_85 (fun H locs hP hD hS => ?_)
            have hP : va_P (dC, dI) vwCl [(q5, .inr (5, [.int 0, .ref q5a, .int ma, .ref q5b, .ref q5c, .int to, .ref q5d, .ref q5e, .ref q5f, .ref q5g, .ref q5h, .int rn, .int rf, .int et, .ref q5i, .int sp, .int ho, .int mo, .int cs, .int uw, .int wh, .int lo])), (q5a, .inl (cA, 6, .inl pl)), (q5b, .inl (cA, 60, .inl nu)), (q5c, .inl (cA, 60, .inl de)), (q5d, .inl (cA, 40, .inl si)), (q5e, .inl (cA, 480, .inl (upd ki ((12 * p0) + (si p0.toNatClampNeg)).toNatClampNeg p1))), (q5f, .inl (cA, 480, .inl aa)), (q5g, .inl (cA, 480, .inl xx)), (q5h, .inl (cA, 480, .inl yy)), (q5i, .inl (cA, 250, .inl en))] H := hP
            have hD : va_D A [(q5, .inr (5, [.int 0, .ref q5a, .int ma, .ref q5b, .ref q5c, .int to, .ref q5d, .ref q5e, .ref q5f, .ref q5g, .ref q5h, .int rn, .int rf, .int et, .ref q5i, .int sp, .int ho, .int mo, .int cs, .int uw, .int wh, .int lo])), (q5a, .inl (cA, 6, .inl pl)), (q5b, .inl (cA, 60, .inl nu)), (q5c, .inl (cA, 60, .inl de)), (q5d, .inl (cA, 40, .inl si)), (q5e, .inl (cA, 480, .inl (upd ki ((12 * p0) + (si p0.toNatClampNeg)).toNatClampNeg p1))), (q5f, .inl (cA, 480, .inl aa)), (q5g, .inl (cA, 480, .inl xx)), (q5h, .inl (cA, 480, .inl yy)), (q5i, .inl (cA, 250, .inl en))] := hD
            refine lv_aload_n hx hb dX5_step_86 rfl (lv_at hl 1 rfl) ?_
            refine va_get (D := (dC, dI)) (ci := 5) (v := .ref q5f) (C := RX5) (T := TX5) (N := 22) hx hb hts (by decide +kernel) hown hK hP 0 rfl rfl 8 (by decide) (hts (.fieldLink RX5 25 RX5 "as" "[I") (by decide +kernel)) (fun _ h9 => h9) rfl dX5_step_87 ?_
            refine lv_iload hx hb dX5_step_90 (lv_at hl 0 rfl) ?_
            refine lv_iload_n hx hb dX5_step_92 rfl (lv_at hl 4 rfl) ?_
            refine va_iast hx hb hK hP hD hS 6 0 rfl rfl (m_slot hsi (m_block c_1) c_4) dX5_step_93 (fun H locs hP hD hS => ?_)
            have hP : va_P (dC, dI) vwCl [(q5, .inr (5, [.int 0, .ref q5a, .int ma, .ref q5b, .ref q5c, .int to, .ref q5d, .ref q5e, .ref q5f, .ref q5g, .ref q5h, .int rn, .int rf, .int et, .ref q5i, .int sp, .int ho, .int mo, .int cs, .int uw, .int wh, .int lo])), (q5a, .inl (cA, 6, .inl pl)), (q5b, .inl (cA, 60, .inl nu)), (q5c, .inl (cA, 60, .inl de)), (q5d, .inl (cA, 40, .inl si)), (q5e, .inl (cA, 480, .inl (upd ki ((12 * p0) + (si p0.toNatClampNeg)).toNatClampNeg p1))), (q5f, .inl (cA, 480, .inl (upd aa ((12 * p0) + (si p0.toNatClampNeg)).toNatClampNeg p2))), (q5g, .inl (cA, 480, .inl xx)), (q5h, .inl (cA, 480, .inl yy)), (q5i, .inl (cA, 250, .inl en))] H := hP
            have hD : va_D A [(q5, .inr (5, [.int 0, .ref q5a, .int ma, .ref q5b, .ref q5c, .int to, .ref q5d, .ref q5e, .ref q5f, .ref q5g, .ref q5h, .int rn, .int rf, .int et, .ref q5i, .int sp, .int ho, .int mo, .int cs, .int uw, .int wh, .int lo])), (q5a, .inl (cA, 6, .inl pl)), (q5b, .inl (cA, 60, .inl nu)), (q5c, .inl (cA, 60, .inl de)), (q5d, .inl (cA, 40, .inl si)), (q5e, .inl (cA, 480, .inl (upd ki ((12 * p0) + (si p0.toNatClampNeg)).toNatClampNeg p1))), (q5f, .inl (cA, 480, .inl (upd aa ((12 * p0) + (si p0.toNatClampNeg)).toNatClampNeg p2))), (q5g, .inl (cA, 480, .inl xx)), (q5h, .inl (cA, 480, .inl yy)), (q5i, .inl (cA, 250, .inl en))] := hD
            refine lv_aload_n hx hb dX5_step_94 rfl (lv_at hl 1 rfl) ?_
            refine va_get (D := (dC, dI)) (ci := 5) (v := .ref q5g) (C := RX5) (T := TX5) (N := 22) hx hb hts (by decide +kernel) hown hK hP 0 rfl rfl 9 (by decide) (hts (.fieldLink RX5 28 RX5 "xs" "[I") (by decide +kernel)) (fun _ h9 => h9) rfl dX5_step_95 ?_
            refine lv_iload hx hb dX5_step_98 (lv_at hl 0 rfl) ?_
            refine lv_iload hx hb dX5_step_100 (lv_at hl 5 rfl) ?_
            refine va_iast hx hb hK hP hD hS 7 0 rfl rfl (m_slot hsi (m_block c_1) c_4) dX5_step_102 (fun H locs hP hD hS => ?_)
            have hP : va_P (dC, dI) vwCl [(q5, .inr (5, [.int 0, .ref q5a, .int ma, .ref q5b, .ref q5c, .int to, .ref q5d, .ref q5e, .ref q5f, .ref q5g, .ref q5h, .int rn, .int rf, .int et, .ref q5i, .int sp, .int ho, .int mo, .int cs, .int uw, .int wh, .int lo])), (q5a, .inl (cA, 6, .inl pl)), (q5b, .inl (cA, 60, .inl nu)), (q5c, .inl (cA, 60, .inl de)), (q5d, .inl (cA, 40, .inl si)), (q5e, .inl (cA, 480, .inl (upd ki ((12 * p0) + (si p0.toNatClampNeg)).toNatClampNeg p1))), (q5f, .inl (cA, 480, .inl (upd aa ((12 * p0) + (si p0.toNatClampNeg)).toNatClampNeg p2))), (q5g, .inl (cA, 480, .inl (upd xx ((12 * p0) + (si p0.toNatClampNeg)).toNatClampNeg p3))), (q5h, .inl (cA, 480, .inl yy)), (q5i, .inl (cA, 250, .inl en))] H := hP
            have hD : va_D A [(q5, .inr (5, [.int 0, .ref q5a, .int ma, .ref q5b, .ref q5c, .int to, .ref q5d, .ref q5e, .ref q5f, .ref q5g, .ref q5h, .int rn, .int rf, .int et, .ref q5i, .int sp, .int ho, .int mo, .int cs, .int uw, .int wh, .int lo])), (q5a, .inl (cA, 6, .inl pl)), (q5b, .inl (cA, 60, .inl nu)), (q5c, .inl (cA, 60, .inl de)), (q5d, .inl (cA, 40, .inl si)), (q5e, .inl (cA, 480, .inl (upd ki ((12 * p0) + (si p0.toNatClampNeg)).toNatClampNeg p1))), (q5f, .inl (cA, 480, .inl (upd aa ((12 * p0) + (si p0.toNatClampNeg)).toNatClampNeg p2))), (q5g, .inl (cA, 480, .inl (upd xx ((12 * p0) + (si p0.toNatClampNeg)).toNatClampNeg p3))), (q5h, .inl (cA, 480, .inl yy)), (q5i, .inl (cA, 250, .inl en))] := hD
            refine lv_aload_n hx hb dX5_step_103 rfl (lv_at hl 1 rfl) ?_
            refine va_get (D := (dC, dI)) (ci := 5) (v := .ref q5h) (C := RX5) (T := TX5) (N := 22) hx hb hts (by decide +kernel) hown hK hP 0 rfl rfl 10 (by decide) (hts (.fieldLink RX5 31 RX5 "ys" "[I") (by decide +kernel)) (fun _ h9 => h9) rfl dX5_step_104 ?_
            refine lv_iload hx hb dX5_step_107 (lv_at hl 0 rfl) ?_
            refine lv_iload hx hb dX5_step_109 (lv_at hl 6 rfl) ?_
            refine va_iast hx hb hK hP hD hS 8 0 rfl rfl (m_slot hsi (m_block c_1) c_4) dX5_step_111 (fun H locs hP hD hS => ?_)
            have hP : va_P (dC, dI) vwCl [(q5, .inr (5, [.int 0, .ref q5a, .int ma, .ref q5b, .ref q5c, .int to, .ref q5d, .ref q5e, .ref q5f, .ref q5g, .ref q5h, .int rn, .int rf, .int et, .ref q5i, .int sp, .int ho, .int mo, .int cs, .int uw, .int wh, .int lo])), (q5a, .inl (cA, 6, .inl pl)), (q5b, .inl (cA, 60, .inl nu)), (q5c, .inl (cA, 60, .inl de)), (q5d, .inl (cA, 40, .inl si)), (q5e, .inl (cA, 480, .inl (upd ki ((12 * p0) + (si p0.toNatClampNeg)).toNatClampNeg p1))), (q5f, .inl (cA, 480, .inl (upd aa ((12 * p0) + (si p0.toNatClampNeg)).toNatClampNeg p2))), (q5g, .inl (cA, 480, .inl (upd xx ((12 * p0) + (si p0.toNatClampNeg)).toNatClampNeg p3))), (q5h, .inl (cA, 480, .inl (upd yy ((12 * p0) + (si p0.toNatClampNeg)).toNatClampNeg p4))), (q5i, .inl (cA, 250, .inl en))] H := hP
            have hD : va_D A [(q5, .inr (5, [.int 0, .ref q5a, .int ma, .ref q5b, .ref q5c, .int to, .ref q5d, .ref q5e, .ref q5f, .ref q5g, .ref q5h, .int rn, .int rf, .int et, .ref q5i, .int sp, .int ho, .int mo, .int cs, .int uw, .int wh, .int lo])), (q5a, .inl (cA, 6, .inl pl)), (q5b, .inl (cA, 60, .inl nu)), (q5c, .inl (cA, 60, .inl de)), (q5d, .inl (cA, 40, .inl si)), (q5e, .inl (cA, 480, .inl (upd ki ((12 * p0) + (si p0.toNatClampNeg)).toNatClampNeg p1))), (q5f, .inl (cA, 480, .inl (upd aa ((12 * p0) + (si p0.toNatClampNeg)).toNatClampNeg p2))), (q5g, .inl (cA, 480, .inl (upd xx ((12 * p0) + (si p0.toNatClampNeg)).toNatClampNeg p3))), (q5h, .inl (cA, 480, .inl (upd yy ((12 * p0) + (si p0.toNatClampNeg)).toNatClampNeg p4))), (q5i, .inl (cA, 250, .inl en))] := hD
            refine lv_aload_n hx hb dX5_step_112 rfl (lv_at hl 1 rfl) ?_
            refine va_get (D := (dC, dI)) (ci := 5) (v := .ref q5d) (C := RX5) (T := TX5) (N := 22) hx hb hts (by decide +kernel) hown hK hP 0 rfl rfl 6 (by decide) (hts (.fieldLink RX5 19 RX5 "many" "[I") (by decide +kernel)) (fun _ h9 => h9) rfl dX5_step_113 ?_
            refine lv_iload_n hx hb dX5_step_116 rfl (lv_at hl 2 rfl) ?_
            refine lv_dup2_11 hx hb dX5_step_117 rfl rfl ?_
            refine va_iald hx hb hK hP 4 0 rfl rfl (m_block c_1) dX5_step_118 ?_
            refine lv_iconst (v := 1) hx hb dX5_step_119 (by decide) ?_
            refine lv_iadd hx hb dX5_step_120 ?_
            refine va_iast hx hb hK hP hD hS 4 0 rfl rfl (m_block c_1) dX5_step_121 (fun H locs hP hD hS => ?_)
            have hP : va_P (dC, dI) vwCl [(q5, .inr (5, [.int 0, .ref q5a, .int ma, .ref q5b, .ref q5c, .int to, .ref q5d, .ref q5e, .ref q5f, .ref q5g, .ref q5h, .int rn, .int rf, .int et, .ref q5i, .int sp, .int ho, .int mo, .int cs, .int uw, .int wh, .int lo])), (q5a, .inl (cA, 6, .inl pl)), (q5b, .inl (cA, 60, .inl nu)), (q5c, .inl (cA, 60, .inl de)), (q5d, .inl (cA, 40, .inl (upd si p0.toNatClampNeg ((si p0.toNatClampNeg) + 1)))), (q5e, .inl (cA, 480, .inl (upd ki ((12 * p0) + (si p0.toNatClampNeg)).toNatClampNeg p1))), (q5f, .inl (cA, 480, .inl (upd aa ((12 * p0) + (si p0.toNatClampNeg)).toNatClampNeg p2))), (q5g, .inl (cA, 480, .inl (upd xx ((12 * p0) + (si p0.toNatClampNeg)).toNatClampNeg p3))), (q5h, .inl (cA, 480, .inl (upd yy ((12 * p0) + (si p0.toNatClampNeg)).toNatClampNeg p4))), (q5i, .inl (cA, 250, .inl en))] H := hP
            have hD : va_D A [(q5, .inr (5, [.int 0, .ref q5a, .int ma, .ref q5b, .ref q5c, .int to, .ref q5d, .ref q5e, .ref q5f, .ref q5g, .ref q5h, .int rn, .int rf, .int et, .ref q5i, .int sp, .int ho, .int mo, .int cs, .int uw, .int wh, .int lo])), (q5a, .inl (cA, 6, .inl pl)), (q5b, .inl (cA, 60, .inl nu)), (q5c, .inl (cA, 60, .inl de)), (q5d, .inl (cA, 40, .inl (upd si p0.toNatClampNeg ((si p0.toNatClampNeg) + 1)))), (q5e, .inl (cA, 480, .inl (upd ki ((12 * p0) + (si p0.toNatClampNeg)).toNatClampNeg p1))), (q5f, .inl (cA, 480, .inl (upd aa ((12 * p0) + (si p0.toNatClampNeg)).toNatClampNeg p2))), (q5g, .inl (cA, 480, .inl (upd xx ((12 * p0) + (si p0.toNatClampNeg)).toNatClampNeg p3))), (q5h, .inl (cA, 480, .inl (upd yy ((12 * p0) + (si p0.toNatClampNeg)).toNatClampNeg p4))), (q5i, .inl (cA, 250, .inl en))] := hD
            refine lv_aload_n hx hb dX5_step_122 rfl (lv_at hl 1 rfl) ?_
            refine lv_dup hx hb dX5_step_123 rfl ?_
            refine va_get (D := (dC, dI)) (ci := 5) (v := .int to) (C := RX5) (T := TX5) (N := 22) hx hb hts (by decide +kernel) hown hK hP 0 rfl rfl 5 (by decide) (hts (.fieldLink RX5 64 RX5 "steps" "I") (by decide +kernel)) (fun _ h9 => h9) rfl dX5_step_124 ?_
            refine lv_iconst (v := 1) hx hb dX5_step_127 (by decide) ?_
            refine lv_iadd hx hb dX5_step_128 ?_
            refine va_put (D := (dC, dI)) (ci := 5) (v := .int (to + 1)) (ty := .int) (C := RX5) (T := TX5) (N := 22) hx hb hts (by decide +kernel) tyX5 tyX5_ok nmX5 hown hK hP hD hS 0 rfl rfl 5 (by decide) (hts (.fieldLink RX5 64 RX5 "steps" "I") (by decide +kernel)) (fun _ h9 => h9) rfl (by decide +kernel) rfl rfl (Nat.le_of_ble_eq_true rfl) dX5_step_129 (fun H locs hP hD hS => ?_)
            have hP : va_P (dC, dI) vwCl [(q5, .inr (5, [.int 0, .ref q5a, .int ma, .ref q5b, .ref q5c, .int (to + 1), .ref q5d, .ref q5e, .ref q5f, .ref q5g, .ref q5h, .int rn, .int rf, .int et, .ref q5i, .int sp, .int ho, .int mo, .int cs, .int uw, .int wh, .int lo])), (q5a, .inl (cA, 6, .inl pl)), (q5b, .inl (cA, 60, .inl nu)), (q5c, .inl (cA, 60, .inl de)), (q5d, .inl (cA, 40, .inl (upd si p0.toNatClampNeg ((si p0.toNatClampNeg) + 1)))), (q5e, .inl (cA, 480, .inl (upd ki ((12 * p0) + (si p0.toNatClampNeg)).toNatClampNeg p1))), (q5f, .inl (cA, 480, .inl (upd aa ((12 * p0) + (si p0.toNatClampNeg)).toNatClampNeg p2))), (q5g, .inl (cA, 480, .inl (upd xx ((12 * p0) + (si p0.toNatClampNeg)).toNatClampNeg p3))), (q5h, .inl (cA, 480, .inl (upd yy ((12 * p0) + (si p0.toNatClampNeg)).toNatClampNeg p4))), (q5i, .inl (cA, 250, .inl en))] H := hP
            have hD : va_D A [(q5, .inr (5, [.int 0, .ref q5a, .int ma, .ref q5b, .ref q5c, .int (to + 1), .ref q5d, .ref q5e, .ref q5f, .ref q5g, .ref q5h, .int rn, .int rf, .int et, .ref q5i, .int sp, .int ho, .int mo, .int cs, .int uw, .int wh, .int lo])), (q5a, .inl (cA, 6, .inl pl)), (q5b, .inl (cA, 60, .inl nu)), (q5c, .inl (cA, 60, .inl de)), (q5d, .inl (cA, 40, .inl (upd si p0.toNatClampNeg ((si p0.toNatClampNeg) + 1)))), (q5e, .inl (cA, 480, .inl (upd ki ((12 * p0) + (si p0.toNatClampNeg)).toNatClampNeg p1))), (q5f, .inl (cA, 480, .inl (upd aa ((12 * p0) + (si p0.toNatClampNeg)).toNatClampNeg p2))), (q5g, .inl (cA, 480, .inl (upd xx ((12 * p0) + (si p0.toNatClampNeg)).toNatClampNeg p3))), (q5h, .inl (cA, 480, .inl (upd yy ((12 * p0) + (si p0.toNatClampNeg)).toNatClampNeg p4))), (q5i, .inl (cA, 250, .inl en))] := hD
            refine lv_aload_n hx hb dX5_step_132 rfl (lv_at hl 1 rfl) ?_
            refine va_get (D := (dC, dI)) (ci := 5) (v := .ref q5d) (C := RX5) (T := TX5) (N := 22) hx hb hts (by decide +kernel) hown hK hP 0 rfl rfl 6 (by decide) (hts (.fieldLink RX5 19 RX5 "many" "[I") (by decide +kernel)) (fun _ h9 => h9) rfl dX5_step_133 ?_
            refine lv_iload_n hx hb dX5_step_136 rfl (lv_at hl 2 rfl) ?_
            refine va_iald hx hb hK hP 4 0 rfl rfl (m_block c_1) dX5_step_137 ?_
            exact rt_i hx hb hr hlocks (0, ma, (to + 1), rn, rf, et, sp, ho, mo, cs, uw, wh, lo, pl, nu, de, (upd si p0.toNatClampNeg ((si p0.toNatClampNeg) + 1)), (upd ki ((12 * p0) + (si p0.toNatClampNeg)).toNatClampNeg p1), (upd aa ((12 * p0) + (si p0.toNatClampNeg)).toNatClampNeg p2), (upd xx ((12 * p0) + (si p0.toNatClampNeg)).toNatClampNeg p3), (upd yy ((12 * p0) + (si p0.toNatClampNeg)).toNatClampNeg p4), en) (by simp only [f_X5_step, if_neg c_1, if_neg c_2, if_neg c_3, if_neg c_4, if_neg c_5]) hP hD hS dX5_step_138
          · refine lv_bipush (v := (-3)) hx hb dX5_step_62 (by decide) ?_
            exact rt_i hx hb hr hlocks (0, ma, to, rn, rf, et, sp, ho, mo, cs, uw, wh, lo, pl, nu, de, si, ki, aa, xx, yy, en) (by simp only [f_X5_step, if_neg c_1, if_neg c_2, if_neg c_3, if_neg c_4, if_pos c_5]) hP hD hS dX5_step_64
      · refine lv_bipush (v := (-2)) hx hb dX5_step_38 (by decide) ?_
        exact rt_i hx hb hr hlocks (0, ma, to, rn, rf, et, sp, ho, mo, cs, uw, wh, lo, pl, nu, de, si, ki, aa, xx, yy, en) (by simp only [f_X5_step, if_neg c_1, if_neg c_2, if_pos c_3]) hP hD hS dX5_step_40
set_option maxHeartbeats 4000000 in
set_option maxRecDepth 100000 in
theorem c_X5_clear (l : Launch) (dC : Nat → ClassId) (dI : Nat → Nat → Nat) (cA : ClassId) (q5 q5a q5b q5c q5d q5e q5f q5g q5h q5i : Nat) (sz : Nat) (th : Int32) (ma : Int32) (to : Int32) (rn : Int32) (rf : Int32) (et : Int32) (sp : Int32) (ho : Int32) (mo : Int32) (cs : Int32) (uw : Int32) (wh : Int32) (lo : Int32) (pl : Nat → Int32) (nu : Nat → Int32) (de : Nat → Int32) (si : Nat → Int32) (ki : Nat → Int32) (aa : Nat → Int32) (xx : Nat → Int32) (yy : Nat → Int32) (en : Nat → Int32) (p0 : Int32) : Met l yX5_clear wsX5_clear ({ frames := 1, cells := 0, slots := 0, locals := 22 }) (pcW (dC, dI) [(q5, .inr (5, [.int th, .ref q5a, .int ma, .ref q5b, .ref q5c, .int to, .ref q5d, .ref q5e, .ref q5f, .ref q5g, .ref q5h, .int rn, .int rf, .int et, .ref q5i, .int sp, .int ho, .int mo, .int cs, .int uw, .int wh, .int lo])), (q5a, .inl (cA, 6, .inl pl)), (q5b, .inl (cA, 60, .inl nu)), (q5c, .inl (cA, 60, .inl de)), (q5d, .inl (cA, 40, .inl si)), (q5e, .inl (cA, 480, .inl ki)), (q5f, .inl (cA, 480, .inl aa)), (q5g, .inl (cA, 480, .inl xx)), (q5h, .inl (cA, 480, .inl yy)), (q5i, .inl (cA, 250, .inl en))] [(cA, .int)] sz [.ref q5, .int p0]) (QWi (dC, dI) (f_X5_clear th ma to rn rf et sp ho mo cs uw wh lo pl nu de si ki aa xx yy en p0) (wd_mo cA q5 q5a q5b q5c q5d q5e q5f q5g q5h q5i) (va_A [(q5, .inr (5, [.int th, .ref q5a, .int ma, .ref q5b, .ref q5c, .int to, .ref q5d, .ref q5e, .ref q5f, .ref q5g, .ref q5h, .int rn, .int rf, .int et, .ref q5i, .int sp, .int ho, .int mo, .int cs, .int uw, .int wh, .int lo])), (q5a, .inl (cA, 6, .inl pl)), (q5b, .inl (cA, 60, .inl nu)), (q5c, .inl (cA, 60, .inl de)), (q5d, .inl (cA, 40, .inl si)), (q5e, .inl (cA, 480, .inl ki)), (q5f, .inl (cA, 480, .inl aa)), (q5g, .inl (cA, 480, .inl xx)), (q5h, .inl (cA, 480, .inl yy)), (q5i, .inl (cA, 250, .inl en))] sz)) 0 0 (va_A [(q5, .inr (5, [.int th, .ref q5a, .int ma, .ref q5b, .ref q5c, .int to, .ref q5d, .ref q5e, .ref q5f, .ref q5g, .ref q5h, .int rn, .int rf, .int et, .ref q5i, .int sp, .int ho, .int mo, .int cs, .int uw, .int wh, .int lo])), (q5a, .inl (cA, 6, .inl pl)), (q5b, .inl (cA, 60, .inl nu)), (q5c, .inl (cA, 60, .inl de)), (q5d, .inl (cA, 40, .inl si)), (q5e, .inl (cA, 480, .inl ki)), (q5f, .inl (cA, 480, .inl aa)), (q5g, .inl (cA, 480, .inl xx)), (q5h, .inl (cA, 480, .inl yy)), (q5i, .inl (cA, 250, .inl en))] sz) := by
  refine Met.ofW (cc := cX5_clear) (maxL := 3) (ret := (some .int)) (by decide) rfl ?_
  intro p e s m args below meth c s₁ B hml hv
  obtain ⟨rfl, hsz, hN, hP, hK, hD0⟩ := hv
  have hx := B.exec
  have hb := B.bytes
  have hr := B.returns
  have hts := atoms_spec (ws := wsX5_clear) B.pre
  have hown : s.vm.findClass RX5 = some m.cls := findClass_of_methodNamed B.named
  have hlocks := B.notSynchronized
  subst hsz
  have hD := hD0.self (sz := s.heap.size)
  generalize hAe : va_A [(q5, .inr (5, [.int th, .ref q5a, .int ma, .ref q5b, .ref q5c, .int to, .ref q5d, .ref q5e, .ref q5f, .ref q5g, .ref q5h, .int rn, .int rf, .int et, .ref q5i, .int sp, .int ho, .int mo, .int cs, .int uw, .int wh, .int lo])), (q5a, .inl (cA, 6, .inl pl)), (q5b, .inl (cA, 60, .inl nu)), (q5c, .inl (cA, 60, .inl de)), (q5d, .inl (cA, 40, .inl si)), (q5e, .inl (cA, 480, .inl ki)), (q5f, .inl (cA, 480, .inl aa)), (q5g, .inl (cA, 480, .inl xx)), (q5h, .inl (cA, 480, .inl yy)), (q5i, .inl (cA, 250, .inl en))] s.heap.size = A at hD ⊢
  have hA : ∀ q : Nat, s.heap.size ≤ q → A q := fun q h => by rw [← hAe]; exact Or.inr h
  have hS : va_S A s.heap s.heap [] := va_S.rf
  have hl := lv_entry ([.ref q5, .int p0]) (n := 3) (Nat.le_of_ble_eq_true rfl)
  rw [lg_entry_eq]
  generalize (lg_sl ([.ref q5, .int p0]) ++ List.replicate (3 - (lg_sl ([.ref q5, .int p0])).length) Slot.unset).toArray = ls at hl ⊢
  have hl : lv_has ls 3 [(0, .ref q5), (1, .int p0)] := hl
  refine lv_aload_n hx hb dX5_clear_0 rfl (lv_at hl 0 rfl) ?_
  refine lv_iconst (v := 0) hx hb dX5_clear_1 (by decide) ?_
  refine va_put (D := (dC, dI)) (ci := 5) (v := .int 0) (ty := .int) (C := RX5) (T := TX5) (N := 22) hx hb hts (by decide +kernel) tyX5 tyX5_ok nmX5 hown hK hP hD hS 0 rfl rfl 0 (by decide) (hts (.fieldLink RX5 37 RX5 "thrown" "I") (by decide +kernel)) (fun _ h9 => h9) rfl (by decide +kernel) rfl rfl (Nat.le_of_ble_eq_true rfl) dX5_clear_2 (fun H locs hP hD hS => ?_)
  have hP : va_P (dC, dI) vwCl [(q5, .inr (5, [.int 0, .ref q5a, .int ma, .ref q5b, .ref q5c, .int to, .ref q5d, .ref q5e, .ref q5f, .ref q5g, .ref q5h, .int rn, .int rf, .int et, .ref q5i, .int sp, .int ho, .int mo, .int cs, .int uw, .int wh, .int lo])), (q5a, .inl (cA, 6, .inl pl)), (q5b, .inl (cA, 60, .inl nu)), (q5c, .inl (cA, 60, .inl de)), (q5d, .inl (cA, 40, .inl si)), (q5e, .inl (cA, 480, .inl ki)), (q5f, .inl (cA, 480, .inl aa)), (q5g, .inl (cA, 480, .inl xx)), (q5h, .inl (cA, 480, .inl yy)), (q5i, .inl (cA, 250, .inl en))] H := hP
  have hD : va_D A [(q5, .inr (5, [.int 0, .ref q5a, .int ma, .ref q5b, .ref q5c, .int to, .ref q5d, .ref q5e, .ref q5f, .ref q5g, .ref q5h, .int rn, .int rf, .int et, .ref q5i, .int sp, .int ho, .int mo, .int cs, .int uw, .int wh, .int lo])), (q5a, .inl (cA, 6, .inl pl)), (q5b, .inl (cA, 60, .inl nu)), (q5c, .inl (cA, 60, .inl de)), (q5d, .inl (cA, 40, .inl si)), (q5e, .inl (cA, 480, .inl ki)), (q5f, .inl (cA, 480, .inl aa)), (q5g, .inl (cA, 480, .inl xx)), (q5h, .inl (cA, 480, .inl yy)), (q5i, .inl (cA, 250, .inl en))] := hD
  refine lv_iload_n hx hb dX5_clear_5 rfl (lv_at hl 1 rfl) ?_
  refine lv_iconst (v := 0) hx hb dX5_clear_6 (by decide) ?_
  refine lv_bipush (v := 39) hx hb dX5_clear_7 (by decide) ?_
  refine kx_read (va_runS (As := [.int p0, .int 0, .int 39]) (rest := []) ⟨hx, hb, hml, hown, hts⟩ (c_X5_in l p0 0 39) (cwS 3 hts gX5_clear_X5_in rfl rfl rfl (by decide +kernel) ⟨(Nat.le_of_ble_eq_true rfl), (Nat.le_of_ble_eq_true rfl)⟩) (pS hN) rfl rfl hl.1 rfl (lv_room (Nat.le_of_ble_eq_true rfl)) dX5_clear_9 ⟨Nat.zero_le _, Nat.zero_le _⟩) ?_
  refine lv_if_ne (tgt := 18) hx hb dX5_clear_12 (by decide) (fun c_1 => ?_) (fun c_1 => ?_)
  · refine lv_aload_n hx hb dX5_clear_18 rfl (lv_at hl 0 rfl) ?_
    refine va_get (D := (dC, dI)) (ci := 5) (v := .ref q5d) (C := RX5) (T := TX5) (N := 22) hx hb hts (by decide +kernel) hown hK hP 0 rfl rfl 6 (by decide) (hts (.fieldLink RX5 19 RX5 "many" "[I") (by decide +kernel)) (fun _ h9 => h9) rfl dX5_clear_19 ?_
    refine lv_iload_n hx hb dX5_clear_22 rfl (lv_at hl 1 rfl) ?_
    refine va_iald hx hb hK hP 4 0 rfl rfl (m_block c_1) dX5_clear_23 ?_
    refine lv_istore_n (lv' := [(2, .int (si p0.toNatClampNeg)), (0, .ref q5), (1, .int p0)]) hx hb dX5_clear_24 rfl hl (by decide) rfl (fun ls hl => ?_)
    refine lv_aload_n hx hb dX5_clear_25 rfl (lv_at hl 1 rfl) ?_
    refine lv_dup hx hb dX5_clear_26 rfl ?_
    refine va_get (D := (dC, dI)) (ci := 5) (v := .int to) (C := RX5) (T := TX5) (N := 22) hx hb hts (by decide +kernel) hown hK hP 0 rfl rfl 5 (by decide) (hts (.fieldLink RX5 64 RX5 "steps" "I") (by decide +kernel)) (fun _ h9 => h9) rfl dX5_clear_27 ?_
    refine lv_iload_n hx hb dX5_clear_30 rfl (lv_at hl 0 rfl) ?_
    refine lv_isub hx hb dX5_clear_31 ?_
    refine va_put (D := (dC, dI)) (ci := 5) (v := .int (to - (si p0.toNatClampNeg))) (ty := .int) (C := RX5) (T := TX5) (N := 22) hx hb hts (by decide +kernel) tyX5 tyX5_ok nmX5 hown hK hP hD hS 0 rfl rfl 5 (by decide) (hts (.fieldLink RX5 64 RX5 "steps" "I") (by decide +kernel)) (fun _ h9 => h9) rfl (by decide +kernel) rfl rfl (Nat.le_of_ble_eq_true rfl) dX5_clear_32 (fun H locs hP hD hS => ?_)
    have hP : va_P (dC, dI) vwCl [(q5, .inr (5, [.int 0, .ref q5a, .int ma, .ref q5b, .ref q5c, .int (to - (si p0.toNatClampNeg)), .ref q5d, .ref q5e, .ref q5f, .ref q5g, .ref q5h, .int rn, .int rf, .int et, .ref q5i, .int sp, .int ho, .int mo, .int cs, .int uw, .int wh, .int lo])), (q5a, .inl (cA, 6, .inl pl)), (q5b, .inl (cA, 60, .inl nu)), (q5c, .inl (cA, 60, .inl de)), (q5d, .inl (cA, 40, .inl si)), (q5e, .inl (cA, 480, .inl ki)), (q5f, .inl (cA, 480, .inl aa)), (q5g, .inl (cA, 480, .inl xx)), (q5h, .inl (cA, 480, .inl yy)), (q5i, .inl (cA, 250, .inl en))] H := hP
    have hD : va_D A [(q5, .inr (5, [.int 0, .ref q5a, .int ma, .ref q5b, .ref q5c, .int (to - (si p0.toNatClampNeg)), .ref q5d, .ref q5e, .ref q5f, .ref q5g, .ref q5h, .int rn, .int rf, .int et, .ref q5i, .int sp, .int ho, .int mo, .int cs, .int uw, .int wh, .int lo])), (q5a, .inl (cA, 6, .inl pl)), (q5b, .inl (cA, 60, .inl nu)), (q5c, .inl (cA, 60, .inl de)), (q5d, .inl (cA, 40, .inl si)), (q5e, .inl (cA, 480, .inl ki)), (q5f, .inl (cA, 480, .inl aa)), (q5g, .inl (cA, 480, .inl xx)), (q5h, .inl (cA, 480, .inl yy)), (q5i, .inl (cA, 250, .inl en))] := hD
    refine lv_aload_n hx hb dX5_clear_35 rfl (lv_at hl 1 rfl) ?_
    refine va_get (D := (dC, dI)) (ci := 5) (v := .ref q5d) (C := RX5) (T := TX5) (N := 22) hx hb hts (by decide +kernel) hown hK hP 0 rfl rfl 6 (by decide) (hts (.fieldLink RX5 19 RX5 "many" "[I") (by decide +kernel)) (fun _ h9 => h9) rfl dX5_clear_36 ?_
    refine lv_iload_n hx hb dX5_clear_39 rfl (lv_at hl 2 rfl) ?_
    refine lv_iconst (v := 0) hx hb dX5_clear_40 (by decide) ?_
    refine va_iast hx hb hK hP hD hS 4 0 rfl rfl (m_block c_1) dX5_clear_41 (fun H locs hP hD hS => ?_)
    have hP : va_P (dC, dI) vwCl [(q5, .inr (5, [.int 0, .ref q5a, .int ma, .ref q5b, .ref q5c, .int (to - (si p0.toNatClampNeg)), .ref q5d, .ref q5e, .ref q5f, .ref q5g, .ref q5h, .int rn, .int rf, .int et, .ref q5i, .int sp, .int ho, .int mo, .int cs, .int uw, .int wh, .int lo])), (q5a, .inl (cA, 6, .inl pl)), (q5b, .inl (cA, 60, .inl nu)), (q5c, .inl (cA, 60, .inl de)), (q5d, .inl (cA, 40, .inl (upd si p0.toNatClampNeg 0))), (q5e, .inl (cA, 480, .inl ki)), (q5f, .inl (cA, 480, .inl aa)), (q5g, .inl (cA, 480, .inl xx)), (q5h, .inl (cA, 480, .inl yy)), (q5i, .inl (cA, 250, .inl en))] H := hP
    have hD : va_D A [(q5, .inr (5, [.int 0, .ref q5a, .int ma, .ref q5b, .ref q5c, .int (to - (si p0.toNatClampNeg)), .ref q5d, .ref q5e, .ref q5f, .ref q5g, .ref q5h, .int rn, .int rf, .int et, .ref q5i, .int sp, .int ho, .int mo, .int cs, .int uw, .int wh, .int lo])), (q5a, .inl (cA, 6, .inl pl)), (q5b, .inl (cA, 60, .inl nu)), (q5c, .inl (cA, 60, .inl de)), (q5d, .inl (cA, 40, .inl (upd si p0.toNatClampNeg 0))), (q5e, .inl (cA, 480, .inl ki)), (q5f, .inl (cA, 480, .inl aa)), (q5g, .inl (cA, 480, .inl xx)), (q5h, .inl (cA, 480, .inl yy)), (q5i, .inl (cA, 250, .inl en))] := hD
    refine lv_iload_n hx hb dX5_clear_42 rfl (lv_at hl 0 rfl) ?_
    exact rt_i hx hb hr hlocks (0, ma, (to - (si p0.toNatClampNeg)), rn, rf, et, sp, ho, mo, cs, uw, wh, lo, pl, nu, de, (upd si p0.toNatClampNeg 0), ki, aa, xx, yy, en) (by simp only [f_X5_clear, if_neg c_1]) hP hD hS dX5_clear_43
  · refine lv_bipush (v := (-2)) hx hb dX5_clear_15 (by decide) ?_
    exact rt_i hx hb hr hlocks (0, ma, to, rn, rf, et, sp, ho, mo, cs, uw, wh, lo, pl, nu, de, si, ki, aa, xx, yy, en) (by simp only [f_X5_clear, if_pos c_1]) hP hD hS dX5_clear_17
set_option maxHeartbeats 4000000 in
set_option maxRecDepth 100000 in
theorem c_X5_trace (l : Launch) (dC : Nat → ClassId) (dI : Nat → Nat → Nat) (cA : ClassId) (q5 q5a q5b q5c q5d q5e q5f q5g q5h q5i : Nat) (sz : Nat) (th : Int32) (ma : Int32) (to : Int32) (rn : Int32) (rf : Int32) (et : Int32) (sp : Int32) (ho : Int32) (mo : Int32) (cs : Int32) (uw : Int32) (wh : Int32) (lo : Int32) (pl : Nat → Int32) (nu : Nat → Int32) (de : Nat → Int32) (si : Nat → Int32) (ki : Nat → Int32) (aa : Nat → Int32) (xx : Nat → Int32) (yy : Nat → Int32) (en : Nat → Int32) (p0 : Int32) : Met l yX5_trace wsX5_trace ({ frames := 1, cells := 0, slots := 0, locals := 22 }) (pcW (dC, dI) [(q5, .inr (5, [.int th, .ref q5a, .int ma, .ref q5b, .ref q5c, .int to, .ref q5d, .ref q5e, .ref q5f, .ref q5g, .ref q5h, .int rn, .int rf, .int et, .ref q5i, .int sp, .int ho, .int mo, .int cs, .int uw, .int wh, .int lo])), (q5a, .inl (cA, 6, .inl pl)), (q5b, .inl (cA, 60, .inl nu)), (q5c, .inl (cA, 60, .inl de)), (q5d, .inl (cA, 40, .inl si)), (q5e, .inl (cA, 480, .inl ki)), (q5f, .inl (cA, 480, .inl aa)), (q5g, .inl (cA, 480, .inl xx)), (q5h, .inl (cA, 480, .inl yy)), (q5i, .inl (cA, 250, .inl en))] [(cA, .int)] sz [.ref q5, .int p0]) (QWi (dC, dI) (f_X5_trace th ma to rn rf et sp ho mo cs uw wh lo pl nu de si ki aa xx yy en p0) (wd_mo cA q5 q5a q5b q5c q5d q5e q5f q5g q5h q5i) (va_A [(q5, .inr (5, [.int th, .ref q5a, .int ma, .ref q5b, .ref q5c, .int to, .ref q5d, .ref q5e, .ref q5f, .ref q5g, .ref q5h, .int rn, .int rf, .int et, .ref q5i, .int sp, .int ho, .int mo, .int cs, .int uw, .int wh, .int lo])), (q5a, .inl (cA, 6, .inl pl)), (q5b, .inl (cA, 60, .inl nu)), (q5c, .inl (cA, 60, .inl de)), (q5d, .inl (cA, 40, .inl si)), (q5e, .inl (cA, 480, .inl ki)), (q5f, .inl (cA, 480, .inl aa)), (q5g, .inl (cA, 480, .inl xx)), (q5h, .inl (cA, 480, .inl yy)), (q5i, .inl (cA, 250, .inl en))] sz)) 0 0 (va_A [(q5, .inr (5, [.int th, .ref q5a, .int ma, .ref q5b, .ref q5c, .int to, .ref q5d, .ref q5e, .ref q5f, .ref q5g, .ref q5h, .int rn, .int rf, .int et, .ref q5i, .int sp, .int ho, .int mo, .int cs, .int uw, .int wh, .int lo])), (q5a, .inl (cA, 6, .inl pl)), (q5b, .inl (cA, 60, .inl nu)), (q5c, .inl (cA, 60, .inl de)), (q5d, .inl (cA, 40, .inl si)), (q5e, .inl (cA, 480, .inl ki)), (q5f, .inl (cA, 480, .inl aa)), (q5g, .inl (cA, 480, .inl xx)), (q5h, .inl (cA, 480, .inl yy)), (q5i, .inl (cA, 250, .inl en))] sz) := by
  refine Met.ofW (cc := cX5_trace) (maxL := 2) (ret := (some .int)) (by decide) rfl ?_
  intro p e s m args below meth c s₁ B hml hv
  obtain ⟨rfl, hsz, hN, hP, hK, hD0⟩ := hv
  have hx := B.exec
  have hb := B.bytes
  have hr := B.returns
  have hts := atoms_spec (ws := wsX5_trace) B.pre
  have hown : s.vm.findClass RX5 = some m.cls := findClass_of_methodNamed B.named
  have hlocks := B.notSynchronized
  subst hsz
  have hD := hD0.self (sz := s.heap.size)
  generalize hAe : va_A [(q5, .inr (5, [.int th, .ref q5a, .int ma, .ref q5b, .ref q5c, .int to, .ref q5d, .ref q5e, .ref q5f, .ref q5g, .ref q5h, .int rn, .int rf, .int et, .ref q5i, .int sp, .int ho, .int mo, .int cs, .int uw, .int wh, .int lo])), (q5a, .inl (cA, 6, .inl pl)), (q5b, .inl (cA, 60, .inl nu)), (q5c, .inl (cA, 60, .inl de)), (q5d, .inl (cA, 40, .inl si)), (q5e, .inl (cA, 480, .inl ki)), (q5f, .inl (cA, 480, .inl aa)), (q5g, .inl (cA, 480, .inl xx)), (q5h, .inl (cA, 480, .inl yy)), (q5i, .inl (cA, 250, .inl en))] s.heap.size = A at hD ⊢
  have hA : ∀ q : Nat, s.heap.size ≤ q → A q := fun q h => by rw [← hAe]; exact Or.inr h
  have hS : va_S A s.heap s.heap [] := va_S.rf
  have hl := lv_entry ([.ref q5, .int p0]) (n := 2) (Nat.le_of_ble_eq_true rfl)
  rw [lg_entry_eq]
  generalize (lg_sl ([.ref q5, .int p0]) ++ List.replicate (2 - (lg_sl ([.ref q5, .int p0])).length) Slot.unset).toArray = ls at hl ⊢
  have hl : lv_has ls 2 [(0, .ref q5), (1, .int p0)] := hl
  refine lv_aload_n hx hb dX5_trace_0 rfl (lv_at hl 0 rfl) ?_
  refine lv_iconst (v := 0) hx hb dX5_trace_1 (by decide) ?_
  refine va_put (D := (dC, dI)) (ci := 5) (v := .int 0) (ty := .int) (C := RX5) (T := TX5) (N := 22) hx hb hts (by decide +kernel) tyX5 tyX5_ok nmX5 hown hK hP hD hS 0 rfl rfl 0 (by decide) (hts (.fieldLink RX5 37 RX5 "thrown" "I") (by decide +kernel)) (fun _ h9 => h9) rfl (by decide +kernel) rfl rfl (Nat.le_of_ble_eq_true rfl) dX5_trace_2 (fun H locs hP hD hS => ?_)
  have hP : va_P (dC, dI) vwCl [(q5, .inr (5, [.int 0, .ref q5a, .int ma, .ref q5b, .ref q5c, .int to, .ref q5d, .ref q5e, .ref q5f, .ref q5g, .ref q5h, .int rn, .int rf, .int et, .ref q5i, .int sp, .int ho, .int mo, .int cs, .int uw, .int wh, .int lo])), (q5a, .inl (cA, 6, .inl pl)), (q5b, .inl (cA, 60, .inl nu)), (q5c, .inl (cA, 60, .inl de)), (q5d, .inl (cA, 40, .inl si)), (q5e, .inl (cA, 480, .inl ki)), (q5f, .inl (cA, 480, .inl aa)), (q5g, .inl (cA, 480, .inl xx)), (q5h, .inl (cA, 480, .inl yy)), (q5i, .inl (cA, 250, .inl en))] H := hP
  have hD : va_D A [(q5, .inr (5, [.int 0, .ref q5a, .int ma, .ref q5b, .ref q5c, .int to, .ref q5d, .ref q5e, .ref q5f, .ref q5g, .ref q5h, .int rn, .int rf, .int et, .ref q5i, .int sp, .int ho, .int mo, .int cs, .int uw, .int wh, .int lo])), (q5a, .inl (cA, 6, .inl pl)), (q5b, .inl (cA, 60, .inl nu)), (q5c, .inl (cA, 60, .inl de)), (q5d, .inl (cA, 40, .inl si)), (q5e, .inl (cA, 480, .inl ki)), (q5f, .inl (cA, 480, .inl aa)), (q5g, .inl (cA, 480, .inl xx)), (q5h, .inl (cA, 480, .inl yy)), (q5i, .inl (cA, 250, .inl en))] := hD
  refine lv_iload_n hx hb dX5_trace_5 rfl (lv_at hl 1 rfl) ?_
  refine lv_iconst (v := 0) hx hb dX5_trace_6 (by decide) ?_
  refine lv_sipush (v := 249) hx hb dX5_trace_7 (by decide) ?_
  refine kx_read (va_runS (As := [.int p0, .int 0, .int 249]) (rest := []) ⟨hx, hb, hml, hown, hts⟩ (c_X5_in l p0 0 249) (cwS 3 hts gX5_trace_X5_in rfl rfl rfl (by decide +kernel) ⟨(Nat.le_of_ble_eq_true rfl), (Nat.le_of_ble_eq_true rfl)⟩) (pS hN) rfl rfl hl.1 rfl (lv_room (Nat.le_of_ble_eq_true rfl)) dX5_trace_10 ⟨Nat.zero_le _, Nat.zero_le _⟩) ?_
  refine lv_if_eq (tgt := 33) hx hb dX5_trace_13 (by decide) (fun c_1 => ?_) (fun c_1 => ?_)
  · refine lv_iconst (v := (-1)) hx hb dX5_trace_33 (by decide) ?_
    exact rt_i hx hb hr hlocks (0, ma, to, rn, rf, et, sp, ho, mo, cs, uw, wh, lo, pl, nu, de, si, ki, aa, xx, yy, en) (by simp only [f_X5_trace, if_pos c_1]) hP hD hS dX5_trace_34
  · refine lv_iload_n hx hb dX5_trace_16 rfl (lv_at hl 1 rfl) ?_
    refine lv_aload_n hx hb dX5_trace_17 rfl (lv_at hl 0 rfl) ?_
    refine va_get (D := (dC, dI)) (ci := 5) (v := .int et) (C := RX5) (T := TX5) (N := 22) hx hb hts (by decide +kernel) hown hK hP 0 rfl rfl 13 (by decide) (hts (.fieldLink RX5 67 RX5 "traced" "I") (by decide +kernel)) (fun _ h9 => h9) rfl dX5_trace_18 ?_
    refine lv_icmp_ge (tgt := 33) hx hb dX5_trace_21 (by decide) (fun c_2 => ?_) (fun c_2 => ?_)
    · refine lv_iconst (v := (-1)) hx hb dX5_trace_33 (by decide) ?_
      exact rt_i hx hb hr hlocks (0, ma, to, rn, rf, et, sp, ho, mo, cs, uw, wh, lo, pl, nu, de, si, ki, aa, xx, yy, en) (by simp only [f_X5_trace, if_neg c_1, if_pos c_2]) hP hD hS dX5_trace_34
    · refine lv_aload_n hx hb dX5_trace_24 rfl (lv_at hl 0 rfl) ?_
      refine va_get (D := (dC, dI)) (ci := 5) (v := .ref q5i) (C := RX5) (T := TX5) (N := 22) hx hb hts (by decide +kernel) hown hK hP 0 rfl rfl 14 (by decide) (hts (.fieldLink RX5 34 RX5 "trace" "[I") (by decide +kernel)) (fun _ h9 => h9) rfl dX5_trace_25 ?_
      refine lv_iload_n hx hb dX5_trace_28 rfl (lv_at hl 1 rfl) ?_
      refine va_iald hx hb hK hP 9 0 rfl rfl (m_tr c_1) dX5_trace_29 ?_
      refine lv_goto (tgt := 34) hx hb dX5_trace_30 (by decide) ?_
      exact rt_i hx hb hr hlocks (0, ma, to, rn, rf, et, sp, ho, mo, cs, uw, wh, lo, pl, nu, de, si, ki, aa, xx, yy, en) (by simp only [f_X5_trace, if_neg c_1, if_neg c_2]) hP hD hS dX5_trace_34
set_option maxHeartbeats 4000000 in
set_option maxRecDepth 100000 in
theorem c_X5_told (l : Launch) (dC : Nat → ClassId) (dI : Nat → Nat → Nat) (cA : ClassId) (q5 q5a q5b q5c q5d q5e q5f q5g q5h q5i : Nat) (sz : Nat) (th : Int32) (ma : Int32) (to : Int32) (rn : Int32) (rf : Int32) (et : Int32) (sp : Int32) (ho : Int32) (mo : Int32) (cs : Int32) (uw : Int32) (wh : Int32) (lo : Int32) (pl : Nat → Int32) (nu : Nat → Int32) (de : Nat → Int32) (si : Nat → Int32) (ki : Nat → Int32) (aa : Nat → Int32) (xx : Nat → Int32) (yy : Nat → Int32) (en : Nat → Int32) (p0 : Int32) : Met l yX5_told wsX5_told ({ frames := 0, cells := 0, slots := 0, locals := 0 }) (pcW (dC, dI) [(q5, .inr (5, [.int th, .ref q5a, .int ma, .ref q5b, .ref q5c, .int to, .ref q5d, .ref q5e, .ref q5f, .ref q5g, .ref q5h, .int rn, .int rf, .int et, .ref q5i, .int sp, .int ho, .int mo, .int cs, .int uw, .int wh, .int lo])), (q5a, .inl (cA, 6, .inl pl)), (q5b, .inl (cA, 60, .inl nu)), (q5c, .inl (cA, 60, .inl de)), (q5d, .inl (cA, 40, .inl si)), (q5e, .inl (cA, 480, .inl ki)), (q5f, .inl (cA, 480, .inl aa)), (q5g, .inl (cA, 480, .inl xx)), (q5h, .inl (cA, 480, .inl yy)), (q5i, .inl (cA, 250, .inl en))] [(cA, .int)] sz [.ref q5, .int p0]) (QWi (dC, dI) (f_X5_told th ma to rn rf et sp ho mo cs uw wh lo pl nu de si ki aa xx yy en p0) (wd_mo cA q5 q5a q5b q5c q5d q5e q5f q5g q5h q5i) (va_A [(q5, .inr (5, [.int th, .ref q5a, .int ma, .ref q5b, .ref q5c, .int to, .ref q5d, .ref q5e, .ref q5f, .ref q5g, .ref q5h, .int rn, .int rf, .int et, .ref q5i, .int sp, .int ho, .int mo, .int cs, .int uw, .int wh, .int lo])), (q5a, .inl (cA, 6, .inl pl)), (q5b, .inl (cA, 60, .inl nu)), (q5c, .inl (cA, 60, .inl de)), (q5d, .inl (cA, 40, .inl si)), (q5e, .inl (cA, 480, .inl ki)), (q5f, .inl (cA, 480, .inl aa)), (q5g, .inl (cA, 480, .inl xx)), (q5h, .inl (cA, 480, .inl yy)), (q5i, .inl (cA, 250, .inl en))] sz)) 0 0 (va_A [(q5, .inr (5, [.int th, .ref q5a, .int ma, .ref q5b, .ref q5c, .int to, .ref q5d, .ref q5e, .ref q5f, .ref q5g, .ref q5h, .int rn, .int rf, .int et, .ref q5i, .int sp, .int ho, .int mo, .int cs, .int uw, .int wh, .int lo])), (q5a, .inl (cA, 6, .inl pl)), (q5b, .inl (cA, 60, .inl nu)), (q5c, .inl (cA, 60, .inl de)), (q5d, .inl (cA, 40, .inl si)), (q5e, .inl (cA, 480, .inl ki)), (q5f, .inl (cA, 480, .inl aa)), (q5g, .inl (cA, 480, .inl xx)), (q5h, .inl (cA, 480, .inl yy)), (q5i, .inl (cA, 250, .inl en))] sz) := by
  refine Met.ofW (cc := cX5_told) (maxL := 2) (ret := (some .int)) (by decide) rfl ?_
  intro p e s m args below meth c s₁ B hml hv
  obtain ⟨rfl, hsz, hN, hP, hK, hD0⟩ := hv
  have hx := B.exec
  have hb := B.bytes
  have hr := B.returns
  have hts := atoms_spec (ws := wsX5_told) B.pre
  have hown : s.vm.findClass RX5 = some m.cls := findClass_of_methodNamed B.named
  have hlocks := B.notSynchronized
  subst hsz
  have hD := hD0.self (sz := s.heap.size)
  generalize hAe : va_A [(q5, .inr (5, [.int th, .ref q5a, .int ma, .ref q5b, .ref q5c, .int to, .ref q5d, .ref q5e, .ref q5f, .ref q5g, .ref q5h, .int rn, .int rf, .int et, .ref q5i, .int sp, .int ho, .int mo, .int cs, .int uw, .int wh, .int lo])), (q5a, .inl (cA, 6, .inl pl)), (q5b, .inl (cA, 60, .inl nu)), (q5c, .inl (cA, 60, .inl de)), (q5d, .inl (cA, 40, .inl si)), (q5e, .inl (cA, 480, .inl ki)), (q5f, .inl (cA, 480, .inl aa)), (q5g, .inl (cA, 480, .inl xx)), (q5h, .inl (cA, 480, .inl yy)), (q5i, .inl (cA, 250, .inl en))] s.heap.size = A at hD ⊢
  have hA : ∀ q : Nat, s.heap.size ≤ q → A q := fun q h => by rw [← hAe]; exact Or.inr h
  have hS : va_S A s.heap s.heap [] := va_S.rf
  have hl := lv_entry ([.ref q5, .int p0]) (n := 2) (Nat.le_of_ble_eq_true rfl)
  rw [lg_entry_eq]
  generalize (lg_sl ([.ref q5, .int p0]) ++ List.replicate (2 - (lg_sl ([.ref q5, .int p0])).length) Slot.unset).toArray = ls at hl ⊢
  have hl : lv_has ls 2 [(0, .ref q5), (1, .int p0)] := hl
  refine lv_aload_n hx hb dX5_told_0 rfl (lv_at hl 0 rfl) ?_
  refine lv_iconst (v := 0) hx hb dX5_told_1 (by decide) ?_
  refine va_put (D := (dC, dI)) (ci := 5) (v := .int 0) (ty := .int) (C := RX5) (T := TX5) (N := 22) hx hb hts (by decide +kernel) tyX5 tyX5_ok nmX5 hown hK hP hD hS 0 rfl rfl 0 (by decide) (hts (.fieldLink RX5 37 RX5 "thrown" "I") (by decide +kernel)) (fun _ h9 => h9) rfl (by decide +kernel) rfl rfl (Nat.le_of_ble_eq_true rfl) dX5_told_2 (fun H locs hP hD hS => ?_)
  have hP : va_P (dC, dI) vwCl [(q5, .inr (5, [.int 0, .ref q5a, .int ma, .ref q5b, .ref q5c, .int to, .ref q5d, .ref q5e, .ref q5f, .ref q5g, .ref q5h, .int rn, .int rf, .int et, .ref q5i, .int sp, .int ho, .int mo, .int cs, .int uw, .int wh, .int lo])), (q5a, .inl (cA, 6, .inl pl)), (q5b, .inl (cA, 60, .inl nu)), (q5c, .inl (cA, 60, .inl de)), (q5d, .inl (cA, 40, .inl si)), (q5e, .inl (cA, 480, .inl ki)), (q5f, .inl (cA, 480, .inl aa)), (q5g, .inl (cA, 480, .inl xx)), (q5h, .inl (cA, 480, .inl yy)), (q5i, .inl (cA, 250, .inl en))] H := hP
  have hD : va_D A [(q5, .inr (5, [.int 0, .ref q5a, .int ma, .ref q5b, .ref q5c, .int to, .ref q5d, .ref q5e, .ref q5f, .ref q5g, .ref q5h, .int rn, .int rf, .int et, .ref q5i, .int sp, .int ho, .int mo, .int cs, .int uw, .int wh, .int lo])), (q5a, .inl (cA, 6, .inl pl)), (q5b, .inl (cA, 60, .inl nu)), (q5c, .inl (cA, 60, .inl de)), (q5d, .inl (cA, 40, .inl si)), (q5e, .inl (cA, 480, .inl ki)), (q5f, .inl (cA, 480, .inl aa)), (q5g, .inl (cA, 480, .inl xx)), (q5h, .inl (cA, 480, .inl yy)), (q5i, .inl (cA, 250, .inl en))] := hD
  refine lv_iload_n hx hb dX5_told_5 rfl (lv_at hl 1 rfl) ?_
  refine lv_if_ne (tgt := 16) hx hb dX5_told_6 (by decide) (fun c_1 => ?_) (fun c_1 => ?_)
  · refine lv_iload_n hx hb dX5_told_16 rfl (lv_at hl 1 rfl) ?_
    refine lv_iconst (v := 1) hx hb dX5_told_17 (by decide) ?_
    refine lv_icmp_ne (tgt := 28) hx hb dX5_told_18 (by decide) (fun c_2 => ?_) (fun c_2 => ?_)
    · refine lv_iload_n hx hb dX5_told_28 rfl (lv_at hl 1 rfl) ?_
      refine lv_iconst (v := 2) hx hb dX5_told_29 (by decide) ?_
      refine lv_icmp_ne (tgt := 40) hx hb dX5_told_30 (by decide) (fun c_3 => ?_) (fun c_3 => ?_)
      · refine lv_iload_n hx hb dX5_told_40 rfl (lv_at hl 1 rfl) ?_
        refine lv_iconst (v := 3) hx hb dX5_told_41 (by decide) ?_
        refine lv_icmp_ne (tgt := 52) hx hb dX5_told_42 (by decide) (fun c_4 => ?_) (fun c_4 => ?_)
        · refine lv_iload_n hx hb dX5_told_52 rfl (lv_at hl 1 rfl) ?_
          refine lv_iconst (v := 4) hx hb dX5_told_53 (by decide) ?_
          refine lv_icmp_ne (tgt := 64) hx hb dX5_told_54 (by decide) (fun c_5 => ?_) (fun c_5 => ?_)
          · refine lv_bipush (v := (-2)) hx hb dX5_told_64 (by decide) ?_
            exact rt_i hx hb hr hlocks (0, ma, to, rn, rf, et, sp, ho, mo, cs, uw, wh, lo, pl, nu, de, si, ki, aa, xx, yy, en) (by simp only [f_X5_told, if_neg c_1, if_neg c_2, if_neg c_3, if_neg c_4, if_neg c_5]) hP hD hS dX5_told_66
          · refine lv_aload_n hx hb dX5_told_57 rfl (lv_at hl 0 rfl) ?_
            refine va_get (D := (dC, dI)) (ci := 5) (v := .int cs) (C := RX5) (T := TX5) (N := 22) hx hb hts (by decide +kernel) hown hK hP 0 rfl rfl 18 (by decide) (hts (.fieldLink RX5 83 RX5 "leftBadly" "I") (by decide +kernel)) (fun _ h9 => h9) rfl dX5_told_58 ?_
            refine lv_goto (tgt := 66) hx hb dX5_told_61 (by decide) ?_
            exact rt_i hx hb hr hlocks (0, ma, to, rn, rf, et, sp, ho, mo, cs, uw, wh, lo, pl, nu, de, si, ki, aa, xx, yy, en) (by simp only [f_X5_told, if_neg c_1, if_neg c_2, if_neg c_3, if_neg c_4, if_pos c_5]) hP hD hS dX5_told_66
        · refine lv_aload_n hx hb dX5_told_45 rfl (lv_at hl 0 rfl) ?_
          refine va_get (D := (dC, dI)) (ci := 5) (v := .int mo) (C := RX5) (T := TX5) (N := 22) hx hb hts (by decide +kernel) hown hK hP 0 rfl rfl 17 (by decide) (hts (.fieldLink RX5 76 RX5 "most" "I") (by decide +kernel)) (fun _ h9 => h9) rfl dX5_told_46 ?_
          refine lv_goto (tgt := 66) hx hb dX5_told_49 (by decide) ?_
          exact rt_i hx hb hr hlocks (0, ma, to, rn, rf, et, sp, ho, mo, cs, uw, wh, lo, pl, nu, de, si, ki, aa, xx, yy, en) (by simp only [f_X5_told, if_neg c_1, if_neg c_2, if_neg c_3, if_pos c_4]) hP hD hS dX5_told_66
      · refine lv_aload_n hx hb dX5_told_33 rfl (lv_at hl 0 rfl) ?_
        refine va_get (D := (dC, dI)) (ci := 5) (v := .int ho) (C := RX5) (T := TX5) (N := 22) hx hb hts (by decide +kernel) hown hK hP 0 rfl rfl 16 (by decide) (hts (.fieldLink RX5 70 RX5 "holds" "I") (by decide +kernel)) (fun _ h9 => h9) rfl dX5_told_34 ?_
        refine lv_goto (tgt := 66) hx hb dX5_told_37 (by decide) ?_
        exact rt_i hx hb hr hlocks (0, ma, to, rn, rf, et, sp, ho, mo, cs, uw, wh, lo, pl, nu, de, si, ki, aa, xx, yy, en) (by simp only [f_X5_told, if_neg c_1, if_neg c_2, if_pos c_3]) hP hD hS dX5_told_66
    · refine lv_aload_n hx hb dX5_told_21 rfl (lv_at hl 0 rfl) ?_
      refine va_get (D := (dC, dI)) (ci := 5) (v := .int sp) (C := RX5) (T := TX5) (N := 22) hx hb hts (by decide +kernel) hown hK hP 0 rfl rfl 15 (by decide) (hts (.fieldLink RX5 89 RX5 "done" "I") (by decide +kernel)) (fun _ h9 => h9) rfl dX5_told_22 ?_
      refine lv_goto (tgt := 66) hx hb dX5_told_25 (by decide) ?_
      exact rt_i hx hb hr hlocks (0, ma, to, rn, rf, et, sp, ho, mo, cs, uw, wh, lo, pl, nu, de, si, ki, aa, xx, yy, en) (by simp only [f_X5_told, if_neg c_1, if_pos c_2]) hP hD hS dX5_told_66
  · refine lv_aload_n hx hb dX5_told_9 rfl (lv_at hl 0 rfl) ?_
    refine va_get (D := (dC, dI)) (ci := 5) (v := .int et) (C := RX5) (T := TX5) (N := 22) hx hb hts (by decide +kernel) hown hK hP 0 rfl rfl 13 (by decide) (hts (.fieldLink RX5 67 RX5 "traced" "I") (by decide +kernel)) (fun _ h9 => h9) rfl dX5_told_10 ?_
    refine lv_goto (tgt := 66) hx hb dX5_told_13 (by decide) ?_
    exact rt_i hx hb hr hlocks (0, ma, to, rn, rf, et, sp, ho, mo, cs, uw, wh, lo, pl, nu, de, si, ki, aa, xx, yy, en) (by simp only [f_X5_told, if_pos c_1]) hP hD hS dX5_told_66
set_option maxHeartbeats 4000000 in
set_option maxRecDepth 100000 in
theorem c_X5_at (l : Launch) (dC : Nat → ClassId) (dI : Nat → Nat → Nat) (cA : ClassId) (q5 q5a q5b q5c q5d q5e q5f q5g q5h q5i : Nat) (sz : Nat) (th : Int32) (ma : Int32) (to : Int32) (rn : Int32) (rf : Int32) (et : Int32) (sp : Int32) (ho : Int32) (mo : Int32) (cs : Int32) (uw : Int32) (wh : Int32) (lo : Int32) (pl : Nat → Int32) (nu : Nat → Int32) (de : Nat → Int32) (si : Nat → Int32) (ki : Nat → Int32) (aa : Nat → Int32) (xx : Nat → Int32) (yy : Nat → Int32) (en : Nat → Int32) (p0 : Int32) : Met l yX5_at wsX5_at ({ frames := 2, cells := 0, slots := 0, locals := 42 }) (pcW (dC, dI) [(q5, .inr (5, [.int th, .ref q5a, .int ma, .ref q5b, .ref q5c, .int to, .ref q5d, .ref q5e, .ref q5f, .ref q5g, .ref q5h, .int rn, .int rf, .int et, .ref q5i, .int sp, .int ho, .int mo, .int cs, .int uw, .int wh, .int lo])), (q5a, .inl (cA, 6, .inl pl)), (q5b, .inl (cA, 60, .inl nu)), (q5c, .inl (cA, 60, .inl de)), (q5d, .inl (cA, 40, .inl si)), (q5e, .inl (cA, 480, .inl ki)), (q5f, .inl (cA, 480, .inl aa)), (q5g, .inl (cA, 480, .inl xx)), (q5h, .inl (cA, 480, .inl yy)), (q5i, .inl (cA, 250, .inl en))] [(cA, .int)] sz [.ref q5, .int p0]) (QWi (dC, dI) (f_X5_at th ma to rn rf et sp ho mo cs uw wh lo pl nu de si ki aa xx yy en p0) (wd_mo cA q5 q5a q5b q5c q5d q5e q5f q5g q5h q5i) (va_A [(q5, .inr (5, [.int th, .ref q5a, .int ma, .ref q5b, .ref q5c, .int to, .ref q5d, .ref q5e, .ref q5f, .ref q5g, .ref q5h, .int rn, .int rf, .int et, .ref q5i, .int sp, .int ho, .int mo, .int cs, .int uw, .int wh, .int lo])), (q5a, .inl (cA, 6, .inl pl)), (q5b, .inl (cA, 60, .inl nu)), (q5c, .inl (cA, 60, .inl de)), (q5d, .inl (cA, 40, .inl si)), (q5e, .inl (cA, 480, .inl ki)), (q5f, .inl (cA, 480, .inl aa)), (q5g, .inl (cA, 480, .inl xx)), (q5h, .inl (cA, 480, .inl yy)), (q5i, .inl (cA, 250, .inl en))] sz)) 0 0 (va_A [(q5, .inr (5, [.int th, .ref q5a, .int ma, .ref q5b, .ref q5c, .int to, .ref q5d, .ref q5e, .ref q5f, .ref q5g, .ref q5h, .int rn, .int rf, .int et, .ref q5i, .int sp, .int ho, .int mo, .int cs, .int uw, .int wh, .int lo])), (q5a, .inl (cA, 6, .inl pl)), (q5b, .inl (cA, 60, .inl nu)), (q5c, .inl (cA, 60, .inl de)), (q5d, .inl (cA, 40, .inl si)), (q5e, .inl (cA, 480, .inl ki)), (q5f, .inl (cA, 480, .inl aa)), (q5g, .inl (cA, 480, .inl xx)), (q5h, .inl (cA, 480, .inl yy)), (q5i, .inl (cA, 250, .inl en))] sz) := by
  refine Met.ofW (cc := cX5_at) (maxL := 2) (ret := (some .int)) (by decide) rfl ?_
  intro p e s m args below meth c s₁ B hml hv
  obtain ⟨rfl, hsz, hN, hP, hK, hD0⟩ := hv
  have hx := B.exec
  have hb := B.bytes
  have hr := B.returns
  have hts := atoms_spec (ws := wsX5_at) B.pre
  have hown : s.vm.findClass RX5 = some m.cls := findClass_of_methodNamed B.named
  have hlocks := B.notSynchronized
  subst hsz
  have hD := hD0.self (sz := s.heap.size)
  generalize hAe : va_A [(q5, .inr (5, [.int th, .ref q5a, .int ma, .ref q5b, .ref q5c, .int to, .ref q5d, .ref q5e, .ref q5f, .ref q5g, .ref q5h, .int rn, .int rf, .int et, .ref q5i, .int sp, .int ho, .int mo, .int cs, .int uw, .int wh, .int lo])), (q5a, .inl (cA, 6, .inl pl)), (q5b, .inl (cA, 60, .inl nu)), (q5c, .inl (cA, 60, .inl de)), (q5d, .inl (cA, 40, .inl si)), (q5e, .inl (cA, 480, .inl ki)), (q5f, .inl (cA, 480, .inl aa)), (q5g, .inl (cA, 480, .inl xx)), (q5h, .inl (cA, 480, .inl yy)), (q5i, .inl (cA, 250, .inl en))] s.heap.size = A at hD ⊢
  have hA : ∀ q : Nat, s.heap.size ≤ q → A q := fun q h => by rw [← hAe]; exact Or.inr h
  have hS : va_S A s.heap s.heap [] := va_S.rf
  have hl := lv_entry ([.ref q5, .int p0]) (n := 2) (Nat.le_of_ble_eq_true rfl)
  rw [lg_entry_eq]
  generalize (lg_sl ([.ref q5, .int p0]) ++ List.replicate (2 - (lg_sl ([.ref q5, .int p0])).length) Slot.unset).toArray = ls at hl ⊢
  have hl : lv_has ls 2 [(0, .ref q5), (1, .int p0)] := hl
  refine lv_aload_n hx hb dX5_at_0 rfl (lv_at hl 0 rfl) ?_
  refine lv_iconst (v := 0) hx hb dX5_at_1 (by decide) ?_
  refine va_put (D := (dC, dI)) (ci := 5) (v := .int 0) (ty := .int) (C := RX5) (T := TX5) (N := 22) hx hb hts (by decide +kernel) tyX5 tyX5_ok nmX5 hown hK hP hD hS 0 rfl rfl 0 (by decide) (hts (.fieldLink RX5 37 RX5 "thrown" "I") (by decide +kernel)) (fun _ h9 => h9) rfl (by decide +kernel) rfl rfl (Nat.le_of_ble_eq_true rfl) dX5_at_2 (fun H locs hP hD hS => ?_)
  have hP : va_P (dC, dI) vwCl [(q5, .inr (5, [.int 0, .ref q5a, .int ma, .ref q5b, .ref q5c, .int to, .ref q5d, .ref q5e, .ref q5f, .ref q5g, .ref q5h, .int rn, .int rf, .int et, .ref q5i, .int sp, .int ho, .int mo, .int cs, .int uw, .int wh, .int lo])), (q5a, .inl (cA, 6, .inl pl)), (q5b, .inl (cA, 60, .inl nu)), (q5c, .inl (cA, 60, .inl de)), (q5d, .inl (cA, 40, .inl si)), (q5e, .inl (cA, 480, .inl ki)), (q5f, .inl (cA, 480, .inl aa)), (q5g, .inl (cA, 480, .inl xx)), (q5h, .inl (cA, 480, .inl yy)), (q5i, .inl (cA, 250, .inl en))] H := hP
  have hD : va_D A [(q5, .inr (5, [.int 0, .ref q5a, .int ma, .ref q5b, .ref q5c, .int to, .ref q5d, .ref q5e, .ref q5f, .ref q5g, .ref q5h, .int rn, .int rf, .int et, .ref q5i, .int sp, .int ho, .int mo, .int cs, .int uw, .int wh, .int lo])), (q5a, .inl (cA, 6, .inl pl)), (q5b, .inl (cA, 60, .inl nu)), (q5c, .inl (cA, 60, .inl de)), (q5d, .inl (cA, 40, .inl si)), (q5e, .inl (cA, 480, .inl ki)), (q5f, .inl (cA, 480, .inl aa)), (q5g, .inl (cA, 480, .inl xx)), (q5h, .inl (cA, 480, .inl yy)), (q5i, .inl (cA, 250, .inl en))] := hD
  refine lv_iload_n hx hb dX5_at_5 rfl (lv_at hl 1 rfl) ?_
  refine kx_read (va_runS (As := [.int p0]) (rest := []) ⟨hx, hb, hml, hown, hts⟩ (c_X5_isPlace l p0) (cwS 1 hts gX5_at_X5_isPlace rfl rfl rfl (by decide +kernel) ⟨(Nat.le_of_ble_eq_true rfl), (Nat.le_of_ble_eq_true rfl)⟩) (pS hN) rfl rfl hl.1 rfl (lv_room (Nat.le_of_ble_eq_true rfl)) dX5_at_6 ⟨Nat.zero_le _, Nat.zero_le _⟩) ?_
  refine lv_if_eq (tgt := 21) hx hb dX5_at_9 (by decide) (fun c_1 => ?_) (fun c_1 => ?_)
  · refine lv_bipush (v := (-2)) hx hb dX5_at_21 (by decide) ?_
    exact rt_i hx hb hr hlocks (0, ma, to, rn, rf, et, sp, ho, mo, cs, uw, wh, lo, pl, nu, de, si, ki, aa, xx, yy, en) (by simp only [f_X5_at, if_pos c_1]) hP hD hS dX5_at_23
  · refine lv_aload_n hx hb dX5_at_12 rfl (lv_at hl 0 rfl) ?_
    refine va_get (D := (dC, dI)) (ci := 5) (v := .ref q5a) (C := RX5) (T := TX5) (N := 22) hx hb hts (by decide +kernel) hown hK hP 0 rfl rfl 1 (by decide) (hts (.fieldLink RX5 7 RX5 "placed" "[I") (by decide +kernel)) (fun _ h9 => h9) rfl dX5_at_13 ?_
    refine lv_iload_n hx hb dX5_at_16 rfl (lv_at hl 1 rfl) ?_
    refine va_iald hx hb hK hP 1 0 rfl rfl (m_place c_1) dX5_at_17 ?_
    refine lv_goto (tgt := 23) hx hb dX5_at_18 (by decide) ?_
    exact rt_i hx hb hr hlocks (0, ma, to, rn, rf, et, sp, ho, mo, cs, uw, wh, lo, pl, nu, de, si, ki, aa, xx, yy, en) (by simp only [f_X5_at, if_neg c_1]) hP hD hS dX5_at_23
set_option maxHeartbeats 4000000 in
set_option maxRecDepth 100000 in
theorem c_X5_number (l : Launch) (dC : Nat → ClassId) (dI : Nat → Nat → Nat) (cA : ClassId) (q5 q5a q5b q5c q5d q5e q5f q5g q5h q5i : Nat) (sz : Nat) (th : Int32) (ma : Int32) (to : Int32) (rn : Int32) (rf : Int32) (et : Int32) (sp : Int32) (ho : Int32) (mo : Int32) (cs : Int32) (uw : Int32) (wh : Int32) (lo : Int32) (pl : Nat → Int32) (nu : Nat → Int32) (de : Nat → Int32) (si : Nat → Int32) (ki : Nat → Int32) (aa : Nat → Int32) (xx : Nat → Int32) (yy : Nat → Int32) (en : Nat → Int32) (p0 : Int32) (hma0 : 0 ≤ ma.toInt ∧ ma.toInt ≤ 60) : Met l yX5_number wsX5_number ({ frames := 1, cells := 0, slots := 0, locals := 22 }) (pcW (dC, dI) [(q5, .inr (5, [.int th, .ref q5a, .int ma, .ref q5b, .ref q5c, .int to, .ref q5d, .ref q5e, .ref q5f, .ref q5g, .ref q5h, .int rn, .int rf, .int et, .ref q5i, .int sp, .int ho, .int mo, .int cs, .int uw, .int wh, .int lo])), (q5a, .inl (cA, 6, .inl pl)), (q5b, .inl (cA, 60, .inl nu)), (q5c, .inl (cA, 60, .inl de)), (q5d, .inl (cA, 40, .inl si)), (q5e, .inl (cA, 480, .inl ki)), (q5f, .inl (cA, 480, .inl aa)), (q5g, .inl (cA, 480, .inl xx)), (q5h, .inl (cA, 480, .inl yy)), (q5i, .inl (cA, 250, .inl en))] [(cA, .int)] sz [.ref q5, .int p0]) (QWi (dC, dI) (f_X5_number th ma to rn rf et sp ho mo cs uw wh lo pl nu de si ki aa xx yy en p0) (wd_mo cA q5 q5a q5b q5c q5d q5e q5f q5g q5h q5i) (va_A [(q5, .inr (5, [.int th, .ref q5a, .int ma, .ref q5b, .ref q5c, .int to, .ref q5d, .ref q5e, .ref q5f, .ref q5g, .ref q5h, .int rn, .int rf, .int et, .ref q5i, .int sp, .int ho, .int mo, .int cs, .int uw, .int wh, .int lo])), (q5a, .inl (cA, 6, .inl pl)), (q5b, .inl (cA, 60, .inl nu)), (q5c, .inl (cA, 60, .inl de)), (q5d, .inl (cA, 40, .inl si)), (q5e, .inl (cA, 480, .inl ki)), (q5f, .inl (cA, 480, .inl aa)), (q5g, .inl (cA, 480, .inl xx)), (q5h, .inl (cA, 480, .inl yy)), (q5i, .inl (cA, 250, .inl en))] sz)) 0 0 (va_A [(q5, .inr (5, [.int th, .ref q5a, .int ma, .ref q5b, .ref q5c, .int to, .ref q5d, .ref q5e, .ref q5f, .ref q5g, .ref q5h, .int rn, .int rf, .int et, .ref q5i, .int sp, .int ho, .int mo, .int cs, .int uw, .int wh, .int lo])), (q5a, .inl (cA, 6, .inl pl)), (q5b, .inl (cA, 60, .inl nu)), (q5c, .inl (cA, 60, .inl de)), (q5d, .inl (cA, 40, .inl si)), (q5e, .inl (cA, 480, .inl ki)), (q5f, .inl (cA, 480, .inl aa)), (q5g, .inl (cA, 480, .inl xx)), (q5h, .inl (cA, 480, .inl yy)), (q5i, .inl (cA, 250, .inl en))] sz) := by
  refine Met.ofW (cc := cX5_number) (maxL := 2) (ret := (some .int)) (by decide) rfl ?_
  intro p e s m args below meth c s₁ B hml hv
  obtain ⟨rfl, hsz, hN, hP, hK, hD0⟩ := hv
  have hx := B.exec
  have hb := B.bytes
  have hr := B.returns
  have hts := atoms_spec (ws := wsX5_number) B.pre
  have hown : s.vm.findClass RX5 = some m.cls := findClass_of_methodNamed B.named
  have hlocks := B.notSynchronized
  subst hsz
  have hD := hD0.self (sz := s.heap.size)
  generalize hAe : va_A [(q5, .inr (5, [.int th, .ref q5a, .int ma, .ref q5b, .ref q5c, .int to, .ref q5d, .ref q5e, .ref q5f, .ref q5g, .ref q5h, .int rn, .int rf, .int et, .ref q5i, .int sp, .int ho, .int mo, .int cs, .int uw, .int wh, .int lo])), (q5a, .inl (cA, 6, .inl pl)), (q5b, .inl (cA, 60, .inl nu)), (q5c, .inl (cA, 60, .inl de)), (q5d, .inl (cA, 40, .inl si)), (q5e, .inl (cA, 480, .inl ki)), (q5f, .inl (cA, 480, .inl aa)), (q5g, .inl (cA, 480, .inl xx)), (q5h, .inl (cA, 480, .inl yy)), (q5i, .inl (cA, 250, .inl en))] s.heap.size = A at hD ⊢
  have hA : ∀ q : Nat, s.heap.size ≤ q → A q := fun q h => by rw [← hAe]; exact Or.inr h
  have hS : va_S A s.heap s.heap [] := va_S.rf
  have hl := lv_entry ([.ref q5, .int p0]) (n := 2) (Nat.le_of_ble_eq_true rfl)
  rw [lg_entry_eq]
  generalize (lg_sl ([.ref q5, .int p0]) ++ List.replicate (2 - (lg_sl ([.ref q5, .int p0])).length) Slot.unset).toArray = ls at hl ⊢
  have hl : lv_has ls 2 [(0, .ref q5), (1, .int p0)] := hl
  refine lv_aload_n hx hb dX5_number_0 rfl (lv_at hl 0 rfl) ?_
  refine lv_iconst (v := 0) hx hb dX5_number_1 (by decide) ?_
  refine va_put (D := (dC, dI)) (ci := 5) (v := .int 0) (ty := .int) (C := RX5) (T := TX5) (N := 22) hx hb hts (by decide +kernel) tyX5 tyX5_ok nmX5 hown hK hP hD hS 0 rfl rfl 0 (by decide) (hts (.fieldLink RX5 37 RX5 "thrown" "I") (by decide +kernel)) (fun _ h9 => h9) rfl (by decide +kernel) rfl rfl (Nat.le_of_ble_eq_true rfl) dX5_number_2 (fun H locs hP hD hS => ?_)
  have hP : va_P (dC, dI) vwCl [(q5, .inr (5, [.int 0, .ref q5a, .int ma, .ref q5b, .ref q5c, .int to, .ref q5d, .ref q5e, .ref q5f, .ref q5g, .ref q5h, .int rn, .int rf, .int et, .ref q5i, .int sp, .int ho, .int mo, .int cs, .int uw, .int wh, .int lo])), (q5a, .inl (cA, 6, .inl pl)), (q5b, .inl (cA, 60, .inl nu)), (q5c, .inl (cA, 60, .inl de)), (q5d, .inl (cA, 40, .inl si)), (q5e, .inl (cA, 480, .inl ki)), (q5f, .inl (cA, 480, .inl aa)), (q5g, .inl (cA, 480, .inl xx)), (q5h, .inl (cA, 480, .inl yy)), (q5i, .inl (cA, 250, .inl en))] H := hP
  have hD : va_D A [(q5, .inr (5, [.int 0, .ref q5a, .int ma, .ref q5b, .ref q5c, .int to, .ref q5d, .ref q5e, .ref q5f, .ref q5g, .ref q5h, .int rn, .int rf, .int et, .ref q5i, .int sp, .int ho, .int mo, .int cs, .int uw, .int wh, .int lo])), (q5a, .inl (cA, 6, .inl pl)), (q5b, .inl (cA, 60, .inl nu)), (q5c, .inl (cA, 60, .inl de)), (q5d, .inl (cA, 40, .inl si)), (q5e, .inl (cA, 480, .inl ki)), (q5f, .inl (cA, 480, .inl aa)), (q5g, .inl (cA, 480, .inl xx)), (q5h, .inl (cA, 480, .inl yy)), (q5i, .inl (cA, 250, .inl en))] := hD
  refine lv_iload_n hx hb dX5_number_5 rfl (lv_at hl 1 rfl) ?_
  refine lv_iconst (v := 0) hx hb dX5_number_6 (by decide) ?_
  refine lv_aload_n hx hb dX5_number_7 rfl (lv_at hl 0 rfl) ?_
  refine va_get (D := (dC, dI)) (ci := 5) (v := .int ma) (C := RX5) (T := TX5) (N := 22) hx hb hts (by decide +kernel) hown hK hP 0 rfl rfl 2 (by decide) (hts (.fieldLink RX5 45 RX5 "things" "I") (by decide +kernel)) (fun _ h9 => h9) rfl dX5_number_8 ?_
  refine lv_iconst (v := 1) hx hb dX5_number_11 (by decide) ?_
  refine lv_isub hx hb dX5_number_12 ?_
  refine kx_read (va_runS (As := [.int p0, .int 0, .int (ma - 1)]) (rest := []) ⟨hx, hb, hml, hown, hts⟩ (c_X5_in l p0 0 (ma - 1)) (cwS 3 hts gX5_number_X5_in rfl rfl rfl (by decide +kernel) ⟨(Nat.le_of_ble_eq_true rfl), (Nat.le_of_ble_eq_true rfl)⟩) (pS hN) rfl rfl hl.1 rfl (lv_room (Nat.le_of_ble_eq_true rfl)) dX5_number_13 ⟨Nat.zero_le _, Nat.zero_le _⟩) ?_
  refine lv_if_eq (tgt := 28) hx hb dX5_number_16 (by decide) (fun c_1 => ?_) (fun c_1 => ?_)
  · refine lv_iconst (v := 0) hx hb dX5_number_28 (by decide) ?_
    exact rt_i hx hb hr hlocks (0, ma, to, rn, rf, et, sp, ho, mo, cs, uw, wh, lo, pl, nu, de, si, ki, aa, xx, yy, en) (by simp only [f_X5_number, if_pos c_1]) hP hD hS dX5_number_29
  · refine lv_aload_n hx hb dX5_number_19 rfl (lv_at hl 0 rfl) ?_
    refine va_get (D := (dC, dI)) (ci := 5) (v := .ref q5b) (C := RX5) (T := TX5) (N := 22) hx hb hts (by decide +kernel) hown hK hP 0 rfl rfl 3 (by decide) (hts (.fieldLink RX5 13 RX5 "number" "[I") (by decide +kernel)) (fun _ h9 => h9) rfl dX5_number_20 ?_
    refine lv_iload_n hx hb dX5_number_23 rfl (lv_at hl 1 rfl) ?_
    refine va_iald hx hb hK hP 2 0 rfl rfl (m_num hma0 c_1) dX5_number_24 ?_
    refine lv_goto (tgt := 29) hx hb dX5_number_25 (by decide) ?_
    exact rt_i hx hb hr hlocks (0, ma, to, rn, rf, et, sp, ho, mo, cs, uw, wh, lo, pl, nu, de, si, ki, aa, xx, yy, en) (by simp only [f_X5_number, if_neg c_1]) hP hD hS dX5_number_29
set_option maxHeartbeats 4000000 in
set_option maxRecDepth 100000 in
theorem c_X5_count (l : Launch) (dC : Nat → ClassId) (dI : Nat → Nat → Nat) (cA : ClassId) (q5 q5a q5b q5c q5d q5e q5f q5g q5h q5i : Nat) (sz : Nat) (th : Int32) (ma : Int32) (to : Int32) (rn : Int32) (rf : Int32) (et : Int32) (sp : Int32) (ho : Int32) (mo : Int32) (cs : Int32) (uw : Int32) (wh : Int32) (lo : Int32) (pl : Nat → Int32) (nu : Nat → Int32) (de : Nat → Int32) (si : Nat → Int32) (ki : Nat → Int32) (aa : Nat → Int32) (xx : Nat → Int32) (yy : Nat → Int32) (en : Nat → Int32) (p0 : Int32) : Met l yX5_count wsX5_count ({ frames := 0, cells := 0, slots := 0, locals := 0 }) (pcW (dC, dI) [(q5, .inr (5, [.int th, .ref q5a, .int ma, .ref q5b, .ref q5c, .int to, .ref q5d, .ref q5e, .ref q5f, .ref q5g, .ref q5h, .int rn, .int rf, .int et, .ref q5i, .int sp, .int ho, .int mo, .int cs, .int uw, .int wh, .int lo])), (q5a, .inl (cA, 6, .inl pl)), (q5b, .inl (cA, 60, .inl nu)), (q5c, .inl (cA, 60, .inl de)), (q5d, .inl (cA, 40, .inl si)), (q5e, .inl (cA, 480, .inl ki)), (q5f, .inl (cA, 480, .inl aa)), (q5g, .inl (cA, 480, .inl xx)), (q5h, .inl (cA, 480, .inl yy)), (q5i, .inl (cA, 250, .inl en))] [(cA, .int)] sz [.ref q5, .int p0]) (QWi (dC, dI) (f_X5_count th ma to rn rf et sp ho mo cs uw wh lo pl nu de si ki aa xx yy en p0) (wd_mo cA q5 q5a q5b q5c q5d q5e q5f q5g q5h q5i) (va_A [(q5, .inr (5, [.int th, .ref q5a, .int ma, .ref q5b, .ref q5c, .int to, .ref q5d, .ref q5e, .ref q5f, .ref q5g, .ref q5h, .int rn, .int rf, .int et, .ref q5i, .int sp, .int ho, .int mo, .int cs, .int uw, .int wh, .int lo])), (q5a, .inl (cA, 6, .inl pl)), (q5b, .inl (cA, 60, .inl nu)), (q5c, .inl (cA, 60, .inl de)), (q5d, .inl (cA, 40, .inl si)), (q5e, .inl (cA, 480, .inl ki)), (q5f, .inl (cA, 480, .inl aa)), (q5g, .inl (cA, 480, .inl xx)), (q5h, .inl (cA, 480, .inl yy)), (q5i, .inl (cA, 250, .inl en))] sz)) 0 0 (va_A [(q5, .inr (5, [.int th, .ref q5a, .int ma, .ref q5b, .ref q5c, .int to, .ref q5d, .ref q5e, .ref q5f, .ref q5g, .ref q5h, .int rn, .int rf, .int et, .ref q5i, .int sp, .int ho, .int mo, .int cs, .int uw, .int wh, .int lo])), (q5a, .inl (cA, 6, .inl pl)), (q5b, .inl (cA, 60, .inl nu)), (q5c, .inl (cA, 60, .inl de)), (q5d, .inl (cA, 40, .inl si)), (q5e, .inl (cA, 480, .inl ki)), (q5f, .inl (cA, 480, .inl aa)), (q5g, .inl (cA, 480, .inl xx)), (q5h, .inl (cA, 480, .inl yy)), (q5i, .inl (cA, 250, .inl en))] sz) := by
  refine Met.ofW (cc := cX5_count) (maxL := 2) (ret := (some .int)) (by decide) rfl ?_
  intro p e s m args below meth c s₁ B hml hv
  obtain ⟨rfl, hsz, hN, hP, hK, hD0⟩ := hv
  have hx := B.exec
  have hb := B.bytes
  have hr := B.returns
  have hts := atoms_spec (ws := wsX5_count) B.pre
  have hown : s.vm.findClass RX5 = some m.cls := findClass_of_methodNamed B.named
  have hlocks := B.notSynchronized
  subst hsz
  have hD := hD0.self (sz := s.heap.size)
  generalize hAe : va_A [(q5, .inr (5, [.int th, .ref q5a, .int ma, .ref q5b, .ref q5c, .int to, .ref q5d, .ref q5e, .ref q5f, .ref q5g, .ref q5h, .int rn, .int rf, .int et, .ref q5i, .int sp, .int ho, .int mo, .int cs, .int uw, .int wh, .int lo])), (q5a, .inl (cA, 6, .inl pl)), (q5b, .inl (cA, 60, .inl nu)), (q5c, .inl (cA, 60, .inl de)), (q5d, .inl (cA, 40, .inl si)), (q5e, .inl (cA, 480, .inl ki)), (q5f, .inl (cA, 480, .inl aa)), (q5g, .inl (cA, 480, .inl xx)), (q5h, .inl (cA, 480, .inl yy)), (q5i, .inl (cA, 250, .inl en))] s.heap.size = A at hD ⊢
  have hA : ∀ q : Nat, s.heap.size ≤ q → A q := fun q h => by rw [← hAe]; exact Or.inr h
  have hS : va_S A s.heap s.heap [] := va_S.rf
  have hl := lv_entry ([.ref q5, .int p0]) (n := 2) (Nat.le_of_ble_eq_true rfl)
  rw [lg_entry_eq]
  generalize (lg_sl ([.ref q5, .int p0]) ++ List.replicate (2 - (lg_sl ([.ref q5, .int p0])).length) Slot.unset).toArray = ls at hl ⊢
  have hl : lv_has ls 2 [(0, .ref q5), (1, .int p0)] := hl
  refine lv_aload_n hx hb dX5_count_0 rfl (lv_at hl 0 rfl) ?_
  refine lv_iconst (v := 0) hx hb dX5_count_1 (by decide) ?_
  refine va_put (D := (dC, dI)) (ci := 5) (v := .int 0) (ty := .int) (C := RX5) (T := TX5) (N := 22) hx hb hts (by decide +kernel) tyX5 tyX5_ok nmX5 hown hK hP hD hS 0 rfl rfl 0 (by decide) (hts (.fieldLink RX5 37 RX5 "thrown" "I") (by decide +kernel)) (fun _ h9 => h9) rfl (by decide +kernel) rfl rfl (Nat.le_of_ble_eq_true rfl) dX5_count_2 (fun H locs hP hD hS => ?_)
  have hP : va_P (dC, dI) vwCl [(q5, .inr (5, [.int 0, .ref q5a, .int ma, .ref q5b, .ref q5c, .int to, .ref q5d, .ref q5e, .ref q5f, .ref q5g, .ref q5h, .int rn, .int rf, .int et, .ref q5i, .int sp, .int ho, .int mo, .int cs, .int uw, .int wh, .int lo])), (q5a, .inl (cA, 6, .inl pl)), (q5b, .inl (cA, 60, .inl nu)), (q5c, .inl (cA, 60, .inl de)), (q5d, .inl (cA, 40, .inl si)), (q5e, .inl (cA, 480, .inl ki)), (q5f, .inl (cA, 480, .inl aa)), (q5g, .inl (cA, 480, .inl xx)), (q5h, .inl (cA, 480, .inl yy)), (q5i, .inl (cA, 250, .inl en))] H := hP
  have hD : va_D A [(q5, .inr (5, [.int 0, .ref q5a, .int ma, .ref q5b, .ref q5c, .int to, .ref q5d, .ref q5e, .ref q5f, .ref q5g, .ref q5h, .int rn, .int rf, .int et, .ref q5i, .int sp, .int ho, .int mo, .int cs, .int uw, .int wh, .int lo])), (q5a, .inl (cA, 6, .inl pl)), (q5b, .inl (cA, 60, .inl nu)), (q5c, .inl (cA, 60, .inl de)), (q5d, .inl (cA, 40, .inl si)), (q5e, .inl (cA, 480, .inl ki)), (q5f, .inl (cA, 480, .inl aa)), (q5g, .inl (cA, 480, .inl xx)), (q5h, .inl (cA, 480, .inl yy)), (q5i, .inl (cA, 250, .inl en))] := hD
  refine lv_iload_n hx hb dX5_count_5 rfl (lv_at hl 1 rfl) ?_
  refine lv_if_ne (tgt := 16) hx hb dX5_count_6 (by decide) (fun c_1 => ?_) (fun c_1 => ?_)
  · refine lv_iload_n hx hb dX5_count_16 rfl (lv_at hl 1 rfl) ?_
    refine lv_iconst (v := 1) hx hb dX5_count_17 (by decide) ?_
    refine lv_icmp_ne (tgt := 28) hx hb dX5_count_18 (by decide) (fun c_2 => ?_) (fun c_2 => ?_)
    · refine lv_iload_n hx hb dX5_count_28 rfl (lv_at hl 1 rfl) ?_
      refine lv_iconst (v := 2) hx hb dX5_count_29 (by decide) ?_
      refine lv_icmp_ne (tgt := 40) hx hb dX5_count_30 (by decide) (fun c_3 => ?_) (fun c_3 => ?_)
      · refine lv_iload_n hx hb dX5_count_40 rfl (lv_at hl 1 rfl) ?_
        refine lv_iconst (v := 3) hx hb dX5_count_41 (by decide) ?_
        refine lv_icmp_ne (tgt := 52) hx hb dX5_count_42 (by decide) (fun c_4 => ?_) (fun c_4 => ?_)
        · refine lv_bipush (v := (-2)) hx hb dX5_count_52 (by decide) ?_
          exact rt_i hx hb hr hlocks (0, ma, to, rn, rf, et, sp, ho, mo, cs, uw, wh, lo, pl, nu, de, si, ki, aa, xx, yy, en) (by simp only [f_X5_count, if_neg c_1, if_neg c_2, if_neg c_3, if_neg c_4]) hP hD hS dX5_count_54
        · refine lv_aload_n hx hb dX5_count_45 rfl (lv_at hl 0 rfl) ?_
          refine va_get (D := (dC, dI)) (ci := 5) (v := .int rf) (C := RX5) (T := TX5) (N := 22) hx hb hts (by decide +kernel) hown hK hP 0 rfl rfl 12 (by decide) (hts (.fieldLink RX5 111 RX5 "refused" "I") (by decide +kernel)) (fun _ h9 => h9) rfl dX5_count_46 ?_
          refine lv_goto (tgt := 54) hx hb dX5_count_49 (by decide) ?_
          exact rt_i hx hb hr hlocks (0, ma, to, rn, rf, et, sp, ho, mo, cs, uw, wh, lo, pl, nu, de, si, ki, aa, xx, yy, en) (by simp only [f_X5_count, if_neg c_1, if_neg c_2, if_neg c_3, if_pos c_4]) hP hD hS dX5_count_54
      · refine lv_aload_n hx hb dX5_count_33 rfl (lv_at hl 0 rfl) ?_
        refine va_get (D := (dC, dI)) (ci := 5) (v := .int rn) (C := RX5) (T := TX5) (N := 22) hx hb hts (by decide +kernel) hown hK hP 0 rfl rfl 11 (by decide) (hts (.fieldLink RX5 137 RX5 "runs" "I") (by decide +kernel)) (fun _ h9 => h9) rfl dX5_count_34 ?_
        refine lv_goto (tgt := 54) hx hb dX5_count_37 (by decide) ?_
        exact rt_i hx hb hr hlocks (0, ma, to, rn, rf, et, sp, ho, mo, cs, uw, wh, lo, pl, nu, de, si, ki, aa, xx, yy, en) (by simp only [f_X5_count, if_neg c_1, if_neg c_2, if_pos c_3]) hP hD hS dX5_count_54
    · refine lv_aload_n hx hb dX5_count_21 rfl (lv_at hl 0 rfl) ?_
      refine va_get (D := (dC, dI)) (ci := 5) (v := .int to) (C := RX5) (T := TX5) (N := 22) hx hb hts (by decide +kernel) hown hK hP 0 rfl rfl 5 (by decide) (hts (.fieldLink RX5 64 RX5 "steps" "I") (by decide +kernel)) (fun _ h9 => h9) rfl dX5_count_22 ?_
      refine lv_goto (tgt := 54) hx hb dX5_count_25 (by decide) ?_
      exact rt_i hx hb hr hlocks (0, ma, to, rn, rf, et, sp, ho, mo, cs, uw, wh, lo, pl, nu, de, si, ki, aa, xx, yy, en) (by simp only [f_X5_count, if_neg c_1, if_pos c_2]) hP hD hS dX5_count_54
  · refine lv_aload_n hx hb dX5_count_9 rfl (lv_at hl 0 rfl) ?_
    refine va_get (D := (dC, dI)) (ci := 5) (v := .int ma) (C := RX5) (T := TX5) (N := 22) hx hb hts (by decide +kernel) hown hK hP 0 rfl rfl 2 (by decide) (hts (.fieldLink RX5 45 RX5 "things" "I") (by decide +kernel)) (fun _ h9 => h9) rfl dX5_count_10 ?_
    refine lv_goto (tgt := 54) hx hb dX5_count_13 (by decide) ?_
    exact rt_i hx hb hr hlocks (0, ma, to, rn, rf, et, sp, ho, mo, cs, uw, wh, lo, pl, nu, de, si, ki, aa, xx, yy, en) (by simp only [f_X5_count, if_pos c_1]) hP hD hS dX5_count_54
set_option maxHeartbeats 4000000 in
set_option maxRecDepth 100000 in
theorem c_X5_run (l : Launch) (dC : Nat → ClassId) (dI : Nat → Nat → Nat) (cA : ClassId) (q5 q5a q5b q5c q5d q5e q5f q5g q5h q5i : Nat) (sz : Nat) (th : Int32) (ma : Int32) (to : Int32) (rn : Int32) (rf : Int32) (et : Int32) (sp : Int32) (ho : Int32) (mo : Int32) (cs : Int32) (uw : Int32) (wh : Int32) (lo : Int32) (pl : Nat → Int32) (nu : Nat → Int32) (de : Nat → Int32) (si : Nat → Int32) (ki : Nat → Int32) (aa : Nat → Int32) (xx : Nat → Int32) (yy : Nat → Int32) (en : Nat → Int32) (d : Nat) (hd : d = 40) (hJ : J 0 ma et sp pl nu de si ki aa xx yy) (hde : ∀ t : Nat, de t = 0) : Met l yX5_run wsX5_run ({ frames := 129, cells := 0, slots := 0, locals := 5000 }) (pcW (dC, dI) [(q5, .inr (5, [.int th, .ref q5a, .int ma, .ref q5b, .ref q5c, .int to, .ref q5d, .ref q5e, .ref q5f, .ref q5g, .ref q5h, .int rn, .int rf, .int et, .ref q5i, .int sp, .int ho, .int mo, .int cs, .int uw, .int wh, .int lo])), (q5a, .inl (cA, 6, .inl pl)), (q5b, .inl (cA, 60, .inl nu)), (q5c, .inl (cA, 60, .inl de)), (q5d, .inl (cA, 40, .inl si)), (q5e, .inl (cA, 480, .inl ki)), (q5f, .inl (cA, 480, .inl aa)), (q5g, .inl (cA, 480, .inl xx)), (q5h, .inl (cA, 480, .inl yy)), (q5i, .inl (cA, 250, .inl en))] [(cA, .int)] sz [.ref q5]) (QWi (dC, dI) (f_X5_run d th ma to rn rf et sp ho mo cs uw wh lo pl nu de si ki aa xx yy en) (wd_mo cA q5 q5a q5b q5c q5d q5e q5f q5g q5h q5i) (va_A [(q5, .inr (5, [.int th, .ref q5a, .int ma, .ref q5b, .ref q5c, .int to, .ref q5d, .ref q5e, .ref q5f, .ref q5g, .ref q5h, .int rn, .int rf, .int et, .ref q5i, .int sp, .int ho, .int mo, .int cs, .int uw, .int wh, .int lo])), (q5a, .inl (cA, 6, .inl pl)), (q5b, .inl (cA, 60, .inl nu)), (q5c, .inl (cA, 60, .inl de)), (q5d, .inl (cA, 40, .inl si)), (q5e, .inl (cA, 480, .inl ki)), (q5f, .inl (cA, 480, .inl aa)), (q5g, .inl (cA, 480, .inl xx)), (q5h, .inl (cA, 480, .inl yy)), (q5i, .inl (cA, 250, .inl en))] sz)) 0 0 (va_A [(q5, .inr (5, [.int th, .ref q5a, .int ma, .ref q5b, .ref q5c, .int to, .ref q5d, .ref q5e, .ref q5f, .ref q5g, .ref q5h, .int rn, .int rf, .int et, .ref q5i, .int sp, .int ho, .int mo, .int cs, .int uw, .int wh, .int lo])), (q5a, .inl (cA, 6, .inl pl)), (q5b, .inl (cA, 60, .inl nu)), (q5c, .inl (cA, 60, .inl de)), (q5d, .inl (cA, 40, .inl si)), (q5e, .inl (cA, 480, .inl ki)), (q5f, .inl (cA, 480, .inl aa)), (q5g, .inl (cA, 480, .inl xx)), (q5h, .inl (cA, 480, .inl yy)), (q5i, .inl (cA, 250, .inl en))] sz) := by
  refine Met.ofW (cc := cX5_run) (maxL := 2) (ret := (some .int)) (by decide) rfl ?_
  intro p e s m args below meth c s₁ B hml hv
  obtain ⟨rfl, hsz, hN, hP, hK, hD0⟩ := hv
  have hx := B.exec
  have hb := B.bytes
  have hr := B.returns
  have hts := atoms_spec (ws := wsX5_run) B.pre
  have hown : s.vm.findClass RX5 = some m.cls := findClass_of_methodNamed B.named
  have hlocks := B.notSynchronized
  subst hsz
  have hD := hD0.self (sz := s.heap.size)
  generalize hAe : va_A [(q5, .inr (5, [.int th, .ref q5a, .int ma, .ref q5b, .ref q5c, .int to, .ref q5d, .ref q5e, .ref q5f, .ref q5g, .ref q5h, .int rn, .int rf, .int et, .ref q5i, .int sp, .int ho, .int mo, .int cs, .int uw, .int wh, .int lo])), (q5a, .inl (cA, 6, .inl pl)), (q5b, .inl (cA, 60, .inl nu)), (q5c, .inl (cA, 60, .inl de)), (q5d, .inl (cA, 40, .inl si)), (q5e, .inl (cA, 480, .inl ki)), (q5f, .inl (cA, 480, .inl aa)), (q5g, .inl (cA, 480, .inl xx)), (q5h, .inl (cA, 480, .inl yy)), (q5i, .inl (cA, 250, .inl en))] s.heap.size = A at hD ⊢
  have hA : ∀ q : Nat, s.heap.size ≤ q → A q := fun q h => by rw [← hAe]; exact Or.inr h
  have hS : va_S A s.heap s.heap [] := va_S.rf
  have hl := lv_entry ([.ref q5]) (n := 2) (Nat.le_of_ble_eq_true rfl)
  rw [lg_entry_eq]
  generalize (lg_sl ([.ref q5]) ++ List.replicate (2 - (lg_sl ([.ref q5])).length) Slot.unset).toArray = ls at hl ⊢
  have hl : lv_has ls 2 [(0, .ref q5)] := hl
  refine lv_aload_n hx hb dX5_run_0 rfl (lv_at hl 0 rfl) ?_
  refine lv_iconst (v := 0) hx hb dX5_run_1 (by decide) ?_
  refine va_put (D := (dC, dI)) (ci := 5) (v := .int 0) (ty := .int) (C := RX5) (T := TX5) (N := 22) hx hb hts (by decide +kernel) tyX5 tyX5_ok nmX5 hown hK hP hD hS 0 rfl rfl 0 (by decide) (hts (.fieldLink RX5 37 RX5 "thrown" "I") (by decide +kernel)) (fun _ h9 => h9) rfl (by decide +kernel) rfl rfl (Nat.le_of_ble_eq_true rfl) dX5_run_2 (fun H locs hP hD hS => ?_)
  have hP : va_P (dC, dI) vwCl [(q5, .inr (5, [.int 0, .ref q5a, .int ma, .ref q5b, .ref q5c, .int to, .ref q5d, .ref q5e, .ref q5f, .ref q5g, .ref q5h, .int rn, .int rf, .int et, .ref q5i, .int sp, .int ho, .int mo, .int cs, .int uw, .int wh, .int lo])), (q5a, .inl (cA, 6, .inl pl)), (q5b, .inl (cA, 60, .inl nu)), (q5c, .inl (cA, 60, .inl de)), (q5d, .inl (cA, 40, .inl si)), (q5e, .inl (cA, 480, .inl ki)), (q5f, .inl (cA, 480, .inl aa)), (q5g, .inl (cA, 480, .inl xx)), (q5h, .inl (cA, 480, .inl yy)), (q5i, .inl (cA, 250, .inl en))] H := hP
  have hD : va_D A [(q5, .inr (5, [.int 0, .ref q5a, .int ma, .ref q5b, .ref q5c, .int to, .ref q5d, .ref q5e, .ref q5f, .ref q5g, .ref q5h, .int rn, .int rf, .int et, .ref q5i, .int sp, .int ho, .int mo, .int cs, .int uw, .int wh, .int lo])), (q5a, .inl (cA, 6, .inl pl)), (q5b, .inl (cA, 60, .inl nu)), (q5c, .inl (cA, 60, .inl de)), (q5d, .inl (cA, 40, .inl si)), (q5e, .inl (cA, 480, .inl ki)), (q5f, .inl (cA, 480, .inl aa)), (q5g, .inl (cA, 480, .inl xx)), (q5h, .inl (cA, 480, .inl yy)), (q5i, .inl (cA, 250, .inl en))] := hD
  refine lv_aload_n hx hb dX5_run_5 rfl (lv_at hl 0 rfl) ?_
  refine va_get (D := (dC, dI)) (ci := 5) (v := .int rf) (C := RX5) (T := TX5) (N := 22) hx hb hts (by decide +kernel) hown hK hP 0 rfl rfl 12 (by decide) (hts (.fieldLink RX5 111 RX5 "refused" "I") (by decide +kernel)) (fun _ h9 => h9) rfl dX5_run_6 ?_
  refine lv_sipush (v := 1500) hx hb dX5_run_9 (by decide) ?_
  refine lv_icmp_lt (tgt := 18) hx hb dX5_run_12 (by decide) (fun c_1 => ?_) (fun c_1 => ?_)
  · refine lv_aload_n hx hb dX5_run_18 rfl (lv_at hl 0 rfl) ?_
    refine lv_dup hx hb dX5_run_19 rfl ?_
    refine va_get (D := (dC, dI)) (ci := 5) (v := .int rn) (C := RX5) (T := TX5) (N := 22) hx hb hts (by decide +kernel) hown hK hP 0 rfl rfl 11 (by decide) (hts (.fieldLink RX5 137 RX5 "runs" "I") (by decide +kernel)) (fun _ h9 => h9) rfl dX5_run_20 ?_
    refine lv_iconst (v := 1) hx hb dX5_run_23 (by decide) ?_
    refine lv_iadd hx hb dX5_run_24 ?_
    refine va_put (D := (dC, dI)) (ci := 5) (v := .int (rn + 1)) (ty := .int) (C := RX5) (T := TX5) (N := 22) hx hb hts (by decide +kernel) tyX5 tyX5_ok nmX5 hown hK hP hD hS 0 rfl rfl 11 (by decide) (hts (.fieldLink RX5 137 RX5 "runs" "I") (by decide +kernel)) (fun _ h9 => h9) rfl (by decide +kernel) rfl rfl (Nat.le_of_ble_eq_true rfl) dX5_run_25 (fun H locs hP hD hS => ?_)
    have hP : va_P (dC, dI) vwCl [(q5, .inr (5, [.int 0, .ref q5a, .int ma, .ref q5b, .ref q5c, .int to, .ref q5d, .ref q5e, .ref q5f, .ref q5g, .ref q5h, .int (rn + 1), .int rf, .int et, .ref q5i, .int sp, .int ho, .int mo, .int cs, .int uw, .int wh, .int lo])), (q5a, .inl (cA, 6, .inl pl)), (q5b, .inl (cA, 60, .inl nu)), (q5c, .inl (cA, 60, .inl de)), (q5d, .inl (cA, 40, .inl si)), (q5e, .inl (cA, 480, .inl ki)), (q5f, .inl (cA, 480, .inl aa)), (q5g, .inl (cA, 480, .inl xx)), (q5h, .inl (cA, 480, .inl yy)), (q5i, .inl (cA, 250, .inl en))] H := hP
    have hD : va_D A [(q5, .inr (5, [.int 0, .ref q5a, .int ma, .ref q5b, .ref q5c, .int to, .ref q5d, .ref q5e, .ref q5f, .ref q5g, .ref q5h, .int (rn + 1), .int rf, .int et, .ref q5i, .int sp, .int ho, .int mo, .int cs, .int uw, .int wh, .int lo])), (q5a, .inl (cA, 6, .inl pl)), (q5b, .inl (cA, 60, .inl nu)), (q5c, .inl (cA, 60, .inl de)), (q5d, .inl (cA, 40, .inl si)), (q5e, .inl (cA, 480, .inl ki)), (q5f, .inl (cA, 480, .inl aa)), (q5g, .inl (cA, 480, .inl xx)), (q5h, .inl (cA, 480, .inl yy)), (q5i, .inl (cA, 250, .inl en))] := hD
    refine lv_aload_n hx hb dX5_run_28 rfl (lv_at hl 0 rfl) ?_
    refine lv_iconst (v := 0) hx hb dX5_run_29 (by decide) ?_
    refine va_put (D := (dC, dI)) (ci := 5) (v := .int 0) (ty := .int) (C := RX5) (T := TX5) (N := 22) hx hb hts (by decide +kernel) tyX5 tyX5_ok nmX5 hown hK hP hD hS 0 rfl rfl 13 (by decide) (hts (.fieldLink RX5 67 RX5 "traced" "I") (by decide +kernel)) (fun _ h9 => h9) rfl (by decide +kernel) rfl rfl (Nat.le_of_ble_eq_true rfl) dX5_run_30 (fun H locs hP hD hS => ?_)
    have hP : va_P (dC, dI) vwCl [(q5, .inr (5, [.int 0, .ref q5a, .int ma, .ref q5b, .ref q5c, .int to, .ref q5d, .ref q5e, .ref q5f, .ref q5g, .ref q5h, .int (rn + 1), .int rf, .int 0, .ref q5i, .int sp, .int ho, .int mo, .int cs, .int uw, .int wh, .int lo])), (q5a, .inl (cA, 6, .inl pl)), (q5b, .inl (cA, 60, .inl nu)), (q5c, .inl (cA, 60, .inl de)), (q5d, .inl (cA, 40, .inl si)), (q5e, .inl (cA, 480, .inl ki)), (q5f, .inl (cA, 480, .inl aa)), (q5g, .inl (cA, 480, .inl xx)), (q5h, .inl (cA, 480, .inl yy)), (q5i, .inl (cA, 250, .inl en))] H := hP
    have hD : va_D A [(q5, .inr (5, [.int 0, .ref q5a, .int ma, .ref q5b, .ref q5c, .int to, .ref q5d, .ref q5e, .ref q5f, .ref q5g, .ref q5h, .int (rn + 1), .int rf, .int 0, .ref q5i, .int sp, .int ho, .int mo, .int cs, .int uw, .int wh, .int lo])), (q5a, .inl (cA, 6, .inl pl)), (q5b, .inl (cA, 60, .inl nu)), (q5c, .inl (cA, 60, .inl de)), (q5d, .inl (cA, 40, .inl si)), (q5e, .inl (cA, 480, .inl ki)), (q5f, .inl (cA, 480, .inl aa)), (q5g, .inl (cA, 480, .inl xx)), (q5h, .inl (cA, 480, .inl yy)), (q5i, .inl (cA, 250, .inl en))] := hD
    refine lv_aload_n hx hb dX5_run_33 rfl (lv_at hl 0 rfl) ?_
    refine lv_iconst (v := 0) hx hb dX5_run_34 (by decide) ?_
    refine va_put (D := (dC, dI)) (ci := 5) (v := .int 0) (ty := .int) (C := RX5) (T := TX5) (N := 22) hx hb hts (by decide +kernel) tyX5 tyX5_ok nmX5 hown hK hP hD hS 0 rfl rfl 15 (by decide) (hts (.fieldLink RX5 89 RX5 "done" "I") (by decide +kernel)) (fun _ h9 => h9) rfl (by decide +kernel) rfl rfl (Nat.le_of_ble_eq_true rfl) dX5_run_35 (fun H locs hP hD hS => ?_)
    have hP : va_P (dC, dI) vwCl [(q5, .inr (5, [.int 0, .ref q5a, .int ma, .ref q5b, .ref q5c, .int to, .ref q5d, .ref q5e, .ref q5f, .ref q5g, .ref q5h, .int (rn + 1), .int rf, .int 0, .ref q5i, .int 0, .int ho, .int mo, .int cs, .int uw, .int wh, .int lo])), (q5a, .inl (cA, 6, .inl pl)), (q5b, .inl (cA, 60, .inl nu)), (q5c, .inl (cA, 60, .inl de)), (q5d, .inl (cA, 40, .inl si)), (q5e, .inl (cA, 480, .inl ki)), (q5f, .inl (cA, 480, .inl aa)), (q5g, .inl (cA, 480, .inl xx)), (q5h, .inl (cA, 480, .inl yy)), (q5i, .inl (cA, 250, .inl en))] H := hP
    have hD : va_D A [(q5, .inr (5, [.int 0, .ref q5a, .int ma, .ref q5b, .ref q5c, .int to, .ref q5d, .ref q5e, .ref q5f, .ref q5g, .ref q5h, .int (rn + 1), .int rf, .int 0, .ref q5i, .int 0, .int ho, .int mo, .int cs, .int uw, .int wh, .int lo])), (q5a, .inl (cA, 6, .inl pl)), (q5b, .inl (cA, 60, .inl nu)), (q5c, .inl (cA, 60, .inl de)), (q5d, .inl (cA, 40, .inl si)), (q5e, .inl (cA, 480, .inl ki)), (q5f, .inl (cA, 480, .inl aa)), (q5g, .inl (cA, 480, .inl xx)), (q5h, .inl (cA, 480, .inl yy)), (q5i, .inl (cA, 250, .inl en))] := hD
    refine lv_aload_n hx hb dX5_run_38 rfl (lv_at hl 0 rfl) ?_
    refine lv_iconst (v := 0) hx hb dX5_run_39 (by decide) ?_
    refine va_put (D := (dC, dI)) (ci := 5) (v := .int 0) (ty := .int) (C := RX5) (T := TX5) (N := 22) hx hb hts (by decide +kernel) tyX5 tyX5_ok nmX5 hown hK hP hD hS 0 rfl rfl 16 (by decide) (hts (.fieldLink RX5 70 RX5 "holds" "I") (by decide +kernel)) (fun _ h9 => h9) rfl (by decide +kernel) rfl rfl (Nat.le_of_ble_eq_true rfl) dX5_run_40 (fun H locs hP hD hS => ?_)
    have hP : va_P (dC, dI) vwCl [(q5, .inr (5, [.int 0, .ref q5a, .int ma, .ref q5b, .ref q5c, .int to, .ref q5d, .ref q5e, .ref q5f, .ref q5g, .ref q5h, .int (rn + 1), .int rf, .int 0, .ref q5i, .int 0, .int 0, .int mo, .int cs, .int uw, .int wh, .int lo])), (q5a, .inl (cA, 6, .inl pl)), (q5b, .inl (cA, 60, .inl nu)), (q5c, .inl (cA, 60, .inl de)), (q5d, .inl (cA, 40, .inl si)), (q5e, .inl (cA, 480, .inl ki)), (q5f, .inl (cA, 480, .inl aa)), (q5g, .inl (cA, 480, .inl xx)), (q5h, .inl (cA, 480, .inl yy)), (q5i, .inl (cA, 250, .inl en))] H := hP
    have hD : va_D A [(q5, .inr (5, [.int 0, .ref q5a, .int ma, .ref q5b, .ref q5c, .int to, .ref q5d, .ref q5e, .ref q5f, .ref q5g, .ref q5h, .int (rn + 1), .int rf, .int 0, .ref q5i, .int 0, .int 0, .int mo, .int cs, .int uw, .int wh, .int lo])), (q5a, .inl (cA, 6, .inl pl)), (q5b, .inl (cA, 60, .inl nu)), (q5c, .inl (cA, 60, .inl de)), (q5d, .inl (cA, 40, .inl si)), (q5e, .inl (cA, 480, .inl ki)), (q5f, .inl (cA, 480, .inl aa)), (q5g, .inl (cA, 480, .inl xx)), (q5h, .inl (cA, 480, .inl yy)), (q5i, .inl (cA, 250, .inl en))] := hD
    refine lv_aload_n hx hb dX5_run_43 rfl (lv_at hl 0 rfl) ?_
    refine lv_iconst (v := 0) hx hb dX5_run_44 (by decide) ?_
    refine va_put (D := (dC, dI)) (ci := 5) (v := .int 0) (ty := .int) (C := RX5) (T := TX5) (N := 22) hx hb hts (by decide +kernel) tyX5 tyX5_ok nmX5 hown hK hP hD hS 0 rfl rfl 17 (by decide) (hts (.fieldLink RX5 76 RX5 "most" "I") (by decide +kernel)) (fun _ h9 => h9) rfl (by decide +kernel) rfl rfl (Nat.le_of_ble_eq_true rfl) dX5_run_45 (fun H locs hP hD hS => ?_)
    have hP : va_P (dC, dI) vwCl [(q5, .inr (5, [.int 0, .ref q5a, .int ma, .ref q5b, .ref q5c, .int to, .ref q5d, .ref q5e, .ref q5f, .ref q5g, .ref q5h, .int (rn + 1), .int rf, .int 0, .ref q5i, .int 0, .int 0, .int 0, .int cs, .int uw, .int wh, .int lo])), (q5a, .inl (cA, 6, .inl pl)), (q5b, .inl (cA, 60, .inl nu)), (q5c, .inl (cA, 60, .inl de)), (q5d, .inl (cA, 40, .inl si)), (q5e, .inl (cA, 480, .inl ki)), (q5f, .inl (cA, 480, .inl aa)), (q5g, .inl (cA, 480, .inl xx)), (q5h, .inl (cA, 480, .inl yy)), (q5i, .inl (cA, 250, .inl en))] H := hP
    have hD : va_D A [(q5, .inr (5, [.int 0, .ref q5a, .int ma, .ref q5b, .ref q5c, .int to, .ref q5d, .ref q5e, .ref q5f, .ref q5g, .ref q5h, .int (rn + 1), .int rf, .int 0, .ref q5i, .int 0, .int 0, .int 0, .int cs, .int uw, .int wh, .int lo])), (q5a, .inl (cA, 6, .inl pl)), (q5b, .inl (cA, 60, .inl nu)), (q5c, .inl (cA, 60, .inl de)), (q5d, .inl (cA, 40, .inl si)), (q5e, .inl (cA, 480, .inl ki)), (q5f, .inl (cA, 480, .inl aa)), (q5g, .inl (cA, 480, .inl xx)), (q5h, .inl (cA, 480, .inl yy)), (q5i, .inl (cA, 250, .inl en))] := hD
    refine lv_aload_n hx hb dX5_run_48 rfl (lv_at hl 0 rfl) ?_
    refine lv_iconst (v := 0) hx hb dX5_run_49 (by decide) ?_
    refine va_put (D := (dC, dI)) (ci := 5) (v := .int 0) (ty := .int) (C := RX5) (T := TX5) (N := 22) hx hb hts (by decide +kernel) tyX5 tyX5_ok nmX5 hown hK hP hD hS 0 rfl rfl 18 (by decide) (hts (.fieldLink RX5 83 RX5 "leftBadly" "I") (by decide +kernel)) (fun _ h9 => h9) rfl (by decide +kernel) rfl rfl (Nat.le_of_ble_eq_true rfl) dX5_run_50 (fun H locs hP hD hS => ?_)
    have hP : va_P (dC, dI) vwCl [(q5, .inr (5, [.int 0, .ref q5a, .int ma, .ref q5b, .ref q5c, .int to, .ref q5d, .ref q5e, .ref q5f, .ref q5g, .ref q5h, .int (rn + 1), .int rf, .int 0, .ref q5i, .int 0, .int 0, .int 0, .int 0, .int uw, .int wh, .int lo])), (q5a, .inl (cA, 6, .inl pl)), (q5b, .inl (cA, 60, .inl nu)), (q5c, .inl (cA, 60, .inl de)), (q5d, .inl (cA, 40, .inl si)), (q5e, .inl (cA, 480, .inl ki)), (q5f, .inl (cA, 480, .inl aa)), (q5g, .inl (cA, 480, .inl xx)), (q5h, .inl (cA, 480, .inl yy)), (q5i, .inl (cA, 250, .inl en))] H := hP
    have hD : va_D A [(q5, .inr (5, [.int 0, .ref q5a, .int ma, .ref q5b, .ref q5c, .int to, .ref q5d, .ref q5e, .ref q5f, .ref q5g, .ref q5h, .int (rn + 1), .int rf, .int 0, .ref q5i, .int 0, .int 0, .int 0, .int 0, .int uw, .int wh, .int lo])), (q5a, .inl (cA, 6, .inl pl)), (q5b, .inl (cA, 60, .inl nu)), (q5c, .inl (cA, 60, .inl de)), (q5d, .inl (cA, 40, .inl si)), (q5e, .inl (cA, 480, .inl ki)), (q5f, .inl (cA, 480, .inl aa)), (q5g, .inl (cA, 480, .inl xx)), (q5h, .inl (cA, 480, .inl yy)), (q5i, .inl (cA, 250, .inl en))] := hD
    refine lv_aload_n hx hb dX5_run_53 rfl (lv_at hl 0 rfl) ?_
    refine lv_iconst (v := 0) hx hb dX5_run_54 (by decide) ?_
    refine va_put (D := (dC, dI)) (ci := 5) (v := .int 0) (ty := .int) (C := RX5) (T := TX5) (N := 22) hx hb hts (by decide +kernel) tyX5 tyX5_ok nmX5 hown hK hP hD hS 0 rfl rfl 19 (by decide) (hts (.fieldLink RX5 73 RX5 "underWay" "I") (by decide +kernel)) (fun _ h9 => h9) rfl (by decide +kernel) rfl rfl (Nat.le_of_ble_eq_true rfl) dX5_run_55 (fun H locs hP hD hS => ?_)
    have hP : va_P (dC, dI) vwCl [(q5, .inr (5, [.int 0, .ref q5a, .int ma, .ref q5b, .ref q5c, .int to, .ref q5d, .ref q5e, .ref q5f, .ref q5g, .ref q5h, .int (rn + 1), .int rf, .int 0, .ref q5i, .int 0, .int 0, .int 0, .int 0, .int 0, .int wh, .int lo])), (q5a, .inl (cA, 6, .inl pl)), (q5b, .inl (cA, 60, .inl nu)), (q5c, .inl (cA, 60, .inl de)), (q5d, .inl (cA, 40, .inl si)), (q5e, .inl (cA, 480, .inl ki)), (q5f, .inl (cA, 480, .inl aa)), (q5g, .inl (cA, 480, .inl xx)), (q5h, .inl (cA, 480, .inl yy)), (q5i, .inl (cA, 250, .inl en))] H := hP
    have hD : va_D A [(q5, .inr (5, [.int 0, .ref q5a, .int ma, .ref q5b, .ref q5c, .int to, .ref q5d, .ref q5e, .ref q5f, .ref q5g, .ref q5h, .int (rn + 1), .int rf, .int 0, .ref q5i, .int 0, .int 0, .int 0, .int 0, .int 0, .int wh, .int lo])), (q5a, .inl (cA, 6, .inl pl)), (q5b, .inl (cA, 60, .inl nu)), (q5c, .inl (cA, 60, .inl de)), (q5d, .inl (cA, 40, .inl si)), (q5e, .inl (cA, 480, .inl ki)), (q5f, .inl (cA, 480, .inl aa)), (q5g, .inl (cA, 480, .inl xx)), (q5h, .inl (cA, 480, .inl yy)), (q5i, .inl (cA, 250, .inl en))] := hD
    refine lv_aload_n hx hb dX5_run_58 rfl (lv_at hl 0 rfl) ?_
    refine lv_iconst (v := 0) hx hb dX5_run_59 (by decide) ?_
    refine va_put (D := (dC, dI)) (ci := 5) (v := .int 0) (ty := .int) (C := RX5) (T := TX5) (N := 22) hx hb hts (by decide +kernel) tyX5 tyX5_ok nmX5 hown hK hP hD hS 0 rfl rfl 21 (by decide) (hts (.fieldLink RX5 105 RX5 "loops" "I") (by decide +kernel)) (fun _ h9 => h9) rfl (by decide +kernel) rfl rfl (Nat.le_of_ble_eq_true rfl) dX5_run_60 (fun H locs hP hD hS => ?_)
    have hP : va_P (dC, dI) vwCl [(q5, .inr (5, [.int 0, .ref q5a, .int ma, .ref q5b, .ref q5c, .int to, .ref q5d, .ref q5e, .ref q5f, .ref q5g, .ref q5h, .int (rn + 1), .int rf, .int 0, .ref q5i, .int 0, .int 0, .int 0, .int 0, .int 0, .int wh, .int 0])), (q5a, .inl (cA, 6, .inl pl)), (q5b, .inl (cA, 60, .inl nu)), (q5c, .inl (cA, 60, .inl de)), (q5d, .inl (cA, 40, .inl si)), (q5e, .inl (cA, 480, .inl ki)), (q5f, .inl (cA, 480, .inl aa)), (q5g, .inl (cA, 480, .inl xx)), (q5h, .inl (cA, 480, .inl yy)), (q5i, .inl (cA, 250, .inl en))] H := hP
    have hD : va_D A [(q5, .inr (5, [.int 0, .ref q5a, .int ma, .ref q5b, .ref q5c, .int to, .ref q5d, .ref q5e, .ref q5f, .ref q5g, .ref q5h, .int (rn + 1), .int rf, .int 0, .ref q5i, .int 0, .int 0, .int 0, .int 0, .int 0, .int wh, .int 0])), (q5a, .inl (cA, 6, .inl pl)), (q5b, .inl (cA, 60, .inl nu)), (q5c, .inl (cA, 60, .inl de)), (q5d, .inl (cA, 40, .inl si)), (q5e, .inl (cA, 480, .inl ki)), (q5f, .inl (cA, 480, .inl aa)), (q5g, .inl (cA, 480, .inl xx)), (q5h, .inl (cA, 480, .inl yy)), (q5i, .inl (cA, 250, .inl en))] := hD
    refine lv_aload_n hx hb dX5_run_63 rfl (lv_at hl 0 rfl) ?_
    refine lv_iconst (v := 0) hx hb dX5_run_64 (by decide) ?_
    refine kx_wi (wr := []) hP hD hS hA [0, 1, 2, 3, 4, 5, 6, 7, 8, 9] [] rfl rfl (by decide) (by decide) (va_runV (As := [.int 0]) (rest := []) ⟨hx, hb, hml, hown, hts⟩ (MB_all l dC dI cA q5 q5a q5b q5c q5d q5e q5f q5g q5h q5i d H.size 0 ma to (rn + 1) rf 0 0 0 0 0 0 wh 0 pl nu de si ki aa xx yy en 0 (hm_d hd) (J_restart hJ hde) (lo_d hd)) (cwV 1 hts gX5_run_X5_block rfl rfl rfl (by decide +kernel) ⟨(show 3 * d + 8 + 1 ≤ 129 from by omega), (show 8 + (4 + 11) + (100 * d + 200) ≤ 5000 from by omega)⟩) (pW hN (hP.sub (ws' := [(q5, .inr (5, [.int 0, .ref q5a, .int ma, .ref q5b, .ref q5c, .int to, .ref q5d, .ref q5e, .ref q5f, .ref q5g, .ref q5h, .int (rn + 1), .int rf, .int 0, .ref q5i, .int 0, .int 0, .int 0, .int 0, .int 0, .int wh, .int 0])), (q5a, .inl (cA, 6, .inl pl)), (q5b, .inl (cA, 60, .inl nu)), (q5c, .inl (cA, 60, .inl de)), (q5d, .inl (cA, 40, .inl si)), (q5e, .inl (cA, 480, .inl ki)), (q5f, .inl (cA, 480, .inl aa)), (q5g, .inl (cA, 480, .inl xx)), (q5h, .inl (cA, 480, .inl yy)), (q5i, .inl (cA, 250, .inl en))]) [0, 1, 2, 3, 4, 5, 6, 7, 8, 9] rfl) hK (hD.sub (ws' := [(q5, .inr (5, [.int 0, .ref q5a, .int ma, .ref q5b, .ref q5c, .int to, .ref q5d, .ref q5e, .ref q5f, .ref q5g, .ref q5h, .int (rn + 1), .int rf, .int 0, .ref q5i, .int 0, .int 0, .int 0, .int 0, .int 0, .int wh, .int 0])), (q5a, .inl (cA, 6, .inl pl)), (q5b, .inl (cA, 60, .inl nu)), (q5c, .inl (cA, 60, .inl de)), (q5d, .inl (cA, 40, .inl si)), (q5e, .inl (cA, 480, .inl ki)), (q5f, .inl (cA, 480, .inl aa)), (q5g, .inl (cA, 480, .inl xx)), (q5h, .inl (cA, 480, .inl yy)), (q5i, .inl (cA, 250, .inl en))]) [0, 1, 2, 3, 4, 5, 6, 7, 8, 9] (by decide) rfl) (ci := 5) (q0 := 0) rfl rfl rfl) rfl rfl hl.1 rfl (lv_room (Nat.le_of_ble_eq_true rfl)) dX5_run_65 ⟨Nat.zero_le _, Nat.zero_le _⟩) (fun r_2 u_2 H locs hw_2 hP hD hS => ?_)
    obtain ⟨th_2, ma_2, to_2, rn_2, rf_2, et_2, sp_2, ho_2, mo_2, cs_2, uw_2, wh_2, lo_2, pl_2, nu_2, de_2, si_2, ki_2, aa_2, xx_2, yy_2, en_2⟩ := u_2
    have hP : va_P (dC, dI) vwCl [(q5, .inr (5, [.int th_2, .ref q5a, .int ma_2, .ref q5b, .ref q5c, .int to_2, .ref q5d, .ref q5e, .ref q5f, .ref q5g, .ref q5h, .int rn_2, .int rf_2, .int et_2, .ref q5i, .int sp_2, .int ho_2, .int mo_2, .int cs_2, .int uw_2, .int wh_2, .int lo_2])), (q5a, .inl (cA, 6, .inl pl_2)), (q5b, .inl (cA, 60, .inl nu_2)), (q5c, .inl (cA, 60, .inl de_2)), (q5d, .inl (cA, 40, .inl si_2)), (q5e, .inl (cA, 480, .inl ki_2)), (q5f, .inl (cA, 480, .inl aa_2)), (q5g, .inl (cA, 480, .inl xx_2)), (q5h, .inl (cA, 480, .inl yy_2)), (q5i, .inl (cA, 250, .inl en_2))] H := hP
    have hD : va_D A [(q5, .inr (5, [.int th_2, .ref q5a, .int ma_2, .ref q5b, .ref q5c, .int to_2, .ref q5d, .ref q5e, .ref q5f, .ref q5g, .ref q5h, .int rn_2, .int rf_2, .int et_2, .ref q5i, .int sp_2, .int ho_2, .int mo_2, .int cs_2, .int uw_2, .int wh_2, .int lo_2])), (q5a, .inl (cA, 6, .inl pl_2)), (q5b, .inl (cA, 60, .inl nu_2)), (q5c, .inl (cA, 60, .inl de_2)), (q5d, .inl (cA, 40, .inl si_2)), (q5e, .inl (cA, 480, .inl ki_2)), (q5f, .inl (cA, 480, .inl aa_2)), (q5g, .inl (cA, 480, .inl xx_2)), (q5h, .inl (cA, 480, .inl yy_2)), (q5i, .inl (cA, 250, .inl en_2))] := hD
    refine lv_istore_n (lv' := [(1, .int r_2), (0, .ref q5)]) hx hb dX5_run_68 rfl hl (by decide) rfl (fun ls hl => ?_)
    refine lv_iload_n hx hb dX5_run_69 rfl (lv_at hl 0 rfl) ?_
    refine lv_iconst (v := 4) hx hb dX5_run_70 (by decide) ?_
    refine lv_icmp_ne (tgt := 81) hx hb dX5_run_71 (by decide) (fun c_3 => ?_) (fun c_3 => ?_)
    · refine lv_iload_n hx hb dX5_run_81 rfl (lv_at hl 0 rfl) ?_
      refine lv_iconst (v := 5) hx hb dX5_run_82 (by decide) ?_
      refine lv_icmp_ne (tgt := 91) hx hb dX5_run_83 (by decide) (fun c_4 => ?_) (fun c_4 => ?_)
      · refine lv_iconst (v := 0) hx hb dX5_run_91 (by decide) ?_
        exact rt_i hx hb hr hlocks (th_2, ma_2, to_2, rn_2, rf_2, et_2, sp_2, ho_2, mo_2, cs_2, uw_2, wh_2, lo_2, pl_2, nu_2, de_2, si_2, ki_2, aa_2, xx_2, yy_2, en_2) (by simp only [f_X5_run, if_pos c_1, ← hw_2, if_neg c_3, if_neg c_4]) hP hD hS dX5_run_92
      · refine lv_bipush (v := 20) hx hb dX5_run_86 (by decide) ?_
        refine lv_goto (tgt := 92) hx hb dX5_run_88 (by decide) ?_
        exact rt_i hx hb hr hlocks (th_2, ma_2, to_2, rn_2, rf_2, et_2, sp_2, ho_2, mo_2, cs_2, uw_2, wh_2, lo_2, pl_2, nu_2, de_2, si_2, ki_2, aa_2, xx_2, yy_2, en_2) (by simp only [f_X5_run, if_pos c_1, ← hw_2, if_neg c_3, if_pos c_4]) hP hD hS dX5_run_92
    · refine lv_aload_n hx hb dX5_run_74 rfl (lv_at hl 1 rfl) ?_
      refine va_get (D := (dC, dI)) (ci := 5) (v := .int wh_2) (C := RX5) (T := TX5) (N := 22) hx hb hts (by decide +kernel) hown hK hP 0 rfl rfl 20 (by decide) (hts (.fieldLink RX5 86 RX5 "what" "I") (by decide +kernel)) (fun _ h9 => h9) rfl dX5_run_75 ?_
      refine lv_goto (tgt := 92) hx hb dX5_run_78 (by decide) ?_
      exact rt_i hx hb hr hlocks (th_2, ma_2, to_2, rn_2, rf_2, et_2, sp_2, ho_2, mo_2, cs_2, uw_2, wh_2, lo_2, pl_2, nu_2, de_2, si_2, ki_2, aa_2, xx_2, yy_2, en_2) (by simp only [f_X5_run, if_pos c_1, ← hw_2, if_pos c_3]) hP hD hS dX5_run_92
  · refine lv_bipush (v := (-3)) hx hb dX5_run_15 (by decide) ?_
    exact rt_i hx hb hr hlocks (0, ma, to, rn, rf, et, sp, ho, mo, cs, uw, wh, lo, pl, nu, de, si, ki, aa, xx, yy, en) (by simp only [f_X5_run, if_neg c_1]) hP hD hS dX5_run_17
