/-! what the tests of the arguments say -/
theorem iw_in {x a b : Int32} (h : ¬ f_X4_isWithin x a b = 0) : a.toInt ≤ x.toInt ∧ x.toInt ≤ b.toInt := by
  unfold f_X4_isWithin at h
  split at h
  · exact absurd rfl h
  · split at h
    · exact absurd rfl h
    · rename_i h1 h2
      rw [Int32.lt_iff_toInt_lt] at h1 h2
      omega
theorem in_place {x : Int32} (h : ¬ f_X4_isPlace x = 0) : vp_in x 6 := by
  have h1 := iw_in h
  rw [vp_in_iff]
  have e1 : (0 : Int32).toInt = 0 := by decide
  have e2 : (5 : Int32).toInt = 5 := by decide
  omega
theorem in_block {x : Int32} (h : ¬ f_X4_isBlock x = 0) : vp_in x 40 := by
  have h1 := iw_in h
  rw [vp_in_iff]
  have e1 : (0 : Int32).toInt = 0 := by decide
  have e2 : (39 : Int32).toInt = 39 := by decide
  omega
abbrev wd_sh (cA : ClassId) (q2 q2a q2b q2c : Nat) : (Int32 × (Nat → Int32) × (Nat → Int32) × (Nat → Int32)) → va_W := fun u => [(q2, .inr (2, [.ref q2a, .ref q2b, .ref q2c, .int u.1])), (q2a, .inl (cA, 6, .inl (u.2.1))), (q2b, .inl (cA, 60, .inl (u.2.2.1))), (q2c, .inl (cA, 60, .inl (u.2.2.2)))]
abbrev wd_pr (cA : ClassId) (q0 q0a q0b q0c q0d q0e : Nat) : (Int32 × (Nat → Int32) × (Nat → Int32) × (Nat → Int32) × (Nat → Int32) × (Nat → Int32)) → va_W := fun u => [(q0, .inr (0, [.ref q0a, .ref q0b, .ref q0c, .ref q0d, .ref q0e, .int u.1])), (q0a, .inl (cA, 40, .inl (u.2.1))), (q0b, .inl (cA, 480, .inl (u.2.2.1))), (q0c, .inl (cA, 480, .inl (u.2.2.2.1))), (q0d, .inl (cA, 480, .inl (u.2.2.2.2.1))), (q0e, .inl (cA, 480, .inl (u.2.2.2.2.2)))]
abbrev wd_ta (cA : ClassId) (q3 q3a : Nat) : (Int32 × Int32 × Int32 × Int32 × Int32 × Int32 × (Nat → Int32)) → va_W := fun u => [(q3, .inr (3, [.ref q3a, .int u.1, .int u.2.1, .int u.2.2.1, .int u.2.2.2.1, .int u.2.2.2.2.1, .int u.2.2.2.2.2.1])), (q3a, .inl (cA, 250, .inl (u.2.2.2.2.2.2)))]
abbrev wd_ru (cA : ClassId) (q1 q2 q2a q2b q2c q0 q0a q0b q0c q0d q0e q3 q3a : Nat) : (Int32 × Int32 × (Nat → Int32) × (Nat → Int32) × (Nat → Int32) × Int32 × (Nat → Int32) × (Nat → Int32) × (Nat → Int32) × (Nat → Int32) × (Nat → Int32) × Int32 × Int32 × Int32 × Int32 × Int32 × Int32 × (Nat → Int32)) → va_W := fun u => [(q1, .inr (1, [.ref q2, .ref q0, .ref q3, .int u.1])), (q2, .inr (2, [.ref q2a, .ref q2b, .ref q2c, .int u.2.1])), (q2a, .inl (cA, 6, .inl (u.2.2.1))), (q2b, .inl (cA, 60, .inl (u.2.2.2.1))), (q2c, .inl (cA, 60, .inl (u.2.2.2.2.1))), (q0, .inr (0, [.ref q0a, .ref q0b, .ref q0c, .ref q0d, .ref q0e, .int u.2.2.2.2.2.1])), (q0a, .inl (cA, 40, .inl (u.2.2.2.2.2.2.1))), (q0b, .inl (cA, 480, .inl (u.2.2.2.2.2.2.2.1))), (q0c, .inl (cA, 480, .inl (u.2.2.2.2.2.2.2.2.1))), (q0d, .inl (cA, 480, .inl (u.2.2.2.2.2.2.2.2.2.1))), (q0e, .inl (cA, 480, .inl (u.2.2.2.2.2.2.2.2.2.2.1))), (q3, .inr (3, [.ref q3a, .int u.2.2.2.2.2.2.2.2.2.2.2.1, .int u.2.2.2.2.2.2.2.2.2.2.2.2.1, .int u.2.2.2.2.2.2.2.2.2.2.2.2.2.1, .int u.2.2.2.2.2.2.2.2.2.2.2.2.2.2.1, .int u.2.2.2.2.2.2.2.2.2.2.2.2.2.2.2.1, .int u.2.2.2.2.2.2.2.2.2.2.2.2.2.2.2.2.1])), (q3a, .inl (cA, 250, .inl (u.2.2.2.2.2.2.2.2.2.2.2.2.2.2.2.2.2)))]
abbrev wd_hb (cA : ClassId) (q4 q2 q2a q2b q2c q0 q0a q0b q0c q0d q0e q3 q3a q1 : Nat) : (Int32 × Int32 × (Nat → Int32) × (Nat → Int32) × (Nat → Int32) × Int32 × (Nat → Int32) × (Nat → Int32) × (Nat → Int32) × (Nat → Int32) × (Nat → Int32) × Int32 × Int32 × Int32 × Int32 × Int32 × Int32 × (Nat → Int32) × Int32) → va_W := fun u => [(q4, .inr (4, [.ref q1, .ref q2, .ref q0, .ref q3, .int u.1])), (q2, .inr (2, [.ref q2a, .ref q2b, .ref q2c, .int u.2.1])), (q2a, .inl (cA, 6, .inl (u.2.2.1))), (q2b, .inl (cA, 60, .inl (u.2.2.2.1))), (q2c, .inl (cA, 60, .inl (u.2.2.2.2.1))), (q0, .inr (0, [.ref q0a, .ref q0b, .ref q0c, .ref q0d, .ref q0e, .int u.2.2.2.2.2.1])), (q0a, .inl (cA, 40, .inl (u.2.2.2.2.2.2.1))), (q0b, .inl (cA, 480, .inl (u.2.2.2.2.2.2.2.1))), (q0c, .inl (cA, 480, .inl (u.2.2.2.2.2.2.2.2.1))), (q0d, .inl (cA, 480, .inl (u.2.2.2.2.2.2.2.2.2.1))), (q0e, .inl (cA, 480, .inl (u.2.2.2.2.2.2.2.2.2.2.1))), (q3, .inr (3, [.ref q3a, .int u.2.2.2.2.2.2.2.2.2.2.2.1, .int u.2.2.2.2.2.2.2.2.2.2.2.2.1, .int u.2.2.2.2.2.2.2.2.2.2.2.2.2.1, .int u.2.2.2.2.2.2.2.2.2.2.2.2.2.2.1, .int u.2.2.2.2.2.2.2.2.2.2.2.2.2.2.2.1, .int u.2.2.2.2.2.2.2.2.2.2.2.2.2.2.2.2.1])), (q3a, .inl (cA, 250, .inl (u.2.2.2.2.2.2.2.2.2.2.2.2.2.2.2.2.2.1))), (q1, .inr (1, [.ref q2, .ref q0, .ref q3, .int u.2.2.2.2.2.2.2.2.2.2.2.2.2.2.2.2.2.2]))]
abbrev wd_mo (cA : ClassId) (q5 q5a q5b q5c q5d q5e q5f q5g q5h q5i : Nat) : (Int32 × Int32 × Int32 × Int32 × Int32 × Int32 × Int32 × Int32 × Int32 × Int32 × Int32 × Int32 × Int32 × (Nat → Int32) × (Nat → Int32) × (Nat → Int32) × (Nat → Int32) × (Nat → Int32) × (Nat → Int32) × (Nat → Int32) × (Nat → Int32) × (Nat → Int32)) → va_W := fun u => [(q5, .inr (5, [.int u.1, .ref q5a, .int u.2.1, .ref q5b, .ref q5c, .int u.2.2.1, .ref q5d, .ref q5e, .ref q5f, .ref q5g, .ref q5h, .int u.2.2.2.1, .int u.2.2.2.2.1, .int u.2.2.2.2.2.1, .ref q5i, .int u.2.2.2.2.2.2.1, .int u.2.2.2.2.2.2.2.1, .int u.2.2.2.2.2.2.2.2.1, .int u.2.2.2.2.2.2.2.2.2.1, .int u.2.2.2.2.2.2.2.2.2.2.1, .int u.2.2.2.2.2.2.2.2.2.2.2.1, .int u.2.2.2.2.2.2.2.2.2.2.2.2.1])), (q5a, .inl (cA, 6, .inl (u.2.2.2.2.2.2.2.2.2.2.2.2.2.1))), (q5b, .inl (cA, 60, .inl (u.2.2.2.2.2.2.2.2.2.2.2.2.2.2.1))), (q5c, .inl (cA, 60, .inl (u.2.2.2.2.2.2.2.2.2.2.2.2.2.2.2.1))), (q5d, .inl (cA, 40, .inl (u.2.2.2.2.2.2.2.2.2.2.2.2.2.2.2.2.1))), (q5e, .inl (cA, 480, .inl (u.2.2.2.2.2.2.2.2.2.2.2.2.2.2.2.2.2.1))), (q5f, .inl (cA, 480, .inl (u.2.2.2.2.2.2.2.2.2.2.2.2.2.2.2.2.2.2.1))), (q5g, .inl (cA, 480, .inl (u.2.2.2.2.2.2.2.2.2.2.2.2.2.2.2.2.2.2.2.1))), (q5h, .inl (cA, 480, .inl (u.2.2.2.2.2.2.2.2.2.2.2.2.2.2.2.2.2.2.2.2.1))), (q5i, .inl (cA, 250, .inl (u.2.2.2.2.2.2.2.2.2.2.2.2.2.2.2.2.2.2.2.2.2)))]
def f_X2_isThing (ma : Int32) (pl : Nat → Int32) (nu : Nat → Int32) (de : Nat → Int32) (p0 : Int32) : Int32 := (if p0 < 0 then 0 else (if ma ≤ p0 then 0 else 1))
set_option maxHeartbeats 4000000 in
set_option maxRecDepth 100000 in
theorem c_X2_isThing (l : Launch) (dC : Nat → ClassId) (dI : Nat → Nat → Nat) (cA : ClassId) (q2 q2a q2b q2c : Nat) (ma : Int32) (pl : Nat → Int32) (nu : Nat → Int32) (de : Nat → Int32) (p0 : Int32) : Met l yX2_isThing wsX2_isThing ({ frames := 0, cells := 0, slots := 0, locals := 0 }) (pcR (dC, dI) [(q2, .inr (2, [.ref q2a, .ref q2b, .ref q2c, .int ma])), (q2a, .inl (cA, 6, .inl pl)), (q2b, .inl (cA, 60, .inl nu)), (q2c, .inl (cA, 60, .inl de))] [(cA, .int)] [.ref q2, .int p0]) (QcRead (f_X2_isThing ma pl nu de p0)) 0 0 (fun _ => False) := by
  refine Met.ofW (cc := cX2_isThing) (maxL := 2) (ret := (some .boolean)) (by decide) rfl ?_
  intro p e s m args below meth c s₁ B hml hv
  obtain ⟨rfl, hN, hP, hK⟩ := hv
  have hx := B.exec
  have hb := B.bytes
  have hr := B.returns
  have hts := atoms_spec (ws := wsX2_isThing) B.pre
  have hown : s.vm.findClass RX2 = some m.cls := findClass_of_methodNamed B.named
  have hlocks := B.notSynchronized
  have hl := lv_entry ([.ref q2, .int p0]) (n := 2) (Nat.le_of_ble_eq_true rfl)
  rw [lg_entry_eq]
  generalize (lg_sl ([.ref q2, .int p0]) ++ List.replicate (2 - (lg_sl ([.ref q2, .int p0])).length) Slot.unset).toArray = ls at hl ⊢
  have hl : lv_has ls 2 [(0, .ref q2), (1, .int p0)] := hl
  refine lv_iload_n hx hb dX2_isThing_0 rfl (lv_at hl 1 rfl) ?_
  refine lv_if_lt (tgt := 16) hx hb dX2_isThing_1 (by decide) (fun c_1 => ?_) (fun c_1 => ?_)
  · refine lv_iconst (v := 0) hx hb dX2_isThing_16 (by decide) ?_
    exact rd_z hx hb hr rfl hlocks (by simp only [f_X2_isThing, if_pos c_1]) dX2_isThing_17
  · refine lv_iload_n hx hb dX2_isThing_4 rfl (lv_at hl 1 rfl) ?_
    refine lv_aload_n hx hb dX2_isThing_5 rfl (lv_at hl 0 rfl) ?_
    refine va_get (D := (dC, dI)) (ci := 2) (v := .int ma) (C := RX2) (T := TX2) (N := 4) hx hb hts (by decide +kernel) hown hK hP 0 rfl rfl 3 (by decide) (hts (.fieldLink RX2 27 RX2 "made" "I") (by decide +kernel)) (fun _ h9 => h9) rfl dX2_isThing_6 ?_
    refine lv_icmp_ge (tgt := 16) hx hb dX2_isThing_9 (by decide) (fun c_2 => ?_) (fun c_2 => ?_)
    · refine lv_iconst (v := 0) hx hb dX2_isThing_16 (by decide) ?_
      exact rd_z hx hb hr rfl hlocks (by simp only [f_X2_isThing, if_neg c_1, if_pos c_2]) dX2_isThing_17
    · refine lv_iconst (v := 1) hx hb dX2_isThing_12 (by decide) ?_
      refine lv_goto (tgt := 17) hx hb dX2_isThing_13 (by decide) ?_
      exact rd_z hx hb hr rfl hlocks (by simp only [f_X2_isThing, if_neg c_1, if_neg c_2]) dX2_isThing_17
theorem in_thing {ma x : Int32} {pl nu de : Nat → Int32} (hma : ma.toInt ≤ 60) (h : ¬ f_X2_isThing ma pl nu de x = 0) : vp_in x 60 := by
  unfold f_X2_isThing at h
  split at h
  · exact absurd rfl h
  · split at h
    · exact absurd rfl h
    · rename_i h1 h2
      rw [Int32.lt_iff_toInt_lt] at h1
      rw [Int32.le_iff_toInt_le] at h2
      rw [vp_in_iff]
      have e1 : (0 : Int32).toInt = 0 := by decide
      omega
def f_X2_thingIn (ma : Int32) (pl : Nat → Int32) (nu : Nat → Int32) (de : Nat → Int32) (p0 : Int32) : Int32 := (if (f_X4_isPlace p0) = 0 then (-1) else (pl p0.toNatClampNeg))
set_option maxHeartbeats 4000000 in
set_option maxRecDepth 100000 in
theorem c_X2_thingIn (l : Launch) (dC : Nat → ClassId) (dI : Nat → Nat → Nat) (cA : ClassId) (q2 q2a q2b q2c : Nat) (ma : Int32) (pl : Nat → Int32) (nu : Nat → Int32) (de : Nat → Int32) (p0 : Int32) : Met l yX2_thingIn wsX2_thingIn ({ frames := 2, cells := 0, slots := 0, locals := 42 }) (pcR (dC, dI) [(q2, .inr (2, [.ref q2a, .ref q2b, .ref q2c, .int ma])), (q2a, .inl (cA, 6, .inl pl)), (q2b, .inl (cA, 60, .inl nu)), (q2c, .inl (cA, 60, .inl de))] [(cA, .int)] [.ref q2, .int p0]) (QcRead (f_X2_thingIn ma pl nu de p0)) 0 0 (fun _ => False) := by
  refine Met.ofW (cc := cX2_thingIn) (maxL := 2) (ret := (some .int)) (by decide) rfl ?_
  intro p e s m args below meth c s₁ B hml hv
  obtain ⟨rfl, hN, hP, hK⟩ := hv
  have hx := B.exec
  have hb := B.bytes
  have hr := B.returns
  have hts := atoms_spec (ws := wsX2_thingIn) B.pre
  have hown : s.vm.findClass RX2 = some m.cls := findClass_of_methodNamed B.named
  have hlocks := B.notSynchronized
  have hl := lv_entry ([.ref q2, .int p0]) (n := 2) (Nat.le_of_ble_eq_true rfl)
  rw [lg_entry_eq]
  generalize (lg_sl ([.ref q2, .int p0]) ++ List.replicate (2 - (lg_sl ([.ref q2, .int p0])).length) Slot.unset).toArray = ls at hl ⊢
  have hl : lv_has ls 2 [(0, .ref q2), (1, .int p0)] := hl
  refine lv_iload_n hx hb dX2_thingIn_0 rfl (lv_at hl 1 rfl) ?_
  refine kx_read (va_runSN (As := [.int p0]) (rest := []) ⟨hx, hb, hml, hown, hts⟩ (c_X4_isPlace l p0) ⟨va_cnB 1 hts gX2_thingIn_X4_isPlace_n35 rfl rfl rfl (hN.at 5 rfl) (hts (.initialized RX4) (by decide +kernel)) (by decide +kernel) ⟨(Nat.le_of_ble_eq_true rfl), (Nat.le_of_ble_eq_true rfl)⟩, (hts (.static yX4_isPlace) (by decide +kernel)), trivial⟩ (pS hN) rfl rfl hl.1 rfl (lv_room (Nat.le_of_ble_eq_true rfl)) dX2_thingIn_1 ⟨Nat.zero_le _, Nat.zero_le _⟩) ?_
  refine lv_if_eq (tgt := 16) hx hb dX2_thingIn_4 (by decide) (fun c_1 => ?_) (fun c_1 => ?_)
  · refine lv_iconst (v := (-1)) hx hb dX2_thingIn_16 (by decide) ?_
    exact rd_i hx hb hr hlocks (by simp only [f_X2_thingIn, if_pos c_1]) dX2_thingIn_17
  · refine lv_aload_n hx hb dX2_thingIn_7 rfl (lv_at hl 0 rfl) ?_
    refine va_get (D := (dC, dI)) (ci := 2) (v := .ref q2a) (C := RX2) (T := TX2) (N := 4) hx hb hts (by decide +kernel) hown hK hP 0 rfl rfl 0 (by decide) (hts (.fieldLink RX2 9 RX2 "places" "[I") (by decide +kernel)) (fun _ h9 => h9) rfl dX2_thingIn_8 ?_
    refine lv_iload_n hx hb dX2_thingIn_11 rfl (lv_at hl 1 rfl) ?_
    refine va_iald hx hb hK hP 1 0 rfl rfl (in_place c_1) dX2_thingIn_12 ?_
    refine lv_goto (tgt := 17) hx hb dX2_thingIn_13 (by decide) ?_
    exact rd_i hx hb hr hlocks (by simp only [f_X2_thingIn, if_neg c_1]) dX2_thingIn_17
def f_X2_numberOf (ma : Int32) (pl : Nat → Int32) (nu : Nat → Int32) (de : Nat → Int32) (p0 : Int32) : Int32 := (if (f_X2_isThing ma pl nu de p0) = 0 then 0 else (nu p0.toNatClampNeg))
set_option maxHeartbeats 4000000 in
set_option maxRecDepth 100000 in
theorem c_X2_numberOf (l : Launch) (dC : Nat → ClassId) (dI : Nat → Nat → Nat) (cA : ClassId) (q2 q2a q2b q2c : Nat) (ma : Int32) (pl : Nat → Int32) (nu : Nat → Int32) (de : Nat → Int32) (p0 : Int32) (hma : ma.toInt ≤ 60) : Met l yX2_numberOf wsX2_numberOf ({ frames := 1, cells := 0, slots := 0, locals := 21 }) (pcR (dC, dI) [(q2, .inr (2, [.ref q2a, .ref q2b, .ref q2c, .int ma])), (q2a, .inl (cA, 6, .inl pl)), (q2b, .inl (cA, 60, .inl nu)), (q2c, .inl (cA, 60, .inl de))] [(cA, .int)] [.ref q2, .int p0]) (QcRead (f_X2_numberOf ma pl nu de p0)) 0 0 (fun _ => False) := by
  refine Met.ofW (cc := cX2_numberOf) (maxL := 2) (ret := (some .int)) (by decide) rfl ?_
  intro p e s m args below meth c s₁ B hml hv
  obtain ⟨rfl, hN, hP, hK⟩ := hv
  have hx := B.exec
  have hb := B.bytes
  have hr := B.returns
  have hts := atoms_spec (ws := wsX2_numberOf) B.pre
  have hown : s.vm.findClass RX2 = some m.cls := findClass_of_methodNamed B.named
  have hlocks := B.notSynchronized
  have hl := lv_entry ([.ref q2, .int p0]) (n := 2) (Nat.le_of_ble_eq_true rfl)
  rw [lg_entry_eq]
  generalize (lg_sl ([.ref q2, .int p0]) ++ List.replicate (2 - (lg_sl ([.ref q2, .int p0])).length) Slot.unset).toArray = ls at hl ⊢
  have hl : lv_has ls 2 [(0, .ref q2), (1, .int p0)] := hl
  refine lv_aload_n hx hb dX2_numberOf_0 rfl (lv_at hl 0 rfl) ?_
  refine lv_iload_n hx hb dX2_numberOf_1 rfl (lv_at hl 1 rfl) ?_
  have hPc := hP.sub (ws' := [(q2, .inr (2, [.ref q2a, .ref q2b, .ref q2c, .int ma])), (q2a, .inl (cA, 6, .inl pl)), (q2b, .inl (cA, 60, .inl nu)), (q2c, .inl (cA, 60, .inl de))]) [0, 1, 2, 3] rfl
  refine kx_read (va_runV (As := [.int p0]) (rest := []) ⟨hx, hb, hml, hown, hts⟩ (c_X2_isThing l dC dI cA q2 q2a q2b q2c ma pl nu de p0) (cwV 1 hts gX2_numberOf_X2_isThing rfl rfl rfl (by decide +kernel) ⟨(Nat.le_of_ble_eq_true rfl), (Nat.le_of_ble_eq_true rfl)⟩) (pR hN hPc hK (ci := 2) (q0 := 0) rfl rfl rfl) rfl rfl hl.1 rfl (lv_room (Nat.le_of_ble_eq_true rfl)) dX2_numberOf_2 ⟨Nat.zero_le _, Nat.zero_le _⟩) ?_
  refine lv_if_eq (tgt := 17) hx hb dX2_numberOf_5 (by decide) (fun c_1 => ?_) (fun c_1 => ?_)
  · refine lv_iconst (v := 0) hx hb dX2_numberOf_17 (by decide) ?_
    exact rd_i hx hb hr hlocks (by simp only [f_X2_numberOf, if_pos c_1]) dX2_numberOf_18
  · refine lv_aload_n hx hb dX2_numberOf_8 rfl (lv_at hl 0 rfl) ?_
    refine va_get (D := (dC, dI)) (ci := 2) (v := .ref q2b) (C := RX2) (T := TX2) (N := 4) hx hb hts (by decide +kernel) hown hK hP 0 rfl rfl 1 (by decide) (hts (.fieldLink RX2 21 RX2 "numbers" "[I") (by decide +kernel)) (fun _ h9 => h9) rfl dX2_numberOf_9 ?_
    refine lv_iload_n hx hb dX2_numberOf_12 rfl (lv_at hl 1 rfl) ?_
    refine va_iald hx hb hK hP 2 0 rfl rfl (in_thing hma c_1) dX2_numberOf_13 ?_
    refine lv_goto (tgt := 18) hx hb dX2_numberOf_14 (by decide) ?_
    exact rd_i hx hb hr hlocks (by simp only [f_X2_numberOf, if_neg c_1]) dX2_numberOf_18
def f_X2_isHeld (ma : Int32) (pl : Nat → Int32) (nu : Nat → Int32) (de : Nat → Int32) (p0 : Int32) : Int32 := (if (f_X2_isThing ma pl nu de p0) = 0 then 0 else (if (de p0.toNatClampNeg) ≤ 0 then 0 else 1))
set_option maxHeartbeats 4000000 in
set_option maxRecDepth 100000 in
theorem c_X2_isHeld (l : Launch) (dC : Nat → ClassId) (dI : Nat → Nat → Nat) (cA : ClassId) (q2 q2a q2b q2c : Nat) (ma : Int32) (pl : Nat → Int32) (nu : Nat → Int32) (de : Nat → Int32) (p0 : Int32) (hma : ma.toInt ≤ 60) : Met l yX2_isHeld wsX2_isHeld ({ frames := 1, cells := 0, slots := 0, locals := 21 }) (pcR (dC, dI) [(q2, .inr (2, [.ref q2a, .ref q2b, .ref q2c, .int ma])), (q2a, .inl (cA, 6, .inl pl)), (q2b, .inl (cA, 60, .inl nu)), (q2c, .inl (cA, 60, .inl de))] [(cA, .int)] [.ref q2, .int p0]) (QcRead (f_X2_isHeld ma pl nu de p0)) 0 0 (fun _ => False) := by
  refine Met.ofW (cc := cX2_isHeld) (maxL := 2) (ret := (some .boolean)) (by decide) rfl ?_
  intro p e s m args below meth c s₁ B hml hv
  obtain ⟨rfl, hN, hP, hK⟩ := hv
  have hx := B.exec
  have hb := B.bytes
  have hr := B.returns
  have hts := atoms_spec (ws := wsX2_isHeld) B.pre
  have hown : s.vm.findClass RX2 = some m.cls := findClass_of_methodNamed B.named
  have hlocks := B.notSynchronized
  have hl := lv_entry ([.ref q2, .int p0]) (n := 2) (Nat.le_of_ble_eq_true rfl)
  rw [lg_entry_eq]
  generalize (lg_sl ([.ref q2, .int p0]) ++ List.replicate (2 - (lg_sl ([.ref q2, .int p0])).length) Slot.unset).toArray = ls at hl ⊢
  have hl : lv_has ls 2 [(0, .ref q2), (1, .int p0)] := hl
  refine lv_aload_n hx hb dX2_isHeld_0 rfl (lv_at hl 0 rfl) ?_
  refine lv_iload_n hx hb dX2_isHeld_1 rfl (lv_at hl 1 rfl) ?_
  have hPc := hP.sub (ws' := [(q2, .inr (2, [.ref q2a, .ref q2b, .ref q2c, .int ma])), (q2a, .inl (cA, 6, .inl pl)), (q2b, .inl (cA, 60, .inl nu)), (q2c, .inl (cA, 60, .inl de))]) [0, 1, 2, 3] rfl
  refine kx_read (va_runV (As := [.int p0]) (rest := []) ⟨hx, hb, hml, hown, hts⟩ (c_X2_isThing l dC dI cA q2 q2a q2b q2c ma pl nu de p0) (cwV 1 hts gX2_isHeld_X2_isThing rfl rfl rfl (by decide +kernel) ⟨(Nat.le_of_ble_eq_true rfl), (Nat.le_of_ble_eq_true rfl)⟩) (pR hN hPc hK (ci := 2) (q0 := 0) rfl rfl rfl) rfl rfl hl.1 rfl (lv_room (Nat.le_of_ble_eq_true rfl)) dX2_isHeld_2 ⟨Nat.zero_le _, Nat.zero_le _⟩) ?_
  refine lv_if_eq (tgt := 21) hx hb dX2_isHeld_5 (by decide) (fun c_1 => ?_) (fun c_1 => ?_)
  · refine lv_iconst (v := 0) hx hb dX2_isHeld_21 (by decide) ?_
    exact rd_z hx hb hr rfl hlocks (by simp only [f_X2_isHeld, if_pos c_1]) dX2_isHeld_22
  · refine lv_aload_n hx hb dX2_isHeld_8 rfl (lv_at hl 0 rfl) ?_
    refine va_get (D := (dC, dI)) (ci := 2) (v := .ref q2c) (C := RX2) (T := TX2) (N := 4) hx hb hts (by decide +kernel) hown hK hP 0 rfl rfl 2 (by decide) (hts (.fieldLink RX2 24 RX2 "depths" "[I") (by decide +kernel)) (fun _ h9 => h9) rfl dX2_isHeld_9 ?_
    refine lv_iload_n hx hb dX2_isHeld_12 rfl (lv_at hl 1 rfl) ?_
    refine va_iald hx hb hK hP 3 0 rfl rfl (in_thing hma c_1) dX2_isHeld_13 ?_
    refine lv_if_le (tgt := 21) hx hb dX2_isHeld_14 (by decide) (fun c_2 => ?_) (fun c_2 => ?_)
    · refine lv_iconst (v := 0) hx hb dX2_isHeld_21 (by decide) ?_
      exact rd_z hx hb hr rfl hlocks (by simp only [f_X2_isHeld, if_neg c_1, if_pos c_2]) dX2_isHeld_22
    · refine lv_iconst (v := 1) hx hb dX2_isHeld_17 (by decide) ?_
      refine lv_goto (tgt := 22) hx hb dX2_isHeld_18 (by decide) ?_
      exact rd_z hx hb hr rfl hlocks (by simp only [f_X2_isHeld, if_neg c_1, if_neg c_2]) dX2_isHeld_22
def f_X2_put (ma : Int32) (pl : Nat → Int32) (nu : Nat → Int32) (de : Nat → Int32) (p0 : Int32) (p1 : Int32) : Int32 × (Nat → Int32) × (Nat → Int32) × (Nat → Int32) := (if (f_X4_isPlace p0) = 0 then (ma, pl, nu, de) else (ma, (upd pl p0.toNatClampNeg p1), nu, de))
set_option maxHeartbeats 4000000 in
set_option maxRecDepth 100000 in
theorem c_X2_put (l : Launch) (dC : Nat → ClassId) (dI : Nat → Nat → Nat) (cA : ClassId) (q2 q2a q2b q2c : Nat) (sz : Nat) (ma : Int32) (pl : Nat → Int32) (nu : Nat → Int32) (de : Nat → Int32) (p0 : Int32) (p1 : Int32) : Met l yX2_put wsX2_put ({ frames := 2, cells := 0, slots := 0, locals := 42 }) (pcW (dC, dI) [(q2, .inr (2, [.ref q2a, .ref q2b, .ref q2c, .int ma])), (q2a, .inl (cA, 6, .inl pl)), (q2b, .inl (cA, 60, .inl nu)), (q2c, .inl (cA, 60, .inl de))] [(cA, .int)] sz [.ref q2, .int p0, .int p1]) (QWv (dC, dI) (f_X2_put ma pl nu de p0 p1) (wd_sh cA q2 q2a q2b q2c) (va_A [(q2, .inr (2, [.ref q2a, .ref q2b, .ref q2c, .int ma])), (q2a, .inl (cA, 6, .inl pl)), (q2b, .inl (cA, 60, .inl nu)), (q2c, .inl (cA, 60, .inl de))] sz)) 0 0 (va_A [(q2, .inr (2, [.ref q2a, .ref q2b, .ref q2c, .int ma])), (q2a, .inl (cA, 6, .inl pl)), (q2b, .inl (cA, 60, .inl nu)), (q2c, .inl (cA, 60, .inl de))] sz) := by
  refine Met.ofW (cc := cX2_put) (maxL := 3) (ret := none) (by decide) rfl ?_
  intro p e s m args below meth c s₁ B hml hv
  obtain ⟨rfl, hsz, hN, hP, hK, hD0⟩ := hv
  have hx := B.exec
  have hb := B.bytes
  have hr := B.returns
  have hts := atoms_spec (ws := wsX2_put) B.pre
  have hown : s.vm.findClass RX2 = some m.cls := findClass_of_methodNamed B.named
  have hlocks := B.notSynchronized
  subst hsz
  have hD := hD0.self (sz := s.heap.size)
  generalize hAe : va_A [(q2, .inr (2, [.ref q2a, .ref q2b, .ref q2c, .int ma])), (q2a, .inl (cA, 6, .inl pl)), (q2b, .inl (cA, 60, .inl nu)), (q2c, .inl (cA, 60, .inl de))] s.heap.size = A at hD ⊢
  have hA : ∀ q : Nat, s.heap.size ≤ q → A q := fun q h => by rw [← hAe]; exact Or.inr h
  have hS : va_S A s.heap s.heap [] := va_S.rf
  have hl := lv_entry ([.ref q2, .int p0, .int p1]) (n := 3) (Nat.le_of_ble_eq_true rfl)
  rw [lg_entry_eq]
  generalize (lg_sl ([.ref q2, .int p0, .int p1]) ++ List.replicate (3 - (lg_sl ([.ref q2, .int p0, .int p1])).length) Slot.unset).toArray = ls at hl ⊢
  have hl : lv_has ls 3 [(0, .ref q2), (1, .int p0), (2, .int p1)] := hl
  refine lv_iload_n hx hb dX2_put_0 rfl (lv_at hl 1 rfl) ?_
  refine kx_read (va_runSN (As := [.int p0]) (rest := []) ⟨hx, hb, hml, hown, hts⟩ (c_X4_isPlace l p0) ⟨va_cnB 1 hts gX2_put_X4_isPlace_n35 rfl rfl rfl (hN.at 5 rfl) (hts (.initialized RX4) (by decide +kernel)) (by decide +kernel) ⟨(Nat.le_of_ble_eq_true rfl), (Nat.le_of_ble_eq_true rfl)⟩, (hts (.static yX4_isPlace) (by decide +kernel)), trivial⟩ (pS hN) rfl rfl hl.1 rfl (lv_room (Nat.le_of_ble_eq_true rfl)) dX2_put_1 ⟨Nat.zero_le _, Nat.zero_le _⟩) ?_
  refine lv_if_eq (tgt := 14) hx hb dX2_put_4 (by decide) (fun c_1 => ?_) (fun c_1 => ?_)
  · exact rt_v hx hb hr hlocks (ma, pl, nu, de) (by simp only [f_X2_put, if_pos c_1]) hP hD hS dX2_put_14
  · refine lv_aload_n hx hb dX2_put_7 rfl (lv_at hl 0 rfl) ?_
    refine va_get (D := (dC, dI)) (ci := 2) (v := .ref q2a) (C := RX2) (T := TX2) (N := 4) hx hb hts (by decide +kernel) hown hK hP 0 rfl rfl 0 (by decide) (hts (.fieldLink RX2 9 RX2 "places" "[I") (by decide +kernel)) (fun _ h9 => h9) rfl dX2_put_8 ?_
    refine lv_iload_n hx hb dX2_put_11 rfl (lv_at hl 1 rfl) ?_
    refine lv_iload_n hx hb dX2_put_12 rfl (lv_at hl 2 rfl) ?_
    refine va_iast hx hb hK hP hD hS 1 0 rfl rfl (in_place c_1) dX2_put_13 (fun H locs hP hD hS => ?_)
    have hP : va_P (dC, dI) vwCl [(q2, .inr (2, [.ref q2a, .ref q2b, .ref q2c, .int ma])), (q2a, .inl (cA, 6, .inl (upd pl p0.toNatClampNeg p1))), (q2b, .inl (cA, 60, .inl nu)), (q2c, .inl (cA, 60, .inl de))] H := hP
    have hD : va_D A [(q2, .inr (2, [.ref q2a, .ref q2b, .ref q2c, .int ma])), (q2a, .inl (cA, 6, .inl (upd pl p0.toNatClampNeg p1))), (q2b, .inl (cA, 60, .inl nu)), (q2c, .inl (cA, 60, .inl de))] := hD
    exact rt_v hx hb hr hlocks (ma, (upd pl p0.toNatClampNeg p1), nu, de) (by simp only [f_X2_put, if_neg c_1]) hP hD hS dX2_put_14
def f_X2_makeThing (ma : Int32) (pl : Nat → Int32) (nu : Nat → Int32) (de : Nat → Int32) (p0 : Int32) : Int32 × Int32 × (Nat → Int32) × (Nat → Int32) × (Nat → Int32) := (if ma < 60 then (match f_X2_put (ma + 1) pl nu de p0 ma with | (ma_2, pl_2, nu_2, de_2) => (ma, ma_2, pl_2, nu_2, de_2)) else ((-3), ma, pl, nu, de))
set_option maxHeartbeats 4000000 in
set_option maxRecDepth 100000 in
theorem c_X2_makeThing (l : Launch) (dC : Nat → ClassId) (dI : Nat → Nat → Nat) (cA : ClassId) (q2 q2a q2b q2c : Nat) (sz : Nat) (ma : Int32) (pl : Nat → Int32) (nu : Nat → Int32) (de : Nat → Int32) (p0 : Int32) : Met l yX2_makeThing wsX2_makeThing ({ frames := 3, cells := 0, slots := 0, locals := 64 }) (pcW (dC, dI) [(q2, .inr (2, [.ref q2a, .ref q2b, .ref q2c, .int ma])), (q2a, .inl (cA, 6, .inl pl)), (q2b, .inl (cA, 60, .inl nu)), (q2c, .inl (cA, 60, .inl de))] [(cA, .int)] sz [.ref q2, .int p0]) (QWi (dC, dI) (f_X2_makeThing ma pl nu de p0) (wd_sh cA q2 q2a q2b q2c) (va_A [(q2, .inr (2, [.ref q2a, .ref q2b, .ref q2c, .int ma])), (q2a, .inl (cA, 6, .inl pl)), (q2b, .inl (cA, 60, .inl nu)), (q2c, .inl (cA, 60, .inl de))] sz)) 0 0 (va_A [(q2, .inr (2, [.ref q2a, .ref q2b, .ref q2c, .int ma])), (q2a, .inl (cA, 6, .inl pl)), (q2b, .inl (cA, 60, .inl nu)), (q2c, .inl (cA, 60, .inl de))] sz) := by
  refine Met.ofW (cc := cX2_makeThing) (maxL := 3) (ret := (some .int)) (by decide) rfl ?_
  intro p e s m args below meth c s₁ B hml hv
  obtain ⟨rfl, hsz, hN, hP, hK, hD0⟩ := hv
  have hx := B.exec
  have hb := B.bytes
  have hr := B.returns
  have hts := atoms_spec (ws := wsX2_makeThing) B.pre
  have hown : s.vm.findClass RX2 = some m.cls := findClass_of_methodNamed B.named
  have hlocks := B.notSynchronized
  subst hsz
  have hD := hD0.self (sz := s.heap.size)
  generalize hAe : va_A [(q2, .inr (2, [.ref q2a, .ref q2b, .ref q2c, .int ma])), (q2a, .inl (cA, 6, .inl pl)), (q2b, .inl (cA, 60, .inl nu)), (q2c, .inl (cA, 60, .inl de))] s.heap.size = A at hD ⊢
  have hA : ∀ q : Nat, s.heap.size ≤ q → A q := fun q h => by rw [← hAe]; exact Or.inr h
  have hS : va_S A s.heap s.heap [] := va_S.rf
  have hl := lv_entry ([.ref q2, .int p0]) (n := 3) (Nat.le_of_ble_eq_true rfl)
  rw [lg_entry_eq]
  generalize (lg_sl ([.ref q2, .int p0]) ++ List.replicate (3 - (lg_sl ([.ref q2, .int p0])).length) Slot.unset).toArray = ls at hl ⊢
  have hl : lv_has ls 3 [(0, .ref q2), (1, .int p0)] := hl
  refine lv_aload_n hx hb dX2_makeThing_0 rfl (lv_at hl 0 rfl) ?_
  refine va_get (D := (dC, dI)) (ci := 2) (v := .int ma) (C := RX2) (T := TX2) (N := 4) hx hb hts (by decide +kernel) hown hK hP 0 rfl rfl 3 (by decide) (hts (.fieldLink RX2 27 RX2 "made" "I") (by decide +kernel)) (fun _ h9 => h9) rfl dX2_makeThing_1 ?_
  refine lv_bipush (v := 60) hx hb dX2_makeThing_4 (by decide) ?_
  refine lv_icmp_lt (tgt := 12) hx hb dX2_makeThing_6 (by decide) (fun c_1 => ?_) (fun c_1 => ?_)
  · refine lv_aload_n hx hb dX2_makeThing_12 rfl (lv_at hl 0 rfl) ?_
    refine va_get (D := (dC, dI)) (ci := 2) (v := .int ma) (C := RX2) (T := TX2) (N := 4) hx hb hts (by decide +kernel) hown hK hP 0 rfl rfl 3 (by decide) (hts (.fieldLink RX2 27 RX2 "made" "I") (by decide +kernel)) (fun _ h9 => h9) rfl dX2_makeThing_13 ?_
    refine lv_istore_n (lv' := [(2, .int ma), (0, .ref q2), (1, .int p0)]) hx hb dX2_makeThing_16 rfl hl (by decide) rfl (fun ls hl => ?_)
    refine lv_aload_n hx hb dX2_makeThing_17 rfl (lv_at hl 1 rfl) ?_
    refine lv_dup hx hb dX2_makeThing_18 rfl ?_
    refine va_get (D := (dC, dI)) (ci := 2) (v := .int ma) (C := RX2) (T := TX2) (N := 4) hx hb hts (by decide +kernel) hown hK hP 0 rfl rfl 3 (by decide) (hts (.fieldLink RX2 27 RX2 "made" "I") (by decide +kernel)) (fun _ h9 => h9) rfl dX2_makeThing_19 ?_
    refine lv_iconst (v := 1) hx hb dX2_makeThing_22 (by decide) ?_
    refine lv_iadd hx hb dX2_makeThing_23 ?_
    refine va_put (D := (dC, dI)) (ci := 2) (v := .int (ma + 1)) (ty := .int) (C := RX2) (T := TX2) (N := 4) hx hb hts (by decide +kernel) tyX2 tyX2_ok nmX2 hown hK hP hD hS 0 rfl rfl 3 (by decide) (hts (.fieldLink RX2 27 RX2 "made" "I") (by decide +kernel)) (fun _ h9 => h9) rfl (by decide +kernel) rfl rfl (Nat.le_of_ble_eq_true rfl) dX2_makeThing_24 (fun H locs hP hD hS => ?_)
    have hP : va_P (dC, dI) vwCl [(q2, .inr (2, [.ref q2a, .ref q2b, .ref q2c, .int (ma + 1)])), (q2a, .inl (cA, 6, .inl pl)), (q2b, .inl (cA, 60, .inl nu)), (q2c, .inl (cA, 60, .inl de))] H := hP
    have hD : va_D A [(q2, .inr (2, [.ref q2a, .ref q2b, .ref q2c, .int (ma + 1)])), (q2a, .inl (cA, 6, .inl pl)), (q2b, .inl (cA, 60, .inl nu)), (q2c, .inl (cA, 60, .inl de))] := hD
    refine lv_aload_n hx hb dX2_makeThing_27 rfl (lv_at hl 1 rfl) ?_
    refine lv_iload_n hx hb dX2_makeThing_28 rfl (lv_at hl 2 rfl) ?_
    refine lv_iload_n hx hb dX2_makeThing_29 rfl (lv_at hl 0 rfl) ?_
    refine kx_wv (wr := []) hP hD hS hA [0, 1, 2, 3] [] rfl rfl (by decide) (by decide) (va_runV (As := [.int p0, .int ma]) (rest := []) ⟨hx, hb, hml, hown, hts⟩ (c_X2_put l dC dI cA q2 q2a q2b q2c H.size (ma + 1) pl nu de p0 ma) (cwV 2 hts gX2_makeThing_X2_put rfl rfl rfl (by decide +kernel) ⟨(Nat.le_of_ble_eq_true rfl), (Nat.le_of_ble_eq_true rfl)⟩) (pW hN (hP.sub (ws' := [(q2, .inr (2, [.ref q2a, .ref q2b, .ref q2c, .int (ma + 1)])), (q2a, .inl (cA, 6, .inl pl)), (q2b, .inl (cA, 60, .inl nu)), (q2c, .inl (cA, 60, .inl de))]) [0, 1, 2, 3] rfl) hK (hD.sub (ws' := [(q2, .inr (2, [.ref q2a, .ref q2b, .ref q2c, .int (ma + 1)])), (q2a, .inl (cA, 6, .inl pl)), (q2b, .inl (cA, 60, .inl nu)), (q2c, .inl (cA, 60, .inl de))]) [0, 1, 2, 3] (by decide) rfl) (ci := 2) (q0 := 0) rfl rfl rfl) rfl rfl hl.1 rfl (lv_room (Nat.le_of_ble_eq_true rfl)) dX2_makeThing_30 ⟨Nat.zero_le _, Nat.zero_le _⟩) (fun u_2 H locs hw_2 hP hD hS => ?_)
    obtain ⟨ma_2, pl_2, nu_2, de_2⟩ := u_2
    have hP : va_P (dC, dI) vwCl [(q2, .inr (2, [.ref q2a, .ref q2b, .ref q2c, .int ma_2])), (q2a, .inl (cA, 6, .inl pl_2)), (q2b, .inl (cA, 60, .inl nu_2)), (q2c, .inl (cA, 60, .inl de_2))] H := hP
    have hD : va_D A [(q2, .inr (2, [.ref q2a, .ref q2b, .ref q2c, .int ma_2])), (q2a, .inl (cA, 6, .inl pl_2)), (q2b, .inl (cA, 60, .inl nu_2)), (q2c, .inl (cA, 60, .inl de_2))] := hD
    refine lv_iload_n hx hb dX2_makeThing_33 rfl (lv_at hl 0 rfl) ?_
    exact rt_i hx hb hr hlocks (ma_2, pl_2, nu_2, de_2) (by simp only [f_X2_makeThing, if_pos c_1, ← hw_2]) hP hD hS dX2_makeThing_34
  · refine lv_bipush (v := (-3)) hx hb dX2_makeThing_9 (by decide) ?_
    exact rt_i hx hb hr hlocks (ma, pl, nu, de) (by simp only [f_X2_makeThing, if_neg c_1]) hP hD hS dX2_makeThing_11
def f_X2_raiseNumber (ma : Int32) (pl : Nat → Int32) (nu : Nat → Int32) (de : Nat → Int32) (p0 : Int32) (p1 : Int32) : Int32 × (Nat → Int32) × (Nat → Int32) × (Nat → Int32) := (if (f_X2_isThing ma pl nu de p0) = 0 then (ma, pl, nu, de) else (ma, pl, (upd nu p0.toNatClampNeg ((nu p0.toNatClampNeg) + p1)), de))
set_option maxHeartbeats 4000000 in
set_option maxRecDepth 100000 in
theorem c_X2_raiseNumber (l : Launch) (dC : Nat → ClassId) (dI : Nat → Nat → Nat) (cA : ClassId) (q2 q2a q2b q2c : Nat) (sz : Nat) (ma : Int32) (pl : Nat → Int32) (nu : Nat → Int32) (de : Nat → Int32) (p0 : Int32) (p1 : Int32) (hma : ma.toInt ≤ 60) : Met l yX2_raiseNumber wsX2_raiseNumber ({ frames := 1, cells := 0, slots := 0, locals := 21 }) (pcW (dC, dI) [(q2, .inr (2, [.ref q2a, .ref q2b, .ref q2c, .int ma])), (q2a, .inl (cA, 6, .inl pl)), (q2b, .inl (cA, 60, .inl nu)), (q2c, .inl (cA, 60, .inl de))] [(cA, .int)] sz [.ref q2, .int p0, .int p1]) (QWv (dC, dI) (f_X2_raiseNumber ma pl nu de p0 p1) (wd_sh cA q2 q2a q2b q2c) (va_A [(q2, .inr (2, [.ref q2a, .ref q2b, .ref q2c, .int ma])), (q2a, .inl (cA, 6, .inl pl)), (q2b, .inl (cA, 60, .inl nu)), (q2c, .inl (cA, 60, .inl de))] sz)) 0 0 (va_A [(q2, .inr (2, [.ref q2a, .ref q2b, .ref q2c, .int ma])), (q2a, .inl (cA, 6, .inl pl)), (q2b, .inl (cA, 60, .inl nu)), (q2c, .inl (cA, 60, .inl de))] sz) := by
  refine Met.ofW (cc := cX2_raiseNumber) (maxL := 3) (ret := none) (by decide) rfl ?_
  intro p e s m args below meth c s₁ B hml hv
  obtain ⟨rfl, hsz, hN, hP, hK, hD0⟩ := hv
  have hx := B.exec
  have hb := B.bytes
  have hr := B.returns
  have hts := atoms_spec (ws := wsX2_raiseNumber) B.pre
  have hown : s.vm.findClass RX2 = some m.cls := findClass_of_methodNamed B.named
  have hlocks := B.notSynchronized
  subst hsz
  have hD := hD0.self (sz := s.heap.size)
  generalize hAe : va_A [(q2, .inr (2, [.ref q2a, .ref q2b, .ref q2c, .int ma])), (q2a, .inl (cA, 6, .inl pl)), (q2b, .inl (cA, 60, .inl nu)), (q2c, .inl (cA, 60, .inl de))] s.heap.size = A at hD ⊢
  have hA : ∀ q : Nat, s.heap.size ≤ q → A q := fun q h => by rw [← hAe]; exact Or.inr h
  have hS : va_S A s.heap s.heap [] := va_S.rf
  have hl := lv_entry ([.ref q2, .int p0, .int p1]) (n := 3) (Nat.le_of_ble_eq_true rfl)
  rw [lg_entry_eq]
  generalize (lg_sl ([.ref q2, .int p0, .int p1]) ++ List.replicate (3 - (lg_sl ([.ref q2, .int p0, .int p1])).length) Slot.unset).toArray = ls at hl ⊢
  have hl : lv_has ls 3 [(0, .ref q2), (1, .int p0), (2, .int p1)] := hl
  refine lv_aload_n hx hb dX2_raiseNumber_0 rfl (lv_at hl 0 rfl) ?_
  refine lv_iload_n hx hb dX2_raiseNumber_1 rfl (lv_at hl 1 rfl) ?_
  have hPc := hP.sub (ws' := [(q2, .inr (2, [.ref q2a, .ref q2b, .ref q2c, .int ma])), (q2a, .inl (cA, 6, .inl pl)), (q2b, .inl (cA, 60, .inl nu)), (q2c, .inl (cA, 60, .inl de))]) [0, 1, 2, 3] rfl
  refine kx_read (va_runV (As := [.int p0]) (rest := []) ⟨hx, hb, hml, hown, hts⟩ (c_X2_isThing l dC dI cA q2 q2a q2b q2c ma pl nu de p0) (cwV 1 hts gX2_raiseNumber_X2_isThing rfl rfl rfl (by decide +kernel) ⟨(Nat.le_of_ble_eq_true rfl), (Nat.le_of_ble_eq_true rfl)⟩) (pR hN hPc hK (ci := 2) (q0 := 0) rfl rfl rfl) rfl rfl hl.1 rfl (lv_room (Nat.le_of_ble_eq_true rfl)) dX2_raiseNumber_2 ⟨Nat.zero_le _, Nat.zero_le _⟩) ?_
  refine lv_if_eq (tgt := 18) hx hb dX2_raiseNumber_5 (by decide) (fun c_1 => ?_) (fun c_1 => ?_)
  · exact rt_v hx hb hr hlocks (ma, pl, nu, de) (by simp only [f_X2_raiseNumber, if_pos c_1]) hP hD hS dX2_raiseNumber_18
  · refine lv_aload_n hx hb dX2_raiseNumber_8 rfl (lv_at hl 0 rfl) ?_
    refine va_get (D := (dC, dI)) (ci := 2) (v := .ref q2b) (C := RX2) (T := TX2) (N := 4) hx hb hts (by decide +kernel) hown hK hP 0 rfl rfl 1 (by decide) (hts (.fieldLink RX2 21 RX2 "numbers" "[I") (by decide +kernel)) (fun _ h9 => h9) rfl dX2_raiseNumber_9 ?_
    refine lv_iload_n hx hb dX2_raiseNumber_12 rfl (lv_at hl 1 rfl) ?_
    refine lv_dup2_11 hx hb dX2_raiseNumber_13 rfl rfl ?_
    refine va_iald hx hb hK hP 2 0 rfl rfl (in_thing hma c_1) dX2_raiseNumber_14 ?_
    refine lv_iload_n hx hb dX2_raiseNumber_15 rfl (lv_at hl 2 rfl) ?_
    refine lv_iadd hx hb dX2_raiseNumber_16 ?_
    refine va_iast hx hb hK hP hD hS 2 0 rfl rfl (in_thing hma c_1) dX2_raiseNumber_17 (fun H locs hP hD hS => ?_)
    have hP : va_P (dC, dI) vwCl [(q2, .inr (2, [.ref q2a, .ref q2b, .ref q2c, .int ma])), (q2a, .inl (cA, 6, .inl pl)), (q2b, .inl (cA, 60, .inl (upd nu p0.toNatClampNeg ((nu p0.toNatClampNeg) + p1)))), (q2c, .inl (cA, 60, .inl de))] H := hP
    have hD : va_D A [(q2, .inr (2, [.ref q2a, .ref q2b, .ref q2c, .int ma])), (q2a, .inl (cA, 6, .inl pl)), (q2b, .inl (cA, 60, .inl (upd nu p0.toNatClampNeg ((nu p0.toNatClampNeg) + p1)))), (q2c, .inl (cA, 60, .inl de))] := hD
    exact rt_v hx hb hr hlocks (ma, pl, (upd nu p0.toNatClampNeg ((nu p0.toNatClampNeg) + p1)), de) (by simp only [f_X2_raiseNumber, if_neg c_1]) hP hD hS dX2_raiseNumber_18
def f_X2_deepen (ma : Int32) (pl : Nat → Int32) (nu : Nat → Int32) (de : Nat → Int32) (p0 : Int32) (p1 : Int32) : Int32 × (Nat → Int32) × (Nat → Int32) × (Nat → Int32) := (if (f_X2_isThing ma pl nu de p0) = 0 then (ma, pl, nu, de) else (ma, pl, nu, (upd de p0.toNatClampNeg ((de p0.toNatClampNeg) + p1))))
set_option maxHeartbeats 4000000 in
set_option maxRecDepth 100000 in
theorem c_X2_deepen (l : Launch) (dC : Nat → ClassId) (dI : Nat → Nat → Nat) (cA : ClassId) (q2 q2a q2b q2c : Nat) (sz : Nat) (ma : Int32) (pl : Nat → Int32) (nu : Nat → Int32) (de : Nat → Int32) (p0 : Int32) (p1 : Int32) (hma : ma.toInt ≤ 60) : Met l yX2_deepen wsX2_deepen ({ frames := 1, cells := 0, slots := 0, locals := 21 }) (pcW (dC, dI) [(q2, .inr (2, [.ref q2a, .ref q2b, .ref q2c, .int ma])), (q2a, .inl (cA, 6, .inl pl)), (q2b, .inl (cA, 60, .inl nu)), (q2c, .inl (cA, 60, .inl de))] [(cA, .int)] sz [.ref q2, .int p0, .int p1]) (QWv (dC, dI) (f_X2_deepen ma pl nu de p0 p1) (wd_sh cA q2 q2a q2b q2c) (va_A [(q2, .inr (2, [.ref q2a, .ref q2b, .ref q2c, .int ma])), (q2a, .inl (cA, 6, .inl pl)), (q2b, .inl (cA, 60, .inl nu)), (q2c, .inl (cA, 60, .inl de))] sz)) 0 0 (va_A [(q2, .inr (2, [.ref q2a, .ref q2b, .ref q2c, .int ma])), (q2a, .inl (cA, 6, .inl pl)), (q2b, .inl (cA, 60, .inl nu)), (q2c, .inl (cA, 60, .inl de))] sz) := by
  refine Met.ofW (cc := cX2_deepen) (maxL := 3) (ret := none) (by decide) rfl ?_
  intro p e s m args below meth c s₁ B hml hv
  obtain ⟨rfl, hsz, hN, hP, hK, hD0⟩ := hv
  have hx := B.exec
  have hb := B.bytes
  have hr := B.returns
  have hts := atoms_spec (ws := wsX2_deepen) B.pre
  have hown : s.vm.findClass RX2 = some m.cls := findClass_of_methodNamed B.named
  have hlocks := B.notSynchronized
  subst hsz
  have hD := hD0.self (sz := s.heap.size)
  generalize hAe : va_A [(q2, .inr (2, [.ref q2a, .ref q2b, .ref q2c, .int ma])), (q2a, .inl (cA, 6, .inl pl)), (q2b, .inl (cA, 60, .inl nu)), (q2c, .inl (cA, 60, .inl de))] s.heap.size = A at hD ⊢
  have hA : ∀ q : Nat, s.heap.size ≤ q → A q := fun q h => by rw [← hAe]; exact Or.inr h
  have hS : va_S A s.heap s.heap [] := va_S.rf
  have hl := lv_entry ([.ref q2, .int p0, .int p1]) (n := 3) (Nat.le_of_ble_eq_true rfl)
  rw [lg_entry_eq]
  generalize (lg_sl ([.ref q2, .int p0, .int p1]) ++ List.replicate (3 - (lg_sl ([.ref q2, .int p0, .int p1])).length) Slot.unset).toArray = ls at hl ⊢
  have hl : lv_has ls 3 [(0, .ref q2), (1, .int p0), (2, .int p1)] := hl
  refine lv_aload_n hx hb dX2_deepen_0 rfl (lv_at hl 0 rfl) ?_
  refine lv_iload_n hx hb dX2_deepen_1 rfl (lv_at hl 1 rfl) ?_
  have hPc := hP.sub (ws' := [(q2, .inr (2, [.ref q2a, .ref q2b, .ref q2c, .int ma])), (q2a, .inl (cA, 6, .inl pl)), (q2b, .inl (cA, 60, .inl nu)), (q2c, .inl (cA, 60, .inl de))]) [0, 1, 2, 3] rfl
  refine kx_read (va_runV (As := [.int p0]) (rest := []) ⟨hx, hb, hml, hown, hts⟩ (c_X2_isThing l dC dI cA q2 q2a q2b q2c ma pl nu de p0) (cwV 1 hts gX2_deepen_X2_isThing rfl rfl rfl (by decide +kernel) ⟨(Nat.le_of_ble_eq_true rfl), (Nat.le_of_ble_eq_true rfl)⟩) (pR hN hPc hK (ci := 2) (q0 := 0) rfl rfl rfl) rfl rfl hl.1 rfl (lv_room (Nat.le_of_ble_eq_true rfl)) dX2_deepen_2 ⟨Nat.zero_le _, Nat.zero_le _⟩) ?_
  refine lv_if_eq (tgt := 18) hx hb dX2_deepen_5 (by decide) (fun c_1 => ?_) (fun c_1 => ?_)
  · exact rt_v hx hb hr hlocks (ma, pl, nu, de) (by simp only [f_X2_deepen, if_pos c_1]) hP hD hS dX2_deepen_18
  · refine lv_aload_n hx hb dX2_deepen_8 rfl (lv_at hl 0 rfl) ?_
    refine va_get (D := (dC, dI)) (ci := 2) (v := .ref q2c) (C := RX2) (T := TX2) (N := 4) hx hb hts (by decide +kernel) hown hK hP 0 rfl rfl 2 (by decide) (hts (.fieldLink RX2 24 RX2 "depths" "[I") (by decide +kernel)) (fun _ h9 => h9) rfl dX2_deepen_9 ?_
    refine lv_iload_n hx hb dX2_deepen_12 rfl (lv_at hl 1 rfl) ?_
    refine lv_dup2_11 hx hb dX2_deepen_13 rfl rfl ?_
    refine va_iald hx hb hK hP 3 0 rfl rfl (in_thing hma c_1) dX2_deepen_14 ?_
    refine lv_iload_n hx hb dX2_deepen_15 rfl (lv_at hl 2 rfl) ?_
    refine lv_iadd hx hb dX2_deepen_16 ?_
    refine va_iast hx hb hK hP hD hS 3 0 rfl rfl (in_thing hma c_1) dX2_deepen_17 (fun H locs hP hD hS => ?_)
    have hP : va_P (dC, dI) vwCl [(q2, .inr (2, [.ref q2a, .ref q2b, .ref q2c, .int ma])), (q2a, .inl (cA, 6, .inl pl)), (q2b, .inl (cA, 60, .inl nu)), (q2c, .inl (cA, 60, .inl (upd de p0.toNatClampNeg ((de p0.toNatClampNeg) + p1))))] H := hP
    have hD : va_D A [(q2, .inr (2, [.ref q2a, .ref q2b, .ref q2c, .int ma])), (q2a, .inl (cA, 6, .inl pl)), (q2b, .inl (cA, 60, .inl nu)), (q2c, .inl (cA, 60, .inl (upd de p0.toNatClampNeg ((de p0.toNatClampNeg) + p1))))] := hD
    exact rt_v hx hb hr hlocks (ma, pl, nu, (upd de p0.toNatClampNeg ((de p0.toNatClampNeg) + p1))) (by simp only [f_X2_deepen, if_neg c_1]) hP hD hS dX2_deepen_18
