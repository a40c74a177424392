theorem vp_lt {x : Int32} {n : Nat} (h : vp_in x n) : x.toNatClampNeg < n := Nat.not_le.mp fun q => h (Or.inr q)
theorem vp_nI {x : Int32} {n : Nat} (h : vp_in x n) (hn : n < 2 ^ 31) : ∃ j : Nat, j < n ∧ x = nI j ∧ x.toNatClampNeg = j := by
  obtain ⟨j, h1, h2⟩ := vp_in_of h hn
  exact ⟨j, h1, h2, by rw [h2]; exact nI_clamp (by omega)⟩
theorem in_slot {b : Int32} {si : Nat → Int32} (hsi : ∀ b : Nat, b < 40 → 0 ≤ (si b).toInt ∧ (si b).toInt ≤ 12) (hb : vp_in b 40) (h : si b.toNatClampNeg < 12) : vp_in (b * 12 + si b.toNatClampNeg) 480 := by
  obtain ⟨j, h1, h2, h3⟩ := vp_nI hb (by decide)
  rw [h3] at h ⊢
  obtain ⟨h4, h5⟩ := hsi j h1
  rw [Int32.lt_iff_toInt_lt] at h
  have e1 : (12 : Int32).toInt = 12 := by decide
  obtain ⟨k, h6, h7⟩ : ∃ k : Nat, k < 12 ∧ si j = nI k := by
    have : vp_in (si j) 12 := by rw [vp_in_iff]; omega
    exact vp_in_of this (by decide)
  rw [h2, h7, show (12 : Int32) = nI 12 by decide, pk_mul, nI_add]
  exact vp_in_nI (by omega) (by decide)
def f_X0_append (to : Int32) (si : Nat → Int32) (ki : Nat → Int32) (aa : Nat → Int32) (xx : Nat → Int32) (yy : Nat → Int32) (p0 : Int32) (p1 : Int32) (p2 : Int32) (p3 : Int32) (p4 : Int32) : Int32 × Int32 × (Nat → Int32) × (Nat → Int32) × (Nat → Int32) × (Nat → Int32) × (Nat → Int32) := (if (f_X4_isBlock p0) = 0 then ((-2), to, si, ki, aa, xx, yy) else (if 150 ≤ to then ((-3), to, si, ki, aa, xx, yy) else (if (si p0.toNatClampNeg) < 12 then (((upd si p0.toNatClampNeg ((si p0.toNatClampNeg) + 1)) p0.toNatClampNeg), (to + 1), (upd si p0.toNatClampNeg ((si p0.toNatClampNeg) + 1)), (upd ki ((p0 * 12) + (si p0.toNatClampNeg)).toNatClampNeg p1), (upd aa ((p0 * 12) + (si p0.toNatClampNeg)).toNatClampNeg p2), (upd xx ((p0 * 12) + (si p0.toNatClampNeg)).toNatClampNeg p3), (upd yy ((p0 * 12) + (si p0.toNatClampNeg)).toNatClampNeg p4)) else ((-3), to, si, ki, aa, xx, yy))))
set_option maxHeartbeats 4000000 in
set_option maxRecDepth 100000 in
theorem c_X0_append (l : Launch) (dC : Nat → ClassId) (dI : Nat → Nat → Nat) (cA : ClassId) (q0 q0a q0b q0c q0d q0e : Nat) (sz : Nat) (to : Int32) (si : Nat → Int32) (ki : Nat → Int32) (aa : Nat → Int32) (xx : Nat → Int32) (yy : Nat → Int32) (p0 : Int32) (p1 : Int32) (p2 : Int32) (p3 : Int32) (p4 : Int32) (hsi : ∀ b : Nat, b < 40 → 0 ≤ (si b).toInt ∧ (si b).toInt ≤ 12) : Met l yX0_append wsX0_append ({ frames := 2, cells := 0, slots := 0, locals := 42 }) (pcW (dC, dI) [(q0, .inr (0, [.ref q0a, .ref q0b, .ref q0c, .ref q0d, .ref q0e, .int to])), (q0a, .inl (cA, 40, .inl si)), (q0b, .inl (cA, 480, .inl ki)), (q0c, .inl (cA, 480, .inl aa)), (q0d, .inl (cA, 480, .inl xx)), (q0e, .inl (cA, 480, .inl yy))] [(cA, .int)] sz [.ref q0, .int p0, .int p1, .int p2, .int p3, .int p4]) (QWi (dC, dI) (f_X0_append to si ki aa xx yy p0 p1 p2 p3 p4) (wd_pr cA q0 q0a q0b q0c q0d q0e) (va_A [(q0, .inr (0, [.ref q0a, .ref q0b, .ref q0c, .ref q0d, .ref q0e, .int to])), (q0a, .inl (cA, 40, .inl si)), (q0b, .inl (cA, 480, .inl ki)), (q0c, .inl (cA, 480, .inl aa)), (q0d, .inl (cA, 480, .inl xx)), (q0e, .inl (cA, 480, .inl yy))] sz)) 0 0 (va_A [(q0, .inr (0, [.ref q0a, .ref q0b, .ref q0c, .ref q0d, .ref q0e, .int to])), (q0a, .inl (cA, 40, .inl si)), (q0b, .inl (cA, 480, .inl ki)), (q0c, .inl (cA, 480, .inl aa)), (q0d, .inl (cA, 480, .inl xx)), (q0e, .inl (cA, 480, .inl yy))] sz) := by
  refine Met.ofW (cc := cX0_append) (maxL := 7) (ret := (some .int)) (by decide) rfl ?_
  intro p e s m args below meth c s₁ B hml hv
  obtain ⟨rfl, hsz, hN, hP, hK, hD0⟩ := hv
  have hx := B.exec
  have hb := B.bytes
  have hr := B.returns
  have hts := atoms_spec (ws := wsX0_append) B.pre
  have hown : s.vm.findClass RX0 = some m.cls := findClass_of_methodNamed B.named
  have hlocks := B.notSynchronized
  subst hsz
  have hD := hD0.self (sz := s.heap.size)
  generalize hAe : va_A [(q0, .inr (0, [.ref q0a, .ref q0b, .ref q0c, .ref q0d, .ref q0e, .int to])), (q0a, .inl (cA, 40, .inl si)), (q0b, .inl (cA, 480, .inl ki)), (q0c, .inl (cA, 480, .inl aa)), (q0d, .inl (cA, 480, .inl xx)), (q0e, .inl (cA, 480, .inl yy))] s.heap.size = A at hD ⊢
  have hA : ∀ q : Nat, s.heap.size ≤ q → A q := fun q h => by rw [← hAe]; exact Or.inr h
  have hS : va_S A s.heap s.heap [] := va_S.rf
  have hl := lv_entry ([.ref q0, .int p0, .int p1, .int p2, .int p3, .int p4]) (n := 7) (Nat.le_of_ble_eq_true rfl)
  rw [lg_entry_eq]
  generalize (lg_sl ([.ref q0, .int p0, .int p1, .int p2, .int p3, .int p4]) ++ List.replicate (7 - (lg_sl ([.ref q0, .int p0, .int p1, .int p2, .int p3, .int p4])).length) Slot.unset).toArray = ls at hl ⊢
  have hl : lv_has ls 7 [(0, .ref q0), (1, .int p0), (2, .int p1), (3, .int p2), (4, .int p3), (5, .int p4)] := hl
  refine lv_iload_n hx hb dX0_append_0 rfl (lv_at hl 1 rfl) ?_
  refine kx_read (va_runSN (As := [.int p0]) (rest := []) ⟨hx, hb, hml, hown, hts⟩ (c_X4_isBlock l p0) ⟨va_cnB 1 hts gX0_append_X4_isBlock_n31 rfl rfl rfl (hN.at 9 rfl) (hts (.initialized RX4) (by decide +kernel)) (by decide +kernel) ⟨(Nat.le_of_ble_eq_true rfl), (Nat.le_of_ble_eq_true rfl)⟩, (hts (.static yX4_isBlock) (by decide +kernel)), trivial⟩ (pS hN) rfl rfl hl.1 rfl (lv_room (Nat.le_of_ble_eq_true rfl)) dX0_append_1 ⟨Nat.zero_le _, Nat.zero_le _⟩) ?_
  refine lv_if_ne (tgt := 10) hx hb dX0_append_4 (by decide) (fun c_1 => ?_) (fun c_1 => ?_)
  · refine lv_aload_n hx hb dX0_append_10 rfl (lv_at hl 0 rfl) ?_
    refine va_get (D := (dC, dI)) (ci := 0) (v := .int to) (C := RX0) (T := TX0) (N := 6) hx hb hts (by decide +kernel) hown hK hP 0 rfl rfl 5 (by decide) (hts (.fieldLink RX0 27 RX0 "total" "I") (by decide +kernel)) (fun _ h9 => h9) rfl dX0_append_11 ?_
    refine lv_sipush (v := 150) hx hb dX0_append_14 (by decide) ?_
    refine lv_icmp_ge (tgt := 31) hx hb dX0_append_17 (by decide) (fun c_2 => ?_) (fun c_2 => ?_)
    · refine lv_bipush (v := (-3)) hx hb dX0_append_31 (by decide) ?_
      exact rt_i hx hb hr hlocks (to, si, ki, aa, xx, yy) (by simp only [f_X0_append, if_neg c_1, if_pos c_2]) hP hD hS dX0_append_33
    · refine lv_aload_n hx hb dX0_append_20 rfl (lv_at hl 0 rfl) ?_
      refine va_get (D := (dC, dI)) (ci := 0) (v := .ref q0a) (C := RX0) (T := TX0) (N := 6) hx hb hts (by decide +kernel) hown hK hP 0 rfl rfl 0 (by decide) (hts (.fieldLink RX0 9 RX0 "sizes" "[I") (by decide +kernel)) (fun _ h9 => h9) rfl dX0_append_21 ?_
      refine lv_iload_n hx hb dX0_append_24 rfl (lv_at hl 1 rfl) ?_
      refine va_iald hx hb hK hP 1 0 rfl rfl (in_block c_1) dX0_append_25 ?_
      refine lv_bipush (v := 12) hx hb dX0_append_26 (by decide) ?_
      refine lv_icmp_lt (tgt := 34) hx hb dX0_append_28 (by decide) (fun c_3 => ?_) (fun c_3 => ?_)
      · refine lv_iload_n hx hb dX0_append_34 rfl (lv_at hl 1 rfl) ?_
        refine lv_bipush (v := 12) hx hb dX0_append_35 (by decide) ?_
        refine lv_imul hx hb dX0_append_37 ?_
        refine lv_aload_n hx hb dX0_append_38 rfl (lv_at hl 0 rfl) ?_
        refine va_get (D := (dC, dI)) (ci := 0) (v := .ref q0a) (C := RX0) (T := TX0) (N := 6) hx hb hts (by decide +kernel) hown hK hP 0 rfl rfl 0 (by decide) (hts (.fieldLink RX0 9 RX0 "sizes" "[I") (by decide +kernel)) (fun _ h9 => h9) rfl dX0_append_39 ?_
        refine lv_iload_n hx hb dX0_append_42 rfl (lv_at hl 1 rfl) ?_
        refine va_iald hx hb hK hP 1 0 rfl rfl (in_block c_1) dX0_append_43 ?_
        refine lv_iadd hx hb dX0_append_44 ?_
        refine lv_istore (lv' := [(6, .int ((p0 * 12) + (si p0.toNatClampNeg))), (0, .ref q0), (1, .int p0), (2, .int p1), (3, .int p2), (4, .int p3), (5, .int p4)]) hx hb dX0_append_45 hl (by decide) rfl (fun ls hl => ?_)
        refine lv_aload_n hx hb dX0_append_47 rfl (lv_at hl 1 rfl) ?_
        refine va_get (D := (dC, dI)) (ci := 0) (v := .ref q0b) (C := RX0) (T := TX0) (N := 6) hx hb hts (by decide +kernel) hown hK hP 0 rfl rfl 1 (by decide) (hts (.fieldLink RX0 15 RX0 "kinds" "[I") (by decide +kernel)) (fun _ h9 => h9) rfl dX0_append_48 ?_
        refine lv_iload hx hb dX0_append_51 (lv_at hl 0 rfl) ?_
        refine lv_iload_n hx hb dX0_append_53 rfl (lv_at hl 3 rfl) ?_
        refine va_iast hx hb hK hP hD hS 2 0 rfl rfl (in_slot hsi (in_block c_1) c_3) dX0_append_54 (fun H locs hP hD hS => ?_)
        have hP : va_P (dC, dI) vwCl [(q0, .inr (0, [.ref q0a, .ref q0b, .ref q0c, .ref q0d, .ref q0e, .int to])), (q0a, .inl (cA, 40, .inl si)), (q0b, .inl (cA, 480, .inl (upd ki ((p0 * 12) + (si p0.toNatClampNeg)).toNatClampNeg p1))), (q0c, .inl (cA, 480, .inl aa)), (q0d, .inl (cA, 480, .inl xx)), (q0e, .inl (cA, 480, .inl yy))] H := hP
        have hD : va_D A [(q0, .inr (0, [.ref q0a, .ref q0b, .ref q0c, .ref q0d, .ref q0e, .int to])), (q0a, .inl (cA, 40, .inl si)), (q0b, .inl (cA, 480, .inl (upd ki ((p0 * 12) + (si p0.toNatClampNeg)).toNatClampNeg p1))), (q0c, .inl (cA, 480, .inl aa)), (q0d, .inl (cA, 480, .inl xx)), (q0e, .inl (cA, 480, .inl yy))] := hD
        refine lv_aload_n hx hb dX0_append_55 rfl (lv_at hl 1 rfl) ?_
        refine va_get (D := (dC, dI)) (ci := 0) (v := .ref q0c) (C := RX0) (T := TX0) (N := 6) hx hb hts (by decide +kernel) hown hK hP 0 rfl rfl 2 (by decide) (hts (.fieldLink RX0 18 RX0 "as" "[I") (by decide +kernel)) (fun _ h9 => h9) rfl dX0_append_56 ?_
        refine lv_iload hx hb dX0_append_59 (lv_at hl 0 rfl) ?_
        refine lv_iload_n hx hb dX0_append_61 rfl (lv_at hl 4 rfl) ?_
        refine va_iast hx hb hK hP hD hS 3 0 rfl rfl (in_slot hsi (in_block c_1) c_3) dX0_append_62 (fun H locs hP hD hS => ?_)
        have hP : va_P (dC, dI) vwCl [(q0, .inr (0, [.ref q0a, .ref q0b, .ref q0c, .ref q0d, .ref q0e, .int to])), (q0a, .inl (cA, 40, .inl si)), (q0b, .inl (cA, 480, .inl (upd ki ((p0 * 12) + (si p0.toNatClampNeg)).toNatClampNeg p1))), (q0c, .inl (cA, 480, .inl (upd aa ((p0 * 12) + (si p0.toNatClampNeg)).toNatClampNeg p2))), (q0d, .inl (cA, 480, .inl xx)), (q0e, .inl (cA, 480, .inl yy))] H := hP
        have hD : va_D A [(q0, .inr (0, [.ref q0a, .ref q0b, .ref q0c, .ref q0d, .ref q0e, .int to])), (q0a, .inl (cA, 40, .inl si)), (q0b, .inl (cA, 480, .inl (upd ki ((p0 * 12) + (si p0.toNatClampNeg)).toNatClampNeg p1))), (q0c, .inl (cA, 480, .inl (upd aa ((p0 * 12) + (si p0.toNatClampNeg)).toNatClampNeg p2))), (q0d, .inl (cA, 480, .inl xx)), (q0e, .inl (cA, 480, .inl yy))] := hD
        refine lv_aload_n hx hb dX0_append_63 rfl (lv_at hl 1 rfl) ?_
        refine va_get (D := (dC, dI)) (ci := 0) (v := .ref q0d) (C := RX0) (T := TX0) (N := 6) hx hb hts (by decide +kernel) hown hK hP 0 rfl rfl 3 (by decide) (hts (.fieldLink RX0 21 RX0 "xs" "[I") (by decide +kernel)) (fun _ h9 => h9) rfl dX0_append_64 ?_
        refine lv_iload hx hb dX0_append_67 (lv_at hl 0 rfl) ?_
        refine lv_iload hx hb dX0_append_69 (lv_at hl 5 rfl) ?_
        refine va_iast hx hb hK hP hD hS 4 0 rfl rfl (in_slot hsi (in_block c_1) c_3) dX0_append_71 (fun H locs hP hD hS => ?_)
        have hP : va_P (dC, dI) vwCl [(q0, .inr (0, [.ref q0a, .ref q0b, .ref q0c, .ref q0d, .ref q0e, .int to])), (q0a, .inl (cA, 40, .inl si)), (q0b, .inl (cA, 480, .inl (upd ki ((p0 * 12) + (si p0.toNatClampNeg)).toNatClampNeg p1))), (q0c, .inl (cA, 480, .inl (upd aa ((p0 * 12) + (si p0.toNatClampNeg)).toNatClampNeg p2))), (q0d, .inl (cA, 480, .inl (upd xx ((p0 * 12) + (si p0.toNatClampNeg)).toNatClampNeg p3))), (q0e, .inl (cA, 480, .inl yy))] H := hP
        have hD : va_D A [(q0, .inr (0, [.ref q0a, .ref q0b, .ref q0c, .ref q0d, .ref q0e, .int to])), (q0a, .inl (cA, 40, .inl si)), (q0b, .inl (cA, 480, .inl (upd ki ((p0 * 12) + (si p0.toNatClampNeg)).toNatClampNeg p1))), (q0c, .inl (cA, 480, .inl (upd aa ((p0 * 12) + (si p0.toNatClampNeg)).toNatClampNeg p2))), (q0d, .inl (cA, 480, .inl (upd xx ((p0 * 12) + (si p0.toNatClampNeg)).toNatClampNeg p3))), (q0e, .inl (cA, 480, .inl yy))] := hD
        refine lv_aload_n hx hb dX0_append_72 rfl (lv_at hl 1 rfl) ?_
        refine va_get (D := (dC, dI)) (ci := 0) (v := .ref q0e) (C := RX0) (T := TX0) (N := 6) hx hb hts (by decide +kernel) hown hK hP 0 rfl rfl 4 (by decide) (hts (.fieldLink RX0 24 RX0 "ys" "[I") (by decide +kernel)) (fun _ h9 => h9) rfl dX0_append_73 ?_
        refine lv_iload hx hb dX0_append_76 (lv_at hl 0 rfl) ?_
        refine lv_iload hx hb dX0_append_78 (lv_at hl 6 rfl) ?_
        refine va_iast hx hb hK hP hD hS 5 0 rfl rfl (in_slot hsi (in_block c_1) c_3) dX0_append_80 (fun H locs hP hD hS => ?_)
        have hP : va_P (dC, dI) vwCl [(q0, .inr (0, [.ref q0a, .ref q0b, .ref q0c, .ref q0d, .ref q0e, .int to])), (q0a, .inl (cA, 40, .inl si)), (q0b, .inl (cA, 480, .inl (upd ki ((p0 * 12) + (si p0.toNatClampNeg)).toNatClampNeg p1))), (q0c, .inl (cA, 480, .inl (upd aa ((p0 * 12) + (si p0.toNatClampNeg)).toNatClampNeg p2))), (q0d, .inl (cA, 480, .inl (upd xx ((p0 * 12) + (si p0.toNatClampNeg)).toNatClampNeg p3))), (q0e, .inl (cA, 480, .inl (upd yy ((p0 * 12) + (si p0.toNatClampNeg)).toNatClampNeg p4)))] H := hP
        have hD : va_D A [(q0, .inr (0, [.ref q0a, .ref q0b, .ref q0c, .ref q0d, .ref q0e, .int to])), (q0a, .inl (cA, 40, .inl si)), (q0b, .inl (cA, 480, .inl (upd ki ((p0 * 12) + (si p0.toNatClampNeg)).toNatClampNeg p1))), (q0c, .inl (cA, 480, .inl (upd aa ((p0 * 12) + (si p0.toNatClampNeg)).toNatClampNeg p2))), (q0d, .inl (cA, 480, .inl (upd xx ((p0 * 12) + (si p0.toNatClampNeg)).toNatClampNeg p3))), (q0e, .inl (cA, 480, .inl (upd yy ((p0 * 12) + (si p0.toNatClampNeg)).toNatClampNeg p4)))] := hD
        refine lv_aload_n hx hb dX0_append_81 rfl (lv_at hl 1 rfl) ?_
        refine va_get (D := (dC, dI)) (ci := 0) (v := .ref q0a) (C := RX0) (T := TX0) (N := 6) hx hb hts (by decide +kernel) hown hK hP 0 rfl rfl 0 (by decide) (hts (.fieldLink RX0 9 RX0 "sizes" "[I") (by decide +kernel)) (fun _ h9 => h9) rfl dX0_append_82 ?_
        refine lv_iload_n hx hb dX0_append_85 rfl (lv_at hl 2 rfl) ?_
        refine lv_dup2_11 hx hb dX0_append_86 rfl rfl ?_
        refine va_iald hx hb hK hP 1 0 rfl rfl (in_block c_1) dX0_append_87 ?_
        refine lv_iconst (v := 1) hx hb dX0_append_88 (by decide) ?_
        refine lv_iadd hx hb dX0_append_89 ?_
        refine va_iast hx hb hK hP hD hS 1 0 rfl rfl (in_block c_1) dX0_append_90 (fun H locs hP hD hS => ?_)
        have hP : va_P (dC, dI) vwCl [(q0, .inr (0, [.ref q0a, .ref q0b, .ref q0c, .ref q0d, .ref q0e, .int to])), (q0a, .inl (cA, 40, .inl (upd si p0.toNatClampNeg ((si p0.toNatClampNeg) + 1)))), (q0b, .inl (cA, 480, .inl (upd ki ((p0 * 12) + (si p0.toNatClampNeg)).toNatClampNeg p1))), (q0c, .inl (cA, 480, .inl (upd aa ((p0 * 12) + (si p0.toNatClampNeg)).toNatClampNeg p2))), (q0d, .inl (cA, 480, .inl (upd xx ((p0 * 12) + (si p0.toNatClampNeg)).toNatClampNeg p3))), (q0e, .inl (cA, 480, .inl (upd yy ((p0 * 12) + (si p0.toNatClampNeg)).toNatClampNeg p4)))] H := hP
        have hD : va_D A [(q0, .inr (0, [.ref q0a, .ref q0b, .ref q0c, .ref q0d, .ref q0e, .int to])), (q0a, .inl (cA, 40, .inl (upd si p0.toNatClampNeg ((si p0.toNatClampNeg) + 1)))), (q0b, .inl (cA, 480, .inl (upd ki ((p0 * 12) + (si p0.toNatClampNeg)).toNatClampNeg p1))), (q0c, .inl (cA, 480, .inl (upd aa ((p0 * 12) + (si p0.toNatClampNeg)).toNatClampNeg p2))), (q0d, .inl (cA, 480, .inl (upd xx ((p0 * 12) + (si p0.toNatClampNeg)).toNatClampNeg p3))), (q0e, .inl (cA, 480, .inl (upd yy ((p0 * 12) + (si p0.toNatClampNeg)).toNatClampNeg p4)))] := hD
        refine lv_aload_n hx hb dX0_append_91 rfl (lv_at hl 1 rfl) ?_
        refine lv_dup hx hb dX0_append_92 rfl ?_
        refine va_get (D := (dC, dI)) (ci := 0) (v := .int to) (C := RX0) (T := TX0) (N := 6) hx hb hts (by decide +kernel) hown hK hP 0 rfl rfl 5 (by decide) (hts (.fieldLink RX0 27 RX0 "total" "I") (by decide +kernel)) (fun _ h9 => h9) rfl dX0_append_93 ?_
        refine lv_iconst (v := 1) hx hb dX0_append_96 (by decide) ?_
        refine lv_iadd hx hb dX0_append_97 ?_
        refine va_put (D := (dC, dI)) (ci := 0) (v := .int (to + 1)) (ty := .int) (C := RX0) (T := TX0) (N := 6) hx hb hts (by decide +kernel) tyX0 tyX0_ok nmX0 hown hK hP hD hS 0 rfl rfl 5 (by decide) (hts (.fieldLink RX0 27 RX0 "total" "I") (by decide +kernel)) (fun _ h9 => h9) rfl (by decide +kernel) rfl rfl (Nat.le_of_ble_eq_true rfl) dX0_append_98 (fun H locs hP hD hS => ?_)
        have hP : va_P (dC, dI) vwCl [(q0, .inr (0, [.ref q0a, .ref q0b, .ref q0c, .ref q0d, .ref q0e, .int (to + 1)])), (q0a, .inl (cA, 40, .inl (upd si p0.toNatClampNeg ((si p0.toNatClampNeg) + 1)))), (q0b, .inl (cA, 480, .inl (upd ki ((p0 * 12) + (si p0.toNatClampNeg)).toNatClampNeg p1))), (q0c, .inl (cA, 480, .inl (upd aa ((p0 * 12) + (si p0.toNatClampNeg)).toNatClampNeg p2))), (q0d, .inl (cA, 480, .inl (upd xx ((p0 * 12) + (si p0.toNatClampNeg)).toNatClampNeg p3))), (q0e, .inl (cA, 480, .inl (upd yy ((p0 * 12) + (si p0.toNatClampNeg)).toNatClampNeg p4)))] H := hP
        have hD : va_D A [(q0, .inr (0, [.ref q0a, .ref q0b, .ref q0c, .ref q0d, .ref q0e, .int (to + 1)])), (q0a, .inl (cA, 40, .inl (upd si p0.toNatClampNeg ((si p0.toNatClampNeg) + 1)))), (q0b, .inl (cA, 480, .inl (upd ki ((p0 * 12) + (si p0.toNatClampNeg)).toNatClampNeg p1))), (q0c, .inl (cA, 480, .inl (upd aa ((p0 * 12) + (si p0.toNatClampNeg)).toNatClampNeg p2))), (q0d, .inl (cA, 480, .inl (upd xx ((p0 * 12) + (si p0.toNatClampNeg)).toNatClampNeg p3))), (q0e, .inl (cA, 480, .inl (upd yy ((p0 * 12) + (si p0.toNatClampNeg)).toNatClampNeg p4)))] := hD
        refine lv_aload_n hx hb dX0_append_101 rfl (lv_at hl 1 rfl) ?_
        refine va_get (D := (dC, dI)) (ci := 0) (v := .ref q0a) (C := RX0) (T := TX0) (N := 6) hx hb hts (by decide +kernel) hown hK hP 0 rfl rfl 0 (by decide) (hts (.fieldLink RX0 9 RX0 "sizes" "[I") (by decide +kernel)) (fun _ h9 => h9) rfl dX0_append_102 ?_
        refine lv_iload_n hx hb dX0_append_105 rfl (lv_at hl 2 rfl) ?_
        refine va_iald hx hb hK hP 1 0 rfl rfl (in_block c_1) dX0_append_106 ?_
        exact rt_i hx hb hr hlocks ((to + 1), (upd si p0.toNatClampNeg ((si p0.toNatClampNeg) + 1)), (upd ki ((p0 * 12) + (si p0.toNatClampNeg)).toNatClampNeg p1), (upd aa ((p0 * 12) + (si p0.toNatClampNeg)).toNatClampNeg p2), (upd xx ((p0 * 12) + (si p0.toNatClampNeg)).toNatClampNeg p3), (upd yy ((p0 * 12) + (si p0.toNatClampNeg)).toNatClampNeg p4)) (by simp only [f_X0_append, if_neg c_1, if_neg c_2, if_pos c_3]) hP hD hS dX0_append_107
      · refine lv_bipush (v := (-3)) hx hb dX0_append_31 (by decide) ?_
        exact rt_i hx hb hr hlocks (to, si, ki, aa, xx, yy) (by simp only [f_X0_append, if_neg c_1, if_neg c_2, if_neg c_3]) hP hD hS dX0_append_33
  · refine lv_bipush (v := (-2)) hx hb dX0_append_7 (by decide) ?_
    exact rt_i hx hb hr hlocks (to, si, ki, aa, xx, yy) (by simp only [f_X0_append, if_pos c_1]) hP hD hS dX0_append_9
def f_X0_empty (to : Int32) (si : Nat → Int32) (ki : Nat → Int32) (aa : Nat → Int32) (xx : Nat → Int32) (yy : Nat → Int32) (p0 : Int32) : Int32 × Int32 × (Nat → Int32) × (Nat → Int32) × (Nat → Int32) × (Nat → Int32) × (Nat → Int32) := (if (f_X4_isBlock p0) = 0 then ((-2), to, si, ki, aa, xx, yy) else ((si p0.toNatClampNeg), (to - (si p0.toNatClampNeg)), (upd si p0.toNatClampNeg 0), ki, aa, xx, yy))
set_option maxHeartbeats 4000000 in
set_option maxRecDepth 100000 in
theorem c_X0_empty (l : Launch) (dC : Nat → ClassId) (dI : Nat → Nat → Nat) (cA : ClassId) (q0 q0a q0b q0c q0d q0e : Nat) (sz : Nat) (to : Int32) (si : Nat → Int32) (ki : Nat → Int32) (aa : Nat → Int32) (xx : Nat → Int32) (yy : Nat → Int32) (p0 : Int32) : Met l yX0_empty wsX0_empty ({ frames := 2, cells := 0, slots := 0, locals := 42 }) (pcW (dC, dI) [(q0, .inr (0, [.ref q0a, .ref q0b, .ref q0c, .ref q0d, .ref q0e, .int to])), (q0a, .inl (cA, 40, .inl si)), (q0b, .inl (cA, 480, .inl ki)), (q0c, .inl (cA, 480, .inl aa)), (q0d, .inl (cA, 480, .inl xx)), (q0e, .inl (cA, 480, .inl yy))] [(cA, .int)] sz [.ref q0, .int p0]) (QWi (dC, dI) (f_X0_empty to si ki aa xx yy p0) (wd_pr cA q0 q0a q0b q0c q0d q0e) (va_A [(q0, .inr (0, [.ref q0a, .ref q0b, .ref q0c, .ref q0d, .ref q0e, .int to])), (q0a, .inl (cA, 40, .inl si)), (q0b, .inl (cA, 480, .inl ki)), (q0c, .inl (cA, 480, .inl aa)), (q0d, .inl (cA, 480, .inl xx)), (q0e, .inl (cA, 480, .inl yy))] sz)) 0 0 (va_A [(q0, .inr (0, [.ref q0a, .ref q0b, .ref q0c, .ref q0d, .ref q0e, .int to])), (q0a, .inl (cA, 40, .inl si)), (q0b, .inl (cA, 480, .inl ki)), (q0c, .inl (cA, 480, .inl aa)), (q0d, .inl (cA, 480, .inl xx)), (q0e, .inl (cA, 480, .inl yy))] sz) := by
  refine Met.ofW (cc := cX0_empty) (maxL := 3) (ret := (some .int)) (by decide) rfl ?_
  intro p e s m args below meth c s₁ B hml hv
  obtain ⟨rfl, hsz, hN, hP, hK, hD0⟩ := hv
  have hx := B.exec
  have hb := B.bytes
  have hr := B.returns
  have hts := atoms_spec (ws := wsX0_empty) B.pre
  have hown : s.vm.findClass RX0 = some m.cls := findClass_of_methodNamed B.named
  have hlocks := B.notSynchronized
  subst hsz
  have hD := hD0.self (sz := s.heap.size)
  generalize hAe : va_A [(q0, .inr (0, [.ref q0a, .ref q0b, .ref q0c, .ref q0d, .ref q0e, .int to])), (q0a, .inl (cA, 40, .inl si)), (q0b, .inl (cA, 480, .inl ki)), (q0c, .inl (cA, 480, .inl aa)), (q0d, .inl (cA, 480, .inl xx)), (q0e, .inl (cA, 480, .inl yy))] s.heap.size = A at hD ⊢
  have hA : ∀ q : Nat, s.heap.size ≤ q → A q := fun q h => by rw [← hAe]; exact Or.inr h
  have hS : va_S A s.heap s.heap [] := va_S.rf
  have hl := lv_entry ([.ref q0, .int p0]) (n := 3) (Nat.le_of_ble_eq_true rfl)
  rw [lg_entry_eq]
  generalize (lg_sl ([.ref q0, .int p0]) ++ List.replicate (3 - (lg_sl ([.ref q0, .int p0])).length) Slot.unset).toArray = ls at hl ⊢
  have hl : lv_has ls 3 [(0, .ref q0), (1, .int p0)] := hl
  refine lv_iload_n hx hb dX0_empty_0 rfl (lv_at hl 1 rfl) ?_
  refine kx_read (va_runSN (As := [.int p0]) (rest := []) ⟨hx, hb, hml, hown, hts⟩ (c_X4_isBlock l p0) ⟨va_cnB 1 hts gX0_empty_X4_isBlock_n31 rfl rfl rfl (hN.at 9 rfl) (hts (.initialized RX4) (by decide +kernel)) (by decide +kernel) ⟨(Nat.le_of_ble_eq_true rfl), (Nat.le_of_ble_eq_true rfl)⟩, (hts (.static yX4_isBlock) (by decide +kernel)), trivial⟩ (pS hN) rfl rfl hl.1 rfl (lv_room (Nat.le_of_ble_eq_true rfl)) dX0_empty_1 ⟨Nat.zero_le _, Nat.zero_le _⟩) ?_
  refine lv_if_ne (tgt := 10) hx hb dX0_empty_4 (by decide) (fun c_1 => ?_) (fun c_1 => ?_)
  · refine lv_aload_n hx hb dX0_empty_10 rfl (lv_at hl 0 rfl) ?_
    refine va_get (D := (dC, dI)) (ci := 0) (v := .ref q0a) (C := RX0) (T := TX0) (N := 6) hx hb hts (by decide +kernel) hown hK hP 0 rfl rfl 0 (by decide) (hts (.fieldLink RX0 9 RX0 "sizes" "[I") (by decide +kernel)) (fun _ h9 => h9) rfl dX0_empty_11 ?_
    refine lv_iload_n hx hb dX0_empty_14 rfl (lv_at hl 1 rfl) ?_
    refine va_iald hx hb hK hP 1 0 rfl rfl (in_block c_1) dX0_empty_15 ?_
    refine lv_istore_n (lv' := [(2, .int (si p0.toNatClampNeg)), (0, .ref q0), (1, .int p0)]) hx hb dX0_empty_16 rfl hl (by decide) rfl (fun ls hl => ?_)
    refine lv_aload_n hx hb dX0_empty_17 rfl (lv_at hl 1 rfl) ?_
    refine va_get (D := (dC, dI)) (ci := 0) (v := .ref q0a) (C := RX0) (T := TX0) (N := 6) hx hb hts (by decide +kernel) hown hK hP 0 rfl rfl 0 (by decide) (hts (.fieldLink RX0 9 RX0 "sizes" "[I") (by decide +kernel)) (fun _ h9 => h9) rfl dX0_empty_18 ?_
    refine lv_iload_n hx hb dX0_empty_21 rfl (lv_at hl 2 rfl) ?_
    refine lv_iconst (v := 0) hx hb dX0_empty_22 (by decide) ?_
    refine va_iast hx hb hK hP hD hS 1 0 rfl rfl (in_block c_1) dX0_empty_23 (fun H locs hP hD hS => ?_)
    have hP : va_P (dC, dI) vwCl [(q0, .inr (0, [.ref q0a, .ref q0b, .ref q0c, .ref q0d, .ref q0e, .int to])), (q0a, .inl (cA, 40, .inl (upd si p0.toNatClampNeg 0))), (q0b, .inl (cA, 480, .inl ki)), (q0c, .inl (cA, 480, .inl aa)), (q0d, .inl (cA, 480, .inl xx)), (q0e, .inl (cA, 480, .inl yy))] H := hP
    have hD : va_D A [(q0, .inr (0, [.ref q0a, .ref q0b, .ref q0c, .ref q0d, .ref q0e, .int to])), (q0a, .inl (cA, 40, .inl (upd si p0.toNatClampNeg 0))), (q0b, .inl (cA, 480, .inl ki)), (q0c, .inl (cA, 480, .inl aa)), (q0d, .inl (cA, 480, .inl xx)), (q0e, .inl (cA, 480, .inl yy))] := hD
    refine lv_aload_n hx hb dX0_empty_24 rfl (lv_at hl 1 rfl) ?_
    refine lv_dup hx hb dX0_empty_25 rfl ?_
    refine va_get (D := (dC, dI)) (ci := 0) (v := .int to) (C := RX0) (T := TX0) (N := 6) hx hb hts (by decide +kernel) hown hK hP 0 rfl rfl 5 (by decide) (hts (.fieldLink RX0 27 RX0 "total" "I") (by decide +kernel)) (fun _ h9 => h9) rfl dX0_empty_26 ?_
    refine lv_iload_n hx hb dX0_empty_29 rfl (lv_at hl 0 rfl) ?_
    refine lv_isub hx hb dX0_empty_30 ?_
    refine va_put (D := (dC, dI)) (ci := 0) (v := .int (to - (si p0.toNatClampNeg))) (ty := .int) (C := RX0) (T := TX0) (N := 6) hx hb hts (by decide +kernel) tyX0 tyX0_ok nmX0 hown hK hP hD hS 0 rfl rfl 5 (by decide) (hts (.fieldLink RX0 27 RX0 "total" "I") (by decide +kernel)) (fun _ h9 => h9) rfl (by decide +kernel) rfl rfl (Nat.le_of_ble_eq_true rfl) dX0_empty_31 (fun H locs hP hD hS => ?_)
    have hP : va_P (dC, dI) vwCl [(q0, .inr (0, [.ref q0a, .ref q0b, .ref q0c, .ref q0d, .ref q0e, .int (to - (si p0.toNatClampNeg))])), (q0a, .inl (cA, 40, .inl (upd si p0.toNatClampNeg 0))), (q0b, .inl (cA, 480, .inl ki)), (q0c, .inl (cA, 480, .inl aa)), (q0d, .inl (cA, 480, .inl xx)), (q0e, .inl (cA, 480, .inl yy))] H := hP
    have hD : va_D A [(q0, .inr (0, [.ref q0a, .ref q0b, .ref q0c, .ref q0d, .ref q0e, .int (to - (si p0.toNatClampNeg))])), (q0a, .inl (cA, 40, .inl (upd si p0.toNatClampNeg 0))), (q0b, .inl (cA, 480, .inl ki)), (q0c, .inl (cA, 480, .inl aa)), (q0d, .inl (cA, 480, .inl xx)), (q0e, .inl (cA, 480, .inl yy))] := hD
    refine lv_iload_n hx hb dX0_empty_34 rfl (lv_at hl 0 rfl) ?_
    exact rt_i hx hb hr hlocks ((to - (si p0.toNatClampNeg)), (upd si p0.toNatClampNeg 0), ki, aa, xx, yy) (by simp only [f_X0_empty, if_neg c_1]) hP hD hS dX0_empty_35
  · refine lv_bipush (v := (-2)) hx hb dX0_empty_7 (by decide) ?_
    exact rt_i hx hb hr hlocks (to, si, ki, aa, xx, yy) (by simp only [f_X0_empty, if_pos c_1]) hP hD hS dX0_empty_9
