def f_X5_in (p0 : Int32) (p1 : Int32) (p2 : Int32) : Int32 := (if p0 < p1 then 0 else (if p2 < p0 then 0 else 1))
theorem z_X5_in (p0 p1 p2 : Int32) : f_X5_in p0 p1 p2 = 0 ∨ f_X5_in p0 p1 p2 = 1 := by
  unfold f_X5_in; repeat' split
  all_goals simp
set_option maxHeartbeats 4000000 in
set_option maxRecDepth 100000 in
theorem c_X5_in (l : Launch) (p0 : Int32) (p1 : Int32) (p2 : Int32) : Met l yX5_in wsX5_in ({ frames := 0, cells := 0, slots := 0, locals := 0 }) (va_Pc [.int p0, .int p1, .int p2] NW) (QcRead (f_X5_in p0 p1 p2)) 0 0 (fun _ => False) := by
  refine Met.ofW (cc := cX5_in) (maxL := 3) (ret := (some .boolean)) (by decide) rfl ?_
  intro p e s m args below meth c s₁ B hml hv
  obtain ⟨rfl, hN⟩ := hv
  have hx := B.exec
  have hb := B.bytes
  have hr := B.returns
  have hts := atoms_spec (ws := wsX5_in) B.pre
  have hown : s.vm.findClass RX5 = some m.cls := findClass_of_methodNamed B.named
  have hlocks := B.notSynchronized
  have hl := lv_entry ([.int p0, .int p1, .int p2]) (n := 3) (Nat.le_of_ble_eq_true rfl)
  rw [lg_entry_eq]
  generalize (lg_sl ([.int p0, .int p1, .int p2]) ++ List.replicate (3 - (lg_sl ([.int p0, .int p1, .int p2])).length) Slot.unset).toArray = ls at hl ⊢
  have hl : lv_has ls 3 [(0, .int p0), (1, .int p1), (2, .int p2)] := hl
  refine lv_iload_n hx hb dX5_in_0 rfl (lv_at hl 0 rfl) ?_
  refine lv_iload_n hx hb dX5_in_1 rfl (lv_at hl 1 rfl) ?_
  refine lv_icmp_lt (tgt := 14) hx hb dX5_in_2 (by decide) (fun c_1 => ?_) (fun c_1 => ?_)
  · refine lv_iconst (v := 0) hx hb dX5_in_14 (by decide) ?_
    exact rd_z hx hb hr rfl hlocks (by simp only [f_X5_in, if_pos c_1]) dX5_in_15
  · refine lv_iload_n hx hb dX5_in_5 rfl (lv_at hl 0 rfl) ?_
    refine lv_iload_n hx hb dX5_in_6 rfl (lv_at hl 2 rfl) ?_
    refine lv_icmp_gt (tgt := 14) hx hb dX5_in_7 (by decide) (fun c_2 => ?_) (fun c_2 => ?_)
    · refine lv_iconst (v := 0) hx hb dX5_in_14 (by decide) ?_
      exact rd_z hx hb hr rfl hlocks (by simp only [f_X5_in, if_neg c_1, if_pos c_2]) dX5_in_15
    · refine lv_iconst (v := 1) hx hb dX5_in_10 (by decide) ?_
      refine lv_goto (tgt := 15) hx hb dX5_in_11 (by decide) ?_
      exact rd_z hx hb hr rfl hlocks (by simp only [f_X5_in, if_neg c_1, if_neg c_2]) dX5_in_15
def f_X5_isPlace (p0 : Int32) : Int32 := (f_X5_in p0 0 5)
theorem z_X5_isPlace (p0 : Int32) : f_X5_isPlace p0 = 0 ∨ f_X5_isPlace p0 = 1 := z_X5_in p0 0 5
set_option maxHeartbeats 4000000 in
set_option maxRecDepth 100000 in
theorem c_X5_isPlace (l : Launch) (p0 : Int32) : Met l yX5_isPlace wsX5_isPlace ({ frames := 1, cells := 0, slots := 0, locals := 22 }) (va_Pc [.int p0] NW) (QcRead (f_X5_isPlace p0)) 0 0 (fun _ => False) := by
  refine Met.ofW (cc := cX5_isPlace) (maxL := 1) (ret := (some .boolean)) (by decide) rfl ?_
  intro p e s m args below meth c s₁ B hml hv
  obtain ⟨rfl, hN⟩ := hv
  have hx := B.exec
  have hb := B.bytes
  have hr := B.returns
  have hts := atoms_spec (ws := wsX5_isPlace) B.pre
  have hown : s.vm.findClass RX5 = some m.cls := findClass_of_methodNamed B.named
  have hlocks := B.notSynchronized
  have hl := lv_entry ([.int p0]) (n := 1) (Nat.le_of_ble_eq_true rfl)
  rw [lg_entry_eq]
  generalize (lg_sl ([.int p0]) ++ List.replicate (1 - (lg_sl ([.int p0])).length) Slot.unset).toArray = ls at hl ⊢
  have hl : lv_has ls 1 [(0, .int p0)] := hl
  refine lv_iload_n hx hb dX5_isPlace_0 rfl (lv_at hl 0 rfl) ?_
  refine lv_iconst (v := 0) hx hb dX5_isPlace_1 (by decide) ?_
  refine lv_iconst (v := 5) hx hb dX5_isPlace_2 (by decide) ?_
  refine kx_read (va_runS (As := [.int p0, .int 0, .int 5]) (rest := []) ⟨hx, hb, hml, hown, hts⟩ (c_X5_in l p0 0 5) (cwS 3 hts gX5_isPlace_X5_in rfl rfl rfl (by decide +kernel) ⟨(Nat.le_of_ble_eq_true rfl), (Nat.le_of_ble_eq_true rfl)⟩) (pS hN) rfl rfl hl.1 rfl (lv_room (Nat.le_of_ble_eq_true rfl)) dX5_isPlace_3 ⟨Nat.zero_le _, Nat.zero_le _⟩) ?_
  exact rd_z hx hb hr (nb01 (z_X5_in p0 0 5)) hlocks (by simp only [f_X5_isPlace]) dX5_isPlace_6
def f_X5_isBelow (p0 : Int32) (p1 : Int32) : Int32 := (if p1 ≤ p0 then 0 else (if 40 ≤ p1 then 0 else 1))
theorem z_X5_isBelow (p0 p1 : Int32) : f_X5_isBelow p0 p1 = 0 ∨ f_X5_isBelow p0 p1 = 1 := by
  unfold f_X5_isBelow; repeat' split
  all_goals simp
set_option maxHeartbeats 4000000 in
set_option maxRecDepth 100000 in
theorem c_X5_isBelow (l : Launch) (p0 : Int32) (p1 : Int32) : Met l yX5_isBelow wsX5_isBelow ({ frames := 0, cells := 0, slots := 0, locals := 0 }) (va_Pc [.int p0, .int p1] NW) (QcRead (f_X5_isBelow p0 p1)) 0 0 (fun _ => False) := by
  refine Met.ofW (cc := cX5_isBelow) (maxL := 2) (ret := (some .boolean)) (by decide) rfl ?_
  intro p e s m args below meth c s₁ B hml hv
  obtain ⟨rfl, hN⟩ := hv
  have hx := B.exec
  have hb := B.bytes
  have hr := B.returns
  have hts := atoms_spec (ws := wsX5_isBelow) B.pre
  have hown : s.vm.findClass RX5 = some m.cls := findClass_of_methodNamed B.named
  have hlocks := B.notSynchronized
  have hl := lv_entry ([.int p0, .int p1]) (n := 2) (Nat.le_of_ble_eq_true rfl)
  rw [lg_entry_eq]
  generalize (lg_sl ([.int p0, .int p1]) ++ List.replicate (2 - (lg_sl ([.int p0, .int p1])).length) Slot.unset).toArray = ls at hl ⊢
  have hl : lv_has ls 2 [(0, .int p0), (1, .int p1)] := hl
  refine lv_iload_n hx hb dX5_isBelow_0 rfl (lv_at hl 1 rfl) ?_
  refine lv_iload_n hx hb dX5_isBelow_1 rfl (lv_at hl 0 rfl) ?_
  refine lv_icmp_le (tgt := 15) hx hb dX5_isBelow_2 (by decide) (fun c_1 => ?_) (fun c_1 => ?_)
  · refine lv_iconst (v := 0) hx hb dX5_isBelow_15 (by decide) ?_
    exact rd_z hx hb hr rfl hlocks (by simp only [f_X5_isBelow, if_pos c_1]) dX5_isBelow_16
  · refine lv_iload_n hx hb dX5_isBelow_5 rfl (lv_at hl 1 rfl) ?_
    refine lv_bipush (v := 40) hx hb dX5_isBelow_6 (by decide) ?_
    refine lv_icmp_ge (tgt := 15) hx hb dX5_isBelow_8 (by decide) (fun c_2 => ?_) (fun c_2 => ?_)
    · refine lv_iconst (v := 0) hx hb dX5_isBelow_15 (by decide) ?_
      exact rd_z hx hb hr rfl hlocks (by simp only [f_X5_isBelow, if_neg c_1, if_pos c_2]) dX5_isBelow_16
    · refine lv_iconst (v := 1) hx hb dX5_isBelow_11 (by decide) ?_
      refine lv_goto (tgt := 16) hx hb dX5_isBelow_12 (by decide) ?_
      exact rd_z hx hb hr rfl hlocks (by simp only [f_X5_isBelow, if_neg c_1, if_neg c_2]) dX5_isBelow_16
def f_X5_isRight (p0 : Int32) (p1 : Int32) (p2 : Int32) (p3 : Int32) (p4 : Int32) : Int32 := (if p1 = 1 then (if (f_X5_isPlace p2) = 0 then 0 else (if (f_X5_isBelow p0 p3) = 0 then 0 else 1)) else (if p1 = 2 then (if (f_X5_in p2 0 5) = 0 then 0 else (if (f_X5_isBelow p0 p3) = 0 then 0 else 1)) else (if p1 = 3 then 1 else (if p1 = 4 then 1 else (if p1 = 5 then 1 else (if p1 = 6 then (f_X5_in p2 1 9) else (if p1 = 7 then (if (f_X5_in p2 0 13) = 0 then 0 else (if (f_X5_isBelow p0 p3) = 0 then 0 else (if (f_X5_isBelow p0 p4) = 0 then 0 else 1))) else (if p1 = 8 then (if (f_X5_isBelow p0 p3) = 0 then 0 else (if (f_X5_isBelow p0 p4) = 0 then 0 else 1)) else (if p1 = 9 then (f_X5_isBelow p0 p3) else (if p1 = 10 then (f_X5_isPlace p3) else (if p1 = 11 then (if (f_X5_isPlace p2) = 0 then 0 else (if (f_X5_isPlace p3) = 0 then 0 else 1)) else (if p1 = 12 then (f_X5_isPlace p2) else (if p1 = 13 then (f_X5_isPlace p2) else 1)))))))))))))
set_option maxHeartbeats 4000000 in
set_option maxRecDepth 100000 in
theorem c_X5_isRight (l : Launch) (p0 : Int32) (p1 : Int32) (p2 : Int32) (p3 : Int32) (p4 : Int32) : Met l yX5_isRight wsX5_isRight ({ frames := 2, cells := 0, slots := 0, locals := 42 }) (va_Pc [.int p0, .int p1, .int p2, .int p3, .int p4] NW) (QcRead (f_X5_isRight p0 p1 p2 p3 p4)) 0 0 (fun _ => False) := by
  refine Met.ofW (cc := cX5_isRight) (maxL := 5) (ret := (some .boolean)) (by decide) rfl ?_
  intro p e s m args below meth c s₁ B hml hv
  obtain ⟨rfl, hN⟩ := hv
  have hx := B.exec
  have hb := B.bytes
  have hr := B.returns
  have hts := atoms_spec (ws := wsX5_isRight) B.pre
  have hown : s.vm.findClass RX5 = some m.cls := findClass_of_methodNamed B.named
  have hlocks := B.notSynchronized
  have hl := lv_entry ([.int p0, .int p1, .int p2, .int p3, .int p4]) (n := 5) (Nat.le_of_ble_eq_true rfl)
  rw [lg_entry_eq]
  generalize (lg_sl ([.int p0, .int p1, .int p2, .int p3, .int p4]) ++ List.replicate (5 - (lg_sl ([.int p0, .int p1, .int p2, .int p3, .int p4])).length) Slot.unset).toArray = ls at hl ⊢
  have hl : lv_has ls 5 [(0, .int p0), (1, .int p1), (2, .int p2), (3, .int p3), (4, .int p4)] := hl
  refine lv_iload_n hx hb dX5_isRight_0 rfl (lv_at hl 1 rfl) ?_
  by_cases s_1 : p1 = 1
  · refine lv_tableIn (tgt := 68) (off := 67) hx hb dX5_isRight_1 (by rw [s_1]; decide) (by rw [s_1]; decide) (by rw [s_1]; rfl) (by decide) ?_
    refine lv_iload_n hx hb dX5_isRight_68 rfl (lv_at hl 2 rfl) ?_
    refine kx_read (va_runS (As := [.int p2]) (rest := []) ⟨hx, hb, hml, hown, hts⟩ (c_X5_isPlace l p2) (cwS 1 hts gX5_isRight_X5_isPlace rfl rfl rfl (by decide +kernel) ⟨(Nat.le_of_ble_eq_true rfl), (Nat.le_of_ble_eq_true rfl)⟩) (pS hN) rfl rfl hl.1 rfl (lv_room (Nat.le_of_ble_eq_true rfl)) dX5_isRight_69 ⟨Nat.zero_le _, Nat.zero_le _⟩) ?_
    refine lv_if_eq (tgt := 87) hx hb dX5_isRight_72 (by decide) (fun c_2 => ?_) (fun c_2 => ?_)
    · refine lv_iconst (v := 0) hx hb dX5_isRight_87 (by decide) ?_
      exact rd_z hx hb hr rfl hlocks (by simp only [f_X5_isRight, if_pos s_1, if_pos c_2]) dX5_isRight_88
    · refine lv_iload_n hx hb dX5_isRight_75 rfl (lv_at hl 0 rfl) ?_
      refine lv_iload_n hx hb dX5_isRight_76 rfl (lv_at hl 3 rfl) ?_
      refine kx_read (va_runS (As := [.int p0, .int p3]) (rest := []) ⟨hx, hb, hml, hown, hts⟩ (c_X5_isBelow l p0 p3) (cwS 2 hts gX5_isRight_X5_isBelow rfl rfl rfl (by decide +kernel) ⟨(Nat.le_of_ble_eq_true rfl), (Nat.le_of_ble_eq_true rfl)⟩) (pS hN) rfl rfl hl.1 rfl (lv_room (Nat.le_of_ble_eq_true rfl)) dX5_isRight_77 ⟨Nat.zero_le _, Nat.zero_le _⟩) ?_
      refine lv_if_eq (tgt := 87) hx hb dX5_isRight_80 (by decide) (fun c_3 => ?_) (fun c_3 => ?_)
      · refine lv_iconst (v := 0) hx hb dX5_isRight_87 (by decide) ?_
        exact rd_z hx hb hr rfl hlocks (by simp only [f_X5_isRight, if_pos s_1, if_neg c_2, if_pos c_3]) dX5_isRight_88
      · refine lv_iconst (v := 1) hx hb dX5_isRight_83 (by decide) ?_
        refine lv_goto (tgt := 88) hx hb dX5_isRight_84 (by decide) ?_
        exact rd_z hx hb hr rfl hlocks (by simp only [f_X5_isRight, if_pos s_1, if_neg c_2, if_neg c_3]) dX5_isRight_88
  by_cases s_4 : p1 = 2
  · refine lv_tableIn (tgt := 89) (off := 88) hx hb dX5_isRight_1 (by rw [s_4]; decide) (by rw [s_4]; decide) (by rw [s_4]; rfl) (by decide) ?_
    refine lv_iload_n hx hb dX5_isRight_89 rfl (lv_at hl 2 rfl) ?_
    refine lv_iconst (v := 0) hx hb dX5_isRight_90 (by decide) ?_
    refine lv_iconst (v := 5) hx hb dX5_isRight_91 (by decide) ?_
    refine kx_read (va_runS (As := [.int p2, .int 0, .int 5]) (rest := []) ⟨hx, hb, hml, hown, hts⟩ (c_X5_in l p2 0 5) (cwS 3 hts gX5_isRight_X5_in rfl rfl rfl (by decide +kernel) ⟨(Nat.le_of_ble_eq_true rfl), (Nat.le_of_ble_eq_true rfl)⟩) (pS hN) rfl rfl hl.1 rfl (lv_room (Nat.le_of_ble_eq_true rfl)) dX5_isRight_92 ⟨Nat.zero_le _, Nat.zero_le _⟩) ?_
    refine lv_if_eq (tgt := 110) hx hb dX5_isRight_95 (by decide) (fun c_5 => ?_) (fun c_5 => ?_)
    · refine lv_iconst (v := 0) hx hb dX5_isRight_110 (by decide) ?_
      exact rd_z hx hb hr rfl hlocks (by simp only [f_X5_isRight, if_neg s_1, if_pos s_4, if_pos c_5]) dX5_isRight_111
    · refine lv_iload_n hx hb dX5_isRight_98 rfl (lv_at hl 0 rfl) ?_
      refine lv_iload_n hx hb dX5_isRight_99 rfl (lv_at hl 3 rfl) ?_
      refine kx_read (va_runS (As := [.int p0, .int p3]) (rest := []) ⟨hx, hb, hml, hown, hts⟩ (c_X5_isBelow l p0 p3) (cwS 2 hts gX5_isRight_X5_isBelow rfl rfl rfl (by decide +kernel) ⟨(Nat.le_of_ble_eq_true rfl), (Nat.le_of_ble_eq_true rfl)⟩) (pS hN) rfl rfl hl.1 rfl (lv_room (Nat.le_of_ble_eq_true rfl)) dX5_isRight_100 ⟨Nat.zero_le _, Nat.zero_le _⟩) ?_
      refine lv_if_eq (tgt := 110) hx hb dX5_isRight_103 (by decide) (fun c_6 => ?_) (fun c_6 => ?_)
      · refine lv_iconst (v := 0) hx hb dX5_isRight_110 (by decide) ?_
        exact rd_z hx hb hr rfl hlocks (by simp only [f_X5_isRight, if_neg s_1, if_pos s_4, if_neg c_5, if_pos c_6]) dX5_isRight_111
      · refine lv_iconst (v := 1) hx hb dX5_isRight_106 (by decide) ?_
        refine lv_goto (tgt := 111) hx hb dX5_isRight_107 (by decide) ?_
        exact rd_z hx hb hr rfl hlocks (by simp only [f_X5_isRight, if_neg s_1, if_pos s_4, if_neg c_5, if_neg c_6]) dX5_isRight_111
  by_cases s_7 : p1 = 3
  · refine lv_tableIn (tgt := 212) (off := 211) hx hb dX5_isRight_1 (by rw [s_7]; decide) (by rw [s_7]; decide) (by rw [s_7]; rfl) (by decide) ?_
    refine lv_iconst (v := 1) hx hb dX5_isRight_212 (by decide) ?_
    exact rd_z hx hb hr rfl hlocks (by simp only [f_X5_isRight, if_neg s_1, if_neg s_4, if_pos s_7]) dX5_isRight_213
  by_cases s_8 : p1 = 4
  · refine lv_tableIn (tgt := 212) (off := 211) hx hb dX5_isRight_1 (by rw [s_8]; decide) (by rw [s_8]; decide) (by rw [s_8]; rfl) (by decide) ?_
    refine lv_iconst (v := 1) hx hb dX5_isRight_212 (by decide) ?_
    exact rd_z hx hb hr rfl hlocks (by simp only [f_X5_isRight, if_neg s_1, if_neg s_4, if_neg s_7, if_pos s_8]) dX5_isRight_213
  by_cases s_9 : p1 = 5
  · refine lv_tableIn (tgt := 212) (off := 211) hx hb dX5_isRight_1 (by rw [s_9]; decide) (by rw [s_9]; decide) (by rw [s_9]; rfl) (by decide) ?_
    refine lv_iconst (v := 1) hx hb dX5_isRight_212 (by decide) ?_
    exact rd_z hx hb hr rfl hlocks (by simp only [f_X5_isRight, if_neg s_1, if_neg s_4, if_neg s_7, if_neg s_8, if_pos s_9]) dX5_isRight_213
  by_cases s_10 : p1 = 6
  · refine lv_tableIn (tgt := 112) (off := 111) hx hb dX5_isRight_1 (by rw [s_10]; decide) (by rw [s_10]; decide) (by rw [s_10]; rfl) (by decide) ?_
    refine lv_iload_n hx hb dX5_isRight_112 rfl (lv_at hl 2 rfl) ?_
    refine lv_iconst (v := 1) hx hb dX5_isRight_113 (by decide) ?_
    refine lv_bipush (v := 9) hx hb dX5_isRight_114 (by decide) ?_
    refine kx_read (va_runS (As := [.int p2, .int 1, .int 9]) (rest := []) ⟨hx, hb, hml, hown, hts⟩ (c_X5_in l p2 1 9) (cwS 3 hts gX5_isRight_X5_in rfl rfl rfl (by decide +kernel) ⟨(Nat.le_of_ble_eq_true rfl), (Nat.le_of_ble_eq_true rfl)⟩) (pS hN) rfl rfl hl.1 rfl (lv_room (Nat.le_of_ble_eq_true rfl)) dX5_isRight_116 ⟨Nat.zero_le _, Nat.zero_le _⟩) ?_
    exact rd_z hx hb hr (nb01 (z_X5_in p2 1 9)) hlocks (by simp only [f_X5_isRight, if_neg s_1, if_neg s_4, if_neg s_7, if_neg s_8, if_neg s_9, if_pos s_10]) dX5_isRight_119
  by_cases s_11 : p1 = 7
  · refine lv_tableIn (tgt := 120) (off := 119) hx hb dX5_isRight_1 (by rw [s_11]; decide) (by rw [s_11]; decide) (by rw [s_11]; rfl) (by decide) ?_
    refine lv_iload_n hx hb dX5_isRight_120 rfl (lv_at hl 2 rfl) ?_
    refine lv_iconst (v := 0) hx hb dX5_isRight_121 (by decide) ?_
    refine lv_bipush (v := 13) hx hb dX5_isRight_122 (by decide) ?_
    refine kx_read (va_runS (As := [.int p2, .int 0, .int 13]) (rest := []) ⟨hx, hb, hml, hown, hts⟩ (c_X5_in l p2 0 13) (cwS 3 hts gX5_isRight_X5_in rfl rfl rfl (by decide +kernel) ⟨(Nat.le_of_ble_eq_true rfl), (Nat.le_of_ble_eq_true rfl)⟩) (pS hN) rfl rfl hl.1 rfl (lv_room (Nat.le_of_ble_eq_true rfl)) dX5_isRight_124 ⟨Nat.zero_le _, Nat.zero_le _⟩) ?_
    refine lv_if_eq (tgt := 151) hx hb dX5_isRight_127 (by decide) (fun c_12 => ?_) (fun c_12 => ?_)
    · refine lv_iconst (v := 0) hx hb dX5_isRight_151 (by decide) ?_
      exact rd_z hx hb hr rfl hlocks (by simp only [f_X5_isRight, if_neg s_1, if_neg s_4, if_neg s_7, if_neg s_8, if_neg s_9, if_neg s_10, if_pos s_11, if_pos c_12]) dX5_isRight_152
    · refine lv_iload_n hx hb dX5_isRight_130 rfl (lv_at hl 0 rfl) ?_
      refine lv_iload_n hx hb dX5_isRight_131 rfl (lv_at hl 3 rfl) ?_
      refine kx_read (va_runS (As := [.int p0, .int p3]) (rest := []) ⟨hx, hb, hml, hown, hts⟩ (c_X5_isBelow l p0 p3) (cwS 2 hts gX5_isRight_X5_isBelow rfl rfl rfl (by decide +kernel) ⟨(Nat.le_of_ble_eq_true rfl), (Nat.le_of_ble_eq_true rfl)⟩) (pS hN) rfl rfl hl.1 rfl (lv_room (Nat.le_of_ble_eq_true rfl)) dX5_isRight_132 ⟨Nat.zero_le _, Nat.zero_le _⟩) ?_
      refine lv_if_eq (tgt := 151) hx hb dX5_isRight_135 (by decide) (fun c_13 => ?_) (fun c_13 => ?_)
      · refine lv_iconst (v := 0) hx hb dX5_isRight_151 (by decide) ?_
        exact rd_z hx hb hr rfl hlocks (by simp only [f_X5_isRight, if_neg s_1, if_neg s_4, if_neg s_7, if_neg s_8, if_neg s_9, if_neg s_10, if_pos s_11, if_neg c_12, if_pos c_13]) dX5_isRight_152
      · refine lv_iload_n hx hb dX5_isRight_138 rfl (lv_at hl 0 rfl) ?_
        refine lv_iload hx hb dX5_isRight_139 (lv_at hl 4 rfl) ?_
        refine kx_read (va_runS (As := [.int p0, .int p4]) (rest := []) ⟨hx, hb, hml, hown, hts⟩ (c_X5_isBelow l p0 p4) (cwS 2 hts gX5_isRight_X5_isBelow rfl rfl rfl (by decide +kernel) ⟨(Nat.le_of_ble_eq_true rfl), (Nat.le_of_ble_eq_true rfl)⟩) (pS hN) rfl rfl hl.1 rfl (lv_room (Nat.le_of_ble_eq_true rfl)) dX5_isRight_141 ⟨Nat.zero_le _, Nat.zero_le _⟩) ?_
        refine lv_if_eq (tgt := 151) hx hb dX5_isRight_144 (by decide) (fun c_14 => ?_) (fun c_14 => ?_)
        · refine lv_iconst (v := 0) hx hb dX5_isRight_151 (by decide) ?_
          exact rd_z hx hb hr rfl hlocks (by simp only [f_X5_isRight, if_neg s_1, if_neg s_4, if_neg s_7, if_neg s_8, if_neg s_9, if_neg s_10, if_pos s_11, if_neg c_12, if_neg c_13, if_pos c_14]) dX5_isRight_152
        · refine lv_iconst (v := 1) hx hb dX5_isRight_147 (by decide) ?_
          refine lv_goto (tgt := 152) hx hb dX5_isRight_148 (by decide) ?_
          exact rd_z hx hb hr rfl hlocks (by simp only [f_X5_isRight, if_neg s_1, if_neg s_4, if_neg s_7, if_neg s_8, if_neg s_9, if_neg s_10, if_pos s_11, if_neg c_12, if_neg c_13, if_neg c_14]) dX5_isRight_152
  by_cases s_15 : p1 = 8
  · refine lv_tableIn (tgt := 153) (off := 152) hx hb dX5_isRight_1 (by rw [s_15]; decide) (by rw [s_15]; decide) (by rw [s_15]; rfl) (by decide) ?_
    refine lv_iload_n hx hb dX5_isRight_153 rfl (lv_at hl 0 rfl) ?_
    refine lv_iload_n hx hb dX5_isRight_154 rfl (lv_at hl 3 rfl) ?_
    refine kx_read (va_runS (As := [.int p0, .int p3]) (rest := []) ⟨hx, hb, hml, hown, hts⟩ (c_X5_isBelow l p0 p3) (cwS 2 hts gX5_isRight_X5_isBelow rfl rfl rfl (by decide +kernel) ⟨(Nat.le_of_ble_eq_true rfl), (Nat.le_of_ble_eq_true rfl)⟩) (pS hN) rfl rfl hl.1 rfl (lv_room (Nat.le_of_ble_eq_true rfl)) dX5_isRight_155 ⟨Nat.zero_le _, Nat.zero_le _⟩) ?_
    refine lv_if_eq (tgt := 174) hx hb dX5_isRight_158 (by decide) (fun c_16 => ?_) (fun c_16 => ?_)
    · refine lv_iconst (v := 0) hx hb dX5_isRight_174 (by decide) ?_
      exact rd_z hx hb hr rfl hlocks (by simp only [f_X5_isRight, if_neg s_1, if_neg s_4, if_neg s_7, if_neg s_8, if_neg s_9, if_neg s_10, if_neg s_11, if_pos s_15, if_pos c_16]) dX5_isRight_175
    · refine lv_iload_n hx hb dX5_isRight_161 rfl (lv_at hl 0 rfl) ?_
      refine lv_iload hx hb dX5_isRight_162 (lv_at hl 4 rfl) ?_
      refine kx_read (va_runS (As := [.int p0, .int p4]) (rest := []) ⟨hx, hb, hml, hown, hts⟩ (c_X5_isBelow l p0 p4) (cwS 2 hts gX5_isRight_X5_isBelow rfl rfl rfl (by decide +kernel) ⟨(Nat.le_of_ble_eq_true rfl), (Nat.le_of_ble_eq_true rfl)⟩) (pS hN) rfl rfl hl.1 rfl (lv_room (Nat.le_of_ble_eq_true rfl)) dX5_isRight_164 ⟨Nat.zero_le _, Nat.zero_le _⟩) ?_
      refine lv_if_eq (tgt := 174) hx hb dX5_isRight_167 (by decide) (fun c_17 => ?_) (fun c_17 => ?_)
      · refine lv_iconst (v := 0) hx hb dX5_isRight_174 (by decide) ?_
        exact rd_z hx hb hr rfl hlocks (by simp only [f_X5_isRight, if_neg s_1, if_neg s_4, if_neg s_7, if_neg s_8, if_neg s_9, if_neg s_10, if_neg s_11, if_pos s_15, if_neg c_16, if_pos c_17]) dX5_isRight_175
      · refine lv_iconst (v := 1) hx hb dX5_isRight_170 (by decide) ?_
        refine lv_goto (tgt := 175) hx hb dX5_isRight_171 (by decide) ?_
        exact rd_z hx hb hr rfl hlocks (by simp only [f_X5_isRight, if_neg s_1, if_neg s_4, if_neg s_7, if_neg s_8, if_neg s_9, if_neg s_10, if_neg s_11, if_pos s_15, if_neg c_16, if_neg c_17]) dX5_isRight_175
  by_cases s_18 : p1 = 9
  · refine lv_tableIn (tgt := 176) (off := 175) hx hb dX5_isRight_1 (by rw [s_18]; decide) (by rw [s_18]; decide) (by rw [s_18]; rfl) (by decide) ?_
    refine lv_iload_n hx hb dX5_isRight_176 rfl (lv_at hl 0 rfl) ?_
    refine lv_iload_n hx hb dX5_isRight_177 rfl (lv_at hl 3 rfl) ?_
    refine kx_read (va_runS (As := [.int p0, .int p3]) (rest := []) ⟨hx, hb, hml, hown, hts⟩ (c_X5_isBelow l p0 p3) (cwS 2 hts gX5_isRight_X5_isBelow rfl rfl rfl (by decide +kernel) ⟨(Nat.le_of_ble_eq_true rfl), (Nat.le_of_ble_eq_true rfl)⟩) (pS hN) rfl rfl hl.1 rfl (lv_room (Nat.le_of_ble_eq_true rfl)) dX5_isRight_178 ⟨Nat.zero_le _, Nat.zero_le _⟩) ?_
    exact rd_z hx hb hr (nb01 (z_X5_isBelow p0 p3)) hlocks (by simp only [f_X5_isRight, if_neg s_1, if_neg s_4, if_neg s_7, if_neg s_8, if_neg s_9, if_neg s_10, if_neg s_11, if_neg s_15, if_pos s_18]) dX5_isRight_181
  by_cases s_19 : p1 = 10
  · refine lv_tableIn (tgt := 182) (off := 181) hx hb dX5_isRight_1 (by rw [s_19]; decide) (by rw [s_19]; decide) (by rw [s_19]; rfl) (by decide) ?_
    refine lv_iload_n hx hb dX5_isRight_182 rfl (lv_at hl 3 rfl) ?_
    refine kx_read (va_runS (As := [.int p3]) (rest := []) ⟨hx, hb, hml, hown, hts⟩ (c_X5_isPlace l p3) (cwS 1 hts gX5_isRight_X5_isPlace rfl rfl rfl (by decide +kernel) ⟨(Nat.le_of_ble_eq_true rfl), (Nat.le_of_ble_eq_true rfl)⟩) (pS hN) rfl rfl hl.1 rfl (lv_room (Nat.le_of_ble_eq_true rfl)) dX5_isRight_183 ⟨Nat.zero_le _, Nat.zero_le _⟩) ?_
    exact rd_z hx hb hr (nb01 (z_X5_isPlace p3)) hlocks (by simp only [f_X5_isRight, if_neg s_1, if_neg s_4, if_neg s_7, if_neg s_8, if_neg s_9, if_neg s_10, if_neg s_11, if_neg s_15, if_neg s_18, if_pos s_19]) dX5_isRight_186
  by_cases s_20 : p1 = 11
  · refine lv_tableIn (tgt := 187) (off := 186) hx hb dX5_isRight_1 (by rw [s_20]; decide) (by rw [s_20]; decide) (by rw [s_20]; rfl) (by decide) ?_
    refine lv_iload_n hx hb dX5_isRight_187 rfl (lv_at hl 2 rfl) ?_
    refine kx_read (va_runS (As := [.int p2]) (rest := []) ⟨hx, hb, hml, hown, hts⟩ (c_X5_isPlace l p2) (cwS 1 hts gX5_isRight_X5_isPlace rfl rfl rfl (by decide +kernel) ⟨(Nat.le_of_ble_eq_true rfl), (Nat.le_of_ble_eq_true rfl)⟩) (pS hN) rfl rfl hl.1 rfl (lv_room (Nat.le_of_ble_eq_true rfl)) dX5_isRight_188 ⟨Nat.zero_le _, Nat.zero_le _⟩) ?_
    refine lv_if_eq (tgt := 205) hx hb dX5_isRight_191 (by decide) (fun c_21 => ?_) (fun c_21 => ?_)
    · refine lv_iconst (v := 0) hx hb dX5_isRight_205 (by decide) ?_
      exact rd_z hx hb hr rfl hlocks (by simp only [f_X5_isRight, if_neg s_1, if_neg s_4, if_neg s_7, if_neg s_8, if_neg s_9, if_neg s_10, if_neg s_11, if_neg s_15, if_neg s_18, if_neg s_19, if_pos s_20, if_pos c_21]) dX5_isRight_206
    · refine lv_iload_n hx hb dX5_isRight_194 rfl (lv_at hl 3 rfl) ?_
      refine kx_read (va_runS (As := [.int p3]) (rest := []) ⟨hx, hb, hml, hown, hts⟩ (c_X5_isPlace l p3) (cwS 1 hts gX5_isRight_X5_isPlace rfl rfl rfl (by decide +kernel) ⟨(Nat.le_of_ble_eq_true rfl), (Nat.le_of_ble_eq_true rfl)⟩) (pS hN) rfl rfl hl.1 rfl (lv_room (Nat.le_of_ble_eq_true rfl)) dX5_isRight_195 ⟨Nat.zero_le _, Nat.zero_le _⟩) ?_
      refine lv_if_eq (tgt := 205) hx hb dX5_isRight_198 (by decide) (fun c_22 => ?_) (fun c_22 => ?_)
      · refine lv_iconst (v := 0) hx hb dX5_isRight_205 (by decide) ?_
        exact rd_z hx hb hr rfl hlocks (by simp only [f_X5_isRight, if_neg s_1, if_neg s_4, if_neg s_7, if_neg s_8, if_neg s_9, if_neg s_10, if_neg s_11, if_neg s_15, if_neg s_18, if_neg s_19, if_pos s_20, if_neg c_21, if_pos c_22]) dX5_isRight_206
      · refine lv_iconst (v := 1) hx hb dX5_isRight_201 (by decide) ?_
        refine lv_goto (tgt := 206) hx hb dX5_isRight_202 (by decide) ?_
        exact rd_z hx hb hr rfl hlocks (by simp only [f_X5_isRight, if_neg s_1, if_neg s_4, if_neg s_7, if_neg s_8, if_neg s_9, if_neg s_10, if_neg s_11, if_neg s_15, if_neg s_18, if_neg s_19, if_pos s_20, if_neg c_21, if_neg c_22]) dX5_isRight_206
  by_cases s_23 : p1 = 12
  · refine lv_tableIn (tgt := 207) (off := 206) hx hb dX5_isRight_1 (by rw [s_23]; decide) (by rw [s_23]; decide) (by rw [s_23]; rfl) (by decide) ?_
    refine lv_iload_n hx hb dX5_isRight_207 rfl (lv_at hl 2 rfl) ?_
    refine kx_read (va_runS (As := [.int p2]) (rest := []) ⟨hx, hb, hml, hown, hts⟩ (c_X5_isPlace l p2) (cwS 1 hts gX5_isRight_X5_isPlace rfl rfl rfl (by decide +kernel) ⟨(Nat.le_of_ble_eq_true rfl), (Nat.le_of_ble_eq_true rfl)⟩) (pS hN) rfl rfl hl.1 rfl (lv_room (Nat.le_of_ble_eq_true rfl)) dX5_isRight_208 ⟨Nat.zero_le _, Nat.zero_le _⟩) ?_
    exact rd_z hx hb hr (nb01 (z_X5_isPlace p2)) hlocks (by simp only [f_X5_isRight, if_neg s_1, if_neg s_4, if_neg s_7, if_neg s_8, if_neg s_9, if_neg s_10, if_neg s_11, if_neg s_15, if_neg s_18, if_neg s_19, if_neg s_20, if_pos s_23]) dX5_isRight_211
  by_cases s_24 : p1 = 13
  · refine lv_tableIn (tgt := 207) (off := 206) hx hb dX5_isRight_1 (by rw [s_24]; decide) (by rw [s_24]; decide) (by rw [s_24]; rfl) (by decide) ?_
    refine lv_iload_n hx hb dX5_isRight_207 rfl (lv_at hl 2 rfl) ?_
    refine kx_read (va_runS (As := [.int p2]) (rest := []) ⟨hx, hb, hml, hown, hts⟩ (c_X5_isPlace l p2) (cwS 1 hts gX5_isRight_X5_isPlace rfl rfl rfl (by decide +kernel) ⟨(Nat.le_of_ble_eq_true rfl), (Nat.le_of_ble_eq_true rfl)⟩) (pS hN) rfl rfl hl.1 rfl (lv_room (Nat.le_of_ble_eq_true rfl)) dX5_isRight_208 ⟨Nat.zero_le _, Nat.zero_le _⟩) ?_
    exact rd_z hx hb hr (nb01 (z_X5_isPlace p2)) hlocks (by simp only [f_X5_isRight, if_neg s_1, if_neg s_4, if_neg s_7, if_neg s_8, if_neg s_9, if_neg s_10, if_neg s_11, if_neg s_15, if_neg s_18, if_neg s_19, if_neg s_20, if_neg s_23, if_pos s_24]) dX5_isRight_211
  have t_25 : (p1 : Int32).toInt < 1 ∨ 13 < (p1 : Int32).toInt := by
    have z0 := ne_ti (k := 1) (n := 1) s_1 (by decide)
    have z1 := ne_ti (k := 2) (n := 2) s_4 (by decide)
    have z2 := ne_ti (k := 3) (n := 3) s_7 (by decide)
    have z3 := ne_ti (k := 4) (n := 4) s_8 (by decide)
    have z4 := ne_ti (k := 5) (n := 5) s_9 (by decide)
    have z5 := ne_ti (k := 6) (n := 6) s_10 (by decide)
    have z6 := ne_ti (k := 7) (n := 7) s_11 (by decide)
    have z7 := ne_ti (k := 8) (n := 8) s_15 (by decide)
    have z8 := ne_ti (k := 9) (n := 9) s_18 (by decide)
    have z9 := ne_ti (k := 10) (n := 10) s_19 (by decide)
    have z10 := ne_ti (k := 11) (n := 11) s_20 (by decide)
    have z11 := ne_ti (k := 12) (n := 12) s_23 (by decide)
    have z12 := ne_ti (k := 13) (n := 13) s_24 (by decide)
    omega
  refine lv_tableOut (tgt := 212) hx hb dX5_isRight_1 t_25 (by decide) ?_
  refine lv_iconst (v := 1) hx hb dX5_isRight_212 (by decide) ?_
  exact rd_z hx hb hr rfl hlocks (by simp only [f_X5_isRight, if_neg s_1, if_neg s_4, if_neg s_7, if_neg s_8, if_neg s_9, if_neg s_10, if_neg s_11, if_neg s_15, if_neg s_18, if_neg s_19, if_neg s_20, if_neg s_23, if_neg s_24]) dX5_isRight_213
