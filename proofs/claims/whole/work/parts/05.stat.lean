def f_X4_isWithin (p0 : Int32) (p1 : Int32) (p2 : Int32) : Int32 := (if p0 < p1 then 0 else (if p2 < p0 then 0 else 1))
theorem z_X4_isWithin (p0 p1 p2 : Int32) : f_X4_isWithin p0 p1 p2 = 0 ∨ f_X4_isWithin p0 p1 p2 = 1 := by
  unfold f_X4_isWithin; repeat' split
  all_goals simp
set_option maxHeartbeats 4000000 in
set_option maxRecDepth 100000 in
theorem c_X4_isWithin (l : Launch) (p0 : Int32) (p1 : Int32) (p2 : Int32) : Met l yX4_isWithin wsX4_isWithin ({ frames := 0, cells := 0, slots := 0, locals := 0 }) (va_Pc [.int p0, .int p1, .int p2] NW) (QcRead (f_X4_isWithin p0 p1 p2)) 0 0 (fun _ => False) := by
  refine Met.ofW (cc := cX4_isWithin) (maxL := 3) (ret := (some .boolean)) (by decide) rfl ?_
  intro p e s m args below meth c s₁ B hml hv
  obtain ⟨rfl, hN⟩ := hv
  have hx := B.exec
  have hb := B.bytes
  have hr := B.returns
  have hts := atoms_spec (ws := wsX4_isWithin) B.pre
  have hown : s.vm.findClass RX4 = some m.cls := findClass_of_methodNamed B.named
  have hlocks := B.notSynchronized
  have hl := lv_entry ([.int p0, .int p1, .int p2]) (n := 3) (Nat.le_of_ble_eq_true rfl)
  rw [lg_entry_eq]
  generalize (lg_sl ([.int p0, .int p1, .int p2]) ++ List.replicate (3 - (lg_sl ([.int p0, .int p1, .int p2])).length) Slot.unset).toArray = ls at hl ⊢
  have hl : lv_has ls 3 [(0, .int p0), (1, .int p1), (2, .int p2)] := hl
  refine lv_iload_n hx hb dX4_isWithin_0 rfl (lv_at hl 0 rfl) ?_
  refine lv_iload_n hx hb dX4_isWithin_1 rfl (lv_at hl 1 rfl) ?_
  refine lv_icmp_lt (tgt := 14) hx hb dX4_isWithin_2 (by decide) (fun c_1 => ?_) (fun c_1 => ?_)
  · refine lv_iconst (v := 0) hx hb dX4_isWithin_14 (by decide) ?_
    exact rd_z hx hb hr rfl hlocks (by simp only [f_X4_isWithin, if_pos c_1]) dX4_isWithin_15
  · refine lv_iload_n hx hb dX4_isWithin_5 rfl (lv_at hl 0 rfl) ?_
    refine lv_iload_n hx hb dX4_isWithin_6 rfl (lv_at hl 2 rfl) ?_
    refine lv_icmp_gt (tgt := 14) hx hb dX4_isWithin_7 (by decide) (fun c_2 => ?_) (fun c_2 => ?_)
    · refine lv_iconst (v := 0) hx hb dX4_isWithin_14 (by decide) ?_
      exact rd_z hx hb hr rfl hlocks (by simp only [f_X4_isWithin, if_neg c_1, if_pos c_2]) dX4_isWithin_15
    · refine lv_iconst (v := 1) hx hb dX4_isWithin_10 (by decide) ?_
      refine lv_goto (tgt := 15) hx hb dX4_isWithin_11 (by decide) ?_
      exact rd_z hx hb hr rfl hlocks (by simp only [f_X4_isWithin, if_neg c_1, if_neg c_2]) dX4_isWithin_15
def f_X4_isPlace (p0 : Int32) : Int32 := (f_X4_isWithin p0 0 5)
theorem z_X4_isPlace (p0 : Int32) : f_X4_isPlace p0 = 0 ∨ f_X4_isPlace p0 = 1 := z_X4_isWithin p0 0 5
set_option maxHeartbeats 4000000 in
set_option maxRecDepth 100000 in
theorem c_X4_isPlace (l : Launch) (p0 : Int32) : Met l yX4_isPlace wsX4_isPlace ({ frames := 1, cells := 0, slots := 0, locals := 22 }) (va_Pc [.int p0] NW) (QcRead (f_X4_isPlace p0)) 0 0 (fun _ => False) := by
  refine Met.ofW (cc := cX4_isPlace) (maxL := 1) (ret := (some .boolean)) (by decide) rfl ?_
  intro p e s m args below meth c s₁ B hml hv
  obtain ⟨rfl, hN⟩ := hv
  have hx := B.exec
  have hb := B.bytes
  have hr := B.returns
  have hts := atoms_spec (ws := wsX4_isPlace) B.pre
  have hown : s.vm.findClass RX4 = some m.cls := findClass_of_methodNamed B.named
  have hlocks := B.notSynchronized
  have hl := lv_entry ([.int p0]) (n := 1) (Nat.le_of_ble_eq_true rfl)
  rw [lg_entry_eq]
  generalize (lg_sl ([.int p0]) ++ List.replicate (1 - (lg_sl ([.int p0])).length) Slot.unset).toArray = ls at hl ⊢
  have hl : lv_has ls 1 [(0, .int p0)] := hl
  refine lv_iload_n hx hb dX4_isPlace_0 rfl (lv_at hl 0 rfl) ?_
  refine lv_iconst (v := 0) hx hb dX4_isPlace_1 (by decide) ?_
  refine lv_iconst (v := 5) hx hb dX4_isPlace_2 (by decide) ?_
  refine kx_read (va_runS (As := [.int p0, .int 0, .int 5]) (rest := []) ⟨hx, hb, hml, hown, hts⟩ (c_X4_isWithin l p0 0 5) (cwS 3 hts gX4_isPlace_X4_isWithin rfl rfl rfl (by decide +kernel) ⟨(Nat.le_of_ble_eq_true rfl), (Nat.le_of_ble_eq_true rfl)⟩) (pS hN) rfl rfl hl.1 rfl (lv_room (Nat.le_of_ble_eq_true rfl)) dX4_isPlace_3 ⟨Nat.zero_le _, Nat.zero_le _⟩) ?_
  exact rd_z hx hb hr (nb01 (z_X4_isWithin p0 0 5)) hlocks (by simp only [f_X4_isPlace]) dX4_isPlace_6
def f_X4_isBlock (p0 : Int32) : Int32 := (f_X4_isWithin p0 0 39)
theorem z_X4_isBlock (p0 : Int32) : f_X4_isBlock p0 = 0 ∨ f_X4_isBlock p0 = 1 := z_X4_isWithin p0 0 39
set_option maxHeartbeats 4000000 in
set_option maxRecDepth 100000 in
theorem c_X4_isBlock (l : Launch) (p0 : Int32) : Met l yX4_isBlock wsX4_isBlock ({ frames := 1, cells := 0, slots := 0, locals := 22 }) (va_Pc [.int p0] NW) (QcRead (f_X4_isBlock p0)) 0 0 (fun _ => False) := by
  refine Met.ofW (cc := cX4_isBlock) (maxL := 1) (ret := (some .boolean)) (by decide) rfl ?_
  intro p e s m args below meth c s₁ B hml hv
  obtain ⟨rfl, hN⟩ := hv
  have hx := B.exec
  have hb := B.bytes
  have hr := B.returns
  have hts := atoms_spec (ws := wsX4_isBlock) B.pre
  have hown : s.vm.findClass RX4 = some m.cls := findClass_of_methodNamed B.named
  have hlocks := B.notSynchronized
  have hl := lv_entry ([.int p0]) (n := 1) (Nat.le_of_ble_eq_true rfl)
  rw [lg_entry_eq]
  generalize (lg_sl ([.int p0]) ++ List.replicate (1 - (lg_sl ([.int p0])).length) Slot.unset).toArray = ls at hl ⊢
  have hl : lv_has ls 1 [(0, .int p0)] := hl
  refine lv_iload_n hx hb dX4_isBlock_0 rfl (lv_at hl 0 rfl) ?_
  refine lv_iconst (v := 0) hx hb dX4_isBlock_1 (by decide) ?_
  refine lv_bipush (v := 39) hx hb dX4_isBlock_2 (by decide) ?_
  refine kx_read (va_runS (As := [.int p0, .int 0, .int 39]) (rest := []) ⟨hx, hb, hml, hown, hts⟩ (c_X4_isWithin l p0 0 39) (cwS 3 hts gX4_isBlock_X4_isWithin rfl rfl rfl (by decide +kernel) ⟨(Nat.le_of_ble_eq_true rfl), (Nat.le_of_ble_eq_true rfl)⟩) (pS hN) rfl rfl hl.1 rfl (lv_room (Nat.le_of_ble_eq_true rfl)) dX4_isBlock_4 ⟨Nat.zero_le _, Nat.zero_le _⟩) ?_
  exact rd_z hx hb hr (nb01 (z_X4_isWithin p0 0 39)) hlocks (by simp only [f_X4_isBlock]) dX4_isBlock_7
def f_X4_isLater (p0 : Int32) (p1 : Int32) : Int32 := (f_X4_isWithin p0 (p1 + 1) 39)
theorem z_X4_isLater (p0 p1 : Int32) : f_X4_isLater p0 p1 = 0 ∨ f_X4_isLater p0 p1 = 1 := z_X4_isWithin p0 (p1 + 1) 39
set_option maxHeartbeats 4000000 in
set_option maxRecDepth 100000 in
theorem c_X4_isLater (l : Launch) (p0 : Int32) (p1 : Int32) : Met l yX4_isLater wsX4_isLater ({ frames := 1, cells := 0, slots := 0, locals := 22 }) (va_Pc [.int p0, .int p1] NW) (QcRead (f_X4_isLater p0 p1)) 0 0 (fun _ => False) := by
  refine Met.ofW (cc := cX4_isLater) (maxL := 2) (ret := (some .boolean)) (by decide) rfl ?_
  intro p e s m args below meth c s₁ B hml hv
  obtain ⟨rfl, hN⟩ := hv
  have hx := B.exec
  have hb := B.bytes
  have hr := B.returns
  have hts := atoms_spec (ws := wsX4_isLater) B.pre
  have hown : s.vm.findClass RX4 = some m.cls := findClass_of_methodNamed B.named
  have hlocks := B.notSynchronized
  have hl := lv_entry ([.int p0, .int p1]) (n := 2) (Nat.le_of_ble_eq_true rfl)
  rw [lg_entry_eq]
  generalize (lg_sl ([.int p0, .int p1]) ++ List.replicate (2 - (lg_sl ([.int p0, .int p1])).length) Slot.unset).toArray = ls at hl ⊢
  have hl : lv_has ls 2 [(0, .int p0), (1, .int p1)] := hl
  refine lv_iload_n hx hb dX4_isLater_0 rfl (lv_at hl 0 rfl) ?_
  refine lv_iload_n hx hb dX4_isLater_1 rfl (lv_at hl 1 rfl) ?_
  refine lv_iconst (v := 1) hx hb dX4_isLater_2 (by decide) ?_
  refine lv_iadd hx hb dX4_isLater_3 ?_
  refine lv_bipush (v := 39) hx hb dX4_isLater_4 (by decide) ?_
  refine kx_read (va_runS (As := [.int p0, .int (p1 + 1), .int 39]) (rest := []) ⟨hx, hb, hml, hown, hts⟩ (c_X4_isWithin l p0 (p1 + 1) 39) (cwS 3 hts gX4_isLater_X4_isWithin rfl rfl rfl (by decide +kernel) ⟨(Nat.le_of_ble_eq_true rfl), (Nat.le_of_ble_eq_true rfl)⟩) (pS hN) rfl rfl hl.1 rfl (lv_room (Nat.le_of_ble_eq_true rfl)) dX4_isLater_6 ⟨Nat.zero_le _, Nat.zero_le _⟩) ?_
  exact rd_z hx hb hr (nb01 (z_X4_isWithin p0 (p1 + 1) 39)) hlocks (by simp only [f_X4_isLater]) dX4_isLater_9
def f_X4_isThrown (p0 : Int32) : Int32 := (if p0 ≤ 100 then 0 else 1)
theorem z_X4_isThrown (p0 : Int32) : f_X4_isThrown p0 = 0 ∨ f_X4_isThrown p0 = 1 := by
  unfold f_X4_isThrown; repeat' split
  all_goals simp
set_option maxHeartbeats 4000000 in
set_option maxRecDepth 100000 in
theorem c_X4_isThrown (l : Launch) (p0 : Int32) : Met l yX4_isThrown wsX4_isThrown ({ frames := 0, cells := 0, slots := 0, locals := 0 }) (va_Pc [.int p0] NW) (QcRead (f_X4_isThrown p0)) 0 0 (fun _ => False) := by
  refine Met.ofW (cc := cX4_isThrown) (maxL := 1) (ret := (some .boolean)) (by decide) rfl ?_
  intro p e s m args below meth c s₁ B hml hv
  obtain ⟨rfl, hN⟩ := hv
  have hx := B.exec
  have hb := B.bytes
  have hr := B.returns
  have hts := atoms_spec (ws := wsX4_isThrown) B.pre
  have hown : s.vm.findClass RX4 = some m.cls := findClass_of_methodNamed B.named
  have hlocks := B.notSynchronized
  have hl := lv_entry ([.int p0]) (n := 1) (Nat.le_of_ble_eq_true rfl)
  rw [lg_entry_eq]
  generalize (lg_sl ([.int p0]) ++ List.replicate (1 - (lg_sl ([.int p0])).length) Slot.unset).toArray = ls at hl ⊢
  have hl : lv_has ls 1 [(0, .int p0)] := hl
  refine lv_iload_n hx hb dX4_isThrown_0 rfl (lv_at hl 0 rfl) ?_
  refine lv_bipush (v := 100) hx hb dX4_isThrown_1 (by decide) ?_
  refine lv_icmp_le (tgt := 10) hx hb dX4_isThrown_3 (by decide) (fun c_1 => ?_) (fun c_1 => ?_)
  · refine lv_iconst (v := 0) hx hb dX4_isThrown_10 (by decide) ?_
    exact rd_z hx hb hr rfl hlocks (by simp only [f_X4_isThrown, if_pos c_1]) dX4_isThrown_11
  · refine lv_iconst (v := 1) hx hb dX4_isThrown_6 (by decide) ?_
    refine lv_goto (tgt := 11) hx hb dX4_isThrown_7 (by decide) ?_
    exact rd_z hx hb hr rfl hlocks (by simp only [f_X4_isThrown, if_neg c_1]) dX4_isThrown_11
def f_X4_isStep (p0 : Int32) (p1 : Int32) (p2 : Int32) (p3 : Int32) (p4 : Int32) : Int32 := (if (f_X4_isBlock p0) = 0 then 0 else (if p1 = 0 then 1 else (if p1 = 1 then (if (f_X4_isPlace p2) = 0 then 0 else (if (f_X4_isLater p3 p0) = 0 then 0 else 1)) else (if p1 = 2 then (if (f_X4_isWithin p2 0 5) = 0 then 0 else (if (f_X4_isLater p3 p0) = 0 then 0 else 1)) else (if p1 = 3 then 1 else (if p1 = 4 then 1 else (if p1 = 5 then 1 else (if p1 = 6 then (f_X4_isWithin p2 1 9) else (if p1 = 7 then (if (f_X4_isWithin p2 0 13) = 0 then 0 else (if (f_X4_isLater p3 p0) = 0 then 0 else (if (f_X4_isLater p4 p0) = 0 then 0 else 1))) else (if p1 = 8 then (if (f_X4_isLater p3 p0) = 0 then 0 else (if (f_X4_isLater p4 p0) = 0 then 0 else 1)) else (if p1 = 9 then (f_X4_isLater p3 p0) else (if p1 = 10 then (f_X4_isPlace p3) else (if p1 = 11 then (if (f_X4_isPlace p2) = 0 then 0 else (if (f_X4_isPlace p3) = 0 then 0 else 1)) else (if p1 = 12 then (f_X4_isPlace p2) else (if p1 = 13 then (f_X4_isPlace p2) else (if p1 = 14 then 1 else 0))))))))))))))))
set_option maxHeartbeats 4000000 in
set_option maxRecDepth 100000 in
theorem c_X4_isStep (l : Launch) (p0 : Int32) (p1 : Int32) (p2 : Int32) (p3 : Int32) (p4 : Int32) : Met l yX4_isStep wsX4_isStep ({ frames := 2, cells := 0, slots := 0, locals := 43 }) (va_Pc [.int p0, .int p1, .int p2, .int p3, .int p4] NW) (QcRead (f_X4_isStep p0 p1 p2 p3 p4)) 0 0 (fun _ => False) := by
  refine Met.ofW (cc := cX4_isStep) (maxL := 5) (ret := (some .boolean)) (by decide) rfl ?_
  intro p e s m args below meth c s₁ B hml hv
  obtain ⟨rfl, hN⟩ := hv
  have hx := B.exec
  have hb := B.bytes
  have hr := B.returns
  have hts := atoms_spec (ws := wsX4_isStep) B.pre
  have hown : s.vm.findClass RX4 = some m.cls := findClass_of_methodNamed B.named
  have hlocks := B.notSynchronized
  have hl := lv_entry ([.int p0, .int p1, .int p2, .int p3, .int p4]) (n := 5) (Nat.le_of_ble_eq_true rfl)
  rw [lg_entry_eq]
  generalize (lg_sl ([.int p0, .int p1, .int p2, .int p3, .int p4]) ++ List.replicate (5 - (lg_sl ([.int p0, .int p1, .int p2, .int p3, .int p4])).length) Slot.unset).toArray = ls at hl ⊢
  have hl : lv_has ls 5 [(0, .int p0), (1, .int p1), (2, .int p2), (3, .int p3), (4, .int p4)] := hl
  refine lv_iload_n hx hb dX4_isStep_0 rfl (lv_at hl 0 rfl) ?_
  refine kx_read (va_runS (As := [.int p0]) (rest := []) ⟨hx, hb, hml, hown, hts⟩ (c_X4_isBlock l p0) (cwS 1 hts gX4_isStep_X4_isBlock rfl rfl rfl (by decide +kernel) ⟨(Nat.le_of_ble_eq_true rfl), (Nat.le_of_ble_eq_true rfl)⟩) (pS hN) rfl rfl hl.1 rfl (lv_room (Nat.le_of_ble_eq_true rfl)) dX4_isStep_1 ⟨Nat.zero_le _, Nat.zero_le _⟩) ?_
  refine lv_if_ne (tgt := 9) hx hb dX4_isStep_4 (by decide) (fun c_1 => ?_) (fun c_1 => ?_)
  · refine lv_iload_n hx hb dX4_isStep_9 rfl (lv_at hl 1 rfl) ?_
    by_cases s_2 : p1 = 0
    · refine lv_tableIn (tgt := 84) (off := 74) hx hb dX4_isStep_10 (by rw [s_2]; decide) (by rw [s_2]; decide) (by rw [s_2]; rfl) (by decide) ?_
      refine lv_iconst (v := 1) hx hb dX4_isStep_84 (by decide) ?_
      exact rd_z hx hb hr rfl hlocks (by simp only [f_X4_isStep, if_neg c_1, if_pos s_2]) dX4_isStep_85
    by_cases s_3 : p1 = 1
    · refine lv_tableIn (tgt := 86) (off := 76) hx hb dX4_isStep_10 (by rw [s_3]; decide) (by rw [s_3]; decide) (by rw [s_3]; rfl) (by decide) ?_
      refine lv_iload_n hx hb dX4_isStep_86 rfl (lv_at hl 2 rfl) ?_
      refine kx_read (va_runS (As := [.int p2]) (rest := []) ⟨hx, hb, hml, hown, hts⟩ (c_X4_isPlace l p2) (cwS 1 hts gX4_isStep_X4_isPlace rfl rfl rfl (by decide +kernel) ⟨(Nat.le_of_ble_eq_true rfl), (Nat.le_of_ble_eq_true rfl)⟩) (pS hN) rfl rfl hl.1 rfl (lv_room (Nat.le_of_ble_eq_true rfl)) dX4_isStep_87 ⟨Nat.zero_le _, Nat.zero_le _⟩) ?_
      refine lv_if_eq (tgt := 105) hx hb dX4_isStep_90 (by decide) (fun c_4 => ?_) (fun c_4 => ?_)
      · refine lv_iconst (v := 0) hx hb dX4_isStep_105 (by decide) ?_
        exact rd_z hx hb hr rfl hlocks (by simp only [f_X4_isStep, if_neg c_1, if_neg s_2, if_pos s_3, if_pos c_4]) dX4_isStep_106
      · refine lv_iload_n hx hb dX4_isStep_93 rfl (lv_at hl 3 rfl) ?_
        refine lv_iload_n hx hb dX4_isStep_94 rfl (lv_at hl 0 rfl) ?_
        refine kx_read (va_runS (As := [.int p3, .int p0]) (rest := []) ⟨hx, hb, hml, hown, hts⟩ (c_X4_isLater l p3 p0) (cwS 2 hts gX4_isStep_X4_isLater rfl rfl rfl (by decide +kernel) ⟨(Nat.le_of_ble_eq_true rfl), (Nat.le_of_ble_eq_true rfl)⟩) (pS hN) rfl rfl hl.1 rfl (lv_room (Nat.le_of_ble_eq_true rfl)) dX4_isStep_95 ⟨Nat.zero_le _, Nat.zero_le _⟩) ?_
        refine lv_if_eq (tgt := 105) hx hb dX4_isStep_98 (by decide) (fun c_5 => ?_) (fun c_5 => ?_)
        · refine lv_iconst (v := 0) hx hb dX4_isStep_105 (by decide) ?_
          exact rd_z hx hb hr rfl hlocks (by simp only [f_X4_isStep, if_neg c_1, if_neg s_2, if_pos s_3, if_neg c_4, if_pos c_5]) dX4_isStep_106
        · refine lv_iconst (v := 1) hx hb dX4_isStep_101 (by decide) ?_
          refine lv_goto (tgt := 106) hx hb dX4_isStep_102 (by decide) ?_
          exact rd_z hx hb hr rfl hlocks (by simp only [f_X4_isStep, if_neg c_1, if_neg s_2, if_pos s_3, if_neg c_4, if_neg c_5]) dX4_isStep_106
    by_cases s_6 : p1 = 2
    · refine lv_tableIn (tgt := 107) (off := 97) hx hb dX4_isStep_10 (by rw [s_6]; decide) (by rw [s_6]; decide) (by rw [s_6]; rfl) (by decide) ?_
      refine lv_iload_n hx hb dX4_isStep_107 rfl (lv_at hl 2 rfl) ?_
      refine lv_iconst (v := 0) hx hb dX4_isStep_108 (by decide) ?_
      refine lv_iconst (v := 5) hx hb dX4_isStep_109 (by decide) ?_
      refine kx_read (va_runS (As := [.int p2, .int 0, .int 5]) (rest := []) ⟨hx, hb, hml, hown, hts⟩ (c_X4_isWithin l p2 0 5) (cwS 3 hts gX4_isStep_X4_isWithin rfl rfl rfl (by decide +kernel) ⟨(Nat.le_of_ble_eq_true rfl), (Nat.le_of_ble_eq_true rfl)⟩) (pS hN) rfl rfl hl.1 rfl (lv_room (Nat.le_of_ble_eq_true rfl)) dX4_isStep_110 ⟨Nat.zero_le _, Nat.zero_le _⟩) ?_
      refine lv_if_eq (tgt := 128) hx hb dX4_isStep_113 (by decide) (fun c_7 => ?_) (fun c_7 => ?_)
      · refine lv_iconst (v := 0) hx hb dX4_isStep_128 (by decide) ?_
        exact rd_z hx hb hr rfl hlocks (by simp only [f_X4_isStep, if_neg c_1, if_neg s_2, if_neg s_3, if_pos s_6, if_pos c_7]) dX4_isStep_129
      · refine lv_iload_n hx hb dX4_isStep_116 rfl (lv_at hl 3 rfl) ?_
        refine lv_iload_n hx hb dX4_isStep_117 rfl (lv_at hl 0 rfl) ?_
        refine kx_read (va_runS (As := [.int p3, .int p0]) (rest := []) ⟨hx, hb, hml, hown, hts⟩ (c_X4_isLater l p3 p0) (cwS 2 hts gX4_isStep_X4_isLater rfl rfl rfl (by decide +kernel) ⟨(Nat.le_of_ble_eq_true rfl), (Nat.le_of_ble_eq_true rfl)⟩) (pS hN) rfl rfl hl.1 rfl (lv_room (Nat.le_of_ble_eq_true rfl)) dX4_isStep_118 ⟨Nat.zero_le _, Nat.zero_le _⟩) ?_
        refine lv_if_eq (tgt := 128) hx hb dX4_isStep_121 (by decide) (fun c_8 => ?_) (fun c_8 => ?_)
        · refine lv_iconst (v := 0) hx hb dX4_isStep_128 (by decide) ?_
          exact rd_z hx hb hr rfl hlocks (by simp only [f_X4_isStep, if_neg c_1, if_neg s_2, if_neg s_3, if_pos s_6, if_neg c_7, if_pos c_8]) dX4_isStep_129
        · refine lv_iconst (v := 1) hx hb dX4_isStep_124 (by decide) ?_
          refine lv_goto (tgt := 129) hx hb dX4_isStep_125 (by decide) ?_
          exact rd_z hx hb hr rfl hlocks (by simp only [f_X4_isStep, if_neg c_1, if_neg s_2, if_neg s_3, if_pos s_6, if_neg c_7, if_neg c_8]) dX4_isStep_129
    by_cases s_9 : p1 = 3
    · refine lv_tableIn (tgt := 84) (off := 74) hx hb dX4_isStep_10 (by rw [s_9]; decide) (by rw [s_9]; decide) (by rw [s_9]; rfl) (by decide) ?_
      refine lv_iconst (v := 1) hx hb dX4_isStep_84 (by decide) ?_
      exact rd_z hx hb hr rfl hlocks (by simp only [f_X4_isStep, if_neg c_1, if_neg s_2, if_neg s_3, if_neg s_6, if_pos s_9]) dX4_isStep_85
    by_cases s_10 : p1 = 4
    · refine lv_tableIn (tgt := 84) (off := 74) hx hb dX4_isStep_10 (by rw [s_10]; decide) (by rw [s_10]; decide) (by rw [s_10]; rfl) (by decide) ?_
      refine lv_iconst (v := 1) hx hb dX4_isStep_84 (by decide) ?_
      exact rd_z hx hb hr rfl hlocks (by simp only [f_X4_isStep, if_neg c_1, if_neg s_2, if_neg s_3, if_neg s_6, if_neg s_9, if_pos s_10]) dX4_isStep_85
    by_cases s_11 : p1 = 5
    · refine lv_tableIn (tgt := 84) (off := 74) hx hb dX4_isStep_10 (by rw [s_11]; decide) (by rw [s_11]; decide) (by rw [s_11]; rfl) (by decide) ?_
      refine lv_iconst (v := 1) hx hb dX4_isStep_84 (by decide) ?_
      exact rd_z hx hb hr rfl hlocks (by simp only [f_X4_isStep, if_neg c_1, if_neg s_2, if_neg s_3, if_neg s_6, if_neg s_9, if_neg s_10, if_pos s_11]) dX4_isStep_85
    by_cases s_12 : p1 = 6
    · refine lv_tableIn (tgt := 130) (off := 120) hx hb dX4_isStep_10 (by rw [s_12]; decide) (by rw [s_12]; decide) (by rw [s_12]; rfl) (by decide) ?_
      refine lv_iload_n hx hb dX4_isStep_130 rfl (lv_at hl 2 rfl) ?_
      refine lv_iconst (v := 1) hx hb dX4_isStep_131 (by decide) ?_
      refine lv_bipush (v := 9) hx hb dX4_isStep_132 (by decide) ?_
      refine kx_read (va_runS (As := [.int p2, .int 1, .int 9]) (rest := []) ⟨hx, hb, hml, hown, hts⟩ (c_X4_isWithin l p2 1 9) (cwS 3 hts gX4_isStep_X4_isWithin rfl rfl rfl (by decide +kernel) ⟨(Nat.le_of_ble_eq_true rfl), (Nat.le_of_ble_eq_true rfl)⟩) (pS hN) rfl rfl hl.1 rfl (lv_room (Nat.le_of_ble_eq_true rfl)) dX4_isStep_134 ⟨Nat.zero_le _, Nat.zero_le _⟩) ?_
      exact rd_z hx hb hr (nb01 (z_X4_isWithin p2 1 9)) hlocks (by simp only [f_X4_isStep, if_neg c_1, if_neg s_2, if_neg s_3, if_neg s_6, if_neg s_9, if_neg s_10, if_neg s_11, if_pos s_12]) dX4_isStep_137
    by_cases s_13 : p1 = 7
    · refine lv_tableIn (tgt := 138) (off := 128) hx hb dX4_isStep_10 (by rw [s_13]; decide) (by rw [s_13]; decide) (by rw [s_13]; rfl) (by decide) ?_
      refine lv_iload_n hx hb dX4_isStep_138 rfl (lv_at hl 2 rfl) ?_
      refine lv_iconst (v := 0) hx hb dX4_isStep_139 (by decide) ?_
      refine lv_bipush (v := 13) hx hb dX4_isStep_140 (by decide) ?_
      refine kx_read (va_runS (As := [.int p2, .int 0, .int 13]) (rest := []) ⟨hx, hb, hml, hown, hts⟩ (c_X4_isWithin l p2 0 13) (cwS 3 hts gX4_isStep_X4_isWithin rfl rfl rfl (by decide +kernel) ⟨(Nat.le_of_ble_eq_true rfl), (Nat.le_of_ble_eq_true rfl)⟩) (pS hN) rfl rfl hl.1 rfl (lv_room (Nat.le_of_ble_eq_true rfl)) dX4_isStep_142 ⟨Nat.zero_le _, Nat.zero_le _⟩) ?_
      refine lv_if_eq (tgt := 169) hx hb dX4_isStep_145 (by decide) (fun c_14 => ?_) (fun c_14 => ?_)
      · refine lv_iconst (v := 0) hx hb dX4_isStep_169 (by decide) ?_
        exact rd_z hx hb hr rfl hlocks (by simp only [f_X4_isStep, if_neg c_1, if_neg s_2, if_neg s_3, if_neg s_6, if_neg s_9, if_neg s_10, if_neg s_11, if_neg s_12, if_pos s_13, if_pos c_14]) dX4_isStep_170
      · refine lv_iload_n hx hb dX4_isStep_148 rfl (lv_at hl 3 rfl) ?_
        refine lv_iload_n hx hb dX4_isStep_149 rfl (lv_at hl 0 rfl) ?_
        refine kx_read (va_runS (As := [.int p3, .int p0]) (rest := []) ⟨hx, hb, hml, hown, hts⟩ (c_X4_isLater l p3 p0) (cwS 2 hts gX4_isStep_X4_isLater rfl rfl rfl (by decide +kernel) ⟨(Nat.le_of_ble_eq_true rfl), (Nat.le_of_ble_eq_true rfl)⟩) (pS hN) rfl rfl hl.1 rfl (lv_room (Nat.le_of_ble_eq_true rfl)) dX4_isStep_150 ⟨Nat.zero_le _, Nat.zero_le _⟩) ?_
        refine lv_if_eq (tgt := 169) hx hb dX4_isStep_153 (by decide) (fun c_15 => ?_) (fun c_15 => ?_)
        · refine lv_iconst (v := 0) hx hb dX4_isStep_169 (by decide) ?_
          exact rd_z hx hb hr rfl hlocks (by simp only [f_X4_isStep, if_neg c_1, if_neg s_2, if_neg s_3, if_neg s_6, if_neg s_9, if_neg s_10, if_neg s_11, if_neg s_12, if_pos s_13, if_neg c_14, if_pos c_15]) dX4_isStep_170
        · refine lv_iload hx hb dX4_isStep_156 (lv_at hl 4 rfl) ?_
          refine lv_iload_n hx hb dX4_isStep_158 rfl (lv_at hl 0 rfl) ?_
          refine kx_read (va_runS (As := [.int p4, .int p0]) (rest := []) ⟨hx, hb, hml, hown, hts⟩ (c_X4_isLater l p4 p0) (cwS 2 hts gX4_isStep_X4_isLater rfl rfl rfl (by decide +kernel) ⟨(Nat.le_of_ble_eq_true rfl), (Nat.le_of_ble_eq_true rfl)⟩) (pS hN) rfl rfl hl.1 rfl (lv_room (Nat.le_of_ble_eq_true rfl)) dX4_isStep_159 ⟨Nat.zero_le _, Nat.zero_le _⟩) ?_
          refine lv_if_eq (tgt := 169) hx hb dX4_isStep_162 (by decide) (fun c_16 => ?_) (fun c_16 => ?_)
          · refine lv_iconst (v := 0) hx hb dX4_isStep_169 (by decide) ?_
            exact rd_z hx hb hr rfl hlocks (by simp only [f_X4_isStep, if_neg c_1, if_neg s_2, if_neg s_3, if_neg s_6, if_neg s_9, if_neg s_10, if_neg s_11, if_neg s_12, if_pos s_13, if_neg c_14, if_neg c_15, if_pos c_16]) dX4_isStep_170
          · refine lv_iconst (v := 1) hx hb dX4_isStep_165 (by decide) ?_
            refine lv_goto (tgt := 170) hx hb dX4_isStep_166 (by decide) ?_
            exact rd_z hx hb hr rfl hlocks (by simp only [f_X4_isStep, if_neg c_1, if_neg s_2, if_neg s_3, if_neg s_6, if_neg s_9, if_neg s_10, if_neg s_11, if_neg s_12, if_pos s_13, if_neg c_14, if_neg c_15, if_neg c_16]) dX4_isStep_170
    by_cases s_17 : p1 = 8
    · refine lv_tableIn (tgt := 171) (off := 161) hx hb dX4_isStep_10 (by rw [s_17]; decide) (by rw [s_17]; decide) (by rw [s_17]; rfl) (by decide) ?_
      refine lv_iload_n hx hb dX4_isStep_171 rfl (lv_at hl 3 rfl) ?_
      refine lv_iload_n hx hb dX4_isStep_172 rfl (lv_at hl 0 rfl) ?_
      refine kx_read (va_runS (As := [.int p3, .int p0]) (rest := []) ⟨hx, hb, hml, hown, hts⟩ (c_X4_isLater l p3 p0) (cwS 2 hts gX4_isStep_X4_isLater rfl rfl rfl (by decide +kernel) ⟨(Nat.le_of_ble_eq_true rfl), (Nat.le_of_ble_eq_true rfl)⟩) (pS hN) rfl rfl hl.1 rfl (lv_room (Nat.le_of_ble_eq_true rfl)) dX4_isStep_173 ⟨Nat.zero_le _, Nat.zero_le _⟩) ?_
      refine lv_if_eq (tgt := 192) hx hb dX4_isStep_176 (by decide) (fun c_18 => ?_) (fun c_18 => ?_)
      · refine lv_iconst (v := 0) hx hb dX4_isStep_192 (by decide) ?_
        exact rd_z hx hb hr rfl hlocks (by simp only [f_X4_isStep, if_neg c_1, if_neg s_2, if_neg s_3, if_neg s_6, if_neg s_9, if_neg s_10, if_neg s_11, if_neg s_12, if_neg s_13, if_pos s_17, if_pos c_18]) dX4_isStep_193
      · refine lv_iload hx hb dX4_isStep_179 (lv_at hl 4 rfl) ?_
        refine lv_iload_n hx hb dX4_isStep_181 rfl (lv_at hl 0 rfl) ?_
        refine kx_read (va_runS (As := [.int p4, .int p0]) (rest := []) ⟨hx, hb, hml, hown, hts⟩ (c_X4_isLater l p4 p0) (cwS 2 hts gX4_isStep_X4_isLater rfl rfl rfl (by decide +kernel) ⟨(Nat.le_of_ble_eq_true rfl), (Nat.le_of_ble_eq_true rfl)⟩) (pS hN) rfl rfl hl.1 rfl (lv_room (Nat.le_of_ble_eq_true rfl)) dX4_isStep_182 ⟨Nat.zero_le _, Nat.zero_le _⟩) ?_
        refine lv_if_eq (tgt := 192) hx hb dX4_isStep_185 (by decide) (fun c_19 => ?_) (fun c_19 => ?_)
        · refine lv_iconst (v := 0) hx hb dX4_isStep_192 (by decide) ?_
          exact rd_z hx hb hr rfl hlocks (by simp only [f_X4_isStep, if_neg c_1, if_neg s_2, if_neg s_3, if_neg s_6, if_neg s_9, if_neg s_10, if_neg s_11, if_neg s_12, if_neg s_13, if_pos s_17, if_neg c_18, if_pos c_19]) dX4_isStep_193
        · refine lv_iconst (v := 1) hx hb dX4_isStep_188 (by decide) ?_
          refine lv_goto (tgt := 193) hx hb dX4_isStep_189 (by decide) ?_
          exact rd_z hx hb hr rfl hlocks (by simp only [f_X4_isStep, if_neg c_1, if_neg s_2, if_neg s_3, if_neg s_6, if_neg s_9, if_neg s_10, if_neg s_11, if_neg s_12, if_neg s_13, if_pos s_17, if_neg c_18, if_neg c_19]) dX4_isStep_193
    by_cases s_20 : p1 = 9
    · refine lv_tableIn (tgt := 194) (off := 184) hx hb dX4_isStep_10 (by rw [s_20]; decide) (by rw [s_20]; decide) (by rw [s_20]; rfl) (by decide) ?_
      refine lv_iload_n hx hb dX4_isStep_194 rfl (lv_at hl 3 rfl) ?_
      refine lv_iload_n hx hb dX4_isStep_195 rfl (lv_at hl 0 rfl) ?_
      refine kx_read (va_runS (As := [.int p3, .int p0]) (rest := []) ⟨hx, hb, hml, hown, hts⟩ (c_X4_isLater l p3 p0) (cwS 2 hts gX4_isStep_X4_isLater rfl rfl rfl (by decide +kernel) ⟨(Nat.le_of_ble_eq_true rfl), (Nat.le_of_ble_eq_true rfl)⟩) (pS hN) rfl rfl hl.1 rfl (lv_room (Nat.le_of_ble_eq_true rfl)) dX4_isStep_196 ⟨Nat.zero_le _, Nat.zero_le _⟩) ?_
      exact rd_z hx hb hr (nb01 (z_X4_isLater p3 p0)) hlocks (by simp only [f_X4_isStep, if_neg c_1, if_neg s_2, if_neg s_3, if_neg s_6, if_neg s_9, if_neg s_10, if_neg s_11, if_neg s_12, if_neg s_13, if_neg s_17, if_pos s_20]) dX4_isStep_199
    by_cases s_21 : p1 = 10
    · refine lv_tableIn (tgt := 200) (off := 190) hx hb dX4_isStep_10 (by rw [s_21]; decide) (by rw [s_21]; decide) (by rw [s_21]; rfl) (by decide) ?_
      refine lv_iload_n hx hb dX4_isStep_200 rfl (lv_at hl 3 rfl) ?_
      refine kx_read (va_runS (As := [.int p3]) (rest := []) ⟨hx, hb, hml, hown, hts⟩ (c_X4_isPlace l p3) (cwS 1 hts gX4_isStep_X4_isPlace rfl rfl rfl (by decide +kernel) ⟨(Nat.le_of_ble_eq_true rfl), (Nat.le_of_ble_eq_true rfl)⟩) (pS hN) rfl rfl hl.1 rfl (lv_room (Nat.le_of_ble_eq_true rfl)) dX4_isStep_201 ⟨Nat.zero_le _, Nat.zero_le _⟩) ?_
      exact rd_z hx hb hr (nb01 (z_X4_isPlace p3)) hlocks (by simp only [f_X4_isStep, if_neg c_1, if_neg s_2, if_neg s_3, if_neg s_6, if_neg s_9, if_neg s_10, if_neg s_11, if_neg s_12, if_neg s_13, if_neg s_17, if_neg s_20, if_pos s_21]) dX4_isStep_204
    by_cases s_22 : p1 = 11
    · refine lv_tableIn (tgt := 205) (off := 195) hx hb dX4_isStep_10 (by rw [s_22]; decide) (by rw [s_22]; decide) (by rw [s_22]; rfl) (by decide) ?_
      refine lv_iload_n hx hb dX4_isStep_205 rfl (lv_at hl 2 rfl) ?_
      refine kx_read (va_runS (As := [.int p2]) (rest := []) ⟨hx, hb, hml, hown, hts⟩ (c_X4_isPlace l p2) (cwS 1 hts gX4_isStep_X4_isPlace rfl rfl rfl (by decide +kernel) ⟨(Nat.le_of_ble_eq_true rfl), (Nat.le_of_ble_eq_true rfl)⟩) (pS hN) rfl rfl hl.1 rfl (lv_room (Nat.le_of_ble_eq_true rfl)) dX4_isStep_206 ⟨Nat.zero_le _, Nat.zero_le _⟩) ?_
      refine lv_if_eq (tgt := 223) hx hb dX4_isStep_209 (by decide) (fun c_23 => ?_) (fun c_23 => ?_)
      · refine lv_iconst (v := 0) hx hb dX4_isStep_223 (by decide) ?_
        exact rd_z hx hb hr rfl hlocks (by simp only [f_X4_isStep, if_neg c_1, if_neg s_2, if_neg s_3, if_neg s_6, if_neg s_9, if_neg s_10, if_neg s_11, if_neg s_12, if_neg s_13, if_neg s_17, if_neg s_20, if_neg s_21, if_pos s_22, if_pos c_23]) dX4_isStep_224
      · refine lv_iload_n hx hb dX4_isStep_212 rfl (lv_at hl 3 rfl) ?_
        refine kx_read (va_runS (As := [.int p3]) (rest := []) ⟨hx, hb, hml, hown, hts⟩ (c_X4_isPlace l p3) (cwS 1 hts gX4_isStep_X4_isPlace rfl rfl rfl (by decide +kernel) ⟨(Nat.le_of_ble_eq_true rfl), (Nat.le_of_ble_eq_true rfl)⟩) (pS hN) rfl rfl hl.1 rfl (lv_room (Nat.le_of_ble_eq_true rfl)) dX4_isStep_213 ⟨Nat.zero_le _, Nat.zero_le _⟩) ?_
        refine lv_if_eq (tgt := 223) hx hb dX4_isStep_216 (by decide) (fun c_24 => ?_) (fun c_24 => ?_)
        · refine lv_iconst (v := 0) hx hb dX4_isStep_223 (by decide) ?_
          exact rd_z hx hb hr rfl hlocks (by simp only [f_X4_isStep, if_neg c_1, if_neg s_2, if_neg s_3, if_neg s_6, if_neg s_9, if_neg s_10, if_neg s_11, if_neg s_12, if_neg s_13, if_neg s_17, if_neg s_20, if_neg s_21, if_pos s_22, if_neg c_23, if_pos c_24]) dX4_isStep_224
        · refine lv_iconst (v := 1) hx hb dX4_isStep_219 (by decide) ?_
          refine lv_goto (tgt := 224) hx hb dX4_isStep_220 (by decide) ?_
          exact rd_z hx hb hr rfl hlocks (by simp only [f_X4_isStep, if_neg c_1, if_neg s_2, if_neg s_3, if_neg s_6, if_neg s_9, if_neg s_10, if_neg s_11, if_neg s_12, if_neg s_13, if_neg s_17, if_neg s_20, if_neg s_21, if_pos s_22, if_neg c_23, if_neg c_24]) dX4_isStep_224
    by_cases s_25 : p1 = 12
    · refine lv_tableIn (tgt := 225) (off := 215) hx hb dX4_isStep_10 (by rw [s_25]; decide) (by rw [s_25]; decide) (by rw [s_25]; rfl) (by decide) ?_
      refine lv_iload_n hx hb dX4_isStep_225 rfl (lv_at hl 2 rfl) ?_
      refine kx_read (va_runS (As := [.int p2]) (rest := []) ⟨hx, hb, hml, hown, hts⟩ (c_X4_isPlace l p2) (cwS 1 hts gX4_isStep_X4_isPlace rfl rfl rfl (by decide +kernel) ⟨(Nat.le_of_ble_eq_true rfl), (Nat.le_of_ble_eq_true rfl)⟩) (pS hN) rfl rfl hl.1 rfl (lv_room (Nat.le_of_ble_eq_true rfl)) dX4_isStep_226 ⟨Nat.zero_le _, Nat.zero_le _⟩) ?_
      exact rd_z hx hb hr (nb01 (z_X4_isPlace p2)) hlocks (by simp only [f_X4_isStep, if_neg c_1, if_neg s_2, if_neg s_3, if_neg s_6, if_neg s_9, if_neg s_10, if_neg s_11, if_neg s_12, if_neg s_13, if_neg s_17, if_neg s_20, if_neg s_21, if_neg s_22, if_pos s_25]) dX4_isStep_229
    by_cases s_26 : p1 = 13
    · refine lv_tableIn (tgt := 225) (off := 215) hx hb dX4_isStep_10 (by rw [s_26]; decide) (by rw [s_26]; decide) (by rw [s_26]; rfl) (by decide) ?_
      refine lv_iload_n hx hb dX4_isStep_225 rfl (lv_at hl 2 rfl) ?_
      refine kx_read (va_runS (As := [.int p2]) (rest := []) ⟨hx, hb, hml, hown, hts⟩ (c_X4_isPlace l p2) (cwS 1 hts gX4_isStep_X4_isPlace rfl rfl rfl (by decide +kernel) ⟨(Nat.le_of_ble_eq_true rfl), (Nat.le_of_ble_eq_true rfl)⟩) (pS hN) rfl rfl hl.1 rfl (lv_room (Nat.le_of_ble_eq_true rfl)) dX4_isStep_226 ⟨Nat.zero_le _, Nat.zero_le _⟩) ?_
      exact rd_z hx hb hr (nb01 (z_X4_isPlace p2)) hlocks (by simp only [f_X4_isStep, if_neg c_1, if_neg s_2, if_neg s_3, if_neg s_6, if_neg s_9, if_neg s_10, if_neg s_11, if_neg s_12, if_neg s_13, if_neg s_17, if_neg s_20, if_neg s_21, if_neg s_22, if_neg s_25, if_pos s_26]) dX4_isStep_229
    by_cases s_27 : p1 = 14
    · refine lv_tableIn (tgt := 84) (off := 74) hx hb dX4_isStep_10 (by rw [s_27]; decide) (by rw [s_27]; decide) (by rw [s_27]; rfl) (by decide) ?_
      refine lv_iconst (v := 1) hx hb dX4_isStep_84 (by decide) ?_
      exact rd_z hx hb hr rfl hlocks (by simp only [f_X4_isStep, if_neg c_1, if_neg s_2, if_neg s_3, if_neg s_6, if_neg s_9, if_neg s_10, if_neg s_11, if_neg s_12, if_neg s_13, if_neg s_17, if_neg s_20, if_neg s_21, if_neg s_22, if_neg s_25, if_neg s_26, if_pos s_27]) dX4_isStep_85
    have t_28 : (p1 : Int32).toInt < 0 ∨ 14 < (p1 : Int32).toInt := by
      have z0 := ne_ti (k := 0) (n := 0) s_2 (by decide)
      have z1 := ne_ti (k := 1) (n := 1) s_3 (by decide)
      have z2 := ne_ti (k := 2) (n := 2) s_6 (by decide)
      have z3 := ne_ti (k := 3) (n := 3) s_9 (by decide)
      have z4 := ne_ti (k := 4) (n := 4) s_10 (by decide)
      have z5 := ne_ti (k := 5) (n := 5) s_11 (by decide)
      have z6 := ne_ti (k := 6) (n := 6) s_12 (by decide)
      have z7 := ne_ti (k := 7) (n := 7) s_13 (by decide)
      have z8 := ne_ti (k := 8) (n := 8) s_17 (by decide)
      have z9 := ne_ti (k := 9) (n := 9) s_20 (by decide)
      have z10 := ne_ti (k := 10) (n := 10) s_21 (by decide)
      have z11 := ne_ti (k := 11) (n := 11) s_22 (by decide)
      have z12 := ne_ti (k := 12) (n := 12) s_25 (by decide)
      have z13 := ne_ti (k := 13) (n := 13) s_26 (by decide)
      have z14 := ne_ti (k := 14) (n := 14) s_27 (by decide)
      omega
    refine lv_tableOut (tgt := 230) hx hb dX4_isStep_10 t_28 (by decide) ?_
    refine lv_iconst (v := 0) hx hb dX4_isStep_230 (by decide) ?_
    exact rd_z hx hb hr rfl hlocks (by simp only [f_X4_isStep, if_neg c_1, if_neg s_2, if_neg s_3, if_neg s_6, if_neg s_9, if_neg s_10, if_neg s_11, if_neg s_12, if_neg s_13, if_neg s_17, if_neg s_20, if_neg s_21, if_neg s_22, if_neg s_25, if_neg s_26, if_neg s_27]) dX4_isStep_231
  · refine lv_iconst (v := 0) hx hb dX4_isStep_7 (by decide) ?_
    exact rd_z hx hb hr rfl hlocks (by simp only [f_X4_isStep, if_pos c_1]) dX4_isStep_8
