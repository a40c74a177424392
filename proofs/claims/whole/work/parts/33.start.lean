set_option maxHeartbeats 4000000 in
set_option maxRecDepth 100000 in
theorem whole_start {p : Program} {e : Env} {s : State} {m : MethodId} {below : List Frame} {meth : Method} {c : Code} (l : Launch) {b L : Nat} {xs : Nat → Int32} (hL : L ≤ 3072) (C0 : lw_At p s m meth c b L xs) : W p l e room_1 s m #[Value.ref b] below meth c s.heap [] 0 0 (lw_Z below #[Value.ref b] s) (entryFrame m ([Value.ref b] : List Value).toArray 4) := by
  obtain ⟨hx, hb, hr, hml, hown, hts0, hX, hbl, hlocks, hgv⟩ := id C0
  have hts := fun w h => hts0 w (wsL_law_in w h)
  obtain ⟨d, hd⟩ : ∃ d : Nat, d = 40 := ⟨40, rfl⟩
  have hN : NW s := fun w hw => va_Nw.of (nwl_on w hw) (hts0 w (nwl_in w hw))
  have hA : ∀ q : Nat, s.heap.size ≤ q → (fun q : Nat => s.heap.size ≤ q) q := fun _ h => h
  have hbA : ¬ (fun q : Nat => s.heap.size ≤ q) b := Nat.not_le.mpr hbl
  obtain ⟨c_0, iS_0, hKn0⟩ := u_known (C := RX0) (T := TX0) (N := 6) (n := 6) hts0 inX0 (hts (.instantiable RX0 6) (by decide +kernel))
  obtain ⟨c_1, iS_1, hKn1⟩ := u_known (C := RX1) (T := TX1) (N := 4) (n := 4) hts0 inX1 (hts (.instantiable RX1 4) (by decide +kernel))
  obtain ⟨c_2, iS_2, hKn2⟩ := u_known (C := RX2) (T := TX2) (N := 4) (n := 4) hts0 inX2 (hts (.instantiable RX2 4) (by decide +kernel))
  obtain ⟨c_3, iS_3, hKn3⟩ := u_known (C := RX3) (T := TX3) (N := 7) (n := 7) hts0 inX3 (hts (.instantiable RX3 7) (by decide +kernel))
  obtain ⟨c_4, iS_4, hKn4⟩ := u_known (C := RX4) (T := TX4) (N := 5) (n := 5) hts0 inX4 (hts (.instantiable RX4 5) (by decide +kernel))
  obtain ⟨c_5, iS_5, hKn5⟩ := u_known (C := RX5) (T := TX5) (N := 22) (n := 22) hts0 inX5 (hts (.instantiable RX5 22) (by decide +kernel))
  obtain ⟨dC, dI, hKc⟩ : ∃ (dC : Nat → ClassId) (dI : Nat → Nat → Nat), ∀ (k : Nat) (q : vw_C), vwCl[k]? = some q → u_Kn s q.1 q.2.1 q.2.2 (dC k) (dI k) := by
    refine ⟨fun k => if k = 0 then c_0 else if k = 1 then c_1 else if k = 2 then c_2 else if k = 3 then c_3 else if k = 4 then c_4 else c_5, fun k => if k = 0 then iS_0 else if k = 1 then iS_1 else if k = 2 then iS_2 else if k = 3 then iS_3 else if k = 4 then iS_4 else iS_5, ?_⟩
    intro k q hq
    match k, hq with
    | 0, hq => cases hq; exact hKn0
    | 1, hq => cases hq; exact hKn1
    | 2, hq => cases hq; exact hKn2
    | 3, hq => cases hq; exact hKn3
    | 4, hq => cases hq; exact hKn4
    | 5, hq => cases hq; exact hKn5
    | k + 6, hq => simp [vwCl] at hq
  obtain ⟨cA, kA, comp, g1, g2, g3⟩ := Cond.arrayClass_spec (hts (.arrayClass .int) (by decide +kernel))
  have hK : va_K (dC, dI) vwCl [(cA, .int)] s := ⟨hKc, fun k q h => by
    match k, h with
    | 0, h => cases h; exact ⟨fun n z => ⟨fun k h => (by cases h), kA, g2, comp, g3⟩, g1⟩
    | k + 1, h => simp at h⟩
  have hS : va_S (fun q : Nat => s.heap.size ≤ q) s.heap s.heap [] := va_S.rf
  have hP : va_P (dC, dI) vwCl [] s.heap := fun k q h => by simp at h
  have hD : va_D (fun q : Nat => s.heap.size ≤ q) [] := ⟨fun i j p q h => by simp at h, fun k q h => by simp at h⟩
  have hl := lv_entry ([.ref b]) (n := 4) (Nat.le_of_ble_eq_true rfl)
  rw [lg_entry_eq]
  generalize (lg_sl ([.ref b]) ++ List.replicate (4 - (lg_sl ([.ref b])).length) Slot.unset).toArray = ls at hl ⊢
  have hl : lv_has ls 4 [(0, .ref b)] := hl
  refine va_new (ci := 4) (fs := [.null, .null, .null, .null, .int 0]) (C := RX4) (T := TX4) (N := 5) hx hb hts (by decide +kernel) tyX4 tyX4_ok hown (hts (.classLink RL 7 RX4) (by decide +kernel)) (hts (.instantiable RX4 5) (by decide +kernel)) (hts (.initialized RX4) (by decide +kernel)) hK hP hD hS hA rfl (fun j hj => by rcases (show j = 0 ∨ j = 1 ∨ j = 2 ∨ j = 3 ∨ j = 4 by omega) with rfl | rfl | rfl | rfl | rfl <;> rfl) (Nat.le_of_ble_eq_true rfl) (Nat.le_of_ble_eq_true rfl) dL_law_0 (fun n_1 H hP hD hS => ?_)
  have hP : va_P (dC, dI) vwCl [(n_1, .inr (4, [.null, .null, .null, .null, .int 0]))] H := hP
  have hD : va_D (fun q : Nat => s.heap.size ≤ q) [(n_1, .inr (4, [.null, .null, .null, .null, .int 0]))] := hD
  refine W.widen (k := 1) (n := 5) (by omega) (by omega) ?_
  refine lv_dup hx hb dL_law_3 rfl ?_
  refine kx_n (wr := []) hP hD hS hA [0] [] rfl rfl (by decide) (by decide) (va_runI (As := []) (rest := [.ref n_1]) ⟨hx, hb, hml, hown, hts⟩ (c_X4_init l dC dI cA n_1  H.size) (cwI 0 hts gL_law_X4_init rfl rfl rfl (hts (.initialized RX4) (by decide +kernel)) (hts (.methodLink RL 9 yX4_init) (by decide +kernel)) (hts (.instanceMethod yX4_init) (by decide +kernel)) rfl (by decide +kernel) ⟨(Nat.le_of_ble_eq_true rfl), (Nat.le_of_ble_eq_true rfl)⟩) (pI hN (hP.sub (ws' := [(n_1, .inr (4, [.null, .null, .null, .null, .int 0]))]) [0] rfl) hK (hD.sub (ws' := [(n_1, .inr (4, [.null, .null, .null, .null, .int 0]))]) [0] (by decide) rfl)) rfl rfl hl.1 rfl (lv_room (Nat.le_of_ble_eq_true rfl)) dL_law_4 ⟨(Nat.le_of_ble_eq_true rfl), (Nat.le_of_ble_eq_true rfl)⟩) (fun u_2 H locs hP hD hS => ?_)
  obtain ⟨q2_2, q2a_2, q2b_2, q2c_2, q0_2, q0a_2, q0b_2, q0c_2, q0d_2, q0e_2, q3_2, q3a_2, q1_2⟩ := u_2
  have hP : va_P (dC, dI) vwCl [(n_1, .inr (4, [.ref q1_2, .ref q2_2, .ref q0_2, .ref q3_2, .int 0])), (q2_2, .inr (2, [.ref q2a_2, .ref q2b_2, .ref q2c_2, .int 0])), (q2a_2, .inl (cA, 6, .inl pl0)), (q2b_2, .inl (cA, 60, .inl (fun _ => 0))), (q2c_2, .inl (cA, 60, .inl (fun _ => 0))), (q0_2, .inr (0, [.ref q0a_2, .ref q0b_2, .ref q0c_2, .ref q0d_2, .ref q0e_2, .int 0])), (q0a_2, .inl (cA, 40, .inl (fun _ => 0))), (q0b_2, .inl (cA, 480, .inl (fun _ => 0))), (q0c_2, .inl (cA, 480, .inl (fun _ => 0))), (q0d_2, .inl (cA, 480, .inl (fun _ => 0))), (q0e_2, .inl (cA, 480, .inl (fun _ => 0))), (q3_2, .inr (3, [.ref q3a_2, .int 0, .int 0, .int 0, .int 0, .int 0, .int 0])), (q3a_2, .inl (cA, 250, .inl (fun _ => 0))), (q1_2, .inr (1, [.ref q2_2, .ref q0_2, .ref q3_2, .int 0]))] H := hP
  have hD : va_D (fun q : Nat => s.heap.size ≤ q) [(n_1, .inr (4, [.ref q1_2, .ref q2_2, .ref q0_2, .ref q3_2, .int 0])), (q2_2, .inr (2, [.ref q2a_2, .ref q2b_2, .ref q2c_2, .int 0])), (q2a_2, .inl (cA, 6, .inl pl0)), (q2b_2, .inl (cA, 60, .inl (fun _ => 0))), (q2c_2, .inl (cA, 60, .inl (fun _ => 0))), (q0_2, .inr (0, [.ref q0a_2, .ref q0b_2, .ref q0c_2, .ref q0d_2, .ref q0e_2, .int 0])), (q0a_2, .inl (cA, 40, .inl (fun _ => 0))), (q0b_2, .inl (cA, 480, .inl (fun _ => 0))), (q0c_2, .inl (cA, 480, .inl (fun _ => 0))), (q0d_2, .inl (cA, 480, .inl (fun _ => 0))), (q0e_2, .inl (cA, 480, .inl (fun _ => 0))), (q3_2, .inr (3, [.ref q3a_2, .int 0, .int 0, .int 0, .int 0, .int 0, .int 0])), (q3a_2, .inl (cA, 250, .inl (fun _ => 0))), (q1_2, .inr (1, [.ref q2_2, .ref q0_2, .ref q3_2, .int 0]))] := hD
  refine W.widen (k := 14) (n := 2362) (by omega) (by omega) ?_
  refine lv_astore_n (lv' := [(1, .ref n_1), (0, .ref b)]) hx hb dL_law_7 rfl hl (by decide) rfl (fun ls hl => ?_)
  refine va_new (ci := 5) (fs := [.int 0, .null, .int 0, .null, .null, .int 0, .null, .null, .null, .null, .null, .int 0, .int 0, .int 0, .null, .int 0, .int 0, .int 0, .int 0, .int 0, .int 0, .int 0]) (C := RX5) (T := TX5) (N := 22) hx hb hts (by decide +kernel) tyX5 tyX5_ok hown (hts (.classLink RL 10 RX5) (by decide +kernel)) (hts (.instantiable RX5 22) (by decide +kernel)) (hts (.initialized RX5) (by decide +kernel)) hK hP hD hS hA rfl (fun j hj => by rcases (show j = 0 ∨ j = 1 ∨ j = 2 ∨ j = 3 ∨ j = 4 ∨ j = 5 ∨ j = 6 ∨ j = 7 ∨ j = 8 ∨ j = 9 ∨ j = 10 ∨ j = 11 ∨ j = 12 ∨ j = 13 ∨ j = 14 ∨ j = 15 ∨ j = 16 ∨ j = 17 ∨ j = 18 ∨ j = 19 ∨ j = 20 ∨ j = 21 by omega) with rfl | rfl | rfl | rfl | rfl | rfl | rfl | rfl | rfl | rfl | rfl | rfl | rfl | rfl | rfl | rfl | rfl | rfl | rfl | rfl | rfl | rfl <;> rfl) (Nat.le_of_ble_eq_true rfl) (Nat.le_of_ble_eq_true rfl) dL_law_8 (fun n_3 H hP hD hS => ?_)
  have hP : va_P (dC, dI) vwCl [(n_1, .inr (4, [.ref q1_2, .ref q2_2, .ref q0_2, .ref q3_2, .int 0])), (q2_2, .inr (2, [.ref q2a_2, .ref q2b_2, .ref q2c_2, .int 0])), (q2a_2, .inl (cA, 6, .inl pl0)), (q2b_2, .inl (cA, 60, .inl (fun _ => 0))), (q2c_2, .inl (cA, 60, .inl (fun _ => 0))), (q0_2, .inr (0, [.ref q0a_2, .ref q0b_2, .ref q0c_2, .ref q0d_2, .ref q0e_2, .int 0])), (q0a_2, .inl (cA, 40, .inl (fun _ => 0))), (q0b_2, .inl (cA, 480, .inl (fun _ => 0))), (q0c_2, .inl (cA, 480, .inl (fun _ => 0))), (q0d_2, .inl (cA, 480, .inl (fun _ => 0))), (q0e_2, .inl (cA, 480, .inl (fun _ => 0))), (q3_2, .inr (3, [.ref q3a_2, .int 0, .int 0, .int 0, .int 0, .int 0, .int 0])), (q3a_2, .inl (cA, 250, .inl (fun _ => 0))), (q1_2, .inr (1, [.ref q2_2, .ref q0_2, .ref q3_2, .int 0])), (n_3, .inr (5, [.int 0, .null, .int 0, .null, .null, .int 0, .null, .null, .null, .null, .null, .int 0, .int 0, .int 0, .null, .int 0, .int 0, .int 0, .int 0, .int 0, .int 0, .int 0]))] H := hP
  have hD : va_D (fun q : Nat => s.heap.size ≤ q) [(n_1, .inr (4, [.ref q1_2, .ref q2_2, .ref q0_2, .ref q3_2, .int 0])), (q2_2, .inr (2, [.ref q2a_2, .ref q2b_2, .ref q2c_2, .int 0])), (q2a_2, .inl (cA, 6, .inl pl0)), (q2b_2, .inl (cA, 60, .inl (fun _ => 0))), (q2c_2, .inl (cA, 60, .inl (fun _ => 0))), (q0_2, .inr (0, [.ref q0a_2, .ref q0b_2, .ref q0c_2, .ref q0d_2, .ref q0e_2, .int 0])), (q0a_2, .inl (cA, 40, .inl (fun _ => 0))), (q0b_2, .inl (cA, 480, .inl (fun _ => 0))), (q0c_2, .inl (cA, 480, .inl (fun _ => 0))), (q0d_2, .inl (cA, 480, .inl (fun _ => 0))), (q0e_2, .inl (cA, 480, .inl (fun _ => 0))), (q3_2, .inr (3, [.ref q3a_2, .int 0, .int 0, .int 0, .int 0, .int 0, .int 0])), (q3a_2, .inl (cA, 250, .inl (fun _ => 0))), (q1_2, .inr (1, [.ref q2_2, .ref q0_2, .ref q3_2, .int 0])), (n_3, .inr (5, [.int 0, .null, .int 0, .null, .null, .int 0, .null, .null, .null, .null, .null, .int 0, .int 0, .int 0, .null, .int 0, .int 0, .int 0, .int 0, .int 0, .int 0, .int 0]))] := hD
  refine W.widen (k := 15) (n := 2384) (by omega) (by omega) ?_
  refine lv_dup hx hb dL_law_11 rfl ?_
  refine kx_n (wr := [(n_1, .inr (4, [.ref q1_2, .ref q2_2, .ref q0_2, .ref q3_2, .int 0])), (q2_2, .inr (2, [.ref q2a_2, .ref q2b_2, .ref q2c_2, .int 0])), (q2a_2, .inl (cA, 6, .inl pl0)), (q2b_2, .inl (cA, 60, .inl (fun _ => 0))), (q2c_2, .inl (cA, 60, .inl (fun _ => 0))), (q0_2, .inr (0, [.ref q0a_2, .ref q0b_2, .ref q0c_2, .ref q0d_2, .ref q0e_2, .int 0])), (q0a_2, .inl (cA, 40, .inl (fun _ => 0))), (q0b_2, .inl (cA, 480, .inl (fun _ => 0))), (q0c_2, .inl (cA, 480, .inl (fun _ => 0))), (q0d_2, .inl (cA, 480, .inl (fun _ => 0))), (q0e_2, .inl (cA, 480, .inl (fun _ => 0))), (q3_2, .inr (3, [.ref q3a_2, .int 0, .int 0, .int 0, .int 0, .int 0, .int 0])), (q3a_2, .inl (cA, 250, .inl (fun _ => 0))), (q1_2, .inr (1, [.ref q2_2, .ref q0_2, .ref q3_2, .int 0]))]) hP hD hS hA [14] [0, 1, 2, 3, 4, 5, 6, 7, 8, 9, 10, 11, 12, 13] rfl rfl (by decide) (by decide) (va_runI (As := []) (rest := [.ref n_3]) ⟨hx, hb, hml, hown, hts⟩ (c_X5_init l dC dI cA n_3  H.size) (cwI 0 hts gL_law_X5_init rfl rfl rfl (hts (.initialized RX5) (by decide +kernel)) (hts (.methodLink RL 12 yX5_init) (by decide +kernel)) (hts (.instanceMethod yX5_init) (by decide +kernel)) rfl (by decide +kernel) ⟨(Nat.le_of_ble_eq_true rfl), (Nat.le_of_ble_eq_true rfl)⟩) (pI hN (hP.sub (ws' := [(n_3, .inr (5, [.int 0, .null, .int 0, .null, .null, .int 0, .null, .null, .null, .null, .null, .int 0, .int 0, .int 0, .null, .int 0, .int 0, .int 0, .int 0, .int 0, .int 0, .int 0]))]) [14] rfl) hK (hD.sub (ws' := [(n_3, .inr (5, [.int 0, .null, .int 0, .null, .null, .int 0, .null, .null, .null, .null, .null, .int 0, .int 0, .int 0, .null, .int 0, .int 0, .int 0, .int 0, .int 0, .int 0, .int 0]))]) [14] (by decide) rfl)) rfl rfl hl.1 rfl (lv_room (Nat.le_of_ble_eq_true rfl)) dL_law_12 ⟨(Nat.le_of_ble_eq_true rfl), (Nat.le_of_ble_eq_true rfl)⟩) (fun u_4 H locs hP hD hS => ?_)
  obtain ⟨q5a_4, q5b_4, q5c_4, q5d_4, q5e_4, q5f_4, q5g_4, q5h_4, q5i_4⟩ := u_4
  have hP : va_P (dC, dI) vwCl [(n_1, .inr (4, [.ref q1_2, .ref q2_2, .ref q0_2, .ref q3_2, .int 0])), (q2_2, .inr (2, [.ref q2a_2, .ref q2b_2, .ref q2c_2, .int 0])), (q2a_2, .inl (cA, 6, .inl pl0)), (q2b_2, .inl (cA, 60, .inl (fun _ => 0))), (q2c_2, .inl (cA, 60, .inl (fun _ => 0))), (q0_2, .inr (0, [.ref q0a_2, .ref q0b_2, .ref q0c_2, .ref q0d_2, .ref q0e_2, .int 0])), (q0a_2, .inl (cA, 40, .inl (fun _ => 0))), (q0b_2, .inl (cA, 480, .inl (fun _ => 0))), (q0c_2, .inl (cA, 480, .inl (fun _ => 0))), (q0d_2, .inl (cA, 480, .inl (fun _ => 0))), (q0e_2, .inl (cA, 480, .inl (fun _ => 0))), (q3_2, .inr (3, [.ref q3a_2, .int 0, .int 0, .int 0, .int 0, .int 0, .int 0])), (q3a_2, .inl (cA, 250, .inl (fun _ => 0))), (q1_2, .inr (1, [.ref q2_2, .ref q0_2, .ref q3_2, .int 0])), (n_3, .inr (5, [.int 0, .ref q5a_4, .int 0, .ref q5b_4, .ref q5c_4, .int 0, .ref q5d_4, .ref q5e_4, .ref q5f_4, .ref q5g_4, .ref q5h_4, .int 0, .int 0, .int 0, .ref q5i_4, .int 0, .int 0, .int 0, .int 0, .int 0, .int 0, .int 0])), (q5a_4, .inl (cA, 6, .inl pl0)), (q5b_4, .inl (cA, 60, .inl (fun _ => 0))), (q5c_4, .inl (cA, 60, .inl (fun _ => 0))), (q5d_4, .inl (cA, 40, .inl (fun _ => 0))), (q5e_4, .inl (cA, 480, .inl (fun _ => 0))), (q5f_4, .inl (cA, 480, .inl (fun _ => 0))), (q5g_4, .inl (cA, 480, .inl (fun _ => 0))), (q5h_4, .inl (cA, 480, .inl (fun _ => 0))), (q5i_4, .inl (cA, 250, .inl (fun _ => 0)))] H := hP
  have hD : va_D (fun q : Nat => s.heap.size ≤ q) [(n_1, .inr (4, [.ref q1_2, .ref q2_2, .ref q0_2, .ref q3_2, .int 0])), (q2_2, .inr (2, [.ref q2a_2, .ref q2b_2, .ref q2c_2, .int 0])), (q2a_2, .inl (cA, 6, .inl pl0)), (q2b_2, .inl (cA, 60, .inl (fun _ => 0))), (q2c_2, .inl (cA, 60, .inl (fun _ => 0))), (q0_2, .inr (0, [.ref q0a_2, .ref q0b_2, .ref q0c_2, .ref q0d_2, .ref q0e_2, .int 0])), (q0a_2, .inl (cA, 40, .inl (fun _ => 0))), (q0b_2, .inl (cA, 480, .inl (fun _ => 0))), (q0c_2, .inl (cA, 480, .inl (fun _ => 0))), (q0d_2, .inl (cA, 480, .inl (fun _ => 0))), (q0e_2, .inl (cA, 480, .inl (fun _ => 0))), (q3_2, .inr (3, [.ref q3a_2, .int 0, .int 0, .int 0, .int 0, .int 0, .int 0])), (q3a_2, .inl (cA, 250, .inl (fun _ => 0))), (q1_2, .inr (1, [.ref q2_2, .ref q0_2, .ref q3_2, .int 0])), (n_3, .inr (5, [.int 0, .ref q5a_4, .int 0, .ref q5b_4, .ref q5c_4, .int 0, .ref q5d_4, .ref q5e_4, .ref q5f_4, .ref q5g_4, .ref q5h_4, .int 0, .int 0, .int 0, .ref q5i_4, .int 0, .int 0, .int 0, .int 0, .int 0, .int 0, .int 0])), (q5a_4, .inl (cA, 6, .inl pl0)), (q5b_4, .inl (cA, 60, .inl (fun _ => 0))), (q5c_4, .inl (cA, 60, .inl (fun _ => 0))), (q5d_4, .inl (cA, 40, .inl (fun _ => 0))), (q5e_4, .inl (cA, 480, .inl (fun _ => 0))), (q5f_4, .inl (cA, 480, .inl (fun _ => 0))), (q5g_4, .inl (cA, 480, .inl (fun _ => 0))), (q5h_4, .inl (cA, 480, .inl (fun _ => 0))), (q5i_4, .inl (cA, 250, .inl (fun _ => 0)))] := hD
  refine W.widen (k := 24) (n := 4720) (by omega) (by omega) ?_
  refine lv_astore_n (lv' := [(2, .ref n_3), (1, .ref n_1), (0, .ref b)]) hx hb dL_law_15 rfl hl (by decide) rfl (fun ls hl => ?_)
  refine lv_iconst (v := 0) hx hb dL_law_16 (by decide) ?_
  refine lv_istore_n (lv' := [(3, .int 0), (2, .ref n_3), (1, .ref n_1), (0, .ref b)]) hx hb dL_law_17 rfl hl (by decide) rfl (fun ls hl => ?_)
  exact law_loop hd hL C0 hN hK n_1 q2_2 q2a_2 q2b_2 q2c_2 q0_2 q0a_2 q0b_2 q0c_2 q0d_2 q0e_2 q3_2 q3a_2 q1_2 n_3 q5a_4 q5b_4 q5c_4 q5d_4 q5e_4 q5f_4 q5g_4 q5h_4 q5i_4 513 0 0 nI_0.symm (by omega) (by omega) 0 0 0 0 0 0 0 0 0 0 0 0 0 pl0 (fun _ => 0) (fun _ => 0) (fun _ => 0) (fun _ => 0) (fun _ => 0) (fun _ => 0) (fun _ => 0) (fun _ => 0) OI_0 _ _ _ (hP.sub [0, 1, 2, 3, 4, 5, 6, 7, 8, 9, 10, 11, 12, 13, 14, 15, 16, 17, 18, 19, 20, 21, 22, 23] rfl) (hD.sub [0, 1, 2, 3, 4, 5, 6, 7, 8, 9, 10, 11, 12, 13, 14, 15, 16, 17, 18, 19, 20, 21, 22, 23] (by decide) rfl) hS (lv_sub hl [3, 2, 1, 0] rfl)
set_option maxHeartbeats 4000000 in
theorem lw_walk (l : Launch) (b : Addr) (xs : List Int32) : MetFree l x (headSpec (Jvm.Cond.code x code maxLocals ret :: tables_1) room_1) (lw_P b xs) (fun _ _ _ _ _ => True) lw_Q := by
  refine MetFree.of_bodyS (code := code) (maxLocals := maxLocals) (ret := ret) (by decide) ?_ ?_
  · intro args s m h hn
    obtain ⟨meth, c, h1, h2, h3, h4, h5, h6, -, -⟩ := Cond.code_spec hn (atoms_spec (ws := Jvm.Cond.code x code maxLocals ret :: tables_1) h _ List.mem_cons_self)
    exact ⟨meth, c, h1, h2, h3, h4, h5, h6⟩
  · intro p e s m args below meth c s₁ B hml0 hP _
    obtain ⟨rfl, hx, hbd, hgv⟩ := hP
    obtain ⟨scr, harrAt, hlist, hof, hsmall⟩ := hx
    obtain ⟨hcb, hkn, -, -⟩ := State.arrayAt?_spec harrAt
    have hown : s.vm.findClass R_law = some m.cls := findClass_of_methodNamed B.named
    have hts0 : ∀ c ∈ (Jvm.Cond.code x code maxLocals ret :: tables_1), c.before #[Value.ref b] s = true := atoms_spec (ws := Jvm.Cond.code x code maxLocals ret :: tables_1) B.pre
    have hts : ∀ w ∈ lw_tbl, w.before #[Value.ref b] s = true := k2_hts_sels lw_privs (fun w hw => hts0 w (List.mem_cons_of_mem _ hw)) lw_privs_ok
    have hml : c.maxLocals = 4 := B.maxLocals_eq (hts0 _ List.mem_cons_self)
    have X₀ : Stand p l e room_1 s m #[Value.ref b] below meth c s₁ [] 0 0 := Stand.of_body B
    have hh0 : s₁.heap = s.heap := by rw [B.state]; rfl
    have hsz : scr.slots.size = xs.length := by rw [← Array.length_toList, hlist, List.length_map]
    have hval : ∀ j : Nat, j < xs.length → scr.slots[j]? = some (.int (xs.getD j 0)) := fun j hj => by
      rw [← Array.getElem?_toList, hlist]
      simp [hj]
    have hbl : b < s.heap.size := (Array.getElem?_eq_some_iff.mp hcb).1
    have hX : va_X b xs.length (fun j => xs.getD j 0) s s.heap := ⟨scr, hcb, hof, hkn, hsz, hval⟩
    have K : W p l e room_1 s m #[Value.ref b] below meth c s₁.heap [] 0 0 (lw_Z below #[Value.ref b] s) (entryFrame m ([Value.ref b] : List Value).toArray 4) := by
      rw [hh0]
      exact whole_start l hbd ⟨B.exec, B.bytes, B.returns, hml, hown, hts, hX, hbl, B.notSynchronized, hgv⟩
    obtain ⟨t, a1, o, b1, b2, b3⟩ := K s₁ rfl X₀
    exact ⟨t, o, a1, b1, b2, b3⟩
theorem lw_pre_spec {args : Array Value} {s : State} (h : (Jvm.Cond.and given_1 narrow_1).before args s = true) (hr : rest_1_c.before args s = true) : ∃ (b : Addr) (xs : List Int32), lw_P b xs args s := by
  have hs := flat_of_before _ h
  have hq := flat_of_before _ hr
  have hc : (Cond.count 1).before args s = true := hs _ (by decide +kernel)
  have harr : (Cond.arrayOf (.arg 0) .int).before args s = true := hs _ (by decide +kernel)
  have hle : (Cond.le (.length (.arg 0)) (.int 3072)).before args s = true := hs _ (by decide +kernel)
  have hlen : (Cond.isInt (.length (.arg 0))).before args s = true := hq _ (by decide +kernel)
  have hall : (Cond.all (.arg 0) (.isInt (.elem (.arg 0) (.index 0)))).before args s = true := hq _ (by decide +kernel)
  obtain ⟨b, xs, hb, hx⟩ := State.ints_of_pre rfl harr hlen hall
  have hsm : xs.length < 2 ^ 31 := hx.choose_spec.2.2.2
  have hev : (Term.length (.arg 0)).eval args s none [] s = some (.int xs.length.toInt32) := hx.length_eval hb
  have hv := Cond.le_ints hev (show (Term.int 3072).eval args s none [] s = some (.int 3072) from rfl)
  have hd : xs.length.toInt32 ≤ 3072 := by
    simpa [Cond.before, Cond.holds, hv] using hle
  have hN : xs.length ≤ 3072 := (Int32.ofNat_le_ofNat hsm (by decide)).mp (show Int32.ofNat xs.length ≤ Int32.ofNat 3072 from hd)
  exact ⟨b, xs, Cond.one_arg hc (show args[0]? = some (.ref b) from hb), hx, hN, h⟩
theorem lw_comes (l : Launch) : Comes l x (Jvm.Cond.code x code maxLocals ret :: tables_1) room_1 (fun tb e args s => Calls_1 tb e args s ∧ rest_1 tb e args s ∧ Pre_1 tb e args s)
    (fun _ _ args s o t => lw_Q args s o t) := by
  intro p e ha hc hk s m args below hf hfit hheap happ hpre
  obtain ⟨b, xs, hP⟩ := lw_pre_spec hpre.2.2 hpre.2.1
  obtain ⟨k, o, h1, h2, h3, hQ⟩ := lw_walk l b xs p e ha hc hk s m args below hf ((Spec.applies_iff_loose hf).mp happ).1 hP trivial
  exact ⟨k, o, h1, h2, h3, hQ⟩
theorem lw_frame {s t : State} {o : Outcome} {args : Array Value} (h : Framed s o t [] 600000 7302250) :
    Framed s o t (fieldLocs frame_1_writes args s ++ arrayLocs frame_1_arrays args s ++ staticLocs frame_1_statics s) 600000 7302250 := h
theorem lw_limb (L : Cond) (hL : ∀ (args : Array Value) (s t : State), L.after args s (.returned (some (.int 1))) t = true) :
    ArmFor flags0 classFile x code maxLocals ret World_1 tables_1 room_1 Calls_1 rest_1 Pre_1
      (fun tb e a s o t => postC L tb e a s o t ∧ Framed s o t (fieldLocs frame_1_writes a s ++ arrayLocs frame_1_arrays a s ++ staticLocs frame_1_statics s) 600000 7302250) := by
  intro l _ _ _ p e ha hc hk s m args below hf hfit hheap happ hpre
  obtain ⟨k, o, h1, h2, h3, rfl, hF⟩ := lw_comes l p e ha hc hk s m args below hf hfit hheap happ hpre
  exact ⟨k, _, h1, h2, h3, hL args s _, lw_frame hF⟩
theorem i_vc : Claimed_1_1 ∧ Claimed_1_2 := ⟨lw_limb limb_1_1 (fun args s t => by simp [limb_1_1, Cond.after, Cond.holds, Cond.value]), lw_limb limb_1_2 (fun args s t => Cond.after_iff.mpr (by
  first | (rw [show limb_1_2 = Cond.eq .result (.int 1) from rfl, Cond.eq_ints (x := 1) (y := 1) rfl rfl]; simp; done) | (simp [limb_1_2, Cond.value, Term.eval]; done)))⟩
