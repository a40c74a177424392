def QN {S : Type} (D : va_G) (wd : S → va_W) (A : Nat → Prop) : Array Value → State → Outcome → State → Prop := va_Qv (fun _ : S => True) (fun u t => va_P D vwCl (wd u) t.heap ∧ va_D A (wd u)) A
section KN
variable {p : Program} {l : Launch} {e : Env} {R : Room} {s : State} {m : MethodId} {args : Array Value} {below : List Frame} {meth : Method} {c : Code} {H : Heap} {locs : List Loc} {cells slots : Nat} {Q : State → Prop} {pc : Nat} {ls : Array Slot} {rest st0 : List Value} {a : Array Value} {cc : ByteArray} {D : va_G} {A : Nat → Prop}
theorem kx_n {S : Type} {wd : S → va_W} {ws wc wr : va_W} {H0 : Heap} {mc ms : Nat} (hP : va_P D vwCl ws H) (hD : va_D A ws) (hS : va_S A H0 H locs) (hA : ∀ q, H0.size ≤ q → A q) (isC isR : List Nat) (hC : isC.map (fun i => ws[i]?) = wc.map some) (hR : isR.map (fun i => ws[i]?) = wr.map some) (hn : va_nd isR = true) (hdis : ∀ i ∈ isR, i ∉ isC)
    (hr : va_Run p l e R s m args below meth c H locs cells slots mc ms (F0 m pc ls st0) rest (QN D wd (va_A wc H.size) a) (va_A wc H.size))
    (kk : ∀ (u : S) (H1 : Heap) (locs1 : List Loc), va_P D vwCl (wr ++ wd u) H1 → va_D A (wr ++ wd u) → va_S A H0 H1 locs1 → W p l e R s m args below meth c H1 locs1 (cells + mc) (slots + ms) Q (F0 m (pc + 3) ls rest)) : W p l e R s m args below meth c H locs cells slots Q (F0 m pc ls st0) := by
  have hF := va_free (wc := wc) hD hS hA isC hC
  refine va_callv hr hS (fun q _ h => hF q h) hF (fun u t H1 locs1 ht hvm hw hB hz1 hk1 hS1 => ?_)
  obtain ⟨hP1, hD1⟩ := hB
  rw [ht] at hP1
  obtain ⟨hP2, hD2⟩ := va_join hP hD isC isR hC hR hn hdis hk1 hF hP1 hD1
  exact kk u H1 locs1 hP2 hD2 hS1
theorem rt_n {S : Type} {wd : S → va_W} (hexec : p.tables.exec = Jvm.exec) (hb : c.code = cc) (hr : meth.sig.returnType = none) (hlocks : meth.locks = false) (u : S) (hP : va_P D vwCl (wd u) H) (hD : va_D A (wd u)) (hS : va_S A s.heap H locs) (hdg : decode cc pc = .ok (.return_, 1)) : W p l e R s m args below meth c H locs cells slots (MQ below (QN D wd A) args s cells slots A) (F0 m pc ls []) :=
  W.vret hexec hb hr (fun t ht _ => ⟨⟨u, rfl, trivial, by rw [ht]; exact hP, hD⟩, hS.F ht⟩) hS.2.2 hdg
/-- a call whose pure answer is known -/
theorem kx_wp {S : Type} {E : Int32 × S} {wd : S → va_W} {ws wc wr : va_W} {H0 : Heap} {mc ms : Nat} {r : Int32} {u : S} (hE : E = (r, u)) (hP : va_P D vwCl ws H) (hD : va_D A ws) (hS : va_S A H0 H locs) (hA : ∀ q, H0.size ≤ q → A q) (isC isR : List Nat) (hC : isC.map (fun i => ws[i]?) = wc.map some) (hR : isR.map (fun i => ws[i]?) = wr.map some) (hn : va_nd isR = true) (hdis : ∀ i ∈ isR, i ∉ isC)
    (hr : va_Run p l e R s m args below meth c H locs cells slots mc ms (F0 m pc ls st0) rest (QWi D E wd (va_A wc H.size) a) (va_A wc H.size))
    (kk : ∀ (H1 : Heap) (locs1 : List Loc), va_P D vwCl (wr ++ wd u) H1 → va_D A (wr ++ wd u) → va_S A H0 H1 locs1 → W p l e R s m args below meth c H1 locs1 (cells + mc) (slots + ms) Q (F0 m (pc + 3) ls (.int r :: rest))) : W p l e R s m args below meth c H locs cells slots Q (F0 m pc ls st0) := by
  refine kx_wi hP hD hS hA isC isR hC hR hn hdis hr (fun r' u' H1 locs1 hw hP1 hD1 hS1 => ?_)
  rw [hE] at hw
  obtain ⟨rfl, rfl⟩ := Prod.mk.inj hw
  exact kk H1 locs1 hP1 hD1 hS1
end KN
theorem arr_one {D : va_G} {cl : List vw_C} {s : State} {c1 c2 : ClassId} (h : va_K D cl ([(c1, .int)] ++ [(c2, .int)]) s) : c1 = c2 := by
  have h1 : s.vm.findClass ("[" ++ FieldType.int.toString) = some c1 := (h.2 0 _ rfl).2
  have h2 : s.vm.findClass ("[" ++ FieldType.int.toString) = some c2 := (h.2 1 _ rfl).2
  exact Option.some.inj (h1.symm.trans h2)
def pl0 : Nat → Int32 := fun j => if j < 6 then (-1) else 0
abbrev wd_fi (cA : ClassId) (q9 : Nat) : ((Nat → Int32)) → va_W := fun u => [(q9, .inl (cA, 6, .inl u))]
def L_J7_fill_53178_5 : Nat → Int32 → Int32 → Int32 → (Nat → Int32) → (Nat → Int32)
  | 0, v1, v2, v3, ff_l => ff_l
  | n + 1, v1, v2, v3, ff_l => (if v3 ≤ v2 then ff_l else (L_J7_fill_53178_5 n v1 (v2 + 1) v3 (upd ff_l v2.toNatClampNeg v1)))
def f_J7_fill_53178 (ff : Nat → Int32) (p1 : Int32) : (Nat → Int32) := (L_J7_fill_53178_5 7 p1 0 6 ff)
theorem fill_L : ∀ (n k : Nat) (f : Nat → Int32), k ≤ 6 → 6 < k + n → L_J7_fill_53178_5 n (-1) (nI k) 6 f = fun j => if k ≤ j ∧ j < 6 then (-1) else f j := by
  intro n
  induction n with
  | zero => intro k f h1 h2; exact absurd h2 (by omega)
  | succ n ih =>
    intro k f h1 h2
    simp only [L_J7_fill_53178_5]
    by_cases q : 6 ≤ nI k
    · simp only [if_pos q]
      have : k = 6 := by
        rw [Int32.le_iff_toInt_le, nI_ti (by omega), c6] at q
        omega
      subst this
      funext j
      rw [if_neg (by omega)]
    · simp only [if_neg q]
      have hk := lt_nI (x := nI k) (by omega) rfl q
      rw [show nI k + 1 = nI (k + 1) from nI_1 k, ih (k + 1) _ (by omega) (by omega), nI_clamp (by omega)]
      funext j
      by_cases e : j = k
      · subst e
        rw [if_neg (by omega), if_pos (by omega), pk_us]
      · rw [pk_un e]
        by_cases g : k ≤ j ∧ j < 6
        · rw [if_pos g, if_pos (by omega)]
        · rw [if_neg g, if_neg (by omega)]
theorem fill_eq : f_J7_fill_53178 (fun _ => 0) (-1) = pl0 := by
  have h := fill_L 7 0 (fun _ => 0) (by omega) (by omega)
  rw [nI_0] at h
  simp only [f_J7_fill_53178, h]
  funext j
  unfold pl0
  by_cases g : j < 6
  · rw [if_pos g, if_pos (by omega)]
  · rw [if_neg g, if_neg (by omega)]
def plk (k : Nat) : Nat → Int32 := fun j => if j < k then (-1) else 0
theorem plk_0 : (fun _ => 0) = plk 0 := by
  funext j
  unfold plk
  rw [if_neg (by omega)]
theorem plk_up {k : Nat} (hk : k < 6) : upd (plk k) (nI k).toNatClampNeg (-1) = plk (k + 1) := by
  rw [nI_clamp (by omega)]
  funext j
  by_cases e : j = k
  · subst e
    rw [pk_us]
    unfold plk
    rw [if_pos (by omega)]
  · rw [pk_un e]
    unfold plk
    by_cases g : j < k
    · rw [if_pos g, if_pos (by omega)]
    · rw [if_neg g, if_neg (by omega)]
theorem plk_6 : plk 6 = pl0 := rfl
set_option maxHeartbeats 4000000 in
set_option maxRecDepth 100000 in
theorem c_J7_fill_53178 (l : Launch) (dC : Nat → ClassId) (dI : Nat → Nat → Nat) (cA : ClassId) (q9 : Nat) (sz : Nat) (ff : Nat → Int32) (p1 : Int32) : Met l yJ7_fill_53178 wsJ7_fill_53178 ({ frames := 0, cells := 0, slots := 0, locals := 0 }) (pcW (dC, dI) [(q9, .inl (cA, 6, .inl ff))] [(cA, .int)] sz [.ref q9, .int p1]) (QWv (dC, dI) (f_J7_fill_53178 ff p1) (wd_fi cA q9) (va_A [(q9, .inl (cA, 6, .inl ff))] sz)) 0 0 (va_A [(q9, .inl (cA, 6, .inl ff))] sz) := by
  refine Met.ofW (cc := cJ7_fill_53178) (maxL := 4) (ret := none) (by decide) rfl ?_
  intro p e s m args below meth c s₁ B hml hv
  obtain ⟨rfl, hsz, hN, hP, hK, hD0⟩ := hv
  have hx := B.exec
  have hb := B.bytes
  have hr := B.returns
  have hts := atoms_spec (ws := wsJ7_fill_53178) B.pre
  have hown : s.vm.findClass RJ7 = some m.cls := findClass_of_methodNamed B.named
  have hlocks := B.notSynchronized
  subst hsz
  have hD := hD0.self (sz := s.heap.size)
  generalize hAe : va_A [(q9, .inl (cA, 6, .inl ff))] s.heap.size = A at hD ⊢
  have hA : ∀ q : Nat, s.heap.size ≤ q → A q := fun q h => by rw [← hAe]; exact Or.inr h
  have hS : va_S A s.heap s.heap [] := va_S.rf
  have hl := lv_entry ([.ref q9, .int p1]) (n := 4) (Nat.le_of_ble_eq_true rfl)
  rw [lg_entry_eq]
  generalize (lg_sl ([.ref q9, .int p1]) ++ List.replicate (4 - (lg_sl ([.ref q9, .int p1])).length) Slot.unset).toArray = ls at hl ⊢
  have hl : lv_has ls 4 [(0, .ref q9), (1, .int p1)] := hl
  refine lv_iconst (v := 0) hx hb dJ7_fill_53178_0 (by decide) ?_
  refine lv_istore_n (lv' := [(2, .int 0), (0, .ref q9), (1, .int p1)]) hx hb dJ7_fill_53178_1 rfl hl (by decide) rfl (fun ls hl => ?_)
  refine lv_aload_n hx hb dJ7_fill_53178_2 rfl (lv_at hl 1 rfl) ?_
  refine va_alen hx hb hK hP 0 0 rfl rfl (v := 6) rfl dJ7_fill_53178_3 ?_
  refine lv_istore_n (lv' := [(3, .int 6), (2, .int 0), (0, .ref q9), (1, .int p1)]) hx hb dJ7_fill_53178_4 rfl hl (by decide) rfl (fun ls hl => ?_)
  have hloop : ∀ (n : Nat) (v1 v2 v3 : Int32) (ff_l : Nat → Int32), (∃ k : Nat, k ≤ 6 ∧ v2 = nI k ∧ 6 < k + n ∧ v3 = 6) → L_J7_fill_53178_5 n v1 v2 v3 ff_l = f_J7_fill_53178 ff p1 → ∀ (H : Heap) (locs : List Loc) (ls : Array Slot), va_P (dC, dI) vwCl [(q9, .inl (cA, 6, .inl ff_l))] H → va_D A [(q9, .inl (cA, 6, .inl ff_l))] → va_S A s.heap H locs → lv_has ls 4 [(0, .ref q9), (1, .int v1), (2, .int v2), (3, .int v3)] → W p l e (headSpec wsJ7_fill_53178 ({ frames := 0, cells := 0, slots := 0, locals := 0 })).room s m ([.ref q9, .int p1] : List Value).toArray below meth c H locs 0 0 (MQ below (QWv (dC, dI) (f_J7_fill_53178 ff p1) (wd_fi cA q9) A) ([.ref q9, .int p1] : List Value).toArray s 0 0 A) (F0 m 5 ls []) := by
    intro n
    induction n with
    | zero =>
      intro v1 v2 v3 ff_l hI
      exact absurd hI (by rintro ⟨k, h1, -, h2, -⟩; omega)
    | succ n ih =>
      intro v1 v2 v3 ff_l hI hE H locs ls hP hD hS hl
      obtain ⟨k, hk1, hk2, hk3, hk4⟩ := hI
      refine lv_iload_n hx hb dJ7_fill_53178_5 rfl (lv_at hl 2 rfl) ?_
      refine lv_iload_n hx hb dJ7_fill_53178_6 rfl (lv_at hl 3 rfl) ?_
      refine lv_icmp_ge (tgt := 20) hx hb dJ7_fill_53178_7 (by decide) (fun c_1 => ?_) (fun c_1 => ?_)
      · exact rt_v hx hb hr hlocks ff_l (by rw [← hE]; simp only [L_J7_fill_53178_5, if_pos c_1]) hP hD hS dJ7_fill_53178_20
      · refine lv_aload_n hx hb dJ7_fill_53178_10 rfl (lv_at hl 0 rfl) ?_
        refine lv_iload_n hx hb dJ7_fill_53178_11 rfl (lv_at hl 2 rfl) ?_
        refine lv_iload_n hx hb dJ7_fill_53178_12 rfl (lv_at hl 1 rfl) ?_
        refine va_iast hx hb hK hP hD hS 0 0 rfl rfl (in6 (by omega) hk2 (by rw [← hk4]; exact c_1)) dJ7_fill_53178_13 (fun H locs hP hD hS => ?_)
        have hP : va_P (dC, dI) vwCl [(q9, .inl (cA, 6, .inl (upd ff_l v2.toNatClampNeg v1)))] H := hP
        have hD : va_D A [(q9, .inl (cA, 6, .inl (upd ff_l v2.toNatClampNeg v1)))] := hD
        refine lv_iinc (v := (v2 + 1)) (lv' := [(2, .int (v2 + 1)), (0, .ref q9), (1, .int v1), (3, .int v3)]) hx hb dJ7_fill_53178_14 hl (k := 2) rfl rfl (by decide) rfl (fun ls hl => ?_)
        refine lv_goto (tgt := 5) hx hb dJ7_fill_53178_17 (by decide) ?_
        exact ih v1 (v2 + 1) v3 (upd ff_l v2.toNatClampNeg v1) ⟨k + 1, by have := lt_nI (by omega) hk2 (by rw [← hk4]; exact c_1); omega, by rw [hk2]; exact nI_1 k, by omega, hk4⟩ (by rw [← hE]; simp only [L_J7_fill_53178_5, if_neg c_1]) _ _ _ hP hD hS (lv_sub hl [1, 2, 0, 3] rfl)
  exact hloop 7 p1 0 6 ff ⟨0, by omega, nI_0.symm, by omega, rfl⟩ (by simp only [f_J7_fill_53178]) _ _ _ hP hD hS (lv_sub hl [2, 3, 1, 0] rfl)
abbrev wn_X2_init (cA : ClassId) (q2 : Nat) : (Nat × Nat × Nat) → va_W := fun u => [(q2, .inr (2, [.ref u.1, .ref u.2.1, .ref u.2.2, .int 0])), (u.1, .inl (cA, 6, .inl pl0)), (u.2.1, .inl (cA, 60, .inl (fun _ => 0))), (u.2.2, .inl (cA, 60, .inl (fun _ => 0)))]
set_option maxHeartbeats 4000000 in
set_option maxRecDepth 100000 in
theorem c_X2_init (l : Launch) (dC : Nat → ClassId) (dI : Nat → Nat → Nat) (cA : ClassId) (q2 : Nat) (sz : Nat) : Met l yX2_init wsX2_init ({ frames := 1, cells := 3, slots := 126, locals := 23 }) (pcW (dC, dI) [(q2, .inr (2, [.null, .null, .null, .int 0]))] [(cA, .int)] sz [.ref q2]) (QN (dC, dI) (wn_X2_init cA q2 ) (va_A [(q2, .inr (2, [.null, .null, .null, .int 0]))] sz)) 3 126 (va_A [(q2, .inr (2, [.null, .null, .null, .int 0]))] sz) := by
  refine Met.ofW (cc := cX2_init) (maxL := 1) (ret := none) (by decide) rfl ?_
  intro p e s m args below meth c s₁ B hml hv
  obtain ⟨rfl, hsz, hN, hP, hK, hD0⟩ := hv
  have hx := B.exec
  have hb := B.bytes
  have hr := B.returns
  have hts := atoms_spec (ws := wsX2_init) B.pre
  have hown : s.vm.findClass RX2 = some m.cls := findClass_of_methodNamed B.named
  have hlocks := B.notSynchronized
  have hin : meth.name = "<init>" := (name_of_methodNamed B.named B.method).1
  subst hsz
  have hD := hD0.self (sz := s.heap.size)
  generalize hAe : va_A [(q2, .inr (2, [.null, .null, .null, .int 0]))] s.heap.size = A at hD ⊢
  have hA : ∀ q : Nat, s.heap.size ≤ q → A q := fun q h => by rw [← hAe]; exact Or.inr h
  have hS : va_S A s.heap s.heap [] := va_S.rf
  have hl := lv_entry ([.ref q2]) (n := 1) (Nat.le_of_ble_eq_true rfl)
  rw [lg_entry_eq]
  generalize (lg_sl ([.ref q2]) ++ List.replicate (1 - (lg_sl ([.ref q2])).length) Slot.unset).toArray = ls at hl ⊢
  have hl : lv_has ls 1 [(0, .ref q2)] := hl
  refine lv_aload_n hx hb dX2_init_0 rfl (lv_at hl 0 rfl) ?_
  refine W.objInit hx hb hown (hts (.methodLink RX2 3 objectInit) (by decide +kernel)) (hts (.instanceMethod objectInit) (by decide +kernel)) (hts (.code objectInit ⟨#[0xb1]⟩ 1 none) (by decide +kernel)) rfl (by rw [hml]; exact hl.1) rfl dX2_init_1 (Nat.le_of_ble_eq_true rfl) (Nat.le_of_ble_eq_true rfl) ?_
  refine W.eq (g2 := F0 m 4 ls []) rfl ?_
  refine lv_aload_n hx hb dX2_init_4 rfl (lv_at hl 0 rfl) ?_
  refine lv_bipush (v := 6) hx hb dX2_init_5 (by decide) ?_
  refine va_newa (atype := .int) (a0 := (6, .inl (fun _ => 0))) (N' := 6) (ty := .int) hx hb (hts (.arrayClass .int) (by decide +kernel)) rfl hK hP hD hS hA (fun _ => rfl) (by decide) (by decide) (by decide) (Nat.le_of_ble_eq_true rfl) (Nat.le_of_ble_eq_true rfl) dX2_init_7 (fun n_1 cA_1 H hK_1 hP hD hS => ?_)
  have e_1 := arr_one hK_1
  subst e_1
  have hP : va_P (dC, dI) vwCl [(q2, .inr (2, [.null, .null, .null, .int 0])), (n_1, .inl (cA, 6, .inl (fun _ => 0)))] H := hP
  have hD : va_D A [(q2, .inr (2, [.null, .null, .null, .int 0])), (n_1, .inl (cA, 6, .inl (fun _ => 0)))] := hD
  refine W.widen (k := 1) (n := 6) (by omega) (by omega) ?_
  refine va_putF (D := (dC, dI)) (ci := 2) (v := .ref n_1) (ty := .array .int) (C := RX2) (T := TX2) (N := 4) hx hb hts (by decide +kernel) tyX2 tyX2_ok nmX2 hown hK hP hD hS 0 rfl rfl 0 (by decide) (hts (.fieldLink RX2 9 RX2 "places" "[I") (by decide +kernel)) (fun _ h9 => h9) rfl hin rfl (by decide +kernel) rfl rfl (Nat.le_of_ble_eq_true rfl) dX2_init_9 (fun H locs hP hD hS => ?_)
  have hP : va_P (dC, dI) vwCl [(q2, .inr (2, [.ref n_1, .null, .null, .int 0])), (n_1, .inl (cA, 6, .inl (fun _ => 0)))] H := hP
  have hD : va_D A [(q2, .inr (2, [.ref n_1, .null, .null, .int 0])), (n_1, .inl (cA, 6, .inl (fun _ => 0)))] := hD
  refine lv_aload_n hx hb dX2_init_12 rfl (lv_at hl 0 rfl) ?_
  refine va_get (D := (dC, dI)) (ci := 2) (v := .ref n_1) (C := RX2) (T := TX2) (N := 4) hx hb hts (by decide +kernel) hown hK hP 0 rfl rfl 0 (by decide) (hts (.fieldLink RX2 9 RX2 "places" "[I") (by decide +kernel)) (fun _ h9 => h9) rfl dX2_init_13 ?_
  refine lv_iconst (v := (-1)) hx hb dX2_init_16 (by decide) ?_
  refine kx_wv (wr := [(q2, .inr (2, [.ref n_1, .null, .null, .int 0]))]) hP hD hS hA [1] [0] rfl rfl (by decide) (by decide) (va_runS (As := [.ref n_1, .int (-1)]) (rest := []) ⟨hx, hb, hml, hown, hts⟩ (c_J7_fill_53178 l dC dI cA n_1 H.size (fun _ => 0) (-1)) (va_cwS 2 hts gX2_init_J7_fill_53178 rfl rfl rfl (by decide +kernel) ⟨(Nat.le_of_ble_eq_true rfl), (Nat.le_of_ble_eq_true rfl)⟩) (pI hN (hP.sub (ws' := [(n_1, .inl (cA, 6, .inl (fun _ => 0)))]) [1] rfl) hK (hD.sub (ws' := [(n_1, .inl (cA, 6, .inl (fun _ => 0)))]) [1] (by decide) rfl)) rfl rfl hl.1 rfl (lv_room (Nat.le_of_ble_eq_true rfl)) dX2_init_17 ⟨(Nat.le_of_ble_eq_true rfl), (Nat.le_of_ble_eq_true rfl)⟩) (fun ff_2 H locs hw_2 hP hD hS => ?_)
  have hP : va_P (dC, dI) vwCl [(q2, .inr (2, [.ref n_1, .null, .null, .int 0])), (n_1, .inl (cA, 6, .inl ff_2))] H := hP
  have hD : va_D A [(q2, .inr (2, [.ref n_1, .null, .null, .int 0])), (n_1, .inl (cA, 6, .inl ff_2))] := hD
  have hz_2 : ff_2 = pl0 := hw_2.trans fill_eq
  subst hz_2
  refine lv_aload_n hx hb dX2_init_20 rfl (lv_at hl 0 rfl) ?_
  refine lv_bipush (v := 60) hx hb dX2_init_21 (by decide) ?_
  refine va_newa (atype := .int) (a0 := (60, .inl (fun _ => 0))) (N' := 60) (ty := .int) hx hb (hts (.arrayClass .int) (by decide +kernel)) rfl hK hP hD hS hA (fun _ => rfl) (by decide) (by decide) (by decide) (Nat.le_of_ble_eq_true rfl) (Nat.le_of_ble_eq_true rfl) dX2_init_23 (fun n_3 cA_3 H hK_3 hP hD hS => ?_)
  have e_3 := arr_one hK_3
  subst e_3
  have hP : va_P (dC, dI) vwCl [(q2, .inr (2, [.ref n_1, .null, .null, .int 0])), (n_1, .inl (cA, 6, .inl pl0)), (n_3, .inl (cA, 60, .inl (fun _ => 0)))] H := hP
  have hD : va_D A [(q2, .inr (2, [.ref n_1, .null, .null, .int 0])), (n_1, .inl (cA, 6, .inl pl0)), (n_3, .inl (cA, 60, .inl (fun _ => 0)))] := hD
  refine W.widen (k := 2) (n := 66) (by omega) (by omega) ?_
  refine va_putF (D := (dC, dI)) (ci := 2) (v := .ref n_3) (ty := .array .int) (C := RX2) (T := TX2) (N := 4) hx hb hts (by decide +kernel) tyX2 tyX2_ok nmX2 hown hK hP hD hS 0 rfl rfl 1 (by decide) (hts (.fieldLink RX2 21 RX2 "numbers" "[I") (by decide +kernel)) (fun _ h9 => h9) rfl hin rfl (by decide +kernel) rfl rfl (Nat.le_of_ble_eq_true rfl) dX2_init_25 (fun H locs hP hD hS => ?_)
  have hP : va_P (dC, dI) vwCl [(q2, .inr (2, [.ref n_1, .ref n_3, .null, .int 0])), (n_1, .inl (cA, 6, .inl pl0)), (n_3, .inl (cA, 60, .inl (fun _ => 0)))] H := hP
  have hD : va_D A [(q2, .inr (2, [.ref n_1, .ref n_3, .null, .int 0])), (n_1, .inl (cA, 6, .inl pl0)), (n_3, .inl (cA, 60, .inl (fun _ => 0)))] := hD
  refine lv_aload_n hx hb dX2_init_28 rfl (lv_at hl 0 rfl) ?_
  refine lv_bipush (v := 60) hx hb dX2_init_29 (by decide) ?_
  refine va_newa (atype := .int) (a0 := (60, .inl (fun _ => 0))) (N' := 60) (ty := .int) hx hb (hts (.arrayClass .int) (by decide +kernel)) rfl hK hP hD hS hA (fun _ => rfl) (by decide) (by decide) (by decide) (Nat.le_of_ble_eq_true rfl) (Nat.le_of_ble_eq_true rfl) dX2_init_31 (fun n_4 cA_4 H hK_4 hP hD hS => ?_)
  have e_4 := arr_one hK_4
  subst e_4
  have hP : va_P (dC, dI) vwCl [(q2, .inr (2, [.ref n_1, .ref n_3, .null, .int 0])), (n_1, .inl (cA, 6, .inl pl0)), (n_3, .inl (cA, 60, .inl (fun _ => 0))), (n_4, .inl (cA, 60, .inl (fun _ => 0)))] H := hP
  have hD : va_D A [(q2, .inr (2, [.ref n_1, .ref n_3, .null, .int 0])), (n_1, .inl (cA, 6, .inl pl0)), (n_3, .inl (cA, 60, .inl (fun _ => 0))), (n_4, .inl (cA, 60, .inl (fun _ => 0)))] := hD
  refine W.widen (k := 3) (n := 126) (by omega) (by omega) ?_
  refine va_putF (D := (dC, dI)) (ci := 2) (v := .ref n_4) (ty := .array .int) (C := RX2) (T := TX2) (N := 4) hx hb hts (by decide +kernel) tyX2 tyX2_ok nmX2 hown hK hP hD hS 0 rfl rfl 2 (by decide) (hts (.fieldLink RX2 24 RX2 "depths" "[I") (by decide +kernel)) (fun _ h9 => h9) rfl hin rfl (by decide +kernel) rfl rfl (Nat.le_of_ble_eq_true rfl) dX2_init_33 (fun H locs hP hD hS => ?_)
  have hP : va_P (dC, dI) vwCl [(q2, .inr (2, [.ref n_1, .ref n_3, .ref n_4, .int 0])), (n_1, .inl (cA, 6, .inl pl0)), (n_3, .inl (cA, 60, .inl (fun _ => 0))), (n_4, .inl (cA, 60, .inl (fun _ => 0)))] H := hP
  have hD : va_D A [(q2, .inr (2, [.ref n_1, .ref n_3, .ref n_4, .int 0])), (n_1, .inl (cA, 6, .inl pl0)), (n_3, .inl (cA, 60, .inl (fun _ => 0))), (n_4, .inl (cA, 60, .inl (fun _ => 0)))] := hD
  refine lv_aload_n hx hb dX2_init_36 rfl (lv_at hl 0 rfl) ?_
  refine lv_iconst (v := 0) hx hb dX2_init_37 (by decide) ?_
  refine va_put (D := (dC, dI)) (ci := 2) (v := .int 0) (ty := .int) (C := RX2) (T := TX2) (N := 4) hx hb hts (by decide +kernel) tyX2 tyX2_ok nmX2 hown hK hP hD hS 0 rfl rfl 3 (by decide) (hts (.fieldLink RX2 27 RX2 "made" "I") (by decide +kernel)) (fun _ h9 => h9) rfl (by decide +kernel) rfl rfl (Nat.le_of_ble_eq_true rfl) dX2_init_38 (fun H locs hP hD hS => ?_)
  have hP : va_P (dC, dI) vwCl [(q2, .inr (2, [.ref n_1, .ref n_3, .ref n_4, .int 0])), (n_1, .inl (cA, 6, .inl pl0)), (n_3, .inl (cA, 60, .inl (fun _ => 0))), (n_4, .inl (cA, 60, .inl (fun _ => 0)))] H := hP
  have hD : va_D A [(q2, .inr (2, [.ref n_1, .ref n_3, .ref n_4, .int 0])), (n_1, .inl (cA, 6, .inl pl0)), (n_3, .inl (cA, 60, .inl (fun _ => 0))), (n_4, .inl (cA, 60, .inl (fun _ => 0)))] := hD
  exact rt_n hx hb hr hlocks (n_1, n_3, n_4) hP hD hS dX2_init_41
abbrev wn_X0_init (cA : ClassId) (q0 : Nat) : (Nat × Nat × Nat × Nat × Nat) → va_W := fun u => [(q0, .inr (0, [.ref u.1, .ref u.2.1, .ref u.2.2.1, .ref u.2.2.2.1, .ref u.2.2.2.2, .int 0])), (u.1, .inl (cA, 40, .inl (fun _ => 0))), (u.2.1, .inl (cA, 480, .inl (fun _ => 0))), (u.2.2.1, .inl (cA, 480, .inl (fun _ => 0))), (u.2.2.2.1, .inl (cA, 480, .inl (fun _ => 0))), (u.2.2.2.2, .inl (cA, 480, .inl (fun _ => 0)))]
set_option maxHeartbeats 4000000 in
set_option maxRecDepth 100000 in
theorem c_X0_init (l : Launch) (dC : Nat → ClassId) (dI : Nat → Nat → Nat) (cA : ClassId) (q0 : Nat) (sz : Nat) : Met l yX0_init wsX0_init ({ frames := 1, cells := 5, slots := 1960, locals := 12 }) (pcW (dC, dI) [(q0, .inr (0, [.null, .null, .null, .null, .null, .int 0]))] [(cA, .int)] sz [.ref q0]) (QN (dC, dI) (wn_X0_init cA q0 ) (va_A [(q0, .inr (0, [.null, .null, .null, .null, .null, .int 0]))] sz)) 5 1960 (va_A [(q0, .inr (0, [.null, .null, .null, .null, .null, .int 0]))] sz) := by
  refine Met.ofW (cc := cX0_init) (maxL := 2) (ret := none) (by decide) rfl ?_
  intro p e s m args below meth c s₁ B hml hv
  obtain ⟨rfl, hsz, hN, hP, hK, hD0⟩ := hv
  have hx := B.exec
  have hb := B.bytes
  have hr := B.returns
  have hts := atoms_spec (ws := wsX0_init) B.pre
  have hown : s.vm.findClass RX0 = some m.cls := findClass_of_methodNamed B.named
  have hlocks := B.notSynchronized
  have hin : meth.name = "<init>" := (name_of_methodNamed B.named B.method).1
  subst hsz
  have hD := hD0.self (sz := s.heap.size)
  generalize hAe : va_A [(q0, .inr (0, [.null, .null, .null, .null, .null, .int 0]))] s.heap.size = A at hD ⊢
  have hA : ∀ q : Nat, s.heap.size ≤ q → A q := fun q h => by rw [← hAe]; exact Or.inr h
  have hS : va_S A s.heap s.heap [] := va_S.rf
  have hl := lv_entry ([.ref q0]) (n := 2) (Nat.le_of_ble_eq_true rfl)
  rw [lg_entry_eq]
  generalize (lg_sl ([.ref q0]) ++ List.replicate (2 - (lg_sl ([.ref q0])).length) Slot.unset).toArray = ls at hl ⊢
  have hl : lv_has ls 2 [(0, .ref q0)] := hl
  refine lv_aload_n hx hb dX0_init_0 rfl (lv_at hl 0 rfl) ?_
  refine W.objInit hx hb hown (hts (.methodLink RX0 3 objectInit) (by decide +kernel)) (hts (.instanceMethod objectInit) (by decide +kernel)) (hts (.code objectInit ⟨#[0xb1]⟩ 1 none) (by decide +kernel)) rfl (by rw [hml]; exact hl.1) rfl dX0_init_1 (Nat.le_of_ble_eq_true rfl) (Nat.le_of_ble_eq_true rfl) ?_
  refine W.eq (g2 := F0 m 4 ls []) rfl ?_
  refine lv_sipush (v := 480) hx hb dX0_init_4 (by decide) ?_
  refine lv_istore_n (lv' := [(1, .int 480), (0, .ref q0)]) hx hb dX0_init_7 rfl hl (by decide) rfl (fun ls hl => ?_)
  refine lv_aload_n hx hb dX0_init_8 rfl (lv_at hl 1 rfl) ?_
  refine lv_bipush (v := 40) hx hb dX0_init_9 (by decide) ?_
  refine va_newa (atype := .int) (a0 := (40, .inl (fun _ => 0))) (N' := 40) (ty := .int) hx hb (hts (.arrayClass .int) (by decide +kernel)) rfl hK hP hD hS hA (fun _ => rfl) (by decide) (by decide) (by decide) (Nat.le_of_ble_eq_true rfl) (Nat.le_of_ble_eq_true rfl) dX0_init_11 (fun n_1 cA_1 H hK_1 hP hD hS => ?_)
  have e_1 := arr_one hK_1
  subst e_1
  have hP : va_P (dC, dI) vwCl [(q0, .inr (0, [.null, .null, .null, .null, .null, .int 0])), (n_1, .inl (cA, 40, .inl (fun _ => 0)))] H := hP
  have hD : va_D A [(q0, .inr (0, [.null, .null, .null, .null, .null, .int 0])), (n_1, .inl (cA, 40, .inl (fun _ => 0)))] := hD
  refine W.widen (k := 1) (n := 40) (by omega) (by omega) ?_
  refine va_putF (D := (dC, dI)) (ci := 0) (v := .ref n_1) (ty := .array .int) (C := RX0) (T := TX0) (N := 6) hx hb hts (by decide +kernel) tyX0 tyX0_ok nmX0 hown hK hP hD hS 0 rfl rfl 0 (by decide) (hts (.fieldLink RX0 9 RX0 "sizes" "[I") (by decide +kernel)) (fun _ h9 => h9) rfl hin rfl (by decide +kernel) rfl rfl (Nat.le_of_ble_eq_true rfl) dX0_init_13 (fun H locs hP hD hS => ?_)
  have hP : va_P (dC, dI) vwCl [(q0, .inr (0, [.ref n_1, .null, .null, .null, .null, .int 0])), (n_1, .inl (cA, 40, .inl (fun _ => 0)))] H := hP
  have hD : va_D A [(q0, .inr (0, [.ref n_1, .null, .null, .null, .null, .int 0])), (n_1, .inl (cA, 40, .inl (fun _ => 0)))] := hD
  refine lv_aload_n hx hb dX0_init_16 rfl (lv_at hl 1 rfl) ?_
  refine lv_iload_n hx hb dX0_init_17 rfl (lv_at hl 0 rfl) ?_
  refine va_newa (atype := .int) (a0 := (480, .inl (fun _ => 0))) (N' := 480) (ty := .int) hx hb (hts (.arrayClass .int) (by decide +kernel)) rfl hK hP hD hS hA (fun _ => rfl) (by decide) (by decide) (by decide) (Nat.le_of_ble_eq_true rfl) (Nat.le_of_ble_eq_true rfl) dX0_init_18 (fun n_2 cA_2 H hK_2 hP hD hS => ?_)
  have e_2 := arr_one hK_2
  subst e_2
  have hP : va_P (dC, dI) vwCl [(q0, .inr (0, [.ref n_1, .null, .null, .null, .null, .int 0])), (n_1, .inl (cA, 40, .inl (fun _ => 0))), (n_2, .inl (cA, 480, .inl (fun _ => 0)))] H := hP
  have hD : va_D A [(q0, .inr (0, [.ref n_1, .null, .null, .null, .null, .int 0])), (n_1, .inl (cA, 40, .inl (fun _ => 0))), (n_2, .inl (cA, 480, .inl (fun _ => 0)))] := hD
  refine W.widen (k := 2) (n := 520) (by omega) (by omega) ?_
  refine va_putF (D := (dC, dI)) (ci := 0) (v := .ref n_2) (ty := .array .int) (C := RX0) (T := TX0) (N := 6) hx hb hts (by decide +kernel) tyX0 tyX0_ok nmX0 hown hK hP hD hS 0 rfl rfl 1 (by decide) (hts (.fieldLink RX0 15 RX0 "kinds" "[I") (by decide +kernel)) (fun _ h9 => h9) rfl hin rfl (by decide +kernel) rfl rfl (Nat.le_of_ble_eq_true rfl) dX0_init_20 (fun H locs hP hD hS => ?_)
  have hP : va_P (dC, dI) vwCl [(q0, .inr (0, [.ref n_1, .ref n_2, .null, .null, .null, .int 0])), (n_1, .inl (cA, 40, .inl (fun _ => 0))), (n_2, .inl (cA, 480, .inl (fun _ => 0)))] H := hP
  have hD : va_D A [(q0, .inr (0, [.ref n_1, .ref n_2, .null, .null, .null, .int 0])), (n_1, .inl (cA, 40, .inl (fun _ => 0))), (n_2, .inl (cA, 480, .inl (fun _ => 0)))] := hD
  refine lv_aload_n hx hb dX0_init_23 rfl (lv_at hl 1 rfl) ?_
  refine lv_iload_n hx hb dX0_init_24 rfl (lv_at hl 0 rfl) ?_
  refine va_newa (atype := .int) (a0 := (480, .inl (fun _ => 0))) (N' := 480) (ty := .int) hx hb (hts (.arrayClass .int) (by decide +kernel)) rfl hK hP hD hS hA (fun _ => rfl) (by decide) (by decide) (by decide) (Nat.le_of_ble_eq_true rfl) (Nat.le_of_ble_eq_true rfl) dX0_init_25 (fun n_3 cA_3 H hK_3 hP hD hS => ?_)
  have e_3 := arr_one hK_3
  subst e_3
  have hP : va_P (dC, dI) vwCl [(q0, .inr (0, [.ref n_1, .ref n_2, .null, .null, .null, .int 0])), (n_1, .inl (cA, 40, .inl (fun _ => 0))), (n_2, .inl (cA, 480, .inl (fun _ => 0))), (n_3, .inl (cA, 480, .inl (fun _ => 0)))] H := hP
  have hD : va_D A [(q0, .inr (0, [.ref n_1, .ref n_2, .null, .null, .null, .int 0])), (n_1, .inl (cA, 40, .inl (fun _ => 0))), (n_2, .inl (cA, 480, .inl (fun _ => 0))), (n_3, .inl (cA, 480, .inl (fun _ => 0)))] := hD
  refine W.widen (k := 3) (n := 1000) (by omega) (by omega) ?_
  refine va_putF (D := (dC, dI)) (ci := 0) (v := .ref n_3) (ty := .array .int) (C := RX0) (T := TX0) (N := 6) hx hb hts (by decide +kernel) tyX0 tyX0_ok nmX0 hown hK hP hD hS 0 rfl rfl 2 (by decide) (hts (.fieldLink RX0 18 RX0 "as" "[I") (by decide +kernel)) (fun _ h9 => h9) rfl hin rfl (by decide +kernel) rfl rfl (Nat.le_of_ble_eq_true rfl) dX0_init_27 (fun H locs hP hD hS => ?_)
  have hP : va_P (dC, dI) vwCl [(q0, .inr (0, [.ref n_1, .ref n_2, .ref n_3, .null, .null, .int 0])), (n_1, .inl (cA, 40, .inl (fun _ => 0))), (n_2, .inl (cA, 480, .inl (fun _ => 0))), (n_3, .inl (cA, 480, .inl (fun _ => 0)))] H := hP
  have hD : va_D A [(q0, .inr (0, [.ref n_1, .ref n_2, .ref n_3, .null, .null, .int 0])), (n_1, .inl (cA, 40, .inl (fun _ => 0))), (n_2, .inl (cA, 480, .inl (fun _ => 0))), (n_3, .inl (cA, 480, .inl (fun _ => 0)))] := hD
  refine lv_aload_n hx hb dX0_init_30 rfl (lv_at hl 1 rfl) ?_
  refine lv_iload_n hx hb dX0_init_31 rfl (lv_at hl 0 rfl) ?_
  refine va_newa (atype := .int) (a0 := (480, .inl (fun _ => 0))) (N' := 480) (ty := .int) hx hb (hts (.arrayClass .int) (by decide +kernel)) rfl hK hP hD hS hA (fun _ => rfl) (by decide) (by decide) (by decide) (Nat.le_of_ble_eq_true rfl) (Nat.le_of_ble_eq_true rfl) dX0_init_32 (fun n_4 cA_4 H hK_4 hP hD hS => ?_)
  have e_4 := arr_one hK_4
  subst e_4
  have hP : va_P (dC, dI) vwCl [(q0, .inr (0, [.ref n_1, .ref n_2, .ref n_3, .null, .null, .int 0])), (n_1, .inl (cA, 40, .inl (fun _ => 0))), (n_2, .inl (cA, 480, .inl (fun _ => 0))), (n_3, .inl (cA, 480, .inl (fun _ => 0))), (n_4, .inl (cA, 480, .inl (fun _ => 0)))] H := hP
  have hD : va_D A [(q0, .inr (0, [.ref n_1, .ref n_2, .ref n_3, .null, .null, .int 0])), (n_1, .inl (cA, 40, .inl (fun _ => 0))), (n_2, .inl (cA, 480, .inl (fun _ => 0))), (n_3, .inl (cA, 480, .inl (fun _ => 0))), (n_4, .inl (cA, 480, .inl (fun _ => 0)))] := hD
  refine W.widen (k := 4) (n := 1480) (by omega) (by omega) ?_
  refine va_putF (D := (dC, dI)) (ci := 0) (v := .ref n_4) (ty := .array .int) (C := RX0) (T := TX0) (N := 6) hx hb hts (by decide +kernel) tyX0 tyX0_ok nmX0 hown hK hP hD hS 0 rfl rfl 3 (by decide) (hts (.fieldLink RX0 21 RX0 "xs" "[I") (by decide +kernel)) (fun _ h9 => h9) rfl hin rfl (by decide +kernel) rfl rfl (Nat.le_of_ble_eq_true rfl) dX0_init_34 (fun H locs hP hD hS => ?_)
  have hP : va_P (dC, dI) vwCl [(q0, .inr (0, [.ref n_1, .ref n_2, .ref n_3, .ref n_4, .null, .int 0])), (n_1, .inl (cA, 40, .inl (fun _ => 0))), (n_2, .inl (cA, 480, .inl (fun _ => 0))), (n_3, .inl (cA, 480, .inl (fun _ => 0))), (n_4, .inl (cA, 480, .inl (fun _ => 0)))] H := hP
  have hD : va_D A [(q0, .inr (0, [.ref n_1, .ref n_2, .ref n_3, .ref n_4, .null, .int 0])), (n_1, .inl (cA, 40, .inl (fun _ => 0))), (n_2, .inl (cA, 480, .inl (fun _ => 0))), (n_3, .inl (cA, 480, .inl (fun _ => 0))), (n_4, .inl (cA, 480, .inl (fun _ => 0)))] := hD
  refine lv_aload_n hx hb dX0_init_37 rfl (lv_at hl 1 rfl) ?_
  refine lv_iload_n hx hb dX0_init_38 rfl (lv_at hl 0 rfl) ?_
  refine va_newa (atype := .int) (a0 := (480, .inl (fun _ => 0))) (N' := 480) (ty := .int) hx hb (hts (.arrayClass .int) (by decide +kernel)) rfl hK hP hD hS hA (fun _ => rfl) (by decide) (by decide) (by decide) (Nat.le_of_ble_eq_true rfl) (Nat.le_of_ble_eq_true rfl) dX0_init_39 (fun n_5 cA_5 H hK_5 hP hD hS => ?_)
  have e_5 := arr_one hK_5
  subst e_5
  have hP : va_P (dC, dI) vwCl [(q0, .inr (0, [.ref n_1, .ref n_2, .ref n_3, .ref n_4, .null, .int 0])), (n_1, .inl (cA, 40, .inl (fun _ => 0))), (n_2, .inl (cA, 480, .inl (fun _ => 0))), (n_3, .inl (cA, 480, .inl (fun _ => 0))), (n_4, .inl (cA, 480, .inl (fun _ => 0))), (n_5, .inl (cA, 480, .inl (fun _ => 0)))] H := hP
  have hD : va_D A [(q0, .inr (0, [.ref n_1, .ref n_2, .ref n_3, .ref n_4, .null, .int 0])), (n_1, .inl (cA, 40, .inl (fun _ => 0))), (n_2, .inl (cA, 480, .inl (fun _ => 0))), (n_3, .inl (cA, 480, .inl (fun _ => 0))), (n_4, .inl (cA, 480, .inl (fun _ => 0))), (n_5, .inl (cA, 480, .inl (fun _ => 0)))] := hD
  refine W.widen (k := 5) (n := 1960) (by omega) (by omega) ?_
  refine va_putF (D := (dC, dI)) (ci := 0) (v := .ref n_5) (ty := .array .int) (C := RX0) (T := TX0) (N := 6) hx hb hts (by decide +kernel) tyX0 tyX0_ok nmX0 hown hK hP hD hS 0 rfl rfl 4 (by decide) (hts (.fieldLink RX0 24 RX0 "ys" "[I") (by decide +kernel)) (fun _ h9 => h9) rfl hin rfl (by decide +kernel) rfl rfl (Nat.le_of_ble_eq_true rfl) dX0_init_41 (fun H locs hP hD hS => ?_)
  have hP : va_P (dC, dI) vwCl [(q0, .inr (0, [.ref n_1, .ref n_2, .ref n_3, .ref n_4, .ref n_5, .int 0])), (n_1, .inl (cA, 40, .inl (fun _ => 0))), (n_2, .inl (cA, 480, .inl (fun _ => 0))), (n_3, .inl (cA, 480, .inl (fun _ => 0))), (n_4, .inl (cA, 480, .inl (fun _ => 0))), (n_5, .inl (cA, 480, .inl (fun _ => 0)))] H := hP
  have hD : va_D A [(q0, .inr (0, [.ref n_1, .ref n_2, .ref n_3, .ref n_4, .ref n_5, .int 0])), (n_1, .inl (cA, 40, .inl (fun _ => 0))), (n_2, .inl (cA, 480, .inl (fun _ => 0))), (n_3, .inl (cA, 480, .inl (fun _ => 0))), (n_4, .inl (cA, 480, .inl (fun _ => 0))), (n_5, .inl (cA, 480, .inl (fun _ => 0)))] := hD
  refine lv_aload_n hx hb dX0_init_44 rfl (lv_at hl 1 rfl) ?_
  refine lv_iconst (v := 0) hx hb dX0_init_45 (by decide) ?_
  refine va_put (D := (dC, dI)) (ci := 0) (v := .int 0) (ty := .int) (C := RX0) (T := TX0) (N := 6) hx hb hts (by decide +kernel) tyX0 tyX0_ok nmX0 hown hK hP hD hS 0 rfl rfl 5 (by decide) (hts (.fieldLink RX0 27 RX0 "total" "I") (by decide +kernel)) (fun _ h9 => h9) rfl (by decide +kernel) rfl rfl (Nat.le_of_ble_eq_true rfl) dX0_init_46 (fun H locs hP hD hS => ?_)
  have hP : va_P (dC, dI) vwCl [(q0, .inr (0, [.ref n_1, .ref n_2, .ref n_3, .ref n_4, .ref n_5, .int 0])), (n_1, .inl (cA, 40, .inl (fun _ => 0))), (n_2, .inl (cA, 480, .inl (fun _ => 0))), (n_3, .inl (cA, 480, .inl (fun _ => 0))), (n_4, .inl (cA, 480, .inl (fun _ => 0))), (n_5, .inl (cA, 480, .inl (fun _ => 0)))] H := hP
  have hD : va_D A [(q0, .inr (0, [.ref n_1, .ref n_2, .ref n_3, .ref n_4, .ref n_5, .int 0])), (n_1, .inl (cA, 40, .inl (fun _ => 0))), (n_2, .inl (cA, 480, .inl (fun _ => 0))), (n_3, .inl (cA, 480, .inl (fun _ => 0))), (n_4, .inl (cA, 480, .inl (fun _ => 0))), (n_5, .inl (cA, 480, .inl (fun _ => 0)))] := hD
  exact rt_n hx hb hr hlocks (n_1, n_2, n_3, n_4, n_5) hP hD hS dX0_init_49
abbrev wn_X3_init (cA : ClassId) (q3 : Nat) : (Nat) → va_W := fun u => [(q3, .inr (3, [.ref u, .int 0, .int 0, .int 0, .int 0, .int 0, .int 0])), (u, .inl (cA, 250, .inl (fun _ => 0)))]
set_option maxHeartbeats 4000000 in
set_option maxRecDepth 100000 in
theorem c_X3_init (l : Launch) (dC : Nat → ClassId) (dI : Nat → Nat → Nat) (cA : ClassId) (q3 : Nat) (sz : Nat) : Met l yX3_init wsX3_init ({ frames := 1, cells := 1, slots := 250, locals := 20 }) (pcW (dC, dI) [(q3, .inr (3, [.null, .int 0, .int 0, .int 0, .int 0, .int 0, .int 0]))] [(cA, .int)] sz [.ref q3]) (QN (dC, dI) (wn_X3_init cA q3 ) (va_A [(q3, .inr (3, [.null, .int 0, .int 0, .int 0, .int 0, .int 0, .int 0]))] sz)) 1 250 (va_A [(q3, .inr (3, [.null, .int 0, .int 0, .int 0, .int 0, .int 0, .int 0]))] sz) := by
  refine Met.ofW (cc := cX3_init) (maxL := 1) (ret := none) (by decide) rfl ?_
  intro p e s m args below meth c s₁ B hml hv
  obtain ⟨rfl, hsz, hN, hP, hK, hD0⟩ := hv
  have hx := B.exec
  have hb := B.bytes
  have hr := B.returns
  have hts := atoms_spec (ws := wsX3_init) B.pre
  have hown : s.vm.findClass RX3 = some m.cls := findClass_of_methodNamed B.named
  have hlocks := B.notSynchronized
  have hin : meth.name = "<init>" := (name_of_methodNamed B.named B.method).1
  subst hsz
  have hD := hD0.self (sz := s.heap.size)
  generalize hAe : va_A [(q3, .inr (3, [.null, .int 0, .int 0, .int 0, .int 0, .int 0, .int 0]))] s.heap.size = A at hD ⊢
  have hA : ∀ q : Nat, s.heap.size ≤ q → A q := fun q h => by rw [← hAe]; exact Or.inr h
  have hS : va_S A s.heap s.heap [] := va_S.rf
  have hl := lv_entry ([.ref q3]) (n := 1) (Nat.le_of_ble_eq_true rfl)
  rw [lg_entry_eq]
  generalize (lg_sl ([.ref q3]) ++ List.replicate (1 - (lg_sl ([.ref q3])).length) Slot.unset).toArray = ls at hl ⊢
  have hl : lv_has ls 1 [(0, .ref q3)] := hl
  refine lv_aload_n hx hb dX3_init_0 rfl (lv_at hl 0 rfl) ?_
  refine W.objInit hx hb hown (hts (.methodLink RX3 3 objectInit) (by decide +kernel)) (hts (.instanceMethod objectInit) (by decide +kernel)) (hts (.code objectInit ⟨#[0xb1]⟩ 1 none) (by decide +kernel)) rfl (by rw [hml]; exact hl.1) rfl dX3_init_1 (Nat.le_of_ble_eq_true rfl) (Nat.le_of_ble_eq_true rfl) ?_
  refine W.eq (g2 := F0 m 4 ls []) rfl ?_
  refine lv_aload_n hx hb dX3_init_4 rfl (lv_at hl 0 rfl) ?_
  refine lv_sipush (v := 250) hx hb dX3_init_5 (by decide) ?_
  refine va_newa (atype := .int) (a0 := (250, .inl (fun _ => 0))) (N' := 250) (ty := .int) hx hb (hts (.arrayClass .int) (by decide +kernel)) rfl hK hP hD hS hA (fun _ => rfl) (by decide) (by decide) (by decide) (Nat.le_of_ble_eq_true rfl) (Nat.le_of_ble_eq_true rfl) dX3_init_8 (fun n_1 cA_1 H hK_1 hP hD hS => ?_)
  have e_1 := arr_one hK_1
  subst e_1
  have hP : va_P (dC, dI) vwCl [(q3, .inr (3, [.null, .int 0, .int 0, .int 0, .int 0, .int 0, .int 0])), (n_1, .inl (cA, 250, .inl (fun _ => 0)))] H := hP
  have hD : va_D A [(q3, .inr (3, [.null, .int 0, .int 0, .int 0, .int 0, .int 0, .int 0])), (n_1, .inl (cA, 250, .inl (fun _ => 0)))] := hD
  refine W.widen (k := 1) (n := 250) (by omega) (by omega) ?_
  refine va_putF (D := (dC, dI)) (ci := 3) (v := .ref n_1) (ty := .array .int) (C := RX3) (T := TX3) (N := 7) hx hb hts (by decide +kernel) tyX3 tyX3_ok nmX3 hown hK hP hD hS 0 rfl rfl 0 (by decide) (hts (.fieldLink RX3 9 RX3 "entries" "[I") (by decide +kernel)) (fun _ h9 => h9) rfl hin rfl (by decide +kernel) rfl rfl (Nat.le_of_ble_eq_true rfl) dX3_init_10 (fun H locs hP hD hS => ?_)
  have hP : va_P (dC, dI) vwCl [(q3, .inr (3, [.ref n_1, .int 0, .int 0, .int 0, .int 0, .int 0, .int 0])), (n_1, .inl (cA, 250, .inl (fun _ => 0)))] H := hP
  have hD : va_D A [(q3, .inr (3, [.ref n_1, .int 0, .int 0, .int 0, .int 0, .int 0, .int 0])), (n_1, .inl (cA, 250, .inl (fun _ => 0)))] := hD
  refine lv_aload_n hx hb dX3_init_13 rfl (lv_at hl 0 rfl) ?_
  refine kx_wv (wr := []) hP hD hS hA [0, 1] [] rfl rfl (by decide) (by decide) (va_runV (As := []) (rest := []) ⟨hx, hb, hml, hown, hts⟩ (c_X3_restart l dC dI cA q3 n_1 H.size 0 0 0 0 0 0 (fun _ => 0) ) (cwV 0 hts gX3_init_X3_restart rfl rfl rfl (by decide +kernel) ⟨(Nat.le_of_ble_eq_true rfl), (Nat.le_of_ble_eq_true rfl)⟩) (pW hN (hP.sub (ws' := [(q3, .inr (3, [.ref n_1, .int 0, .int 0, .int 0, .int 0, .int 0, .int 0])), (n_1, .inl (cA, 250, .inl (fun _ => 0)))]) [0, 1] rfl) hK (hD.sub (ws' := [(q3, .inr (3, [.ref n_1, .int 0, .int 0, .int 0, .int 0, .int 0, .int 0])), (n_1, .inl (cA, 250, .inl (fun _ => 0)))]) [0, 1] (by decide) rfl) (ci := 3) (q0 := 0) rfl rfl rfl) rfl rfl hl.1 rfl (lv_room (Nat.le_of_ble_eq_true rfl)) dX3_init_14 ⟨(Nat.le_of_ble_eq_true rfl), (Nat.le_of_ble_eq_true rfl)⟩) (fun u_2 H locs hw_2 hP hD hS => ?_)
  obtain ⟨et_2, sp_2, ho_2, uw_2, mo_2, cs_2, en_2⟩ := u_2
  have hP : va_P (dC, dI) vwCl [(q3, .inr (3, [.ref n_1, .int et_2, .int sp_2, .int ho_2, .int uw_2, .int mo_2, .int cs_2])), (n_1, .inl (cA, 250, .inl en_2))] H := hP
  have hD : va_D A [(q3, .inr (3, [.ref n_1, .int et_2, .int sp_2, .int ho_2, .int uw_2, .int mo_2, .int cs_2])), (n_1, .inl (cA, 250, .inl en_2))] := hD
  simp only [f_X3_restart, Prod.mk.injEq] at hw_2
  obtain ⟨rfl, rfl, rfl, rfl, rfl, rfl, rfl⟩ := hw_2
  exact rt_n hx hb hr hlocks n_1 hP hD hS dX3_init_17
abbrev wn_X1_init (cA : ClassId) (q1 : Nat) : (Nat × Nat × Nat × Nat × Nat × Nat × Nat × Nat × Nat × Nat × Nat × Nat) → va_W := fun u => [(q1, .inr (1, [.ref u.1, .ref u.2.2.2.2.1, .ref u.2.2.2.2.2.2.2.2.2.2.1, .int 0])), (u.1, .inr (2, [.ref u.2.1, .ref u.2.2.1, .ref u.2.2.2.1, .int 0])), (u.2.1, .inl (cA, 6, .inl pl0)), (u.2.2.1, .inl (cA, 60, .inl (fun _ => 0))), (u.2.2.2.1, .inl (cA, 60, .inl (fun _ => 0))), (u.2.2.2.2.1, .inr (0, [.ref u.2.2.2.2.2.1, .ref u.2.2.2.2.2.2.1, .ref u.2.2.2.2.2.2.2.1, .ref u.2.2.2.2.2.2.2.2.1, .ref u.2.2.2.2.2.2.2.2.2.1, .int 0])), (u.2.2.2.2.2.1, .inl (cA, 40, .inl (fun _ => 0))), (u.2.2.2.2.2.2.1, .inl (cA, 480, .inl (fun _ => 0))), (u.2.2.2.2.2.2.2.1, .inl (cA, 480, .inl (fun _ => 0))), (u.2.2.2.2.2.2.2.2.1, .inl (cA, 480, .inl (fun _ => 0))), (u.2.2.2.2.2.2.2.2.2.1, .inl (cA, 480, .inl (fun _ => 0))), (u.2.2.2.2.2.2.2.2.2.2.1, .inr (3, [.ref u.2.2.2.2.2.2.2.2.2.2.2, .int 0, .int 0, .int 0, .int 0, .int 0, .int 0])), (u.2.2.2.2.2.2.2.2.2.2.2, .inl (cA, 250, .inl (fun _ => 0)))]
set_option maxHeartbeats 4000000 in
set_option maxRecDepth 100000 in
theorem c_X1_init (l : Launch) (dC : Nat → ClassId) (dI : Nat → Nat → Nat) (cA : ClassId) (q1 : Nat) (sz : Nat) : Met l yX1_init wsX1_init ({ frames := 2, cells := 12, slots := 2353, locals := 43 }) (pcW (dC, dI) [(q1, .inr (1, [.null, .null, .null, .int 0]))] [(cA, .int)] sz [.ref q1]) (QN (dC, dI) (wn_X1_init cA q1 ) (va_A [(q1, .inr (1, [.null, .null, .null, .int 0]))] sz)) 12 2353 (va_A [(q1, .inr (1, [.null, .null, .null, .int 0]))] sz) := by
  refine Met.ofW (cc := cX1_init) (maxL := 1) (ret := none) (by decide) rfl ?_
  intro p e s m args below meth c s₁ B hml hv
  obtain ⟨rfl, hsz, hN, hP, hK, hD0⟩ := hv
  have hx := B.exec
  have hb := B.bytes
  have hr := B.returns
  have hts := atoms_spec (ws := wsX1_init) B.pre
  have hown : s.vm.findClass RX1 = some m.cls := findClass_of_methodNamed B.named
  have hlocks := B.notSynchronized
  have hin : meth.name = "<init>" := (name_of_methodNamed B.named B.method).1
  subst hsz
  have hD := hD0.self (sz := s.heap.size)
  generalize hAe : va_A [(q1, .inr (1, [.null, .null, .null, .int 0]))] s.heap.size = A at hD ⊢
  have hA : ∀ q : Nat, s.heap.size ≤ q → A q := fun q h => by rw [← hAe]; exact Or.inr h
  have hS : va_S A s.heap s.heap [] := va_S.rf
  have hl := lv_entry ([.ref q1]) (n := 1) (Nat.le_of_ble_eq_true rfl)
  rw [lg_entry_eq]
  generalize (lg_sl ([.ref q1]) ++ List.replicate (1 - (lg_sl ([.ref q1])).length) Slot.unset).toArray = ls at hl ⊢
  have hl : lv_has ls 1 [(0, .ref q1)] := hl
  refine lv_aload_n hx hb dX1_init_0 rfl (lv_at hl 0 rfl) ?_
  refine W.objInit hx hb hown (hts (.methodLink RX1 3 objectInit) (by decide +kernel)) (hts (.instanceMethod objectInit) (by decide +kernel)) (hts (.code objectInit ⟨#[0xb1]⟩ 1 none) (by decide +kernel)) rfl (by rw [hml]; exact hl.1) rfl dX1_init_1 (Nat.le_of_ble_eq_true rfl) (Nat.le_of_ble_eq_true rfl) ?_
  refine W.eq (g2 := F0 m 4 ls []) rfl ?_
  refine lv_aload_n hx hb dX1_init_4 rfl (lv_at hl 0 rfl) ?_
  refine va_new (ci := 2) (fs := [.null, .null, .null, .int 0]) (C := RX2) (T := TX2) (N := 4) hx hb hts (by decide +kernel) tyX2 tyX2_ok hown (hts (.classLink RX1 9 RX2) (by decide +kernel)) (hts (.instantiable RX2 4) (by decide +kernel)) (hts (.initialized RX2) (by decide +kernel)) hK hP hD hS hA rfl (fun j hj => by rcases (show j = 0 ∨ j = 1 ∨ j = 2 ∨ j = 3 by omega) with rfl | rfl | rfl | rfl <;> rfl) (Nat.le_of_ble_eq_true rfl) (Nat.le_of_ble_eq_true rfl) dX1_init_5 (fun n_1 H hP hD hS => ?_)
  have hP : va_P (dC, dI) vwCl [(q1, .inr (1, [.null, .null, .null, .int 0])), (n_1, .inr (2, [.null, .null, .null, .int 0]))] H := hP
  have hD : va_D A [(q1, .inr (1, [.null, .null, .null, .int 0])), (n_1, .inr (2, [.null, .null, .null, .int 0]))] := hD
  refine W.widen (k := 1) (n := 4) (by omega) (by omega) ?_
  refine lv_dup hx hb dX1_init_8 rfl ?_
  refine kx_n (wr := [(q1, .inr (1, [.null, .null, .null, .int 0]))]) hP hD hS hA [1] [0] rfl rfl (by decide) (by decide) (va_runIN (As := []) (rest := [.ref n_1, .ref q1]) ⟨hx, hb, hml, hown, hts⟩ (c_X2_init l dC dI cA n_1  H.size) ⟨va_cnB 0 hts gX1_init_X2_init_n11 rfl rfl rfl (hN.at 1 rfl) (hts (.initialized RX2) (by decide +kernel)) (by decide +kernel) ⟨(Nat.le_of_ble_eq_true rfl), (Nat.le_of_ble_eq_true rfl)⟩, rfl, (hts (.instanceMethod yX2_init) (by decide +kernel))⟩ (pI hN (hP.sub (ws' := [(n_1, .inr (2, [.null, .null, .null, .int 0]))]) [1] rfl) hK (hD.sub (ws' := [(n_1, .inr (2, [.null, .null, .null, .int 0]))]) [1] (by decide) rfl)) rfl rfl hl.1 rfl (lv_room (Nat.le_of_ble_eq_true rfl)) dX1_init_9 ⟨(Nat.le_of_ble_eq_true rfl), (Nat.le_of_ble_eq_true rfl)⟩) (fun u_2 H locs hP hD hS => ?_)
  obtain ⟨q2a_2, q2b_2, q2c_2⟩ := u_2
  have hP : va_P (dC, dI) vwCl [(q1, .inr (1, [.null, .null, .null, .int 0])), (n_1, .inr (2, [.ref q2a_2, .ref q2b_2, .ref q2c_2, .int 0])), (q2a_2, .inl (cA, 6, .inl pl0)), (q2b_2, .inl (cA, 60, .inl (fun _ => 0))), (q2c_2, .inl (cA, 60, .inl (fun _ => 0)))] H := hP
  have hD : va_D A [(q1, .inr (1, [.null, .null, .null, .int 0])), (n_1, .inr (2, [.ref q2a_2, .ref q2b_2, .ref q2c_2, .int 0])), (q2a_2, .inl (cA, 6, .inl pl0)), (q2b_2, .inl (cA, 60, .inl (fun _ => 0))), (q2c_2, .inl (cA, 60, .inl (fun _ => 0)))] := hD
  refine W.widen (k := 4) (n := 130) (by omega) (by omega) ?_
  refine va_putF (D := (dC, dI)) (ci := 1) (v := .ref n_1) (ty := .object "HoldBench$Shelf") (C := RX1) (T := TX1) (N := 4) hx hb hts (by decide +kernel) tyX1 tyX1_ok nmX1 hown hK hP hD hS 0 rfl rfl 0 (by decide) (hts (.fieldLink RX1 12 RX1 "shelf" "LHoldBench$Shelf;") (by decide +kernel)) (fun _ h9 => h9) rfl hin rfl (by decide +kernel) rfl rfl (Nat.le_of_ble_eq_true rfl) dX1_init_12 (fun H locs hP hD hS => ?_)
  have hP : va_P (dC, dI) vwCl [(q1, .inr (1, [.ref n_1, .null, .null, .int 0])), (n_1, .inr (2, [.ref q2a_2, .ref q2b_2, .ref q2c_2, .int 0])), (q2a_2, .inl (cA, 6, .inl pl0)), (q2b_2, .inl (cA, 60, .inl (fun _ => 0))), (q2c_2, .inl (cA, 60, .inl (fun _ => 0)))] H := hP
  have hD : va_D A [(q1, .inr (1, [.ref n_1, .null, .null, .int 0])), (n_1, .inr (2, [.ref q2a_2, .ref q2b_2, .ref q2c_2, .int 0])), (q2a_2, .inl (cA, 6, .inl pl0)), (q2b_2, .inl (cA, 60, .inl (fun _ => 0))), (q2c_2, .inl (cA, 60, .inl (fun _ => 0)))] := hD
  refine lv_aload_n hx hb dX1_init_15 rfl (lv_at hl 0 rfl) ?_
  refine va_new (ci := 0) (fs := [.null, .null, .null, .null, .null, .int 0]) (C := RX0) (T := TX0) (N := 6) hx hb hts (by decide +kernel) tyX0 tyX0_ok hown (hts (.classLink RX1 18 RX0) (by decide +kernel)) (hts (.instantiable RX0 6) (by decide +kernel)) (hts (.initialized RX0) (by decide +kernel)) hK hP hD hS hA rfl (fun j hj => by rcases (show j = 0 ∨ j = 1 ∨ j = 2 ∨ j = 3 ∨ j = 4 ∨ j = 5 by omega) with rfl | rfl | rfl | rfl | rfl | rfl <;> rfl) (Nat.le_of_ble_eq_true rfl) (Nat.le_of_ble_eq_true rfl) dX1_init_16 (fun n_3 H hP hD hS => ?_)
  have hP : va_P (dC, dI) vwCl [(q1, .inr (1, [.ref n_1, .null, .null, .int 0])), (n_1, .inr (2, [.ref q2a_2, .ref q2b_2, .ref q2c_2, .int 0])), (q2a_2, .inl (cA, 6, .inl pl0)), (q2b_2, .inl (cA, 60, .inl (fun _ => 0))), (q2c_2, .inl (cA, 60, .inl (fun _ => 0))), (n_3, .inr (0, [.null, .null, .null, .null, .null, .int 0]))] H := hP
  have hD : va_D A [(q1, .inr (1, [.ref n_1, .null, .null, .int 0])), (n_1, .inr (2, [.ref q2a_2, .ref q2b_2, .ref q2c_2, .int 0])), (q2a_2, .inl (cA, 6, .inl pl0)), (q2b_2, .inl (cA, 60, .inl (fun _ => 0))), (q2c_2, .inl (cA, 60, .inl (fun _ => 0))), (n_3, .inr (0, [.null, .null, .null, .null, .null, .int 0]))] := hD
  refine W.widen (k := 5) (n := 136) (by omega) (by omega) ?_
  refine lv_dup hx hb dX1_init_19 rfl ?_
  refine kx_n (wr := [(q1, .inr (1, [.ref n_1, .null, .null, .int 0])), (n_1, .inr (2, [.ref q2a_2, .ref q2b_2, .ref q2c_2, .int 0])), (q2a_2, .inl (cA, 6, .inl pl0)), (q2b_2, .inl (cA, 60, .inl (fun _ => 0))), (q2c_2, .inl (cA, 60, .inl (fun _ => 0)))]) hP hD hS hA [5] [0, 1, 2, 3, 4] rfl rfl (by decide) (by decide) (va_runIN (As := []) (rest := [.ref n_3, .ref q1]) ⟨hx, hb, hml, hown, hts⟩ (c_X0_init l dC dI cA n_3  H.size) ⟨va_cnB 0 hts gX1_init_X0_init_n20 rfl rfl rfl (hN.at 2 rfl) (hts (.initialized RX0) (by decide +kernel)) (by decide +kernel) ⟨(Nat.le_of_ble_eq_true rfl), (Nat.le_of_ble_eq_true rfl)⟩, rfl, (hts (.instanceMethod yX0_init) (by decide +kernel))⟩ (pI hN (hP.sub (ws' := [(n_3, .inr (0, [.null, .null, .null, .null, .null, .int 0]))]) [5] rfl) hK (hD.sub (ws' := [(n_3, .inr (0, [.null, .null, .null, .null, .null, .int 0]))]) [5] (by decide) rfl)) rfl rfl hl.1 rfl (lv_room (Nat.le_of_ble_eq_true rfl)) dX1_init_20 ⟨(Nat.le_of_ble_eq_true rfl), (Nat.le_of_ble_eq_true rfl)⟩) (fun u_4 H locs hP hD hS => ?_)
  obtain ⟨q0a_4, q0b_4, q0c_4, q0d_4, q0e_4⟩ := u_4
  have hP : va_P (dC, dI) vwCl [(q1, .inr (1, [.ref n_1, .null, .null, .int 0])), (n_1, .inr (2, [.ref q2a_2, .ref q2b_2, .ref q2c_2, .int 0])), (q2a_2, .inl (cA, 6, .inl pl0)), (q2b_2, .inl (cA, 60, .inl (fun _ => 0))), (q2c_2, .inl (cA, 60, .inl (fun _ => 0))), (n_3, .inr (0, [.ref q0a_4, .ref q0b_4, .ref q0c_4, .ref q0d_4, .ref q0e_4, .int 0])), (q0a_4, .inl (cA, 40, .inl (fun _ => 0))), (q0b_4, .inl (cA, 480, .inl (fun _ => 0))), (q0c_4, .inl (cA, 480, .inl (fun _ => 0))), (q0d_4, .inl (cA, 480, .inl (fun _ => 0))), (q0e_4, .inl (cA, 480, .inl (fun _ => 0)))] H := hP
  have hD : va_D A [(q1, .inr (1, [.ref n_1, .null, .null, .int 0])), (n_1, .inr (2, [.ref q2a_2, .ref q2b_2, .ref q2c_2, .int 0])), (q2a_2, .inl (cA, 6, .inl pl0)), (q2b_2, .inl (cA, 60, .inl (fun _ => 0))), (q2c_2, .inl (cA, 60, .inl (fun _ => 0))), (n_3, .inr (0, [.ref q0a_4, .ref q0b_4, .ref q0c_4, .ref q0d_4, .ref q0e_4, .int 0])), (q0a_4, .inl (cA, 40, .inl (fun _ => 0))), (q0b_4, .inl (cA, 480, .inl (fun _ => 0))), (q0c_4, .inl (cA, 480, .inl (fun _ => 0))), (q0d_4, .inl (cA, 480, .inl (fun _ => 0))), (q0e_4, .inl (cA, 480, .inl (fun _ => 0)))] := hD
  refine W.widen (k := 10) (n := 2096) (by omega) (by omega) ?_
  refine va_putF (D := (dC, dI)) (ci := 1) (v := .ref n_3) (ty := .object "HoldBench$Program") (C := RX1) (T := TX1) (N := 4) hx hb hts (by decide +kernel) tyX1 tyX1_ok nmX1 hown hK hP hD hS 0 rfl rfl 1 (by decide) (hts (.fieldLink RX1 21 RX1 "program" "LHoldBench$Program;") (by decide +kernel)) (fun _ h9 => h9) rfl hin rfl (by decide +kernel) rfl rfl (Nat.le_of_ble_eq_true rfl) dX1_init_23 (fun H locs hP hD hS => ?_)
  have hP : va_P (dC, dI) vwCl [(q1, .inr (1, [.ref n_1, .ref n_3, .null, .int 0])), (n_1, .inr (2, [.ref q2a_2, .ref q2b_2, .ref q2c_2, .int 0])), (q2a_2, .inl (cA, 6, .inl pl0)), (q2b_2, .inl (cA, 60, .inl (fun _ => 0))), (q2c_2, .inl (cA, 60, .inl (fun _ => 0))), (n_3, .inr (0, [.ref q0a_4, .ref q0b_4, .ref q0c_4, .ref q0d_4, .ref q0e_4, .int 0])), (q0a_4, .inl (cA, 40, .inl (fun _ => 0))), (q0b_4, .inl (cA, 480, .inl (fun _ => 0))), (q0c_4, .inl (cA, 480, .inl (fun _ => 0))), (q0d_4, .inl (cA, 480, .inl (fun _ => 0))), (q0e_4, .inl (cA, 480, .inl (fun _ => 0)))] H := hP
  have hD : va_D A [(q1, .inr (1, [.ref n_1, .ref n_3, .null, .int 0])), (n_1, .inr (2, [.ref q2a_2, .ref q2b_2, .ref q2c_2, .int 0])), (q2a_2, .inl (cA, 6, .inl pl0)), (q2b_2, .inl (cA, 60, .inl (fun _ => 0))), (q2c_2, .inl (cA, 60, .inl (fun _ => 0))), (n_3, .inr (0, [.ref q0a_4, .ref q0b_4, .ref q0c_4, .ref q0d_4, .ref q0e_4, .int 0])), (q0a_4, .inl (cA, 40, .inl (fun _ => 0))), (q0b_4, .inl (cA, 480, .inl (fun _ => 0))), (q0c_4, .inl (cA, 480, .inl (fun _ => 0))), (q0d_4, .inl (cA, 480, .inl (fun _ => 0))), (q0e_4, .inl (cA, 480, .inl (fun _ => 0)))] := hD
  refine lv_aload_n hx hb dX1_init_26 rfl (lv_at hl 0 rfl) ?_
  refine va_new (ci := 3) (fs := [.null, .int 0, .int 0, .int 0, .int 0, .int 0, .int 0]) (C := RX3) (T := TX3) (N := 7) hx hb hts (by decide +kernel) tyX3 tyX3_ok hown (hts (.classLink RX1 25 RX3) (by decide +kernel)) (hts (.instantiable RX3 7) (by decide +kernel)) (hts (.initialized RX3) (by decide +kernel)) hK hP hD hS hA rfl (fun j hj => by rcases (show j = 0 ∨ j = 1 ∨ j = 2 ∨ j = 3 ∨ j = 4 ∨ j = 5 ∨ j = 6 by omega) with rfl | rfl | rfl | rfl | rfl | rfl | rfl <;> rfl) (Nat.le_of_ble_eq_true rfl) (Nat.le_of_ble_eq_true rfl) dX1_init_27 (fun n_5 H hP hD hS => ?_)
  have hP : va_P (dC, dI) vwCl [(q1, .inr (1, [.ref n_1, .ref n_3, .null, .int 0])), (n_1, .inr (2, [.ref q2a_2, .ref q2b_2, .ref q2c_2, .int 0])), (q2a_2, .inl (cA, 6, .inl pl0)), (q2b_2, .inl (cA, 60, .inl (fun _ => 0))), (q2c_2, .inl (cA, 60, .inl (fun _ => 0))), (n_3, .inr (0, [.ref q0a_4, .ref q0b_4, .ref q0c_4, .ref q0d_4, .ref q0e_4, .int 0])), (q0a_4, .inl (cA, 40, .inl (fun _ => 0))), (q0b_4, .inl (cA, 480, .inl (fun _ => 0))), (q0c_4, .inl (cA, 480, .inl (fun _ => 0))), (q0d_4, .inl (cA, 480, .inl (fun _ => 0))), (q0e_4, .inl (cA, 480, .inl (fun _ => 0))), (n_5, .inr (3, [.null, .int 0, .int 0, .int 0, .int 0, .int 0, .int 0]))] H := hP
  have hD : va_D A [(q1, .inr (1, [.ref n_1, .ref n_3, .null, .int 0])), (n_1, .inr (2, [.ref q2a_2, .ref q2b_2, .ref q2c_2, .int 0])), (q2a_2, .inl (cA, 6, .inl pl0)), (q2b_2, .inl (cA, 60, .inl (fun _ => 0))), (q2c_2, .inl (cA, 60, .inl (fun _ => 0))), (n_3, .inr (0, [.ref q0a_4, .ref q0b_4, .ref q0c_4, .ref q0d_4, .ref q0e_4, .int 0])), (q0a_4, .inl (cA, 40, .inl (fun _ => 0))), (q0b_4, .inl (cA, 480, .inl (fun _ => 0))), (q0c_4, .inl (cA, 480, .inl (fun _ => 0))), (q0d_4, .inl (cA, 480, .inl (fun _ => 0))), (q0e_4, .inl (cA, 480, .inl (fun _ => 0))), (n_5, .inr (3, [.null, .int 0, .int 0, .int 0, .int 0, .int 0, .int 0]))] := hD
  refine W.widen (k := 11) (n := 2103) (by omega) (by omega) ?_
  refine lv_dup hx hb dX1_init_30 rfl ?_
  refine kx_n (wr := [(q1, .inr (1, [.ref n_1, .ref n_3, .null, .int 0])), (n_1, .inr (2, [.ref q2a_2, .ref q2b_2, .ref q2c_2, .int 0])), (q2a_2, .inl (cA, 6, .inl pl0)), (q2b_2, .inl (cA, 60, .inl (fun _ => 0))), (q2c_2, .inl (cA, 60, .inl (fun _ => 0))), (n_3, .inr (0, [.ref q0a_4, .ref q0b_4, .ref q0c_4, .ref q0d_4, .ref q0e_4, .int 0])), (q0a_4, .inl (cA, 40, .inl (fun _ => 0))), (q0b_4, .inl (cA, 480, .inl (fun _ => 0))), (q0c_4, .inl (cA, 480, .inl (fun _ => 0))), (q0d_4, .inl (cA, 480, .inl (fun _ => 0))), (q0e_4, .inl (cA, 480, .inl (fun _ => 0)))]) hP hD hS hA [11] [0, 1, 2, 3, 4, 5, 6, 7, 8, 9, 10] rfl rfl (by decide) (by decide) (va_runIN (As := []) (rest := [.ref n_5, .ref q1]) ⟨hx, hb, hml, hown, hts⟩ (c_X3_init l dC dI cA n_5  H.size) ⟨va_cnB 0 hts gX1_init_X3_init_n27 rfl rfl rfl (hN.at 3 rfl) (hts (.initialized RX3) (by decide +kernel)) (by decide +kernel) ⟨(Nat.le_of_ble_eq_true rfl), (Nat.le_of_ble_eq_true rfl)⟩, rfl, (hts (.instanceMethod yX3_init) (by decide +kernel))⟩ (pI hN (hP.sub (ws' := [(n_5, .inr (3, [.null, .int 0, .int 0, .int 0, .int 0, .int 0, .int 0]))]) [11] rfl) hK (hD.sub (ws' := [(n_5, .inr (3, [.null, .int 0, .int 0, .int 0, .int 0, .int 0, .int 0]))]) [11] (by decide) rfl)) rfl rfl hl.1 rfl (lv_room (Nat.le_of_ble_eq_true rfl)) dX1_init_31 ⟨(Nat.le_of_ble_eq_true rfl), (Nat.le_of_ble_eq_true rfl)⟩) (fun q3a_6 H locs hP hD hS => ?_)
  have hP : va_P (dC, dI) vwCl [(q1, .inr (1, [.ref n_1, .ref n_3, .null, .int 0])), (n_1, .inr (2, [.ref q2a_2, .ref q2b_2, .ref q2c_2, .int 0])), (q2a_2, .inl (cA, 6, .inl pl0)), (q2b_2, .inl (cA, 60, .inl (fun _ => 0))), (q2c_2, .inl (cA, 60, .inl (fun _ => 0))), (n_3, .inr (0, [.ref q0a_4, .ref q0b_4, .ref q0c_4, .ref q0d_4, .ref q0e_4, .int 0])), (q0a_4, .inl (cA, 40, .inl (fun _ => 0))), (q0b_4, .inl (cA, 480, .inl (fun _ => 0))), (q0c_4, .inl (cA, 480, .inl (fun _ => 0))), (q0d_4, .inl (cA, 480, .inl (fun _ => 0))), (q0e_4, .inl (cA, 480, .inl (fun _ => 0))), (n_5, .inr (3, [.ref q3a_6, .int 0, .int 0, .int 0, .int 0, .int 0, .int 0])), (q3a_6, .inl (cA, 250, .inl (fun _ => 0)))] H := hP
  have hD : va_D A [(q1, .inr (1, [.ref n_1, .ref n_3, .null, .int 0])), (n_1, .inr (2, [.ref q2a_2, .ref q2b_2, .ref q2c_2, .int 0])), (q2a_2, .inl (cA, 6, .inl pl0)), (q2b_2, .inl (cA, 60, .inl (fun _ => 0))), (q2c_2, .inl (cA, 60, .inl (fun _ => 0))), (n_3, .inr (0, [.ref q0a_4, .ref q0b_4, .ref q0c_4, .ref q0d_4, .ref q0e_4, .int 0])), (q0a_4, .inl (cA, 40, .inl (fun _ => 0))), (q0b_4, .inl (cA, 480, .inl (fun _ => 0))), (q0c_4, .inl (cA, 480, .inl (fun _ => 0))), (q0d_4, .inl (cA, 480, .inl (fun _ => 0))), (q0e_4, .inl (cA, 480, .inl (fun _ => 0))), (n_5, .inr (3, [.ref q3a_6, .int 0, .int 0, .int 0, .int 0, .int 0, .int 0])), (q3a_6, .inl (cA, 250, .inl (fun _ => 0)))] := hD
  refine W.widen (k := 12) (n := 2353) (by omega) (by omega) ?_
  refine va_putF (D := (dC, dI)) (ci := 1) (v := .ref n_5) (ty := .object "HoldBench$Tally") (C := RX1) (T := TX1) (N := 4) hx hb hts (by decide +kernel) tyX1 tyX1_ok nmX1 hown hK hP hD hS 0 rfl rfl 2 (by decide) (hts (.fieldLink RX1 28 RX1 "tally" "LHoldBench$Tally;") (by decide +kernel)) (fun _ h9 => h9) rfl hin rfl (by decide +kernel) rfl rfl (Nat.le_of_ble_eq_true rfl) dX1_init_34 (fun H locs hP hD hS => ?_)
  have hP : va_P (dC, dI) vwCl [(q1, .inr (1, [.ref n_1, .ref n_3, .ref n_5, .int 0])), (n_1, .inr (2, [.ref q2a_2, .ref q2b_2, .ref q2c_2, .int 0])), (q2a_2, .inl (cA, 6, .inl pl0)), (q2b_2, .inl (cA, 60, .inl (fun _ => 0))), (q2c_2, .inl (cA, 60, .inl (fun _ => 0))), (n_3, .inr (0, [.ref q0a_4, .ref q0b_4, .ref q0c_4, .ref q0d_4, .ref q0e_4, .int 0])), (q0a_4, .inl (cA, 40, .inl (fun _ => 0))), (q0b_4, .inl (cA, 480, .inl (fun _ => 0))), (q0c_4, .inl (cA, 480, .inl (fun _ => 0))), (q0d_4, .inl (cA, 480, .inl (fun _ => 0))), (q0e_4, .inl (cA, 480, .inl (fun _ => 0))), (n_5, .inr (3, [.ref q3a_6, .int 0, .int 0, .int 0, .int 0, .int 0, .int 0])), (q3a_6, .inl (cA, 250, .inl (fun _ => 0)))] H := hP
  have hD : va_D A [(q1, .inr (1, [.ref n_1, .ref n_3, .ref n_5, .int 0])), (n_1, .inr (2, [.ref q2a_2, .ref q2b_2, .ref q2c_2, .int 0])), (q2a_2, .inl (cA, 6, .inl pl0)), (q2b_2, .inl (cA, 60, .inl (fun _ => 0))), (q2c_2, .inl (cA, 60, .inl (fun _ => 0))), (n_3, .inr (0, [.ref q0a_4, .ref q0b_4, .ref q0c_4, .ref q0d_4, .ref q0e_4, .int 0])), (q0a_4, .inl (cA, 40, .inl (fun _ => 0))), (q0b_4, .inl (cA, 480, .inl (fun _ => 0))), (q0c_4, .inl (cA, 480, .inl (fun _ => 0))), (q0d_4, .inl (cA, 480, .inl (fun _ => 0))), (q0e_4, .inl (cA, 480, .inl (fun _ => 0))), (n_5, .inr (3, [.ref q3a_6, .int 0, .int 0, .int 0, .int 0, .int 0, .int 0])), (q3a_6, .inl (cA, 250, .inl (fun _ => 0)))] := hD
  refine lv_aload_n hx hb dX1_init_37 rfl (lv_at hl 0 rfl) ?_
  refine lv_iconst (v := 0) hx hb dX1_init_38 (by decide) ?_
  refine va_put (D := (dC, dI)) (ci := 1) (v := .int 0) (ty := .int) (C := RX1) (T := TX1) (N := 4) hx hb hts (by decide +kernel) tyX1 tyX1_ok nmX1 hown hK hP hD hS 0 rfl rfl 3 (by decide) (hts (.fieldLink RX1 32 RX1 "refused" "I") (by decide +kernel)) (fun _ h9 => h9) rfl (by decide +kernel) rfl rfl (Nat.le_of_ble_eq_true rfl) dX1_init_39 (fun H locs hP hD hS => ?_)
  have hP : va_P (dC, dI) vwCl [(q1, .inr (1, [.ref n_1, .ref n_3, .ref n_5, .int 0])), (n_1, .inr (2, [.ref q2a_2, .ref q2b_2, .ref q2c_2, .int 0])), (q2a_2, .inl (cA, 6, .inl pl0)), (q2b_2, .inl (cA, 60, .inl (fun _ => 0))), (q2c_2, .inl (cA, 60, .inl (fun _ => 0))), (n_3, .inr (0, [.ref q0a_4, .ref q0b_4, .ref q0c_4, .ref q0d_4, .ref q0e_4, .int 0])), (q0a_4, .inl (cA, 40, .inl (fun _ => 0))), (q0b_4, .inl (cA, 480, .inl (fun _ => 0))), (q0c_4, .inl (cA, 480, .inl (fun _ => 0))), (q0d_4, .inl (cA, 480, .inl (fun _ => 0))), (q0e_4, .inl (cA, 480, .inl (fun _ => 0))), (n_5, .inr (3, [.ref q3a_6, .int 0, .int 0, .int 0, .int 0, .int 0, .int 0])), (q3a_6, .inl (cA, 250, .inl (fun _ => 0)))] H := hP
  have hD : va_D A [(q1, .inr (1, [.ref n_1, .ref n_3, .ref n_5, .int 0])), (n_1, .inr (2, [.ref q2a_2, .ref q2b_2, .ref q2c_2, .int 0])), (q2a_2, .inl (cA, 6, .inl pl0)), (q2b_2, .inl (cA, 60, .inl (fun _ => 0))), (q2c_2, .inl (cA, 60, .inl (fun _ => 0))), (n_3, .inr (0, [.ref q0a_4, .ref q0b_4, .ref q0c_4, .ref q0d_4, .ref q0e_4, .int 0])), (q0a_4, .inl (cA, 40, .inl (fun _ => 0))), (q0b_4, .inl (cA, 480, .inl (fun _ => 0))), (q0c_4, .inl (cA, 480, .inl (fun _ => 0))), (q0d_4, .inl (cA, 480, .inl (fun _ => 0))), (q0e_4, .inl (cA, 480, .inl (fun _ => 0))), (n_5, .inr (3, [.ref q3a_6, .int 0, .int 0, .int 0, .int 0, .int 0, .int 0])), (q3a_6, .inl (cA, 250, .inl (fun _ => 0)))] := hD
  exact rt_n hx hb hr hlocks (n_1, q2a_2, q2b_2, q2c_2, n_3, q0a_4, q0b_4, q0c_4, q0d_4, q0e_4, n_5, q3a_6) hP hD hS dX1_init_42
abbrev wn_X4_init (cA : ClassId) (q4 : Nat) : (Nat × Nat × Nat × Nat × Nat × Nat × Nat × Nat × Nat × Nat × Nat × Nat × Nat) → va_W := fun u => [(q4, .inr (4, [.ref u.2.2.2.2.2.2.2.2.2.2.2.2, .ref u.1, .ref u.2.2.2.2.1, .ref u.2.2.2.2.2.2.2.2.2.2.1, .int 0])), (u.1, .inr (2, [.ref u.2.1, .ref u.2.2.1, .ref u.2.2.2.1, .int 0])), (u.2.1, .inl (cA, 6, .inl pl0)), (u.2.2.1, .inl (cA, 60, .inl (fun _ => 0))), (u.2.2.2.1, .inl (cA, 60, .inl (fun _ => 0))), (u.2.2.2.2.1, .inr (0, [.ref u.2.2.2.2.2.1, .ref u.2.2.2.2.2.2.1, .ref u.2.2.2.2.2.2.2.1, .ref u.2.2.2.2.2.2.2.2.1, .ref u.2.2.2.2.2.2.2.2.2.1, .int 0])), (u.2.2.2.2.2.1, .inl (cA, 40, .inl (fun _ => 0))), (u.2.2.2.2.2.2.1, .inl (cA, 480, .inl (fun _ => 0))), (u.2.2.2.2.2.2.2.1, .inl (cA, 480, .inl (fun _ => 0))), (u.2.2.2.2.2.2.2.2.1, .inl (cA, 480, .inl (fun _ => 0))), (u.2.2.2.2.2.2.2.2.2.1, .inl (cA, 480, .inl (fun _ => 0))), (u.2.2.2.2.2.2.2.2.2.2.1, .inr (3, [.ref u.2.2.2.2.2.2.2.2.2.2.2.1, .int 0, .int 0, .int 0, .int 0, .int 0, .int 0])), (u.2.2.2.2.2.2.2.2.2.2.2.1, .inl (cA, 250, .inl (fun _ => 0))), (u.2.2.2.2.2.2.2.2.2.2.2.2, .inr (1, [.ref u.1, .ref u.2.2.2.2.1, .ref u.2.2.2.2.2.2.2.2.2.2.1, .int 0]))]
set_option maxHeartbeats 4000000 in
set_option maxRecDepth 100000 in
theorem c_X4_init (l : Launch) (dC : Nat → ClassId) (dI : Nat → Nat → Nat) (cA : ClassId) (q4 : Nat) (sz : Nat) : Met l yX4_init wsX4_init ({ frames := 3, cells := 13, slots := 2357, locals := 63 }) (pcW (dC, dI) [(q4, .inr (4, [.null, .null, .null, .null, .int 0]))] [(cA, .int)] sz [.ref q4]) (QN (dC, dI) (wn_X4_init cA q4 ) (va_A [(q4, .inr (4, [.null, .null, .null, .null, .int 0]))] sz)) 13 2357 (va_A [(q4, .inr (4, [.null, .null, .null, .null, .int 0]))] sz) := by
  refine Met.ofW (cc := cX4_init) (maxL := 1) (ret := none) (by decide) rfl ?_
  intro p e s m args below meth c s₁ B hml hv
  obtain ⟨rfl, hsz, hN, hP, hK, hD0⟩ := hv
  have hx := B.exec
  have hb := B.bytes
  have hr := B.returns
  have hts := atoms_spec (ws := wsX4_init) B.pre
  have hown : s.vm.findClass RX4 = some m.cls := findClass_of_methodNamed B.named
  have hlocks := B.notSynchronized
  have hin : meth.name = "<init>" := (name_of_methodNamed B.named B.method).1
  subst hsz
  have hD := hD0.self (sz := s.heap.size)
  generalize hAe : va_A [(q4, .inr (4, [.null, .null, .null, .null, .int 0]))] s.heap.size = A at hD ⊢
  have hA : ∀ q : Nat, s.heap.size ≤ q → A q := fun q h => by rw [← hAe]; exact Or.inr h
  have hS : va_S A s.heap s.heap [] := va_S.rf
  have hl := lv_entry ([.ref q4]) (n := 1) (Nat.le_of_ble_eq_true rfl)
  rw [lg_entry_eq]
  generalize (lg_sl ([.ref q4]) ++ List.replicate (1 - (lg_sl ([.ref q4])).length) Slot.unset).toArray = ls at hl ⊢
  have hl : lv_has ls 1 [(0, .ref q4)] := hl
  refine lv_aload_n hx hb dX4_init_0 rfl (lv_at hl 0 rfl) ?_
  refine W.objInit hx hb hown (hts (.methodLink RX4 1 objectInit) (by decide +kernel)) (hts (.instanceMethod objectInit) (by decide +kernel)) (hts (.code objectInit ⟨#[0xb1]⟩ 1 none) (by decide +kernel)) rfl (by rw [hml]; exact hl.1) rfl dX4_init_1 (Nat.le_of_ble_eq_true rfl) (Nat.le_of_ble_eq_true rfl) ?_
  refine W.eq (g2 := F0 m 4 ls []) rfl ?_
  refine lv_aload_n hx hb dX4_init_4 rfl (lv_at hl 0 rfl) ?_
  refine va_new (ci := 1) (fs := [.null, .null, .null, .int 0]) (C := RX1) (T := TX1) (N := 4) hx hb hts (by decide +kernel) tyX1 tyX1_ok hown (hts (.classLink RX4 7 RX1) (by decide +kernel)) (hts (.instantiable RX1 4) (by decide +kernel)) (hts (.initialized RX1) (by decide +kernel)) hK hP hD hS hA rfl (fun j hj => by rcases (show j = 0 ∨ j = 1 ∨ j = 2 ∨ j = 3 by omega) with rfl | rfl | rfl | rfl <;> rfl) (Nat.le_of_ble_eq_true rfl) (Nat.le_of_ble_eq_true rfl) dX4_init_5 (fun n_1 H hP hD hS => ?_)
  have hP : va_P (dC, dI) vwCl [(q4, .inr (4, [.null, .null, .null, .null, .int 0])), (n_1, .inr (1, [.null, .null, .null, .int 0]))] H := hP
  have hD : va_D A [(q4, .inr (4, [.null, .null, .null, .null, .int 0])), (n_1, .inr (1, [.null, .null, .null, .int 0]))] := hD
  refine W.widen (k := 1) (n := 4) (by omega) (by omega) ?_
  refine lv_dup hx hb dX4_init_8 rfl ?_
  refine kx_n (wr := [(q4, .inr (4, [.null, .null, .null, .null, .int 0]))]) hP hD hS hA [1] [0] rfl rfl (by decide) (by decide) (va_runIN (As := []) (rest := [.ref n_1, .ref q4]) ⟨hx, hb, hml, hown, hts⟩ (c_X1_init l dC dI cA n_1  H.size) ⟨va_cnB 0 hts gX4_init_X1_init_n9 rfl rfl rfl (hN.at 0 rfl) (hts (.initialized RX1) (by decide +kernel)) (by decide +kernel) ⟨(Nat.le_of_ble_eq_true rfl), (Nat.le_of_ble_eq_true rfl)⟩, rfl, (hts (.instanceMethod yX1_init) (by decide +kernel))⟩ (pI hN (hP.sub (ws' := [(n_1, .inr (1, [.null, .null, .null, .int 0]))]) [1] rfl) hK (hD.sub (ws' := [(n_1, .inr (1, [.null, .null, .null, .int 0]))]) [1] (by decide) rfl)) rfl rfl hl.1 rfl (lv_room (Nat.le_of_ble_eq_true rfl)) dX4_init_9 ⟨(Nat.le_of_ble_eq_true rfl), (Nat.le_of_ble_eq_true rfl)⟩) (fun u_2 H locs hP hD hS => ?_)
  obtain ⟨q2_2, q2a_2, q2b_2, q2c_2, q0_2, q0a_2, q0b_2, q0c_2, q0d_2, q0e_2, q3_2, q3a_2⟩ := u_2
  have hP : va_P (dC, dI) vwCl [(q4, .inr (4, [.null, .null, .null, .null, .int 0])), (n_1, .inr (1, [.ref q2_2, .ref q0_2, .ref q3_2, .int 0])), (q2_2, .inr (2, [.ref q2a_2, .ref q2b_2, .ref q2c_2, .int 0])), (q2a_2, .inl (cA, 6, .inl pl0)), (q2b_2, .inl (cA, 60, .inl (fun _ => 0))), (q2c_2, .inl (cA, 60, .inl (fun _ => 0))), (q0_2, .inr (0, [.ref q0a_2, .ref q0b_2, .ref q0c_2, .ref q0d_2, .ref q0e_2, .int 0])), (q0a_2, .inl (cA, 40, .inl (fun _ => 0))), (q0b_2, .inl (cA, 480, .inl (fun _ => 0))), (q0c_2, .inl (cA, 480, .inl (fun _ => 0))), (q0d_2, .inl (cA, 480, .inl (fun _ => 0))), (q0e_2, .inl (cA, 480, .inl (fun _ => 0))), (q3_2, .inr (3, [.ref q3a_2, .int 0, .int 0, .int 0, .int 0, .int 0, .int 0])), (q3a_2, .inl (cA, 250, .inl (fun _ => 0)))] H := hP
  have hD : va_D A [(q4, .inr (4, [.null, .null, .null, .null, .int 0])), (n_1, .inr (1, [.ref q2_2, .ref q0_2, .ref q3_2, .int 0])), (q2_2, .inr (2, [.ref q2a_2, .ref q2b_2, .ref q2c_2, .int 0])), (q2a_2, .inl (cA, 6, .inl pl0)), (q2b_2, .inl (cA, 60, .inl (fun _ => 0))), (q2c_2, .inl (cA, 60, .inl (fun _ => 0))), (q0_2, .inr (0, [.ref q0a_2, .ref q0b_2, .ref q0c_2, .ref q0d_2, .ref q0e_2, .int 0])), (q0a_2, .inl (cA, 40, .inl (fun _ => 0))), (q0b_2, .inl (cA, 480, .inl (fun _ => 0))), (q0c_2, .inl (cA, 480, .inl (fun _ => 0))), (q0d_2, .inl (cA, 480, .inl (fun _ => 0))), (q0e_2, .inl (cA, 480, .inl (fun _ => 0))), (q3_2, .inr (3, [.ref q3a_2, .int 0, .int 0, .int 0, .int 0, .int 0, .int 0])), (q3a_2, .inl (cA, 250, .inl (fun _ => 0)))] := hD
  refine W.widen (k := 13) (n := 2357) (by omega) (by omega) ?_
  refine va_putF (D := (dC, dI)) (ci := 4) (v := .ref n_1) (ty := .object "HoldBench$Runner") (C := RX4) (T := TX4) (N := 5) hx hb hts (by decide +kernel) tyX4 tyX4_ok nmX4 hown hK hP hD hS 0 rfl rfl 0 (by decide) (hts (.fieldLink RX4 10 RX4 "runner" "LHoldBench$Runner;") (by decide +kernel)) (fun _ h9 => h9) rfl hin rfl (by decide +kernel) rfl rfl (Nat.le_of_ble_eq_true rfl) dX4_init_12 (fun H locs hP hD hS => ?_)
  have hP : va_P (dC, dI) vwCl [(q4, .inr (4, [.ref n_1, .null, .null, .null, .int 0])), (n_1, .inr (1, [.ref q2_2, .ref q0_2, .ref q3_2, .int 0])), (q2_2, .inr (2, [.ref q2a_2, .ref q2b_2, .ref q2c_2, .int 0])), (q2a_2, .inl (cA, 6, .inl pl0)), (q2b_2, .inl (cA, 60, .inl (fun _ => 0))), (q2c_2, .inl (cA, 60, .inl (fun _ => 0))), (q0_2, .inr (0, [.ref q0a_2, .ref q0b_2, .ref q0c_2, .ref q0d_2, .ref q0e_2, .int 0])), (q0a_2, .inl (cA, 40, .inl (fun _ => 0))), (q0b_2, .inl (cA, 480, .inl (fun _ => 0))), (q0c_2, .inl (cA, 480, .inl (fun _ => 0))), (q0d_2, .inl (cA, 480, .inl (fun _ => 0))), (q0e_2, .inl (cA, 480, .inl (fun _ => 0))), (q3_2, .inr (3, [.ref q3a_2, .int 0, .int 0, .int 0, .int 0, .int 0, .int 0])), (q3a_2, .inl (cA, 250, .inl (fun _ => 0)))] H := hP
  have hD : va_D A [(q4, .inr (4, [.ref n_1, .null, .null, .null, .int 0])), (n_1, .inr (1, [.ref q2_2, .ref q0_2, .ref q3_2, .int 0])), (q2_2, .inr (2, [.ref q2a_2, .ref q2b_2, .ref q2c_2, .int 0])), (q2a_2, .inl (cA, 6, .inl pl0)), (q2b_2, .inl (cA, 60, .inl (fun _ => 0))), (q2c_2, .inl (cA, 60, .inl (fun _ => 0))), (q0_2, .inr (0, [.ref q0a_2, .ref q0b_2, .ref q0c_2, .ref q0d_2, .ref q0e_2, .int 0])), (q0a_2, .inl (cA, 40, .inl (fun _ => 0))), (q0b_2, .inl (cA, 480, .inl (fun _ => 0))), (q0c_2, .inl (cA, 480, .inl (fun _ => 0))), (q0d_2, .inl (cA, 480, .inl (fun _ => 0))), (q0e_2, .inl (cA, 480, .inl (fun _ => 0))), (q3_2, .inr (3, [.ref q3a_2, .int 0, .int 0, .int 0, .int 0, .int 0, .int 0])), (q3a_2, .inl (cA, 250, .inl (fun _ => 0)))] := hD
  refine lv_aload_n hx hb dX4_init_15 rfl (lv_at hl 0 rfl) ?_
  refine lv_aload_n hx hb dX4_init_16 rfl (lv_at hl 0 rfl) ?_
  refine va_get (D := (dC, dI)) (ci := 4) (v := .ref n_1) (C := RX4) (T := TX4) (N := 5) hx hb hts (by decide +kernel) hown hK hP 0 rfl rfl 0 (by decide) (hts (.fieldLink RX4 10 RX4 "runner" "LHoldBench$Runner;") (by decide +kernel)) (fun _ h9 => h9) rfl dX4_init_17 ?_
  refine va_getN (D := (dC, dI)) (ci := 1) (v := .ref q2_2) (C := RX1) (T := TX1) (N := 4) hx hb hts (by decide +kernel) hown hK hP 1 rfl rfl 0 (by decide) (va_Nw.use rfl (hN.at 41 rfl)) (fun _ h9 => h9) rfl dX4_init_20 ?_
  refine va_putF (D := (dC, dI)) (ci := 4) (v := .ref q2_2) (ty := .object "HoldBench$Shelf") (C := RX4) (T := TX4) (N := 5) hx hb hts (by decide +kernel) tyX4 tyX4_ok nmX4 hown hK hP hD hS 0 rfl rfl 1 (by decide) (hts (.fieldLink RX4 20 RX4 "shelf" "LHoldBench$Shelf;") (by decide +kernel)) (fun _ h9 => h9) rfl hin rfl (by decide +kernel) rfl rfl (Nat.le_of_ble_eq_true rfl) dX4_init_23 (fun H locs hP hD hS => ?_)
  have hP : va_P (dC, dI) vwCl [(q4, .inr (4, [.ref n_1, .ref q2_2, .null, .null, .int 0])), (n_1, .inr (1, [.ref q2_2, .ref q0_2, .ref q3_2, .int 0])), (q2_2, .inr (2, [.ref q2a_2, .ref q2b_2, .ref q2c_2, .int 0])), (q2a_2, .inl (cA, 6, .inl pl0)), (q2b_2, .inl (cA, 60, .inl (fun _ => 0))), (q2c_2, .inl (cA, 60, .inl (fun _ => 0))), (q0_2, .inr (0, [.ref q0a_2, .ref q0b_2, .ref q0c_2, .ref q0d_2, .ref q0e_2, .int 0])), (q0a_2, .inl (cA, 40, .inl (fun _ => 0))), (q0b_2, .inl (cA, 480, .inl (fun _ => 0))), (q0c_2, .inl (cA, 480, .inl (fun _ => 0))), (q0d_2, .inl (cA, 480, .inl (fun _ => 0))), (q0e_2, .inl (cA, 480, .inl (fun _ => 0))), (q3_2, .inr (3, [.ref q3a_2, .int 0, .int 0, .int 0, .int 0, .int 0, .int 0])), (q3a_2, .inl (cA, 250, .inl (fun _ => 0)))] H := hP
  have hD : va_D A [(q4, .inr (4, [.ref n_1, .ref q2_2, .null, .null, .int 0])), (n_1, .inr (1, [.ref q2_2, .ref q0_2, .ref q3_2, .int 0])), (q2_2, .inr (2, [.ref q2a_2, .ref q2b_2, .ref q2c_2, .int 0])), (q2a_2, .inl (cA, 6, .inl pl0)), (q2b_2, .inl (cA, 60, .inl (fun _ => 0))), (q2c_2, .inl (cA, 60, .inl (fun _ => 0))), (q0_2, .inr (0, [.ref q0a_2, .ref q0b_2, .ref q0c_2, .ref q0d_2, .ref q0e_2, .int 0])), (q0a_2, .inl (cA, 40, .inl (fun _ => 0))), (q0b_2, .inl (cA, 480, .inl (fun _ => 0))), (q0c_2, .inl (cA, 480, .inl (fun _ => 0))), (q0d_2, .inl (cA, 480, .inl (fun _ => 0))), (q0e_2, .inl (cA, 480, .inl (fun _ => 0))), (q3_2, .inr (3, [.ref q3a_2, .int 0, .int 0, .int 0, .int 0, .int 0, .int 0])), (q3a_2, .inl (cA, 250, .inl (fun _ => 0)))] := hD
  refine lv_aload_n hx hb dX4_init_26 rfl (lv_at hl 0 rfl) ?_
  refine lv_aload_n hx hb dX4_init_27 rfl (lv_at hl 0 rfl) ?_
  refine va_get (D := (dC, dI)) (ci := 4) (v := .ref n_1) (C := RX4) (T := TX4) (N := 5) hx hb hts (by decide +kernel) hown hK hP 0 rfl rfl 0 (by decide) (hts (.fieldLink RX4 10 RX4 "runner" "LHoldBench$Runner;") (by decide +kernel)) (fun _ h9 => h9) rfl dX4_init_28 ?_
  refine va_getN (D := (dC, dI)) (ci := 1) (v := .ref q0_2) (C := RX1) (T := TX1) (N := 4) hx hb hts (by decide +kernel) hown hK hP 1 rfl rfl 1 (by decide) (va_Nw.use rfl (hN.at 42 rfl)) (fun _ h9 => h9) rfl dX4_init_31 ?_
  refine va_putF (D := (dC, dI)) (ci := 4) (v := .ref q0_2) (ty := .object "HoldBench$Program") (C := RX4) (T := TX4) (N := 5) hx hb hts (by decide +kernel) tyX4 tyX4_ok nmX4 hown hK hP hD hS 0 rfl rfl 2 (by decide) (hts (.fieldLink RX4 25 RX4 "program" "LHoldBench$Program;") (by decide +kernel)) (fun _ h9 => h9) rfl hin rfl (by decide +kernel) rfl rfl (Nat.le_of_ble_eq_true rfl) dX4_init_34 (fun H locs hP hD hS => ?_)
  have hP : va_P (dC, dI) vwCl [(q4, .inr (4, [.ref n_1, .ref q2_2, .ref q0_2, .null, .int 0])), (n_1, .inr (1, [.ref q2_2, .ref q0_2, .ref q3_2, .int 0])), (q2_2, .inr (2, [.ref q2a_2, .ref q2b_2, .ref q2c_2, .int 0])), (q2a_2, .inl (cA, 6, .inl pl0)), (q2b_2, .inl (cA, 60, .inl (fun _ => 0))), (q2c_2, .inl (cA, 60, .inl (fun _ => 0))), (q0_2, .inr (0, [.ref q0a_2, .ref q0b_2, .ref q0c_2, .ref q0d_2, .ref q0e_2, .int 0])), (q0a_2, .inl (cA, 40, .inl (fun _ => 0))), (q0b_2, .inl (cA, 480, .inl (fun _ => 0))), (q0c_2, .inl (cA, 480, .inl (fun _ => 0))), (q0d_2, .inl (cA, 480, .inl (fun _ => 0))), (q0e_2, .inl (cA, 480, .inl (fun _ => 0))), (q3_2, .inr (3, [.ref q3a_2, .int 0, .int 0, .int 0, .int 0, .int 0, .int 0])), (q3a_2, .inl (cA, 250, .inl (fun _ => 0)))] H := hP
  have hD : va_D A [(q4, .inr (4, [.ref n_1, .ref q2_2, .ref q0_2, .null, .int 0])), (n_1, .inr (1, [.ref q2_2, .ref q0_2, .ref q3_2, .int 0])), (q2_2, .inr (2, [.ref q2a_2, .ref q2b_2, .ref q2c_2, .int 0])), (q2a_2, .inl (cA, 6, .inl pl0)), (q2b_2, .inl (cA, 60, .inl (fun _ => 0))), (q2c_2, .inl (cA, 60, .inl (fun _ => 0))), (q0_2, .inr (0, [.ref q0a_2, .ref q0b_2, .ref q0c_2, .ref q0d_2, .ref q0e_2, .int 0])), (q0a_2, .inl (cA, 40, .inl (fun _ => 0))), (q0b_2, .inl (cA, 480, .inl (fun _ => 0))), (q0c_2, .inl (cA, 480, .inl (fun _ => 0))), (q0d_2, .inl (cA, 480, .inl (fun _ => 0))), (q0e_2, .inl (cA, 480, .inl (fun _ => 0))), (q3_2, .inr (3, [.ref q3a_2, .int 0, .int 0, .int 0, .int 0, .int 0, .int 0])), (q3a_2, .inl (cA, 250, .inl (fun _ => 0)))] := hD
  refine lv_aload_n hx hb dX4_init_37 rfl (lv_at hl 0 rfl) ?_
  refine lv_aload_n hx hb dX4_init_38 rfl (lv_at hl 0 rfl) ?_
  refine va_get (D := (dC, dI)) (ci := 4) (v := .ref n_1) (C := RX4) (T := TX4) (N := 5) hx hb hts (by decide +kernel) hown hK hP 0 rfl rfl 0 (by decide) (hts (.fieldLink RX4 10 RX4 "runner" "LHoldBench$Runner;") (by decide +kernel)) (fun _ h9 => h9) rfl dX4_init_39 ?_
  refine va_getN (D := (dC, dI)) (ci := 1) (v := .ref q3_2) (C := RX1) (T := TX1) (N := 4) hx hb hts (by decide +kernel) hown hK hP 1 rfl rfl 2 (by decide) (va_Nw.use rfl (hN.at 43 rfl)) (fun _ h9 => h9) rfl dX4_init_42 ?_
  refine va_putF (D := (dC, dI)) (ci := 4) (v := .ref q3_2) (ty := .object "HoldBench$Tally") (C := RX4) (T := TX4) (N := 5) hx hb hts (by decide +kernel) tyX4 tyX4_ok nmX4 hown hK hP hD hS 0 rfl rfl 3 (by decide) (hts (.fieldLink RX4 30 RX4 "tally" "LHoldBench$Tally;") (by decide +kernel)) (fun _ h9 => h9) rfl hin rfl (by decide +kernel) rfl rfl (Nat.le_of_ble_eq_true rfl) dX4_init_45 (fun H locs hP hD hS => ?_)
  have hP : va_P (dC, dI) vwCl [(q4, .inr (4, [.ref n_1, .ref q2_2, .ref q0_2, .ref q3_2, .int 0])), (n_1, .inr (1, [.ref q2_2, .ref q0_2, .ref q3_2, .int 0])), (q2_2, .inr (2, [.ref q2a_2, .ref q2b_2, .ref q2c_2, .int 0])), (q2a_2, .inl (cA, 6, .inl pl0)), (q2b_2, .inl (cA, 60, .inl (fun _ => 0))), (q2c_2, .inl (cA, 60, .inl (fun _ => 0))), (q0_2, .inr (0, [.ref q0a_2, .ref q0b_2, .ref q0c_2, .ref q0d_2, .ref q0e_2, .int 0])), (q0a_2, .inl (cA, 40, .inl (fun _ => 0))), (q0b_2, .inl (cA, 480, .inl (fun _ => 0))), (q0c_2, .inl (cA, 480, .inl (fun _ => 0))), (q0d_2, .inl (cA, 480, .inl (fun _ => 0))), (q0e_2, .inl (cA, 480, .inl (fun _ => 0))), (q3_2, .inr (3, [.ref q3a_2, .int 0, .int 0, .int 0, .int 0, .int 0, .int 0])), (q3a_2, .inl (cA, 250, .inl (fun _ => 0)))] H := hP
  have hD : va_D A [(q4, .inr (4, [.ref n_1, .ref q2_2, .ref q0_2, .ref q3_2, .int 0])), (n_1, .inr (1, [.ref q2_2, .ref q0_2, .ref q3_2, .int 0])), (q2_2, .inr (2, [.ref q2a_2, .ref q2b_2, .ref q2c_2, .int 0])), (q2a_2, .inl (cA, 6, .inl pl0)), (q2b_2, .inl (cA, 60, .inl (fun _ => 0))), (q2c_2, .inl (cA, 60, .inl (fun _ => 0))), (q0_2, .inr (0, [.ref q0a_2, .ref q0b_2, .ref q0c_2, .ref q0d_2, .ref q0e_2, .int 0])), (q0a_2, .inl (cA, 40, .inl (fun _ => 0))), (q0b_2, .inl (cA, 480, .inl (fun _ => 0))), (q0c_2, .inl (cA, 480, .inl (fun _ => 0))), (q0d_2, .inl (cA, 480, .inl (fun _ => 0))), (q0e_2, .inl (cA, 480, .inl (fun _ => 0))), (q3_2, .inr (3, [.ref q3a_2, .int 0, .int 0, .int 0, .int 0, .int 0, .int 0])), (q3a_2, .inl (cA, 250, .inl (fun _ => 0)))] := hD
  refine lv_aload_n hx hb dX4_init_48 rfl (lv_at hl 0 rfl) ?_
  refine lv_iconst (v := 0) hx hb dX4_init_49 (by decide) ?_
  refine va_put (D := (dC, dI)) (ci := 4) (v := .int 0) (ty := .int) (C := RX4) (T := TX4) (N := 5) hx hb hts (by decide +kernel) tyX4 tyX4_ok nmX4 hown hK hP hD hS 0 rfl rfl 4 (by decide) (hts (.fieldLink RX4 31 RX4 "runs" "I") (by decide +kernel)) (fun _ h9 => h9) rfl (by decide +kernel) rfl rfl (Nat.le_of_ble_eq_true rfl) dX4_init_50 (fun H locs hP hD hS => ?_)
  have hP : va_P (dC, dI) vwCl [(q4, .inr (4, [.ref n_1, .ref q2_2, .ref q0_2, .ref q3_2, .int 0])), (n_1, .inr (1, [.ref q2_2, .ref q0_2, .ref q3_2, .int 0])), (q2_2, .inr (2, [.ref q2a_2, .ref q2b_2, .ref q2c_2, .int 0])), (q2a_2, .inl (cA, 6, .inl pl0)), (q2b_2, .inl (cA, 60, .inl (fun _ => 0))), (q2c_2, .inl (cA, 60, .inl (fun _ => 0))), (q0_2, .inr (0, [.ref q0a_2, .ref q0b_2, .ref q0c_2, .ref q0d_2, .ref q0e_2, .int 0])), (q0a_2, .inl (cA, 40, .inl (fun _ => 0))), (q0b_2, .inl (cA, 480, .inl (fun _ => 0))), (q0c_2, .inl (cA, 480, .inl (fun _ => 0))), (q0d_2, .inl (cA, 480, .inl (fun _ => 0))), (q0e_2, .inl (cA, 480, .inl (fun _ => 0))), (q3_2, .inr (3, [.ref q3a_2, .int 0, .int 0, .int 0, .int 0, .int 0, .int 0])), (q3a_2, .inl (cA, 250, .inl (fun _ => 0)))] H := hP
  have hD : va_D A [(q4, .inr (4, [.ref n_1, .ref q2_2, .ref q0_2, .ref q3_2, .int 0])), (n_1, .inr (1, [.ref q2_2, .ref q0_2, .ref q3_2, .int 0])), (q2_2, .inr (2, [.ref q2a_2, .ref q2b_2, .ref q2c_2, .int 0])), (q2a_2, .inl (cA, 6, .inl pl0)), (q2b_2, .inl (cA, 60, .inl (fun _ => 0))), (q2c_2, .inl (cA, 60, .inl (fun _ => 0))), (q0_2, .inr (0, [.ref q0a_2, .ref q0b_2, .ref q0c_2, .ref q0d_2, .ref q0e_2, .int 0])), (q0a_2, .inl (cA, 40, .inl (fun _ => 0))), (q0b_2, .inl (cA, 480, .inl (fun _ => 0))), (q0c_2, .inl (cA, 480, .inl (fun _ => 0))), (q0d_2, .inl (cA, 480, .inl (fun _ => 0))), (q0e_2, .inl (cA, 480, .inl (fun _ => 0))), (q3_2, .inr (3, [.ref q3a_2, .int 0, .int 0, .int 0, .int 0, .int 0, .int 0])), (q3a_2, .inl (cA, 250, .inl (fun _ => 0)))] := hD
  exact rt_n hx hb hr hlocks (q2_2, q2a_2, q2b_2, q2c_2, q0_2, q0a_2, q0b_2, q0c_2, q0d_2, q0e_2, q3_2, q3a_2, n_1) (hP.sub [0, 2, 3, 4, 5, 6, 7, 8, 9, 10, 11, 12, 13, 1] rfl) (hD.sub [0, 2, 3, 4, 5, 6, 7, 8, 9, 10, 11, 12, 13, 1] (by decide) rfl) hS dX4_init_53
abbrev wn_X5_init (cA : ClassId) (q5 : Nat) : (Nat × Nat × Nat × Nat × Nat × Nat × Nat × Nat × Nat) → va_W := fun u => [(q5, .inr (5, [.int 0, .ref u.1, .int 0, .ref u.2.1, .ref u.2.2.1, .int 0, .ref u.2.2.2.1, .ref u.2.2.2.2.1, .ref u.2.2.2.2.2.1, .ref u.2.2.2.2.2.2.1, .ref u.2.2.2.2.2.2.2.1, .int 0, .int 0, .int 0, .ref u.2.2.2.2.2.2.2.2, .int 0, .int 0, .int 0, .int 0, .int 0, .int 0, .int 0])), (u.1, .inl (cA, 6, .inl pl0)), (u.2.1, .inl (cA, 60, .inl (fun _ => 0))), (u.2.2.1, .inl (cA, 60, .inl (fun _ => 0))), (u.2.2.2.1, .inl (cA, 40, .inl (fun _ => 0))), (u.2.2.2.2.1, .inl (cA, 480, .inl (fun _ => 0))), (u.2.2.2.2.2.1, .inl (cA, 480, .inl (fun _ => 0))), (u.2.2.2.2.2.2.1, .inl (cA, 480, .inl (fun _ => 0))), (u.2.2.2.2.2.2.2.1, .inl (cA, 480, .inl (fun _ => 0))), (u.2.2.2.2.2.2.2.2, .inl (cA, 250, .inl (fun _ => 0)))]
set_option maxHeartbeats 4000000 in
set_option maxRecDepth 100000 in
theorem c_X5_init (l : Launch) (dC : Nat → ClassId) (dI : Nat → Nat → Nat) (cA : ClassId) (q5 : Nat) (sz : Nat) : Met l yX5_init wsX5_init ({ frames := 1, cells := 9, slots := 2336, locals := 12 }) (pcW (dC, dI) [(q5, .inr (5, [.int 0, .null, .int 0, .null, .null, .int 0, .null, .null, .null, .null, .null, .int 0, .int 0, .int 0, .null, .int 0, .int 0, .int 0, .int 0, .int 0, .int 0, .int 0]))] [(cA, .int)] sz [.ref q5]) (QN (dC, dI) (wn_X5_init cA q5 ) (va_A [(q5, .inr (5, [.int 0, .null, .int 0, .null, .null, .int 0, .null, .null, .null, .null, .null, .int 0, .int 0, .int 0, .null, .int 0, .int 0, .int 0, .int 0, .int 0, .int 0, .int 0]))] sz)) 9 2336 (va_A [(q5, .inr (5, [.int 0, .null, .int 0, .null, .null, .int 0, .null, .null, .null, .null, .null, .int 0, .int 0, .int 0, .null, .int 0, .int 0, .int 0, .int 0, .int 0, .int 0, .int 0]))] sz) := by
  refine Met.ofW (cc := cX5_init) (maxL := 2) (ret := none) (by decide) rfl ?_
  intro p e s m args below meth c s₁ B hml hv
  obtain ⟨rfl, hsz, hN, hP, hK, hD0⟩ := hv
  have hx := B.exec
  have hb := B.bytes
  have hr := B.returns
  have hts := atoms_spec (ws := wsX5_init) B.pre
  have hown : s.vm.findClass RX5 = some m.cls := findClass_of_methodNamed B.named
  have hlocks := B.notSynchronized
  have hin : meth.name = "<init>" := (name_of_methodNamed B.named B.method).1
  subst hsz
  have hD := hD0.self (sz := s.heap.size)
  generalize hAe : va_A [(q5, .inr (5, [.int 0, .null, .int 0, .null, .null, .int 0, .null, .null, .null, .null, .null, .int 0, .int 0, .int 0, .null, .int 0, .int 0, .int 0, .int 0, .int 0, .int 0, .int 0]))] s.heap.size = A at hD ⊢
  have hA : ∀ q : Nat, s.heap.size ≤ q → A q := fun q h => by rw [← hAe]; exact Or.inr h
  have hS : va_S A s.heap s.heap [] := va_S.rf
  have hl := lv_entry ([.ref q5]) (n := 2) (Nat.le_of_ble_eq_true rfl)
  rw [lg_entry_eq]
  generalize (lg_sl ([.ref q5]) ++ List.replicate (2 - (lg_sl ([.ref q5])).length) Slot.unset).toArray = ls at hl ⊢
  have hl : lv_has ls 2 [(0, .ref q5)] := hl
  refine lv_aload_n hx hb dX5_init_0 rfl (lv_at hl 0 rfl) ?_
  refine W.objInit hx hb hown (hts (.methodLink RX5 1 objectInit) (by decide +kernel)) (hts (.instanceMethod objectInit) (by decide +kernel)) (hts (.code objectInit ⟨#[0xb1]⟩ 1 none) (by decide +kernel)) rfl (by rw [hml]; exact hl.1) rfl dX5_init_1 (Nat.le_of_ble_eq_true rfl) (Nat.le_of_ble_eq_true rfl) ?_
  refine W.eq (g2 := F0 m 4 ls []) rfl ?_
  refine lv_aload_n hx hb dX5_init_4 rfl (lv_at hl 0 rfl) ?_
  refine lv_bipush (v := 6) hx hb dX5_init_5 (by decide) ?_
  refine va_newa (atype := .int) (a0 := (6, .inl (fun _ => 0))) (N' := 6) (ty := .int) hx hb (hts (.arrayClass .int) (by decide +kernel)) rfl hK hP hD hS hA (fun _ => rfl) (by decide) (by decide) (by decide) (Nat.le_of_ble_eq_true rfl) (Nat.le_of_ble_eq_true rfl) dX5_init_7 (fun n_1 cA_1 H hK_1 hP hD hS => ?_)
  have e_1 := arr_one hK_1
  subst e_1
  have hP : va_P (dC, dI) vwCl [(q5, .inr (5, [.int 0, .null, .int 0, .null, .null, .int 0, .null, .null, .null, .null, .null, .int 0, .int 0, .int 0, .null, .int 0, .int 0, .int 0, .int 0, .int 0, .int 0, .int 0])), (n_1, .inl (cA, 6, .inl (fun _ => 0)))] H := hP
  have hD : va_D A [(q5, .inr (5, [.int 0, .null, .int 0, .null, .null, .int 0, .null, .null, .null, .null, .null, .int 0, .int 0, .int 0, .null, .int 0, .int 0, .int 0, .int 0, .int 0, .int 0, .int 0])), (n_1, .inl (cA, 6, .inl (fun _ => 0)))] := hD
  refine W.widen (k := 1) (n := 6) (by omega) (by omega) ?_
  refine va_putF (D := (dC, dI)) (ci := 5) (v := .ref n_1) (ty := .array .int) (C := RX5) (T := TX5) (N := 22) hx hb hts (by decide +kernel) tyX5 tyX5_ok nmX5 hown hK hP hD hS 0 rfl rfl 1 (by decide) (hts (.fieldLink RX5 7 RX5 "placed" "[I") (by decide +kernel)) (fun _ h9 => h9) rfl hin rfl (by decide +kernel) rfl rfl (Nat.le_of_ble_eq_true rfl) dX5_init_9 (fun H locs hP hD hS => ?_)
  have hP : va_P (dC, dI) vwCl [(q5, .inr (5, [.int 0, .ref n_1, .int 0, .null, .null, .int 0, .null, .null, .null, .null, .null, .int 0, .int 0, .int 0, .null, .int 0, .int 0, .int 0, .int 0, .int 0, .int 0, .int 0])), (n_1, .inl (cA, 6, .inl (fun _ => 0)))] H := hP
  have hD : va_D A [(q5, .inr (5, [.int 0, .ref n_1, .int 0, .null, .null, .int 0, .null, .null, .null, .null, .null, .int 0, .int 0, .int 0, .null, .int 0, .int 0, .int 0, .int 0, .int 0, .int 0, .int 0])), (n_1, .inl (cA, 6, .inl (fun _ => 0)))] := hD
  refine lv_aload_n hx hb dX5_init_12 rfl (lv_at hl 0 rfl) ?_
  refine lv_bipush (v := 60) hx hb dX5_init_13 (by decide) ?_
  refine va_newa (atype := .int) (a0 := (60, .inl (fun _ => 0))) (N' := 60) (ty := .int) hx hb (hts (.arrayClass .int) (by decide +kernel)) rfl hK hP hD hS hA (fun _ => rfl) (by decide) (by decide) (by decide) (Nat.le_of_ble_eq_true rfl) (Nat.le_of_ble_eq_true rfl) dX5_init_15 (fun n_2 cA_2 H hK_2 hP hD hS => ?_)
  have e_2 := arr_one hK_2
  subst e_2
  have hP : va_P (dC, dI) vwCl [(q5, .inr (5, [.int 0, .ref n_1, .int 0, .null, .null, .int 0, .null, .null, .null, .null, .null, .int 0, .int 0, .int 0, .null, .int 0, .int 0, .int 0, .int 0, .int 0, .int 0, .int 0])), (n_1, .inl (cA, 6, .inl (fun _ => 0))), (n_2, .inl (cA, 60, .inl (fun _ => 0)))] H := hP
  have hD : va_D A [(q5, .inr (5, [.int 0, .ref n_1, .int 0, .null, .null, .int 0, .null, .null, .null, .null, .null, .int 0, .int 0, .int 0, .null, .int 0, .int 0, .int 0, .int 0, .int 0, .int 0, .int 0])), (n_1, .inl (cA, 6, .inl (fun _ => 0))), (n_2, .inl (cA, 60, .inl (fun _ => 0)))] := hD
  refine W.widen (k := 2) (n := 66) (by omega) (by omega) ?_
  refine va_putF (D := (dC, dI)) (ci := 5) (v := .ref n_2) (ty := .array .int) (C := RX5) (T := TX5) (N := 22) hx hb hts (by decide +kernel) tyX5 tyX5_ok nmX5 hown hK hP hD hS 0 rfl rfl 3 (by decide) (hts (.fieldLink RX5 13 RX5 "number" "[I") (by decide +kernel)) (fun _ h9 => h9) rfl hin rfl (by decide +kernel) rfl rfl (Nat.le_of_ble_eq_true rfl) dX5_init_17 (fun H locs hP hD hS => ?_)
  have hP : va_P (dC, dI) vwCl [(q5, .inr (5, [.int 0, .ref n_1, .int 0, .ref n_2, .null, .int 0, .null, .null, .null, .null, .null, .int 0, .int 0, .int 0, .null, .int 0, .int 0, .int 0, .int 0, .int 0, .int 0, .int 0])), (n_1, .inl (cA, 6, .inl (fun _ => 0))), (n_2, .inl (cA, 60, .inl (fun _ => 0)))] H := hP
  have hD : va_D A [(q5, .inr (5, [.int 0, .ref n_1, .int 0, .ref n_2, .null, .int 0, .null, .null, .null, .null, .null, .int 0, .int 0, .int 0, .null, .int 0, .int 0, .int 0, .int 0, .int 0, .int 0, .int 0])), (n_1, .inl (cA, 6, .inl (fun _ => 0))), (n_2, .inl (cA, 60, .inl (fun _ => 0)))] := hD
  refine lv_aload_n hx hb dX5_init_20 rfl (lv_at hl 0 rfl) ?_
  refine lv_bipush (v := 60) hx hb dX5_init_21 (by decide) ?_
  refine va_newa (atype := .int) (a0 := (60, .inl (fun _ => 0))) (N' := 60) (ty := .int) hx hb (hts (.arrayClass .int) (by decide +kernel)) rfl hK hP hD hS hA (fun _ => rfl) (by decide) (by decide) (by decide) (Nat.le_of_ble_eq_true rfl) (Nat.le_of_ble_eq_true rfl) dX5_init_23 (fun n_3 cA_3 H hK_3 hP hD hS => ?_)
  have e_3 := arr_one hK_3
  subst e_3
  have hP : va_P (dC, dI) vwCl [(q5, .inr (5, [.int 0, .ref n_1, .int 0, .ref n_2, .null, .int 0, .null, .null, .null, .null, .null, .int 0, .int 0, .int 0, .null, .int 0, .int 0, .int 0, .int 0, .int 0, .int 0, .int 0])), (n_1, .inl (cA, 6, .inl (fun _ => 0))), (n_2, .inl (cA, 60, .inl (fun _ => 0))), (n_3, .inl (cA, 60, .inl (fun _ => 0)))] H := hP
  have hD : va_D A [(q5, .inr (5, [.int 0, .ref n_1, .int 0, .ref n_2, .null, .int 0, .null, .null, .null, .null, .null, .int 0, .int 0, .int 0, .null, .int 0, .int 0, .int 0, .int 0, .int 0, .int 0, .int 0])), (n_1, .inl (cA, 6, .inl (fun _ => 0))), (n_2, .inl (cA, 60, .inl (fun _ => 0))), (n_3, .inl (cA, 60, .inl (fun _ => 0)))] := hD
  refine W.widen (k := 3) (n := 126) (by omega) (by omega) ?_
  refine va_putF (D := (dC, dI)) (ci := 5) (v := .ref n_3) (ty := .array .int) (C := RX5) (T := TX5) (N := 22) hx hb hts (by decide +kernel) tyX5 tyX5_ok nmX5 hown hK hP hD hS 0 rfl rfl 4 (by decide) (hts (.fieldLink RX5 16 RX5 "depth" "[I") (by decide +kernel)) (fun _ h9 => h9) rfl hin rfl (by decide +kernel) rfl rfl (Nat.le_of_ble_eq_true rfl) dX5_init_25 (fun H locs hP hD hS => ?_)
  have hP : va_P (dC, dI) vwCl [(q5, .inr (5, [.int 0, .ref n_1, .int 0, .ref n_2, .ref n_3, .int 0, .null, .null, .null, .null, .null, .int 0, .int 0, .int 0, .null, .int 0, .int 0, .int 0, .int 0, .int 0, .int 0, .int 0])), (n_1, .inl (cA, 6, .inl (fun _ => 0))), (n_2, .inl (cA, 60, .inl (fun _ => 0))), (n_3, .inl (cA, 60, .inl (fun _ => 0)))] H := hP
  have hD : va_D A [(q5, .inr (5, [.int 0, .ref n_1, .int 0, .ref n_2, .ref n_3, .int 0, .null, .null, .null, .null, .null, .int 0, .int 0, .int 0, .null, .int 0, .int 0, .int 0, .int 0, .int 0, .int 0, .int 0])), (n_1, .inl (cA, 6, .inl (fun _ => 0))), (n_2, .inl (cA, 60, .inl (fun _ => 0))), (n_3, .inl (cA, 60, .inl (fun _ => 0)))] := hD
  refine lv_aload_n hx hb dX5_init_28 rfl (lv_at hl 0 rfl) ?_
  refine lv_bipush (v := 40) hx hb dX5_init_29 (by decide) ?_
  refine va_newa (atype := .int) (a0 := (40, .inl (fun _ => 0))) (N' := 40) (ty := .int) hx hb (hts (.arrayClass .int) (by decide +kernel)) rfl hK hP hD hS hA (fun _ => rfl) (by decide) (by decide) (by decide) (Nat.le_of_ble_eq_true rfl) (Nat.le_of_ble_eq_true rfl) dX5_init_31 (fun n_4 cA_4 H hK_4 hP hD hS => ?_)
  have e_4 := arr_one hK_4
  subst e_4
  have hP : va_P (dC, dI) vwCl [(q5, .inr (5, [.int 0, .ref n_1, .int 0, .ref n_2, .ref n_3, .int 0, .null, .null, .null, .null, .null, .int 0, .int 0, .int 0, .null, .int 0, .int 0, .int 0, .int 0, .int 0, .int 0, .int 0])), (n_1, .inl (cA, 6, .inl (fun _ => 0))), (n_2, .inl (cA, 60, .inl (fun _ => 0))), (n_3, .inl (cA, 60, .inl (fun _ => 0))), (n_4, .inl (cA, 40, .inl (fun _ => 0)))] H := hP
  have hD : va_D A [(q5, .inr (5, [.int 0, .ref n_1, .int 0, .ref n_2, .ref n_3, .int 0, .null, .null, .null, .null, .null, .int 0, .int 0, .int 0, .null, .int 0, .int 0, .int 0, .int 0, .int 0, .int 0, .int 0])), (n_1, .inl (cA, 6, .inl (fun _ => 0))), (n_2, .inl (cA, 60, .inl (fun _ => 0))), (n_3, .inl (cA, 60, .inl (fun _ => 0))), (n_4, .inl (cA, 40, .inl (fun _ => 0)))] := hD
  refine W.widen (k := 4) (n := 166) (by omega) (by omega) ?_
  refine va_putF (D := (dC, dI)) (ci := 5) (v := .ref n_4) (ty := .array .int) (C := RX5) (T := TX5) (N := 22) hx hb hts (by decide +kernel) tyX5 tyX5_ok nmX5 hown hK hP hD hS 0 rfl rfl 6 (by decide) (hts (.fieldLink RX5 19 RX5 "many" "[I") (by decide +kernel)) (fun _ h9 => h9) rfl hin rfl (by decide +kernel) rfl rfl (Nat.le_of_ble_eq_true rfl) dX5_init_33 (fun H locs hP hD hS => ?_)
  have hP : va_P (dC, dI) vwCl [(q5, .inr (5, [.int 0, .ref n_1, .int 0, .ref n_2, .ref n_3, .int 0, .ref n_4, .null, .null, .null, .null, .int 0, .int 0, .int 0, .null, .int 0, .int 0, .int 0, .int 0, .int 0, .int 0, .int 0])), (n_1, .inl (cA, 6, .inl (fun _ => 0))), (n_2, .inl (cA, 60, .inl (fun _ => 0))), (n_3, .inl (cA, 60, .inl (fun _ => 0))), (n_4, .inl (cA, 40, .inl (fun _ => 0)))] H := hP
  have hD : va_D A [(q5, .inr (5, [.int 0, .ref n_1, .int 0, .ref n_2, .ref n_3, .int 0, .ref n_4, .null, .null, .null, .null, .int 0, .int 0, .int 0, .null, .int 0, .int 0, .int 0, .int 0, .int 0, .int 0, .int 0])), (n_1, .inl (cA, 6, .inl (fun _ => 0))), (n_2, .inl (cA, 60, .inl (fun _ => 0))), (n_3, .inl (cA, 60, .inl (fun _ => 0))), (n_4, .inl (cA, 40, .inl (fun _ => 0)))] := hD
  refine lv_aload_n hx hb dX5_init_36 rfl (lv_at hl 0 rfl) ?_
  refine lv_sipush (v := 480) hx hb dX5_init_37 (by decide) ?_
  refine va_newa (atype := .int) (a0 := (480, .inl (fun _ => 0))) (N' := 480) (ty := .int) hx hb (hts (.arrayClass .int) (by decide +kernel)) rfl hK hP hD hS hA (fun _ => rfl) (by decide) (by decide) (by decide) (Nat.le_of_ble_eq_true rfl) (Nat.le_of_ble_eq_true rfl) dX5_init_40 (fun n_5 cA_5 H hK_5 hP hD hS => ?_)
  have e_5 := arr_one hK_5
  subst e_5
  have hP : va_P (dC, dI) vwCl [(q5, .inr (5, [.int 0, .ref n_1, .int 0, .ref n_2, .ref n_3, .int 0, .ref n_4, .null, .null, .null, .null, .int 0, .int 0, .int 0, .null, .int 0, .int 0, .int 0, .int 0, .int 0, .int 0, .int 0])), (n_1, .inl (cA, 6, .inl (fun _ => 0))), (n_2, .inl (cA, 60, .inl (fun _ => 0))), (n_3, .inl (cA, 60, .inl (fun _ => 0))), (n_4, .inl (cA, 40, .inl (fun _ => 0))), (n_5, .inl (cA, 480, .inl (fun _ => 0)))] H := hP
  have hD : va_D A [(q5, .inr (5, [.int 0, .ref n_1, .int 0, .ref n_2, .ref n_3, .int 0, .ref n_4, .null, .null, .null, .null, .int 0, .int 0, .int 0, .null, .int 0, .int 0, .int 0, .int 0, .int 0, .int 0, .int 0])), (n_1, .inl (cA, 6, .inl (fun _ => 0))), (n_2, .inl (cA, 60, .inl (fun _ => 0))), (n_3, .inl (cA, 60, .inl (fun _ => 0))), (n_4, .inl (cA, 40, .inl (fun _ => 0))), (n_5, .inl (cA, 480, .inl (fun _ => 0)))] := hD
  refine W.widen (k := 5) (n := 646) (by omega) (by omega) ?_
  refine va_putF (D := (dC, dI)) (ci := 5) (v := .ref n_5) (ty := .array .int) (C := RX5) (T := TX5) (N := 22) hx hb hts (by decide +kernel) tyX5 tyX5_ok nmX5 hown hK hP hD hS 0 rfl rfl 7 (by decide) (hts (.fieldLink RX5 22 RX5 "kinds" "[I") (by decide +kernel)) (fun _ h9 => h9) rfl hin rfl (by decide +kernel) rfl rfl (Nat.le_of_ble_eq_true rfl) dX5_init_42 (fun H locs hP hD hS => ?_)
  have hP : va_P (dC, dI) vwCl [(q5, .inr (5, [.int 0, .ref n_1, .int 0, .ref n_2, .ref n_3, .int 0, .ref n_4, .ref n_5, .null, .null, .null, .int 0, .int 0, .int 0, .null, .int 0, .int 0, .int 0, .int 0, .int 0, .int 0, .int 0])), (n_1, .inl (cA, 6, .inl (fun _ => 0))), (n_2, .inl (cA, 60, .inl (fun _ => 0))), (n_3, .inl (cA, 60, .inl (fun _ => 0))), (n_4, .inl (cA, 40, .inl (fun _ => 0))), (n_5, .inl (cA, 480, .inl (fun _ => 0)))] H := hP
  have hD : va_D A [(q5, .inr (5, [.int 0, .ref n_1, .int 0, .ref n_2, .ref n_3, .int 0, .ref n_4, .ref n_5, .null, .null, .null, .int 0, .int 0, .int 0, .null, .int 0, .int 0, .int 0, .int 0, .int 0, .int 0, .int 0])), (n_1, .inl (cA, 6, .inl (fun _ => 0))), (n_2, .inl (cA, 60, .inl (fun _ => 0))), (n_3, .inl (cA, 60, .inl (fun _ => 0))), (n_4, .inl (cA, 40, .inl (fun _ => 0))), (n_5, .inl (cA, 480, .inl (fun _ => 0)))] := hD
  refine lv_aload_n hx hb dX5_init_45 rfl (lv_at hl 0 rfl) ?_
  refine lv_sipush (v := 480) hx hb dX5_init_46 (by decide) ?_
  refine va_newa (atype := .int) (a0 := (480, .inl (fun _ => 0))) (N' := 480) (ty := .int) hx hb (hts (.arrayClass .int) (by decide +kernel)) rfl hK hP hD hS hA (fun _ => rfl) (by decide) (by decide) (by decide) (Nat.le_of_ble_eq_true rfl) (Nat.le_of_ble_eq_true rfl) dX5_init_49 (fun n_6 cA_6 H hK_6 hP hD hS => ?_)
  have e_6 := arr_one hK_6
  subst e_6
  have hP : va_P (dC, dI) vwCl [(q5, .inr (5, [.int 0, .ref n_1, .int 0, .ref n_2, .ref n_3, .int 0, .ref n_4, .ref n_5, .null, .null, .null, .int 0, .int 0, .int 0, .null, .int 0, .int 0, .int 0, .int 0, .int 0, .int 0, .int 0])), (n_1, .inl (cA, 6, .inl (fun _ => 0))), (n_2, .inl (cA, 60, .inl (fun _ => 0))), (n_3, .inl (cA, 60, .inl (fun _ => 0))), (n_4, .inl (cA, 40, .inl (fun _ => 0))), (n_5, .inl (cA, 480, .inl (fun _ => 0))), (n_6, .inl (cA, 480, .inl (fun _ => 0)))] H := hP
  have hD : va_D A [(q5, .inr (5, [.int 0, .ref n_1, .int 0, .ref n_2, .ref n_3, .int 0, .ref n_4, .ref n_5, .null, .null, .null, .int 0, .int 0, .int 0, .null, .int 0, .int 0, .int 0, .int 0, .int 0, .int 0, .int 0])), (n_1, .inl (cA, 6, .inl (fun _ => 0))), (n_2, .inl (cA, 60, .inl (fun _ => 0))), (n_3, .inl (cA, 60, .inl (fun _ => 0))), (n_4, .inl (cA, 40, .inl (fun _ => 0))), (n_5, .inl (cA, 480, .inl (fun _ => 0))), (n_6, .inl (cA, 480, .inl (fun _ => 0)))] := hD
  refine W.widen (k := 6) (n := 1126) (by omega) (by omega) ?_
  refine va_putF (D := (dC, dI)) (ci := 5) (v := .ref n_6) (ty := .array .int) (C := RX5) (T := TX5) (N := 22) hx hb hts (by decide +kernel) tyX5 tyX5_ok nmX5 hown hK hP hD hS 0 rfl rfl 8 (by decide) (hts (.fieldLink RX5 25 RX5 "as" "[I") (by decide +kernel)) (fun _ h9 => h9) rfl hin rfl (by decide +kernel) rfl rfl (Nat.le_of_ble_eq_true rfl) dX5_init_51 (fun H locs hP hD hS => ?_)
  have hP : va_P (dC, dI) vwCl [(q5, .inr (5, [.int 0, .ref n_1, .int 0, .ref n_2, .ref n_3, .int 0, .ref n_4, .ref n_5, .ref n_6, .null, .null, .int 0, .int 0, .int 0, .null, .int 0, .int 0, .int 0, .int 0, .int 0, .int 0, .int 0])), (n_1, .inl (cA, 6, .inl (fun _ => 0))), (n_2, .inl (cA, 60, .inl (fun _ => 0))), (n_3, .inl (cA, 60, .inl (fun _ => 0))), (n_4, .inl (cA, 40, .inl (fun _ => 0))), (n_5, .inl (cA, 480, .inl (fun _ => 0))), (n_6, .inl (cA, 480, .inl (fun _ => 0)))] H := hP
  have hD : va_D A [(q5, .inr (5, [.int 0, .ref n_1, .int 0, .ref n_2, .ref n_3, .int 0, .ref n_4, .ref n_5, .ref n_6, .null, .null, .int 0, .int 0, .int 0, .null, .int 0, .int 0, .int 0, .int 0, .int 0, .int 0, .int 0])), (n_1, .inl (cA, 6, .inl (fun _ => 0))), (n_2, .inl (cA, 60, .inl (fun _ => 0))), (n_3, .inl (cA, 60, .inl (fun _ => 0))), (n_4, .inl (cA, 40, .inl (fun _ => 0))), (n_5, .inl (cA, 480, .inl (fun _ => 0))), (n_6, .inl (cA, 480, .inl (fun _ => 0)))] := hD
  refine lv_aload_n hx hb dX5_init_54 rfl (lv_at hl 0 rfl) ?_
  refine lv_sipush (v := 480) hx hb dX5_init_55 (by decide) ?_
  refine va_newa (atype := .int) (a0 := (480, .inl (fun _ => 0))) (N' := 480) (ty := .int) hx hb (hts (.arrayClass .int) (by decide +kernel)) rfl hK hP hD hS hA (fun _ => rfl) (by decide) (by decide) (by decide) (Nat.le_of_ble_eq_true rfl) (Nat.le_of_ble_eq_true rfl) dX5_init_58 (fun n_7 cA_7 H hK_7 hP hD hS => ?_)
  have e_7 := arr_one hK_7
  subst e_7
  have hP : va_P (dC, dI) vwCl [(q5, .inr (5, [.int 0, .ref n_1, .int 0, .ref n_2, .ref n_3, .int 0, .ref n_4, .ref n_5, .ref n_6, .null, .null, .int 0, .int 0, .int 0, .null, .int 0, .int 0, .int 0, .int 0, .int 0, .int 0, .int 0])), (n_1, .inl (cA, 6, .inl (fun _ => 0))), (n_2, .inl (cA, 60, .inl (fun _ => 0))), (n_3, .inl (cA, 60, .inl (fun _ => 0))), (n_4, .inl (cA, 40, .inl (fun _ => 0))), (n_5, .inl (cA, 480, .inl (fun _ => 0))), (n_6, .inl (cA, 480, .inl (fun _ => 0))), (n_7, .inl (cA, 480, .inl (fun _ => 0)))] H := hP
  have hD : va_D A [(q5, .inr (5, [.int 0, .ref n_1, .int 0, .ref n_2, .ref n_3, .int 0, .ref n_4, .ref n_5, .ref n_6, .null, .null, .int 0, .int 0, .int 0, .null, .int 0, .int 0, .int 0, .int 0, .int 0, .int 0, .int 0])), (n_1, .inl (cA, 6, .inl (fun _ => 0))), (n_2, .inl (cA, 60, .inl (fun _ => 0))), (n_3, .inl (cA, 60, .inl (fun _ => 0))), (n_4, .inl (cA, 40, .inl (fun _ => 0))), (n_5, .inl (cA, 480, .inl (fun _ => 0))), (n_6, .inl (cA, 480, .inl (fun _ => 0))), (n_7, .inl (cA, 480, .inl (fun _ => 0)))] := hD
  refine W.widen (k := 7) (n := 1606) (by omega) (by omega) ?_
  refine va_putF (D := (dC, dI)) (ci := 5) (v := .ref n_7) (ty := .array .int) (C := RX5) (T := TX5) (N := 22) hx hb hts (by decide +kernel) tyX5 tyX5_ok nmX5 hown hK hP hD hS 0 rfl rfl 9 (by decide) (hts (.fieldLink RX5 28 RX5 "xs" "[I") (by decide +kernel)) (fun _ h9 => h9) rfl hin rfl (by decide +kernel) rfl rfl (Nat.le_of_ble_eq_true rfl) dX5_init_60 (fun H locs hP hD hS => ?_)
  have hP : va_P (dC, dI) vwCl [(q5, .inr (5, [.int 0, .ref n_1, .int 0, .ref n_2, .ref n_3, .int 0, .ref n_4, .ref n_5, .ref n_6, .ref n_7, .null, .int 0, .int 0, .int 0, .null, .int 0, .int 0, .int 0, .int 0, .int 0, .int 0, .int 0])), (n_1, .inl (cA, 6, .inl (fun _ => 0))), (n_2, .inl (cA, 60, .inl (fun _ => 0))), (n_3, .inl (cA, 60, .inl (fun _ => 0))), (n_4, .inl (cA, 40, .inl (fun _ => 0))), (n_5, .inl (cA, 480, .inl (fun _ => 0))), (n_6, .inl (cA, 480, .inl (fun _ => 0))), (n_7, .inl (cA, 480, .inl (fun _ => 0)))] H := hP
  have hD : va_D A [(q5, .inr (5, [.int 0, .ref n_1, .int 0, .ref n_2, .ref n_3, .int 0, .ref n_4, .ref n_5, .ref n_6, .ref n_7, .null, .int 0, .int 0, .int 0, .null, .int 0, .int 0, .int 0, .int 0, .int 0, .int 0, .int 0])), (n_1, .inl (cA, 6, .inl (fun _ => 0))), (n_2, .inl (cA, 60, .inl (fun _ => 0))), (n_3, .inl (cA, 60, .inl (fun _ => 0))), (n_4, .inl (cA, 40, .inl (fun _ => 0))), (n_5, .inl (cA, 480, .inl (fun _ => 0))), (n_6, .inl (cA, 480, .inl (fun _ => 0))), (n_7, .inl (cA, 480, .inl (fun _ => 0)))] := hD
  refine lv_aload_n hx hb dX5_init_63 rfl (lv_at hl 0 rfl) ?_
  refine lv_sipush (v := 480) hx hb dX5_init_64 (by decide) ?_
  refine va_newa (atype := .int) (a0 := (480, .inl (fun _ => 0))) (N' := 480) (ty := .int) hx hb (hts (.arrayClass .int) (by decide +kernel)) rfl hK hP hD hS hA (fun _ => rfl) (by decide) (by decide) (by decide) (Nat.le_of_ble_eq_true rfl) (Nat.le_of_ble_eq_true rfl) dX5_init_67 (fun n_8 cA_8 H hK_8 hP hD hS => ?_)
  have e_8 := arr_one hK_8
  subst e_8
  have hP : va_P (dC, dI) vwCl [(q5, .inr (5, [.int 0, .ref n_1, .int 0, .ref n_2, .ref n_3, .int 0, .ref n_4, .ref n_5, .ref n_6, .ref n_7, .null, .int 0, .int 0, .int 0, .null, .int 0, .int 0, .int 0, .int 0, .int 0, .int 0, .int 0])), (n_1, .inl (cA, 6, .inl (fun _ => 0))), (n_2, .inl (cA, 60, .inl (fun _ => 0))), (n_3, .inl (cA, 60, .inl (fun _ => 0))), (n_4, .inl (cA, 40, .inl (fun _ => 0))), (n_5, .inl (cA, 480, .inl (fun _ => 0))), (n_6, .inl (cA, 480, .inl (fun _ => 0))), (n_7, .inl (cA, 480, .inl (fun _ => 0))), (n_8, .inl (cA, 480, .inl (fun _ => 0)))] H := hP
  have hD : va_D A [(q5, .inr (5, [.int 0, .ref n_1, .int 0, .ref n_2, .ref n_3, .int 0, .ref n_4, .ref n_5, .ref n_6, .ref n_7, .null, .int 0, .int 0, .int 0, .null, .int 0, .int 0, .int 0, .int 0, .int 0, .int 0, .int 0])), (n_1, .inl (cA, 6, .inl (fun _ => 0))), (n_2, .inl (cA, 60, .inl (fun _ => 0))), (n_3, .inl (cA, 60, .inl (fun _ => 0))), (n_4, .inl (cA, 40, .inl (fun _ => 0))), (n_5, .inl (cA, 480, .inl (fun _ => 0))), (n_6, .inl (cA, 480, .inl (fun _ => 0))), (n_7, .inl (cA, 480, .inl (fun _ => 0))), (n_8, .inl (cA, 480, .inl (fun _ => 0)))] := hD
  refine W.widen (k := 8) (n := 2086) (by omega) (by omega) ?_
  refine va_putF (D := (dC, dI)) (ci := 5) (v := .ref n_8) (ty := .array .int) (C := RX5) (T := TX5) (N := 22) hx hb hts (by decide +kernel) tyX5 tyX5_ok nmX5 hown hK hP hD hS 0 rfl rfl 10 (by decide) (hts (.fieldLink RX5 31 RX5 "ys" "[I") (by decide +kernel)) (fun _ h9 => h9) rfl hin rfl (by decide +kernel) rfl rfl (Nat.le_of_ble_eq_true rfl) dX5_init_69 (fun H locs hP hD hS => ?_)
  have hP : va_P (dC, dI) vwCl [(q5, .inr (5, [.int 0, .ref n_1, .int 0, .ref n_2, .ref n_3, .int 0, .ref n_4, .ref n_5, .ref n_6, .ref n_7, .ref n_8, .int 0, .int 0, .int 0, .null, .int 0, .int 0, .int 0, .int 0, .int 0, .int 0, .int 0])), (n_1, .inl (cA, 6, .inl (fun _ => 0))), (n_2, .inl (cA, 60, .inl (fun _ => 0))), (n_3, .inl (cA, 60, .inl (fun _ => 0))), (n_4, .inl (cA, 40, .inl (fun _ => 0))), (n_5, .inl (cA, 480, .inl (fun _ => 0))), (n_6, .inl (cA, 480, .inl (fun _ => 0))), (n_7, .inl (cA, 480, .inl (fun _ => 0))), (n_8, .inl (cA, 480, .inl (fun _ => 0)))] H := hP
  have hD : va_D A [(q5, .inr (5, [.int 0, .ref n_1, .int 0, .ref n_2, .ref n_3, .int 0, .ref n_4, .ref n_5, .ref n_6, .ref n_7, .ref n_8, .int 0, .int 0, .int 0, .null, .int 0, .int 0, .int 0, .int 0, .int 0, .int 0, .int 0])), (n_1, .inl (cA, 6, .inl (fun _ => 0))), (n_2, .inl (cA, 60, .inl (fun _ => 0))), (n_3, .inl (cA, 60, .inl (fun _ => 0))), (n_4, .inl (cA, 40, .inl (fun _ => 0))), (n_5, .inl (cA, 480, .inl (fun _ => 0))), (n_6, .inl (cA, 480, .inl (fun _ => 0))), (n_7, .inl (cA, 480, .inl (fun _ => 0))), (n_8, .inl (cA, 480, .inl (fun _ => 0)))] := hD
  refine lv_aload_n hx hb dX5_init_72 rfl (lv_at hl 0 rfl) ?_
  refine lv_sipush (v := 250) hx hb dX5_init_73 (by decide) ?_
  refine va_newa (atype := .int) (a0 := (250, .inl (fun _ => 0))) (N' := 250) (ty := .int) hx hb (hts (.arrayClass .int) (by decide +kernel)) rfl hK hP hD hS hA (fun _ => rfl) (by decide) (by decide) (by decide) (Nat.le_of_ble_eq_true rfl) (Nat.le_of_ble_eq_true rfl) dX5_init_76 (fun n_9 cA_9 H hK_9 hP hD hS => ?_)
  have e_9 := arr_one hK_9
  subst e_9
  have hP : va_P (dC, dI) vwCl [(q5, .inr (5, [.int 0, .ref n_1, .int 0, .ref n_2, .ref n_3, .int 0, .ref n_4, .ref n_5, .ref n_6, .ref n_7, .ref n_8, .int 0, .int 0, .int 0, .null, .int 0, .int 0, .int 0, .int 0, .int 0, .int 0, .int 0])), (n_1, .inl (cA, 6, .inl (fun _ => 0))), (n_2, .inl (cA, 60, .inl (fun _ => 0))), (n_3, .inl (cA, 60, .inl (fun _ => 0))), (n_4, .inl (cA, 40, .inl (fun _ => 0))), (n_5, .inl (cA, 480, .inl (fun _ => 0))), (n_6, .inl (cA, 480, .inl (fun _ => 0))), (n_7, .inl (cA, 480, .inl (fun _ => 0))), (n_8, .inl (cA, 480, .inl (fun _ => 0))), (n_9, .inl (cA, 250, .inl (fun _ => 0)))] H := hP
  have hD : va_D A [(q5, .inr (5, [.int 0, .ref n_1, .int 0, .ref n_2, .ref n_3, .int 0, .ref n_4, .ref n_5, .ref n_6, .ref n_7, .ref n_8, .int 0, .int 0, .int 0, .null, .int 0, .int 0, .int 0, .int 0, .int 0, .int 0, .int 0])), (n_1, .inl (cA, 6, .inl (fun _ => 0))), (n_2, .inl (cA, 60, .inl (fun _ => 0))), (n_3, .inl (cA, 60, .inl (fun _ => 0))), (n_4, .inl (cA, 40, .inl (fun _ => 0))), (n_5, .inl (cA, 480, .inl (fun _ => 0))), (n_6, .inl (cA, 480, .inl (fun _ => 0))), (n_7, .inl (cA, 480, .inl (fun _ => 0))), (n_8, .inl (cA, 480, .inl (fun _ => 0))), (n_9, .inl (cA, 250, .inl (fun _ => 0)))] := hD
  refine W.widen (k := 9) (n := 2336) (by omega) (by omega) ?_
  refine va_putF (D := (dC, dI)) (ci := 5) (v := .ref n_9) (ty := .array .int) (C := RX5) (T := TX5) (N := 22) hx hb hts (by decide +kernel) tyX5 tyX5_ok nmX5 hown hK hP hD hS 0 rfl rfl 14 (by decide) (hts (.fieldLink RX5 34 RX5 "trace" "[I") (by decide +kernel)) (fun _ h9 => h9) rfl hin rfl (by decide +kernel) rfl rfl (Nat.le_of_ble_eq_true rfl) dX5_init_78 (fun H locs hP hD hS => ?_)
  have hP : va_P (dC, dI) vwCl [(q5, .inr (5, [.int 0, .ref n_1, .int 0, .ref n_2, .ref n_3, .int 0, .ref n_4, .ref n_5, .ref n_6, .ref n_7, .ref n_8, .int 0, .int 0, .int 0, .ref n_9, .int 0, .int 0, .int 0, .int 0, .int 0, .int 0, .int 0])), (n_1, .inl (cA, 6, .inl (fun _ => 0))), (n_2, .inl (cA, 60, .inl (fun _ => 0))), (n_3, .inl (cA, 60, .inl (fun _ => 0))), (n_4, .inl (cA, 40, .inl (fun _ => 0))), (n_5, .inl (cA, 480, .inl (fun _ => 0))), (n_6, .inl (cA, 480, .inl (fun _ => 0))), (n_7, .inl (cA, 480, .inl (fun _ => 0))), (n_8, .inl (cA, 480, .inl (fun _ => 0))), (n_9, .inl (cA, 250, .inl (fun _ => 0)))] H := hP
  have hD : va_D A [(q5, .inr (5, [.int 0, .ref n_1, .int 0, .ref n_2, .ref n_3, .int 0, .ref n_4, .ref n_5, .ref n_6, .ref n_7, .ref n_8, .int 0, .int 0, .int 0, .ref n_9, .int 0, .int 0, .int 0, .int 0, .int 0, .int 0, .int 0])), (n_1, .inl (cA, 6, .inl (fun _ => 0))), (n_2, .inl (cA, 60, .inl (fun _ => 0))), (n_3, .inl (cA, 60, .inl (fun _ => 0))), (n_4, .inl (cA, 40, .inl (fun _ => 0))), (n_5, .inl (cA, 480, .inl (fun _ => 0))), (n_6, .inl (cA, 480, .inl (fun _ => 0))), (n_7, .inl (cA, 480, .inl (fun _ => 0))), (n_8, .inl (cA, 480, .inl (fun _ => 0))), (n_9, .inl (cA, 250, .inl (fun _ => 0)))] := hD
  refine lv_iconst (v := 0) hx hb dX5_init_81 (by decide) ?_
  refine lv_istore_n (lv' := [(1, .int 0), (0, .ref q5)]) hx hb dX5_init_82 rfl hl (by decide) rfl (fun ls hl => ?_)
  have hloop : ∀ (n k : Nat), k ≤ 6 → 6 < k + n → ∀ (H : Heap) (locs : List Loc) (ls : Array Slot), va_P (dC, dI) vwCl [(q5, .inr (5, [.int 0, .ref n_1, .int 0, .ref n_2, .ref n_3, .int 0, .ref n_4, .ref n_5, .ref n_6, .ref n_7, .ref n_8, .int 0, .int 0, .int 0, .ref n_9, .int 0, .int 0, .int 0, .int 0, .int 0, .int 0, .int 0])), (n_1, .inl (cA, 6, .inl (plk k))), (n_2, .inl (cA, 60, .inl (fun _ => 0))), (n_3, .inl (cA, 60, .inl (fun _ => 0))), (n_4, .inl (cA, 40, .inl (fun _ => 0))), (n_5, .inl (cA, 480, .inl (fun _ => 0))), (n_6, .inl (cA, 480, .inl (fun _ => 0))), (n_7, .inl (cA, 480, .inl (fun _ => 0))), (n_8, .inl (cA, 480, .inl (fun _ => 0))), (n_9, .inl (cA, 250, .inl (fun _ => 0)))] H → va_D A [(q5, .inr (5, [.int 0, .ref n_1, .int 0, .ref n_2, .ref n_3, .int 0, .ref n_4, .ref n_5, .ref n_6, .ref n_7, .ref n_8, .int 0, .int 0, .int 0, .ref n_9, .int 0, .int 0, .int 0, .int 0, .int 0, .int 0, .int 0])), (n_1, .inl (cA, 6, .inl (plk k))), (n_2, .inl (cA, 60, .inl (fun _ => 0))), (n_3, .inl (cA, 60, .inl (fun _ => 0))), (n_4, .inl (cA, 40, .inl (fun _ => 0))), (n_5, .inl (cA, 480, .inl (fun _ => 0))), (n_6, .inl (cA, 480, .inl (fun _ => 0))), (n_7, .inl (cA, 480, .inl (fun _ => 0))), (n_8, .inl (cA, 480, .inl (fun _ => 0))), (n_9, .inl (cA, 250, .inl (fun _ => 0)))] → va_S A s.heap H locs → lv_has ls 2 [(0, .ref q5), (1, .int (nI k))] → W p l e (headSpec wsX5_init ({ frames := 1, cells := 9, slots := 2336, locals := 12 })).room s m ([.ref q5] : List Value).toArray below meth c H locs 9 2336 (MQ below (QN (dC, dI) (wn_X5_init cA q5 ) A) ([.ref q5] : List Value).toArray s 9 2336 A) (F0 m 83 ls []) := by
    intro n
    induction n with
    | zero =>
      intro k h1 h2
      exact absurd h2 (by omega)
    | succ n ih =>
      intro k hk1 hk2 H locs ls hP hD hS hl
      refine lv_iload_n hx hb dX5_init_83 rfl (lv_at hl 1 rfl) ?_
      refine lv_bipush (v := 6) hx hb dX5_init_84 (by decide) ?_
      refine lv_icmp_ge (tgt := 102) hx hb dX5_init_86 (by decide) (fun c_10 => ?_) (fun c_10 => ?_)
      · have hk6 : k = 6 := by
          rw [Int32.le_iff_toInt_le, nI_ti (by omega), c6] at c_10
          omega
        subst hk6
        rw [plk_6] at hP hD
        exact rt_n hx hb hr hlocks (n_1, n_2, n_3, n_4, n_5, n_6, n_7, n_8, n_9) hP hD hS dX5_init_102
      · refine lv_aload_n hx hb dX5_init_89 rfl (lv_at hl 0 rfl) ?_
        refine va_get (D := (dC, dI)) (ci := 5) (v := .ref n_1) (C := RX5) (T := TX5) (N := 22) hx hb hts (by decide +kernel) hown hK hP 0 rfl rfl 1 (by decide) (hts (.fieldLink RX5 7 RX5 "placed" "[I") (by decide +kernel)) (fun _ h9 => h9) rfl dX5_init_90 ?_
        refine lv_iload_n hx hb dX5_init_93 rfl (lv_at hl 1 rfl) ?_
        refine lv_iconst (v := (-1)) hx hb dX5_init_94 (by decide) ?_
        refine va_iast hx hb hK hP hD hS 1 0 rfl rfl (in6 (k := k) (by omega) rfl c_10) dX5_init_95 (fun H locs hP hD hS => ?_)
        have hP : va_P (dC, dI) vwCl [(q5, .inr (5, [.int 0, .ref n_1, .int 0, .ref n_2, .ref n_3, .int 0, .ref n_4, .ref n_5, .ref n_6, .ref n_7, .ref n_8, .int 0, .int 0, .int 0, .ref n_9, .int 0, .int 0, .int 0, .int 0, .int 0, .int 0, .int 0])), (n_1, .inl (cA, 6, .inl (upd (plk k) (nI k).toNatClampNeg (-1)))), (n_2, .inl (cA, 60, .inl (fun _ => 0))), (n_3, .inl (cA, 60, .inl (fun _ => 0))), (n_4, .inl (cA, 40, .inl (fun _ => 0))), (n_5, .inl (cA, 480, .inl (fun _ => 0))), (n_6, .inl (cA, 480, .inl (fun _ => 0))), (n_7, .inl (cA, 480, .inl (fun _ => 0))), (n_8, .inl (cA, 480, .inl (fun _ => 0))), (n_9, .inl (cA, 250, .inl (fun _ => 0)))] H := hP
        have hD : va_D A [(q5, .inr (5, [.int 0, .ref n_1, .int 0, .ref n_2, .ref n_3, .int 0, .ref n_4, .ref n_5, .ref n_6, .ref n_7, .ref n_8, .int 0, .int 0, .int 0, .ref n_9, .int 0, .int 0, .int 0, .int 0, .int 0, .int 0, .int 0])), (n_1, .inl (cA, 6, .inl (upd (plk k) (nI k).toNatClampNeg (-1)))), (n_2, .inl (cA, 60, .inl (fun _ => 0))), (n_3, .inl (cA, 60, .inl (fun _ => 0))), (n_4, .inl (cA, 40, .inl (fun _ => 0))), (n_5, .inl (cA, 480, .inl (fun _ => 0))), (n_6, .inl (cA, 480, .inl (fun _ => 0))), (n_7, .inl (cA, 480, .inl (fun _ => 0))), (n_8, .inl (cA, 480, .inl (fun _ => 0))), (n_9, .inl (cA, 250, .inl (fun _ => 0)))] := hD
        refine lv_iinc (v := ((nI k) + 1)) (lv' := [(1, .int ((nI k) + 1)), (0, .ref q5)]) hx hb dX5_init_96 hl (k := 1) rfl rfl (by decide) rfl (fun ls hl => ?_)
        refine lv_goto (tgt := 83) hx hb dX5_init_99 (by decide) ?_
        have hk6 := lt_nI (x := nI k) (by omega) rfl c_10
        rw [plk_up hk6] at hP hD
        rw [show nI k + 1 = nI (k + 1) from nI_1 k] at hl
        exact ih (k + 1) (by omega) (by omega) _ _ _ hP hD hS (lv_sub hl [1, 0] rfl)
  have hP : va_P (dC, dI) vwCl [(q5, .inr (5, [.int 0, .ref n_1, .int 0, .ref n_2, .ref n_3, .int 0, .ref n_4, .ref n_5, .ref n_6, .ref n_7, .ref n_8, .int 0, .int 0, .int 0, .ref n_9, .int 0, .int 0, .int 0, .int 0, .int 0, .int 0, .int 0])), (n_1, .inl (cA, 6, .inl (plk 0))), (n_2, .inl (cA, 60, .inl (fun _ => 0))), (n_3, .inl (cA, 60, .inl (fun _ => 0))), (n_4, .inl (cA, 40, .inl (fun _ => 0))), (n_5, .inl (cA, 480, .inl (fun _ => 0))), (n_6, .inl (cA, 480, .inl (fun _ => 0))), (n_7, .inl (cA, 480, .inl (fun _ => 0))), (n_8, .inl (cA, 480, .inl (fun _ => 0))), (n_9, .inl (cA, 250, .inl (fun _ => 0)))] H := hP
  have hD : va_D A [(q5, .inr (5, [.int 0, .ref n_1, .int 0, .ref n_2, .ref n_3, .int 0, .ref n_4, .ref n_5, .ref n_6, .ref n_7, .ref n_8, .int 0, .int 0, .int 0, .ref n_9, .int 0, .int 0, .int 0, .int 0, .int 0, .int 0, .int 0])), (n_1, .inl (cA, 6, .inl (plk 0))), (n_2, .inl (cA, 60, .inl (fun _ => 0))), (n_3, .inl (cA, 60, .inl (fun _ => 0))), (n_4, .inl (cA, 40, .inl (fun _ => 0))), (n_5, .inl (cA, 480, .inl (fun _ => 0))), (n_6, .inl (cA, 480, .inl (fun _ => 0))), (n_7, .inl (cA, 480, .inl (fun _ => 0))), (n_8, .inl (cA, 480, .inl (fun _ => 0))), (n_9, .inl (cA, 250, .inl (fun _ => 0)))] := hD
  exact hloop 7 0 (by omega) (by omega) _ _ _ hP hD hS (lv_sub hl [1, 0] rfl)
