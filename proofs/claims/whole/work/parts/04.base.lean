/-! words on nest mates: they go along as a premise of every contract -/
def nwl : List Cond := [.methodLinkNest RX4 9 yX1_init RX4, .methodLinkNest RX1 11 yX2_init RX4, .methodLinkNest RX1 20 yX0_init RX4, .methodLinkNest RX1 27 yX3_init RX4, .methodLinkNest RX4 39 yX2_makeThing RX4, .methodLinkNest RX2 35 yX4_isPlace RX4, .methodLinkNest RX4 45 yX2_thingIn RX4, .methodLinkNest RX4 48 yX2_put RX4, .methodLinkNest RX4 56 yX0_append RX4, .methodLinkNest RX0 31 yX4_isBlock RX4, .methodLinkNest RX4 62 yX0_empty RX4, .methodLinkNest RX4 68 yX3_restart RX4, .methodLinkNest RX4 73 yX1_doBlock RX4, .methodLinkNest RX1 36 yX4_isBlock RX4, .methodLinkNest RX1 69 yX3_enterMark RX4, .methodLinkNest RX1 94 yX2_thingIn RX4, .methodLinkNest RX1 120 yX2_deepen RX4, .methodLinkNest RX1 123 yX3_enterBegun RX4, .methodLinkNest RX1 114 yX4_isThrown RX4, .methodLinkNest RX1 126 yX3_enterLeft RX4, .methodLinkNest RX1 129 yX2_isHeld RX4, .methodLinkNest RX1 132 yX2_raiseNumber RX4, .methodLinkNest RX1 98 yX2_put RX4, .methodLinkNest RX1 135 yX2_makeThing RX4, .methodLinkNest RX1 138 yX2_numberOf RX4, .methodLinkNest RX4 80 yX3_entry RX4, .methodLinkNest RX3 43 yX4_isWithin RX4, .methodLinkNest RX4 98 yX2_numberOf RX4, .fieldLinkNest RX4 101 RX2 "made" "I" RX4, .fieldLinkNest RX1 40 RX0 "sizes" "[I" RX4, .fieldLinkNest RX1 66 RX0 "kinds" "[I" RX4, .fieldLinkNest RX1 57 RX0 "as" "[I" RX4, .fieldLinkNest RX1 60 RX0 "xs" "[I" RX4, .fieldLinkNest RX1 63 RX0 "ys" "[I" RX4, .fieldLinkNest RX4 104 RX0 "total" "I" RX4, .fieldLinkNest RX4 83 RX3 "entered" "I" RX4, .fieldLinkNest RX1 54 RX3 "steps" "I" RX4, .fieldLinkNest RX4 86 RX3 "steps" "I" RX4, .fieldLinkNest RX4 89 RX3 "holds" "I" RX4, .fieldLinkNest RX4 92 RX3 "most" "I" RX4, .fieldLinkNest RX4 95 RX3 "cutShort" "I" RX4, .fieldLinkNest RX4 16 RX1 "shelf" "LHoldBench$Shelf;" RX4, .fieldLinkNest RX4 21 RX1 "program" "LHoldBench$Program;" RX4, .fieldLinkNest RX4 26 RX1 "tally" "LHoldBench$Tally;" RX4, .fieldLinkNest RX4 65 RX1 "refused" "I" RX4]
def NW (U : State) : Prop := ∀ w ∈ nwl, va_Nw w U
def nwm (w : Cond) : Bool := match w with
  | .methodLinkNest .. => true
  | .fieldLinkNest .. => true
  | _ => false
theorem nwl_m : ∀ w ∈ nwl, nwm w = true := by decide +kernel
theorem NW.warm {s U : State} (hW : s.WarmedH U.vm) (h : NW s) : NW U := by
  intro w hw
  have hm := nwl_m w hw
  have h1 := h w hw
  cases w <;> first | (simp [nwm] at hm; done) | exact va_Nw.warmM hW h1 | exact va_Nw.warmF hW h1
theorem NW.same {s U : State} (hV : s.vm = U.vm) (h : NW s) : NW U := by
  intro w hw
  have hm := nwl_m w hw
  have h1 := h w hw
  cases w <;> first | (simp [nwm] at hm; done) | exact va_Nw.same rfl hV h1
theorem NW.at {s : State} (h : NW s) (i : Nat) {w : Cond} (hi : nwl[i]? = some w) : va_Nw w s := h w (List.mem_of_getElem? hi)
/-! starts -/
def pcR (D : va_G) (ws : va_W) (tys : List (ClassId × FieldType)) (av : List Value) : Array Value → State → Prop := va_Pc av (fun U => NW U ∧ va_P D vwCl ws U.heap ∧ va_K D vwCl tys U)
def pcW (D : va_G) (ws : va_W) (tys : List (ClassId × FieldType)) (sz : Nat) (av : List Value) : Array Value → State → Prop := va_Pc av (fun U => U.heap.size = sz ∧ NW U ∧ va_P D vwCl ws U.heap ∧ va_K D vwCl tys U ∧ va_D (fun _ => True) ws)
theorem blS (av : List Value) : FrameBlind (va_Pc av NW) := fun a U g mk q => ⟨q.1, NW.same (s := U) rfl q.2⟩
theorem blR {D : va_G} {ws : va_W} {tys : List (ClassId × FieldType)} (av : List Value) : FrameBlind (pcR D ws tys av) := fun a U g mk q => ⟨q.1, NW.same (s := U) rfl q.2.1, q.2.2.1, va_K.moved (u := U) (U := U.calling g mk a) (Vm.Alike.refl U.vm) q.2.2.2⟩
theorem blW {D : va_G} {ws : va_W} {tys : List (ClassId × FieldType)} {sz : Nat} (av : List Value) : FrameBlind (pcW D ws tys sz av) := fun a U g mk q => ⟨q.1, q.2.1, NW.same (s := U) rfl q.2.2.1, q.2.2.2.1, va_K.moved (u := U) (U := U.calling g mk a) (Vm.Alike.refl U.vm) q.2.2.2.2.1, q.2.2.2.2.2⟩
theorem pS {s : State} {H : Heap} {av : List Value} (hN : NW s) : PreS s H (va_Pc av NW) av := ⟨blS av, fun U _ hW => ⟨rfl, hN.warm hW⟩⟩
theorem pR {s : State} {H : Heap} {D : va_G} {ws : va_W} {tys : List (ClassId × FieldType)} {C : String} {b : Nat} {As : List Value} (hN : NW s) (hP : va_P D vwCl ws H) (hK : va_K D vwCl tys s) {ci q0 : Nat} {q : vw_C} {fs : List Value} (hc : vwCl[ci]? = some q) (he : ws[q0]? = some (b, .inr (ci, fs))) (hC : q.1 = C) : PreV s H C b (pcR D ws tys (.ref b :: As)) As :=
  ⟨blR _, by rw [← hC]; exact va_recv hK hP hc he, fun U hU hW => ⟨rfl, hN.warm hW, by rw [hU]; exact hP, va_K.moved hW.alike hK⟩⟩
theorem pW {s : State} {H : Heap} {D : va_G} {ws : va_W} {tys : List (ClassId × FieldType)} {A : Nat → Prop} {C : String} {b : Nat} {As : List Value} (hN : NW s) (hP : va_P D vwCl ws H) (hK : va_K D vwCl tys s) (hD : va_D A ws) {ci q0 : Nat} {q : vw_C} {fs : List Value} (hc : vwCl[ci]? = some q) (he : ws[q0]? = some (b, .inr (ci, fs))) (hC : q.1 = C) : PreV s H C b (pcW D ws tys H.size (.ref b :: As)) As :=
  ⟨blW _, by rw [← hC]; exact va_recv hK hP hc he, fun U hU hW => ⟨rfl, by rw [hU], hN.warm hW, by rw [hU]; exact hP, va_K.moved hW.alike hK, hD.weaken (fun _ _ _ _ => trivial)⟩⟩
theorem pI {s : State} {H : Heap} {D : va_G} {ws : va_W} {tys : List (ClassId × FieldType)} {A : Nat → Prop} {av : List Value} (hN : NW s) (hP : va_P D vwCl ws H) (hK : va_K D vwCl tys s) (hD : va_D A ws) : PreS s H (pcW D ws tys H.size av) av :=
  ⟨blW _, fun U hU hW => ⟨rfl, by rw [hU], hN.warm hW, by rw [hU]; exact hP, va_K.moved hW.alike hK, hD.weaken (fun _ _ _ _ => trivial)⟩⟩
/-! ends -/
def QWi {S : Type} (D : va_G) (E : Int32 × S) (wd : S → va_W) (A : Nat → Prop) : Array Value → State → Outcome → State → Prop := va_Qi (fun r u => (r, u) = E) (fun u t => va_P D vwCl (wd u) t.heap ∧ va_D A (wd u)) A
def QWv {S : Type} (D : va_G) (E : S) (wd : S → va_W) (A : Nat → Prop) : Array Value → State → Outcome → State → Prop := va_Qv (fun u => u = E) (fun u t => va_P D vwCl (wd u) t.heap ∧ va_D A (wd u)) A
section KX
variable {p : Program} {l : Launch} {e : Env} {R : Room} {s : State} {m : MethodId} {args : Array Value} {below : List Frame} {meth : Method} {c : Code} {H : Heap} {locs : List Loc} {cells slots : Nat} {Q : State → Prop} {pc : Nat} {ls : Array Slot} {rest st0 : List Value} {a : Array Value} {cc : ByteArray} {D : va_G} {A : Nat → Prop}
theorem kx_read {r : Int32} (hr : va_Run p l e R s m args below meth c H locs cells slots 0 0 (F0 m pc ls st0) rest (QcRead r a) (fun _ => False)) (kk : W p l e R s m args below meth c H locs cells slots Q (F0 m (pc + 3) ls (.int r :: rest))) : W p l e R s m args below meth c H locs cells slots Q (F0 m pc ls st0) := by
  intro T hT X
  obtain ⟨v, st₀, t, T', L, h0, X', hL, e1, e2, ⟨hv, hh⟩, st⟩ := hr T hT X
  cases hv
  obtain ⟨t2, a1, b1⟩ := kk T' (by rw [e1, hh, h0]) (Stand.forget X' (fun q h => (hL q h).elim))
  exact ⟨t2, st t2 a1, b1⟩
theorem kx_wi {S : Type} {E : Int32 × S} {wd : S → va_W} {ws wc wr : va_W} {H0 : Heap} {mc ms : Nat} (hP : va_P D vwCl ws H) (hD : va_D A ws) (hS : va_S A H0 H locs) (hA : ∀ q, H0.size ≤ q → A q) (isC isR : List Nat) (hC : isC.map (fun i => ws[i]?) = wc.map some) (hR : isR.map (fun i => ws[i]?) = wr.map some) (hn : va_nd isR = true) (hdis : ∀ i ∈ isR, i ∉ isC)
    (hr : va_Run p l e R s m args below meth c H locs cells slots mc ms (F0 m pc ls st0) rest (QWi D E wd (va_A wc H.size) a) (va_A wc H.size))
    (kk : ∀ (r : Int32) (u : S) (H1 : Heap) (locs1 : List Loc), (r, u) = E → va_P D vwCl (wr ++ wd u) H1 → va_D A (wr ++ wd u) → va_S A H0 H1 locs1 → W p l e R s m args below meth c H1 locs1 (cells + mc) (slots + ms) Q (F0 m (pc + 3) ls (.int r :: rest))) : W p l e R s m args below meth c H locs cells slots Q (F0 m pc ls st0) := by
  have hF := va_free (wc := wc) hD hS hA isC hC
  refine va_calli hr hS (fun q _ h => hF q h) hF (fun r u t H1 locs1 ht hvm hw hB hz1 hk1 hS1 => ?_)
  obtain ⟨hP1, hD1⟩ := hB
  rw [ht] at hP1
  obtain ⟨hP2, hD2⟩ := va_join hP hD isC isR hC hR hn hdis hk1 hF hP1 hD1
  exact kk r u H1 locs1 hw hP2 hD2 hS1
theorem kx_wv {S : Type} {E : S} {wd : S → va_W} {ws wc wr : va_W} {H0 : Heap} {mc ms : Nat} (hP : va_P D vwCl ws H) (hD : va_D A ws) (hS : va_S A H0 H locs) (hA : ∀ q, H0.size ≤ q → A q) (isC isR : List Nat) (hC : isC.map (fun i => ws[i]?) = wc.map some) (hR : isR.map (fun i => ws[i]?) = wr.map some) (hn : va_nd isR = true) (hdis : ∀ i ∈ isR, i ∉ isC)
    (hr : va_Run p l e R s m args below meth c H locs cells slots mc ms (F0 m pc ls st0) rest (QWv D E wd (va_A wc H.size) a) (va_A wc H.size))
    (kk : ∀ (u : S) (H1 : Heap) (locs1 : List Loc), u = E → va_P D vwCl (wr ++ wd u) H1 → va_D A (wr ++ wd u) → va_S A H0 H1 locs1 → W p l e R s m args below meth c H1 locs1 (cells + mc) (slots + ms) Q (F0 m (pc + 3) ls rest)) : W p l e R s m args below meth c H locs cells slots Q (F0 m pc ls st0) := by
  have hF := va_free (wc := wc) hD hS hA isC hC
  refine va_callv hr hS (fun q _ h => hF q h) hF (fun u t H1 locs1 ht hvm hw hB hz1 hk1 hS1 => ?_)
  obtain ⟨hP1, hD1⟩ := hB
  rw [ht] at hP1
  obtain ⟨hP2, hD2⟩ := va_join hP hD isC isR hC hR hn hdis hk1 hF hP1 hD1
  exact kk u H1 locs1 hw hP2 hD2 hS1
theorem rt_i {S : Type} {E : Int32 × S} {wd : S → va_W} {v : Int32} (hexec : p.tables.exec = Jvm.exec) (hb : c.code = cc) (hr : meth.sig.returnType = some .int) (hlocks : meth.locks = false) (u : S) (hE : (v, u) = E) (hP : va_P D vwCl (wd u) H) (hD : va_D A (wd u)) (hS : va_S A s.heap H locs) (hdg : decode cc pc = .ok (.ireturn, 1)) : W p l e R s m args below meth c H locs cells slots (MQ below (QWi D E wd A) args s cells slots A) (F0 m pc ls [.int v]) :=
  W.iret hexec hb hr (fun t ht _ => ⟨⟨v, u, rfl, hE, by rw [ht]; exact hP, hD⟩, hS.F ht⟩) hS.2.2 hdg
theorem rt_z {S : Type} {E : Int32 × S} {wd : S → va_W} {v : Int32} (hexec : p.tables.exec = Jvm.exec) (hb : c.code = cc) (hr : meth.sig.returnType = some .boolean) (hn : narrow .boolean (.int v) = .int v) (hlocks : meth.locks = false) (u : S) (hE : (v, u) = E) (hP : va_P D vwCl (wd u) H) (hD : va_D A (wd u)) (hS : va_S A s.heap H locs) (hdg : decode cc pc = .ok (.ireturn, 1)) : W p l e R s m args below meth c H locs cells slots (MQ below (QWi D E wd A) args s cells slots A) (F0 m pc ls [.int v]) :=
  W.zret hexec hb hr hn (fun t ht _ => ⟨⟨v, u, rfl, hE, by rw [ht]; exact hP, hD⟩, hS.F ht⟩) hS.2.2 hdg
theorem rt_v {S : Type} {E : S} {wd : S → va_W} (hexec : p.tables.exec = Jvm.exec) (hb : c.code = cc) (hr : meth.sig.returnType = none) (hlocks : meth.locks = false) (u : S) (hE : u = E) (hP : va_P D vwCl (wd u) H) (hD : va_D A (wd u)) (hS : va_S A s.heap H locs) (hdg : decode cc pc = .ok (.return_, 1)) : W p l e R s m args below meth c H locs cells slots (MQ below (QWv D E wd A) args s cells slots A) (F0 m pc ls []) :=
  W.vret hexec hb hr (fun t ht _ => ⟨⟨u, rfl, hE, by rw [ht]; exact hP, hD⟩, hS.F ht⟩) hS.2.2 hdg
theorem rd_i {v w : Int32} (hexec : p.tables.exec = Jvm.exec) (hb : c.code = cc) (hr : meth.sig.returnType = some .int) (hlocks : meth.locks = false) (hE : v = w) (hdg : decode cc pc = .ok (.ireturn, 1)) : W p l e R s m args below meth c s.heap [] cells slots (MQ below (QcRead w) args s cells slots (fun _ => False)) (F0 m pc ls [.int v]) :=
  W.iret hexec hb hr (fun t ht _ => ⟨by rw [hE], ht⟩) (fun q h => by cases h) hdg
theorem rd_z {v w : Int32} (hexec : p.tables.exec = Jvm.exec) (hb : c.code = cc) (hr : meth.sig.returnType = some .boolean) (hn : narrow .boolean (.int v) = .int v) (hlocks : meth.locks = false) (hE : v = w) (hdg : decode cc pc = .ok (.ireturn, 1)) : W p l e R s m args below meth c s.heap [] cells slots (MQ below (QcRead w) args s cells slots (fun _ => False)) (F0 m pc ls [.int v]) :=
  W.zret hexec hb hr hn (fun t ht _ => ⟨by rw [hE], ht⟩) (fun q h => by cases h) hdg
end KX
theorem ne_ti {x k : Int32} {n : Int} (h : ¬ x = k) (hn : k.toInt = n) : x.toInt ≠ n := fun e => h (Int32.toInt_inj.mp (e.trans hn.symm))
theorem nb01 {v : Int32} (h : v = 0 ∨ v = 1) : narrow .boolean (.int v) = .int v := by rcases h with rfl | rfl <;> rfl
