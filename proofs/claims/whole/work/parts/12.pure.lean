/-! numbers -/
theorem ti_add {a b : Int32} (h1 : -2147483648 ≤ a.toInt + b.toInt) (h2 : a.toInt + b.toInt < 2147483648) : (a + b).toInt = a.toInt + b.toInt := by
  rw [Int32.toInt_add]
  apply Int.bmod_eq_of_le <;> omega
theorem ti_sub {a b : Int32} (h1 : -2147483648 ≤ a.toInt - b.toInt) (h2 : a.toInt - b.toInt < 2147483648) : (a - b).toInt = a.toInt - b.toInt := by
  rw [Int32.toInt_sub]
  apply Int.bmod_eq_of_le <;> omega
theorem c0 : (0 : Int32).toInt = 0 := by decide
theorem c1 : (1 : Int32).toInt = 1 := by decide
theorem cm1 : (-1 : Int32).toInt = -1 := by decide
theorem c5 : (5 : Int32).toInt = 5 := by decide
theorem c6 : (6 : Int32).toInt = 6 := by decide
theorem c12 : (12 : Int32).toInt = 12 := by decide
theorem c60 : (60 : Int32).toInt = 60 := by decide
theorem c300 : (300 : Int32).toInt = 300 := by decide
theorem eqi {a b : Int32} (h : a.toInt = b.toInt) : a = b := Int32.toInt_inj.mp h
theorem nei {a b : Int32} (h : ¬ a = b) : a.toInt ≠ b.toInt := fun e => h (eqi e)
theorem inc1 {x : Int32} (h0 : 0 ≤ x.toInt) (h1 : x.toInt ≤ 100000) : (x + 1).toInt = x.toInt + 1 := by
  rw [ti_add] <;> rw [c1] <;> omega
theorem nI_ti {k : Nat} (h : k ≤ 1000) : (nI k).toInt = (k : Int) := nI_toInt (by omega)
theorem vpn {x : Int32} {n : Nat} (h : vp_in x n) : ∃ j : Nat, j < n ∧ x.toInt = (j : Int) ∧ x.toNatClampNeg = j := by
  rw [vp_in_iff] at h
  refine ⟨x.toInt.toNat, by omega, by omega, ?_⟩
  have : x.toNatClampNeg = x.toInt.toNat := rfl
  exact this
theorem cln {x : Int32} (h : 0 ≤ x.toInt) : (x.toNatClampNeg : Int) = x.toInt := by
  have : x.toNatClampNeg = x.toInt.toNat := rfl
  omega
/-! what a program and a state are like -/
def BL (b : Nat) (x : Int32) : Prop := (b : Int) < x.toInt ∧ x.toInt < 40
def VS (b : Nat) (kd a x y : Int32) : Prop := (0 ≤ kd.toInt ∧ kd.toInt ≤ 14) ∧ (kd = 1 → vp_in a 6 ∧ BL b x) ∧ (kd = 2 → (0 ≤ a.toInt ∧ a.toInt ≤ 5) ∧ BL b x) ∧ (kd = 6 → 1 ≤ a.toInt ∧ a.toInt ≤ 9) ∧ (kd = 7 → (0 ≤ a.toInt ∧ a.toInt ≤ 13) ∧ BL b x ∧ BL b y) ∧ (kd = 8 → BL b x ∧ BL b y) ∧ (kd = 9 → BL b x) ∧ (kd = 10 → vp_in x 6) ∧ (kd = 11 → vp_in a 6 ∧ vp_in x 6) ∧ (kd = 12 → vp_in a 6) ∧ (kd = 13 → vp_in a 6)
def PV (si ki aa xx yy : Nat → Int32) : Prop := ∀ b : Nat, b < 40 → (0 ≤ (si b).toInt ∧ (si b).toInt ≤ 12) ∧ ∀ k : Nat, (k : Int) < (si b).toInt → VS b (ki (12 * b + k)) (aa (12 * b + k)) (xx (12 * b + k)) (yy (12 * b + k))
def J (δ : Nat) (ma et sp : Int32) (pl nu de si ki aa xx yy : Nat → Int32) : Prop :=
  (0 ≤ ma.toInt ∧ ma.toInt ≤ 60) ∧ (∀ p : Nat, p < 6 → (pl p).toInt = -1 ∨ (0 ≤ (pl p).toInt ∧ (pl p).toInt < ma.toInt)) ∧ (∀ t : Nat, ma.toInt ≤ (t : Int) → nu t = 0 ∧ de t = 0) ∧ (∀ t : Nat, 0 ≤ (de t).toInt ∧ 13 * (de t).toInt + (δ : Int) ≤ 14 * sp.toInt) ∧ (0 ≤ et.toInt ∧ et.toInt + (δ : Int) ≤ 14 * sp.toInt) ∧ (0 ≤ sp.toInt ∧ sp.toInt ≤ 300) ∧ PV si ki aa xx yy
section JS
variable {δ δ' : Nat} {ma et sp : Int32} {pl nu de si ki aa xx yy : Nat → Int32}
theorem J.ma60 (h : J δ ma et sp pl nu de si ki aa xx yy) : ma.toInt ≤ 60 := h.1.2
theorem J.et0 (h : J δ ma et sp pl nu de si ki aa xx yy) : 0 ≤ et.toInt := h.2.2.2.2.1.1
theorem J.et5 (h : J δ ma et sp pl nu de si ki aa xx yy) : et.toInt ≤ 5000 := by
  have h1 := h.2.2.2.2.1.2
  have h2 := h.2.2.2.2.2.1.2
  omega
theorem J.pv (h : J δ ma et sp pl nu de si ki aa xx yy) : PV si ki aa xx yy := h.2.2.2.2.2.2
theorem J.weak (h : J δ ma et sp pl nu de si ki aa xx yy) (hd : δ' ≤ δ) : J δ' ma et sp pl nu de si ki aa xx yy := by
  obtain ⟨h1, h2, h3, h4, h5, h6, h7⟩ := h
  refine ⟨h1, h2, h3, fun t => ⟨(h4 t).1, ?_⟩, ⟨h5.1, ?_⟩, h6, h7⟩
  · have := (h4 t).2
    omega
  · omega
theorem J_stepg (h : J δ ma et sp pl nu de si ki aa xx yy) (hs : sp.toInt < 300) : J (δ + 14) ma et (sp + 1) pl nu de si ki aa xx yy := by
  obtain ⟨h1, h2, h3, h4, h5, h6, h7⟩ := h
  have e : (sp + 1).toInt = sp.toInt + 1 := inc1 h6.1 (by omega)
  refine ⟨h1, h2, h3, fun t => ⟨(h4 t).1, ?_⟩, ⟨h5.1, ?_⟩, ?_, h7⟩
  · have := (h4 t).2
    rw [e]
    omega
  · rw [e]
    omega
  · rw [e]
    omega
theorem J_step (h : J 0 ma et sp pl nu de si ki aa xx yy) (hs : sp < 300) : J 14 ma et (sp + 1) pl nu de si ki aa xx yy := by
  rw [Int32.lt_iff_toInt_lt, c300] at hs
  exact J_stepg h hs
theorem sp_lt (h : J δ ma et sp pl nu de si ki aa xx yy) (hs : ¬ sp = 300) : sp.toInt < 300 := by
  have h1 := h.2.2.2.2.2.1.2
  have h2 := nei hs
  rw [c300] at h2
  omega
theorem J_step2 (h : J 0 ma et sp pl nu de si ki aa xx yy) (hs : ¬ sp = 300) : J 14 ma et (sp + 1) pl nu de si ki aa xx yy := J_stepg h (sp_lt h hs)
end JS
def HB4 (d : Nat) (p0 p1 : Int32) : Prop := 0 ≤ p0.toInt ∧ p0.toInt < 40 ∧ p1.toInt < p0.toInt ∧ 40 ≤ p0.toInt + (d : Int) ∧ d ≤ 60
def HM (d : Nat) (p0 : Int32) : Prop := 0 ≤ p0.toInt ∧ p0.toInt < 40 ∧ 40 ≤ p0.toInt + (d : Int)
def LO (d : Nat) (lo : Int32) : Prop := 0 ≤ lo.toInt ∧ lo.toInt + (d : Int) ≤ 100 ∧ d ≤ 60
theorem LO.down {d : Nat} {lo : Int32} (h : LO (d + 1) lo) : LO d lo := ⟨h.1, by have := h.2; omega, by have := h.2.2; omega⟩
theorem LO.zero {d : Nat} {lo : Int32} (h : LO (d + 1) lo) : LO d 0 := ⟨by rw [c0]; omega, by rw [c0]; have := h.2; have := h.1; omega, by have := h.2.2; omega⟩
theorem LO.up {d : Nat} {lo : Int32} (h : LO (d + 1) lo) : LO d (lo + 1) := by
  obtain ⟨h1, h2, h3⟩ := h
  have e : (lo + 1).toInt = lo.toInt + 1 := inc1 h1 (by omega)
  exact ⟨by omega, by omega, by omega⟩
def SM (d : Nat) (at_ : Int32) (ki aa xx yy : Nat → Int32) : Prop := ∃ b k : Nat, b < 40 ∧ k < 12 ∧ at_ = nI (12 * b + k) ∧ VS b (ki (12 * b + k)) (aa (12 * b + k)) (xx (12 * b + k)) (yy (12 * b + k)) ∧ 40 ≤ b + 1 + d
def SV (d : Nat) (p0 p1 : Int32) (ki aa xx yy : Nat → Int32) : Prop := ∃ b k : Nat, b < 40 ∧ k < 12 ∧ p1 = nI (12 * b + k) ∧ VS b (ki (12 * b + k)) (aa (12 * b + k)) (xx (12 * b + k)) (yy (12 * b + k)) ∧ 40 ≤ b + 1 + d ∧ p0 = nI b ∧ d < 60
section SVS
variable {d : Nat} {p0 p1 : Int32} {ki aa xx yy : Nat → Int32}
theorem SV.sm (h : SV d p0 p1 ki aa xx yy) : SM d p1 ki aa xx yy := by
  obtain ⟨b, k, h1, h2, h3, h4, h5, -, -⟩ := h
  exact ⟨b, k, h1, h2, h3, h4, h5⟩
theorem sm_in (h : SM d p0 ki aa xx yy) : vp_in p0 480 := by
  obtain ⟨b, k, h1, h2, rfl, -⟩ := h
  exact vp_in_nI (by omega) (by decide)
theorem SV.d60 (h : SV d p0 p1 ki aa xx yy) : d < 60 := by
  obtain ⟨b, k, h1, h2, h3, h4, h5, h6, h7⟩ := h
  exact h7
theorem sv_in (h : SV d p0 p1 ki aa xx yy) : vp_in p1 480 := sm_in h.sm
/-- the step at its place, as the arrays show it -/
theorem sm_vs (h : SM d p0 ki aa xx yy) : ∃ b : Nat, b < 40 ∧ VS b (ki p0.toNatClampNeg) (aa p0.toNatClampNeg) (xx p0.toNatClampNeg) (yy p0.toNatClampNeg) ∧ 40 ≤ b + 1 + d := by
  obtain ⟨b, k, h1, h2, rfl, h4, h5⟩ := h
  rw [nI_clamp (by omega)]
  exact ⟨b, h1, h4, h5⟩
theorem sv_vs (h : SV d p0 p1 ki aa xx yy) : ∃ b : Nat, b < 40 ∧ p0.toInt = (b : Int) ∧ VS b (ki p1.toNatClampNeg) (aa p1.toNatClampNeg) (xx p1.toNatClampNeg) (yy p1.toNatClampNeg) ∧ 40 ≤ b + 1 + d ∧ d < 60 := by
  obtain ⟨b, k, h1, h2, rfl, h4, h5, rfl, h6⟩ := h
  rw [nI_clamp (by omega)]
  exact ⟨b, h1, nI_ti (by omega), h4, h5, h6⟩
theorem bl_hm {b : Nat} {x : Int32} (h : BL b x) (hd : 40 ≤ b + 1 + d) : HM d x := ⟨by have := h.1; omega, h.2, by have := h.1; omega⟩
theorem bl_hb {b : Nat} {x : Int32} (h : BL b x) (hd : 40 ≤ b + 1 + d ∧ d < 60) (hp : p0.toInt = (b : Int)) : HB4 d x p0 := ⟨by have := h.1; omega, h.2, by have := h.1; omega, by have := h.1; omega, Nat.le_of_lt hd.2⟩
theorem HB4.hm {a b : Int32} (h : HB4 d a b) : HM d a := ⟨h.1, h.2.1, h.2.2.2.1⟩
theorem sv_1 (h : SV d p0 p1 ki aa xx yy) (hk : ki p1.toNatClampNeg = 1) : HB4 d (xx p1.toNatClampNeg) p0 := by
  obtain ⟨b, h1, h2, h3, h4⟩ := sv_vs h
  exact bl_hb (h3.2.1 hk).2 h4 h2
theorem sv_2 (h : SV d p0 p1 ki aa xx yy) (hk : ki p1.toNatClampNeg = 2) : HB4 d (xx p1.toNatClampNeg) p0 := by
  obtain ⟨b, h1, h2, h3, h4⟩ := sv_vs h
  exact bl_hb (h3.2.2.1 hk).2 h4 h2
theorem sv_7x (h : SV d p0 p1 ki aa xx yy) (hk : ki p1.toNatClampNeg = 7) : HB4 d (xx p1.toNatClampNeg) p0 := by
  obtain ⟨b, h1, h2, h3, h4⟩ := sv_vs h
  exact bl_hb (h3.2.2.2.2.1 hk).2.1 h4 h2
theorem sv_7y (h : SV d p0 p1 ki aa xx yy) (hk : ki p1.toNatClampNeg = 7) : HB4 d (yy p1.toNatClampNeg) p0 := by
  obtain ⟨b, h1, h2, h3, h4⟩ := sv_vs h
  exact bl_hb (h3.2.2.2.2.1 hk).2.2 h4 h2
theorem sv_8x (h : SV d p0 p1 ki aa xx yy) (hk : ki p1.toNatClampNeg = 8) : HB4 d (xx p1.toNatClampNeg) p0 := by
  obtain ⟨b, h1, h2, h3, h4⟩ := sv_vs h
  exact bl_hb (h3.2.2.2.2.2.1 hk).1 h4 h2
theorem sv_8y (h : SV d p0 p1 ki aa xx yy) (hk : ki p1.toNatClampNeg = 8) : HB4 d (yy p1.toNatClampNeg) p0 := by
  obtain ⟨b, h1, h2, h3, h4⟩ := sv_vs h
  exact bl_hb (h3.2.2.2.2.2.1 hk).2 h4 h2
theorem sv_9 (h : SV d p0 p1 ki aa xx yy) (hk : ki p1.toNatClampNeg = 9) : HB4 d (xx p1.toNatClampNeg) p0 := by
  obtain ⟨b, h1, h2, h3, h4⟩ := sv_vs h
  exact bl_hb (h3.2.2.2.2.2.2.1 hk) h4 h2
theorem sm_1p (h : SM d p0 ki aa xx yy) (hk : ki p0.toNatClampNeg = 1) : vp_in (aa p0.toNatClampNeg) 6 := by
  obtain ⟨b, h1, h3, h4⟩ := sm_vs h
  exact (h3.2.1 hk).1
theorem sm_1 (h : SM d p0 ki aa xx yy) (hk : ki p0.toNatClampNeg = 1) : HM d (xx p0.toNatClampNeg) := by
  obtain ⟨b, h1, h3, h4⟩ := sm_vs h
  exact bl_hm (h3.2.1 hk).2 h4
theorem sm_2a (h : SM d p0 ki aa xx yy) (hk : ki p0.toNatClampNeg = 2) : (aa p0.toNatClampNeg).toInt ≤ 5 := by
  obtain ⟨b, h1, h3, h4⟩ := sm_vs h
  exact (h3.2.2.1 hk).1.2
theorem sm_2 (h : SM d p0 ki aa xx yy) (hk : ki p0.toNatClampNeg = 2) : HM d (xx p0.toNatClampNeg) := by
  obtain ⟨b, h1, h3, h4⟩ := sm_vs h
  exact bl_hm (h3.2.2.1 hk).2 h4
theorem sm_6 (h : SM d p0 ki aa xx yy) (hk : ki p0.toNatClampNeg = 6) : 1 ≤ (aa p0.toNatClampNeg).toInt ∧ (aa p0.toNatClampNeg).toInt ≤ 9 := by
  obtain ⟨b, h1, h3, h4⟩ := sm_vs h
  exact h3.2.2.2.1 hk
theorem sm_7a (h : SM d p0 ki aa xx yy) (hk : ki p0.toNatClampNeg = 7) : 0 ≤ (aa p0.toNatClampNeg).toInt ∧ (aa p0.toNatClampNeg).toInt ≤ 13 := by
  obtain ⟨b, h1, h3, h4⟩ := sm_vs h
  exact (h3.2.2.2.2.1 hk).1
theorem sm_7x (h : SM d p0 ki aa xx yy) (hk : ki p0.toNatClampNeg = 7) : HM d (xx p0.toNatClampNeg) := by
  obtain ⟨b, h1, h3, h4⟩ := sm_vs h
  exact bl_hm (h3.2.2.2.2.1 hk).2.1 h4
theorem sm_7y (h : SM d p0 ki aa xx yy) (hk : ki p0.toNatClampNeg = 7) : HM d (yy p0.toNatClampNeg) := by
  obtain ⟨b, h1, h3, h4⟩ := sm_vs h
  exact bl_hm (h3.2.2.2.2.1 hk).2.2 h4
theorem sm_8x (h : SM d p0 ki aa xx yy) (hk : ki p0.toNatClampNeg = 8) : HM d (xx p0.toNatClampNeg) := by
  obtain ⟨b, h1, h3, h4⟩ := sm_vs h
  exact bl_hm (h3.2.2.2.2.2.1 hk).1 h4
theorem sm_8y (h : SM d p0 ki aa xx yy) (hk : ki p0.toNatClampNeg = 8) : HM d (yy p0.toNatClampNeg) := by
  obtain ⟨b, h1, h3, h4⟩ := sm_vs h
  exact bl_hm (h3.2.2.2.2.2.1 hk).2 h4
theorem sm_9 (h : SM d p0 ki aa xx yy) (hk : ki p0.toNatClampNeg = 9) : HM d (xx p0.toNatClampNeg) := by
  obtain ⟨b, h1, h3, h4⟩ := sm_vs h
  exact bl_hm (h3.2.2.2.2.2.2.1 hk) h4
theorem sm_10 (h : SM d p0 ki aa xx yy) (hk : ki p0.toNatClampNeg = 10) : vp_in (xx p0.toNatClampNeg) 6 := by
  obtain ⟨b, h1, h3, h4⟩ := sm_vs h
  exact h3.2.2.2.2.2.2.2.1 hk
theorem sm_11a (h : SM d p0 ki aa xx yy) (hk : ki p0.toNatClampNeg = 11) : vp_in (aa p0.toNatClampNeg) 6 := by
  obtain ⟨b, h1, h3, h4⟩ := sm_vs h
  exact (h3.2.2.2.2.2.2.2.2.1 hk).1
theorem sm_11x (h : SM d p0 ki aa xx yy) (hk : ki p0.toNatClampNeg = 11) : vp_in (xx p0.toNatClampNeg) 6 := by
  obtain ⟨b, h1, h3, h4⟩ := sm_vs h
  exact (h3.2.2.2.2.2.2.2.2.1 hk).2
theorem sm_12 (h : SM d p0 ki aa xx yy) (hk : ki p0.toNatClampNeg = 12) : vp_in (aa p0.toNatClampNeg) 6 := by
  obtain ⟨b, h1, h3, h4⟩ := sm_vs h
  exact h3.2.2.2.2.2.2.2.2.2.1 hk
theorem sm_13 (h : SM d p0 ki aa xx yy) (hk : ki p0.toNatClampNeg = 13) : vp_in (aa p0.toNatClampNeg) 6 := by
  obtain ⟨b, h1, h3, h4⟩ := sm_vs h
  exact h3.2.2.2.2.2.2.2.2.2.2 hk
theorem sm_k (h : SM d p0 ki aa xx yy) : 0 ≤ (ki p0.toNatClampNeg).toInt ∧ (ki p0.toNatClampNeg).toInt ≤ 14 := by
  obtain ⟨b, h1, h3, h4⟩ := sm_vs h
  exact h3.1
end SVS
section LT
variable {k d δ : Nat} {x y z v1 v4 p0 p1 : Int32} {ma et sp : Int32} {pl pl_l nu de si si_l ki aa xx yy : Nat → Int32}
theorem lt_nI (hk : k ≤ 100) (e : x = nI k) (h : ¬ 6 ≤ x) : k < 6 := by
  rw [Int32.le_iff_toInt_le, e, nI_ti (by omega), c6] at h
  omega
theorem lt_nI5 (hk : k ≤ 100) (e : x = nI k) (hy : y.toInt ≤ 5) (h : ¬ y ≤ x) : k < 5 := by
  rw [Int32.le_iff_toInt_le, e, nI_ti (by omega)] at h
  omega
theorem min12 (z : Int32) : ((if 12 < z then 12 else z) : Int32).toInt ≤ 12 := by
  split
  · rw [c12]; omega
  · rename_i h
    rw [Int32.lt_iff_toInt_lt, c12] at h
    omega
theorem lt_nI12 (hk : k ≤ 100) (e : x = nI k) (hy : y = (if 12 < z then 12 else z)) (h : ¬ y ≤ x) : k < 12 := by
  have h1 := min12 z
  rw [← hy] at h1
  rw [Int32.le_iff_toInt_le, e, nI_ti (by omega)] at h
  omega
theorem min5_le (x : Int32) : ((if 5 < x then 5 else x) : Int32).toInt ≤ 5 := by
  split
  · rw [c5]; omega
  · rename_i h
    rw [Int32.lt_iff_toInt_lt, c5] at h
    omega
theorem in6 (hk : k ≤ 100) (e : x = nI k) (h : ¬ 6 ≤ x) : vp_in x 6 := by
  have := lt_nI hk e h
  rw [e]
  exact vp_in_nI this (by decide)
theorem pl_ok (hJ : J δ ma et sp pl nu de si ki aa xx yy) (hp : vp_in x 6) (h : ¬ pl x.toNatClampNeg = (-1)) : 0 ≤ (pl x.toNatClampNeg).toInt ∧ (pl x.toNatClampNeg).toInt < ma.toInt := by
  obtain ⟨j, h1, h2, h3⟩ := vpn hp
  have h4 := nei h
  rw [cm1] at h4
  rw [h3] at h4 ⊢
  rcases hJ.2.1 j h1 with q | q
  · exact absurd q h4
  · exact q
theorem tv_in (ht : 0 ≤ x.toInt ∧ x.toInt < ma.toInt) (hJ : J δ ma et sp pl nu de si ki aa xx yy) : vp_in x 60 := by
  rw [vp_in_iff]
  have := hJ.ma60
  omega
theorem pl_in (hJ : J δ ma et sp pl nu de si ki aa xx yy) (hpl : pl_l = pl) (hk : k ≤ 100) (e : x = nI k) (h : ¬ 6 ≤ x) (hn : ¬ pl_l x.toNatClampNeg = (-1)) : vp_in (pl_l x.toNatClampNeg) 60 := by
  subst hpl
  exact tv_in (pl_ok hJ (in6 hk e h) hn) hJ
theorem pv_1 (hV : SM d p0 ki aa xx yy) (hJ : J δ ma et sp pl nu de si ki aa xx yy) (hk : ki p0.toNatClampNeg = 1) (hn : ¬ pl (aa p0.toNatClampNeg).toNatClampNeg = (-1)) : 0 ≤ (pl (aa p0.toNatClampNeg).toNatClampNeg).toInt ∧ (pl (aa p0.toNatClampNeg).toNatClampNeg).toInt < ma.toInt := pl_ok hJ (sm_1p hV hk) hn
theorem pv_10 (hV : SM d p0 ki aa xx yy) (hJ : J δ ma et sp pl nu de si ki aa xx yy) (hk : ki p0.toNatClampNeg = 10) : pl (xx p0.toNatClampNeg).toNatClampNeg = (-1) ∨ vp_in (pl (xx p0.toNatClampNeg).toNatClampNeg) 60 := by
  by_cases hn : pl (xx p0.toNatClampNeg).toNatClampNeg = (-1)
  · exact Or.inl hn
  · exact Or.inr (tv_in (pl_ok hJ (sm_10 hV hk) hn) hJ)
theorem ma_in (hJ : J δ ma et sp pl nu de si ki aa xx yy) (h : ¬ ma = 60) : vp_in ma 60 := by
  have h1 := nei h
  rw [c60] at h1
  rw [vp_in_iff]
  have := hJ.1
  omega
theorem hb_in (h : HB4 d p0 p1) : vp_in p0 40 := by
  rw [vp_in_iff]
  exact ⟨h.1, h.2.1⟩
theorem hm_in (h : HM d p0) (e : v1 = p0) : vp_in v1 40 := by
  rw [vp_in_iff, e]
  exact ⟨h.1, h.2.1⟩
theorem mul12 {b k : Nat} (hb : b < 40) (hk : k < 12) : nI b * 12 + nI k = nI (12 * b + k) := by
  rw [show (12 : Int32) = nI 12 by decide, pk_mul, nI_add, Nat.mul_comm]
theorem mul12' {b k : Nat} (hb : b < 40) (hk : k < 12) : 12 * nI b + nI k = nI (12 * b + k) := by
  rw [show (12 : Int32) = nI 12 by decide, pk_mul, nI_add]
theorem lt_si (hB : HM (d + 1) p0) (e1 : v1 = p0) (hk : k ≤ 100) (e : x = nI k) (h : ¬ si v1.toNatClampNeg ≤ x) (hJ : J δ ma et sp pl nu de si ki aa xx yy) : k < 12 := by
  obtain ⟨j, h1, h2, h3⟩ := vpn (hm_in hB e1)
  rw [Int32.le_iff_toInt_le, e, nI_ti (by omega), h3] at h
  have := (hJ.pv j h1).1
  omega
theorem sm_of (hB : HM (d + 1) p0) (e1 : v1 = p0) (hk : k ≤ 100) (e : x = nI k) (h : ¬ si v1.toNatClampNeg ≤ x) (hJ : J δ ma et sp pl nu de si ki aa xx yy) : SM d (12 * v1 + x) ki aa xx yy := by
  have hk12 := lt_si hB e1 hk e h hJ
  obtain ⟨j, h1, h2, h3⟩ := vpn (hm_in hB e1)
  rw [Int32.le_iff_toInt_le, e, nI_ti (by omega), h3] at h
  have hv : v1 = nI j := eqi (by rw [h2, nI_ti (by omega)])
  refine ⟨j, k, h1, hk12, by rw [hv, e, mul12' h1 hk12], (hJ.pv j h1).2 k (by omega), ?_⟩
  have := hB.2.2
  rw [← e1] at this
  omega
theorem sv_of (hB : HB4 (d + 1) p0 p1) (e1 : v1 = p0) (e4 : v4 = (if 12 < si p0.toNatClampNeg then 12 else si p0.toNatClampNeg)) (esi : si_l = si) (hk : k ≤ 100) (e : x = nI k) (h : ¬ v4 ≤ x) (hJ : J δ ma et sp pl nu de si_l ki aa xx yy) : SV d v1 (v1 * 12 + x) ki aa xx yy := by
  subst esi
  have hk12 := lt_nI12 hk e e4 h
  obtain ⟨j, h1, h2, h3⟩ := vpn (hb_in hB)
  have hv : v1 = nI j := by rw [e1]; exact eqi (by rw [h2, nI_ti (by omega)])
  have h9 := (hJ.pv j h1).1
  have hk3 : (k : Int) < (si_l j).toInt := by
    rw [e4, h3] at h
    rw [Int32.le_iff_toInt_le, e, nI_ti (by omega)] at h
    split at h
    · rw [c12] at h
      rename_i q
      rw [Int32.lt_iff_toInt_lt, c12] at q
      omega
    · omega
  refine ⟨j, k, h1, hk12, by rw [hv, e, mul12 h1 hk12], (hJ.pv j h1).2 k hk3, ?_, hv, ?_⟩
  · have := hB.2.2.2
    omega
  · have := hB.2.2.2
    omega
theorem et_up {et et' : Int32} {B : Int} (h0 : 0 ≤ et.toInt) (hB : et.toInt ≤ B) (e : et' = et + 1) (hb : B ≤ 10000) : 0 ≤ et'.toInt ∧ et'.toInt ≤ B + 1 := by
  have h1 : (et + 1).toInt = et.toInt + 1 := inc1 h0 (by omega)
  rw [e, h1]
  omega
end LT
