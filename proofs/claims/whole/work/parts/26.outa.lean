abbrev SHb : Type := Int32 × Int32 × (Nat → Int32) × (Nat → Int32) × (Nat → Int32) × Int32 × (Nat → Int32) × (Nat → Int32) × (Nat → Int32) × (Nat → Int32) × (Nat → Int32) × Int32 × Int32 × Int32 × Int32 × Int32 × Int32 × (Nat → Int32) × Int32
def OI (k : Nat) (ma to et sp : Int32) (pl nu de si ki aa xx yy : Nat → Int32) : Prop := J 0 ma et sp pl nu de si ki aa xx yy ∧ (∀ t : Nat, de t = 0) ∧ (-(12 * (k : Int)) ≤ to.toInt ∧ to.toInt ≤ 150)
def PUB (k : Nat) (C : Int32 × SHb) (M : Int32 × SMo) : Prop := ∃ (r th' ma' to' rn' rf' et' sp' ho' mo' cs' uw' wh' lo' : Int32) (pl' nu' de' si' ki' aa' xx' yy' en' : Nat → Int32), C = (r, rn', ma', pl', nu', de', to', si', ki', aa', xx', yy', et', sp', ho', uw', mo', cs', en', rf') ∧ M = (r, th', ma', to', rn', rf', et', sp', ho', mo', cs', uw', wh', lo', pl', nu', de', si', ki', aa', xx', yy', en') ∧ OI (k + 1) (ma') (to') (et') (sp') (pl') (nu') (de') (si') (ki') (aa') (xx') (yy')
theorem OI.up {k : Nat} {ma to et sp : Int32} {pl nu de si ki aa xx yy : Nat → Int32} (h : OI k ma to et sp pl nu de si ki aa xx yy) : OI (k + 1) ma to et sp pl nu de si ki aa xx yy := ⟨h.1, h.2.1, by have := h.2.2; omega⟩
theorem in_eq (x a b : Int32) : f_X5_in x a b = f_X4_isWithin x a b := rfl
theorem pl_eq (x : Int32) : f_X5_isPlace x = f_X4_isPlace x := rfl
theorem iw_0 {x a b : Int32} : f_X4_isWithin x a b = 0 ↔ ¬ (a.toInt ≤ x.toInt ∧ x.toInt ≤ b.toInt) := by
  unfold f_X4_isWithin
  by_cases h1 : x < a
  · rw [if_pos h1]
    rw [Int32.lt_iff_toInt_lt] at h1
    exact ⟨fun _ h => by omega, fun _ => rfl⟩
  · rw [if_neg h1]
    rw [Int32.lt_iff_toInt_lt] at h1
    by_cases h2 : b < x
    · rw [if_pos h2]
      rw [Int32.lt_iff_toInt_lt] at h2
      exact ⟨fun _ h => by omega, fun _ => rfl⟩
    · rw [if_neg h2]
      rw [Int32.lt_iff_toInt_lt] at h2
      exact ⟨fun e => absurd e (by decide), fun h => absurd (by omega) h⟩
theorem c39 : (39 : Int32).toInt = 39 := by decide
theorem c40 : (40 : Int32).toInt = 40 := by decide
theorem c14 : (14 : Int32).toInt = 14 := by decide
theorem later_eq {b x : Int32} (hb : vp_in b 40) : f_X4_isLater x b = f_X5_isBelow b x := by
  rw [vp_in_iff] at hb
  have e : (b + 1).toInt = b.toInt + 1 := inc1 hb.1 (by omega)
  unfold f_X4_isLater f_X4_isWithin f_X5_isBelow
  by_cases h1 : x ≤ b
  · rw [if_pos h1, if_pos (by rw [Int32.lt_iff_toInt_lt, e]; rw [Int32.le_iff_toInt_le] at h1; omega)]
  · rw [if_neg h1, if_neg (by rw [Int32.lt_iff_toInt_lt, e]; rw [Int32.le_iff_toInt_le] at h1; omega)]
    by_cases h2 : 40 ≤ x
    · rw [if_pos h2, if_pos (by rw [Int32.lt_iff_toInt_lt, c39]; rw [Int32.le_iff_toInt_le, c40] at h2; omega)]
    · rw [if_neg h2, if_neg (by rw [Int32.lt_iff_toInt_lt, c39]; rw [Int32.le_iff_toInt_le, c40] at h2; omega)]
theorem below_bl {b : Nat} {p x : Int32} (hp : p.toInt = (b : Int)) (h : ¬ f_X5_isBelow p x = 0) : BL b x := by
  unfold f_X5_isBelow at h
  split at h
  · exact absurd rfl h
  · split at h
    · exact absurd rfl h
    · rename_i h1 h2
      rw [Int32.le_iff_toInt_le] at h1 h2
      rw [c40] at h2
      exact ⟨by omega, by omega⟩
theorem step_eq {p0 p1 p2 p3 p4 : Int32} (hb : vp_in p0 40) (hk : 0 ≤ p1.toInt ∧ p1.toInt ≤ 14) : f_X4_isStep p0 p1 p2 p3 p4 = f_X5_isRight p0 p1 p2 p3 p4 := by
  have e3 := later_eq (x := p3) hb
  have e4 := later_eq (x := p4) hb
  unfold f_X4_isStep f_X5_isRight
  rw [e3, e4]
  simp only [if_neg (is_block hb)]
  by_cases h0 : p1 = 0
  · subst h0
    simp only [if_true, if_neg (show ¬ (0 : Int32) = 1 by decide), if_neg (show ¬ (0 : Int32) = 2 by decide), if_neg (show ¬ (0 : Int32) = 3 by decide), if_neg (show ¬ (0 : Int32) = 4 by decide), if_neg (show ¬ (0 : Int32) = 5 by decide), if_neg (show ¬ (0 : Int32) = 6 by decide), if_neg (show ¬ (0 : Int32) = 7 by decide), if_neg (show ¬ (0 : Int32) = 8 by decide), if_neg (show ¬ (0 : Int32) = 9 by decide), if_neg (show ¬ (0 : Int32) = 10 by decide), if_neg (show ¬ (0 : Int32) = 11 by decide), if_neg (show ¬ (0 : Int32) = 12 by decide), if_neg (show ¬ (0 : Int32) = 13 by decide)]
  by_cases h1 : p1 = 1
  · simp only [if_neg h0, if_pos h1]
    try rfl
  by_cases h2 : p1 = 2
  · simp only [if_neg h0, if_neg h1, if_pos h2]
    try rfl
  by_cases h3 : p1 = 3
  · simp only [if_neg h0, if_neg h1, if_neg h2, if_pos h3]
    try rfl
  by_cases h4 : p1 = 4
  · simp only [if_neg h0, if_neg h1, if_neg h2, if_neg h3, if_pos h4]
    try rfl
  by_cases h5 : p1 = 5
  · simp only [if_neg h0, if_neg h1, if_neg h2, if_neg h3, if_neg h4, if_pos h5]
    try rfl
  by_cases h6 : p1 = 6
  · simp only [if_neg h0, if_neg h1, if_neg h2, if_neg h3, if_neg h4, if_neg h5, if_pos h6]
    try rfl
  by_cases h7 : p1 = 7
  · simp only [if_neg h0, if_neg h1, if_neg h2, if_neg h3, if_neg h4, if_neg h5, if_neg h6, if_pos h7]
    try rfl
  by_cases h8 : p1 = 8
  · simp only [if_neg h0, if_neg h1, if_neg h2, if_neg h3, if_neg h4, if_neg h5, if_neg h6, if_neg h7, if_pos h8]
    try rfl
  by_cases h9 : p1 = 9
  · simp only [if_neg h0, if_neg h1, if_neg h2, if_neg h3, if_neg h4, if_neg h5, if_neg h6, if_neg h7, if_neg h8, if_pos h9]
    try rfl
  by_cases h10 : p1 = 10
  · simp only [if_neg h0, if_neg h1, if_neg h2, if_neg h3, if_neg h4, if_neg h5, if_neg h6, if_neg h7, if_neg h8, if_neg h9, if_pos h10]
    try rfl
  by_cases h11 : p1 = 11
  · simp only [if_neg h0, if_neg h1, if_neg h2, if_neg h3, if_neg h4, if_neg h5, if_neg h6, if_neg h7, if_neg h8, if_neg h9, if_neg h10, if_pos h11]
    try rfl
  by_cases h12 : p1 = 12
  · simp only [if_neg h0, if_neg h1, if_neg h2, if_neg h3, if_neg h4, if_neg h5, if_neg h6, if_neg h7, if_neg h8, if_neg h9, if_neg h10, if_neg h11, if_pos h12]
    try rfl
  by_cases h13 : p1 = 13
  · simp only [if_neg h0, if_neg h1, if_neg h2, if_neg h3, if_neg h4, if_neg h5, if_neg h6, if_neg h7, if_neg h8, if_neg h9, if_neg h10, if_neg h11, if_neg h12, if_pos h13]
    try rfl
  have h14 : p1 = 14 := by
    apply eqi
    rw [c14]
    have n0 := ne_ti (k := 0) (n := 0) h0 (by decide)
    have n1 := ne_ti (k := 1) (n := 1) h1 (by decide)
    have n2 := ne_ti (k := 2) (n := 2) h2 (by decide)
    have n3 := ne_ti (k := 3) (n := 3) h3 (by decide)
    have n4 := ne_ti (k := 4) (n := 4) h4 (by decide)
    have n5 := ne_ti (k := 5) (n := 5) h5 (by decide)
    have n6 := ne_ti (k := 6) (n := 6) h6 (by decide)
    have n7 := ne_ti (k := 7) (n := 7) h7 (by decide)
    have n8 := ne_ti (k := 8) (n := 8) h8 (by decide)
    have n9 := ne_ti (k := 9) (n := 9) h9 (by decide)
    have n10 := ne_ti (k := 10) (n := 10) h10 (by decide)
    have n11 := ne_ti (k := 11) (n := 11) h11 (by decide)
    have n12 := ne_ti (k := 12) (n := 12) h12 (by decide)
    have n13 := ne_ti (k := 13) (n := 13) h13 (by decide)
    omega
  simp only [if_neg h0, if_neg h1, if_neg h2, if_neg h3, if_neg h4, if_neg h5, if_neg h6, if_neg h7, if_neg h8, if_neg h9, if_neg h10, if_neg h11, if_neg h12, if_neg h13, if_pos h14]
theorem step_bad {p0 p1 p2 p3 p4 : Int32} (hk : ¬ (0 ≤ p1.toInt ∧ p1.toInt ≤ 14)) : f_X4_isStep p0 p1 p2 p3 p4 = 0 := by
  unfold f_X4_isStep
  have h0 : ¬ p1 = 0 := fun e => hk (by rw [e]; decide)
  have h1 : ¬ p1 = 1 := fun e => hk (by rw [e]; decide)
  have h2 : ¬ p1 = 2 := fun e => hk (by rw [e]; decide)
  have h3 : ¬ p1 = 3 := fun e => hk (by rw [e]; decide)
  have h4 : ¬ p1 = 4 := fun e => hk (by rw [e]; decide)
  have h5 : ¬ p1 = 5 := fun e => hk (by rw [e]; decide)
  have h6 : ¬ p1 = 6 := fun e => hk (by rw [e]; decide)
  have h7 : ¬ p1 = 7 := fun e => hk (by rw [e]; decide)
  have h8 : ¬ p1 = 8 := fun e => hk (by rw [e]; decide)
  have h9 : ¬ p1 = 9 := fun e => hk (by rw [e]; decide)
  have h10 : ¬ p1 = 10 := fun e => hk (by rw [e]; decide)
  have h11 : ¬ p1 = 11 := fun e => hk (by rw [e]; decide)
  have h12 : ¬ p1 = 12 := fun e => hk (by rw [e]; decide)
  have h13 : ¬ p1 = 13 := fun e => hk (by rw [e]; decide)
  have h14 : ¬ p1 = 14 := fun e => hk (by rw [e]; decide)
  simp only [if_neg h0, if_neg h1, if_neg h2, if_neg h3, if_neg h4, if_neg h5, if_neg h6, if_neg h7, if_neg h8, if_neg h9, if_neg h10, if_neg h11, if_neg h12, if_neg h13, if_neg h14]
  split <;> rfl
theorem right_vs {b : Nat} {p0 p1 p2 p3 p4 : Int32} (hp : p0.toInt = (b : Int)) (hk : 0 ≤ p1.toInt ∧ p1.toInt ≤ 14) (h : ¬ f_X5_isRight p0 p1 p2 p3 p4 = 0) : VS b p1 p2 p3 p4 := by
  unfold f_X5_isRight at h
  refine ⟨hk, ?_, ?_, ?_, ?_, ?_, ?_, ?_, ?_, ?_, ?_⟩
  · intro e
    subst e
    simp only [if_true] at h
    by_cases g0 : (f_X5_isPlace p2) = 0
    · simp only [if_pos g0] at h
      exact absurd trivial h
    simp only [if_neg g0] at h
    by_cases g1 : (f_X5_isBelow p0 p3) = 0
    · simp only [if_pos g1] at h
      exact absurd trivial h
    simp only [if_neg g1] at h
    exact ⟨m_place g0, below_bl hp g1⟩
  · intro e
    subst e
    simp only [if_neg (show ¬ (2 : Int32) = 1 by decide), if_true] at h
    by_cases g0 : (f_X5_in p2 0 5) = 0
    · simp only [if_pos g0] at h
      exact absurd trivial h
    simp only [if_neg g0] at h
    by_cases g1 : (f_X5_isBelow p0 p3) = 0
    · simp only [if_pos g1] at h
      exact absurd trivial h
    simp only [if_neg g1] at h
    exact ⟨(by have z := min_in g0; rw [c0, c5] at z; exact z), below_bl hp g1⟩
  · intro e
    subst e
    simp only [if_neg (show ¬ (6 : Int32) = 1 by decide), if_neg (show ¬ (6 : Int32) = 2 by decide), if_neg (show ¬ (6 : Int32) = 3 by decide), if_neg (show ¬ (6 : Int32) = 4 by decide), if_neg (show ¬ (6 : Int32) = 5 by decide), if_true] at h
    exact (by have z := min_in h; rw [c1, show (9 : Int32).toInt = 9 by decide] at z; exact z)
  · intro e
    subst e
    simp only [if_neg (show ¬ (7 : Int32) = 1 by decide), if_neg (show ¬ (7 : Int32) = 2 by decide), if_neg (show ¬ (7 : Int32) = 3 by decide), if_neg (show ¬ (7 : Int32) = 4 by decide), if_neg (show ¬ (7 : Int32) = 5 by decide), if_neg (show ¬ (7 : Int32) = 6 by decide), if_true] at h
    by_cases g0 : (f_X5_in p2 0 13) = 0
    · simp only [if_pos g0] at h
      exact absurd trivial h
    simp only [if_neg g0] at h
    by_cases g1 : (f_X5_isBelow p0 p3) = 0
    · simp only [if_pos g1] at h
      exact absurd trivial h
    simp only [if_neg g1] at h
    by_cases g2 : (f_X5_isBelow p0 p4) = 0
    · simp only [if_pos g2] at h
      exact absurd trivial h
    simp only [if_neg g2] at h
    exact ⟨(by have z := min_in g0; rw [c0, show (13 : Int32).toInt = 13 by decide] at z; exact z), below_bl hp g1, below_bl hp g2⟩
  · intro e
    subst e
    simp only [if_neg (show ¬ (8 : Int32) = 1 by decide), if_neg (show ¬ (8 : Int32) = 2 by decide), if_neg (show ¬ (8 : Int32) = 3 by decide), if_neg (show ¬ (8 : Int32) = 4 by decide), if_neg (show ¬ (8 : Int32) = 5 by decide), if_neg (show ¬ (8 : Int32) = 6 by decide), if_neg (show ¬ (8 : Int32) = 7 by decide), if_true] at h
    by_cases g0 : (f_X5_isBelow p0 p3) = 0
    · simp only [if_pos g0] at h
      exact absurd trivial h
    simp only [if_neg g0] at h
    by_cases g1 : (f_X5_isBelow p0 p4) = 0
    · simp only [if_pos g1] at h
      exact absurd trivial h
    simp only [if_neg g1] at h
    exact ⟨below_bl hp g0, below_bl hp g1⟩
  · intro e
    subst e
    simp only [if_neg (show ¬ (9 : Int32) = 1 by decide), if_neg (show ¬ (9 : Int32) = 2 by decide), if_neg (show ¬ (9 : Int32) = 3 by decide), if_neg (show ¬ (9 : Int32) = 4 by decide), if_neg (show ¬ (9 : Int32) = 5 by decide), if_neg (show ¬ (9 : Int32) = 6 by decide), if_neg (show ¬ (9 : Int32) = 7 by decide), if_neg (show ¬ (9 : Int32) = 8 by decide), if_true] at h
    exact below_bl hp h
  · intro e
    subst e
    simp only [if_neg (show ¬ (10 : Int32) = 1 by decide), if_neg (show ¬ (10 : Int32) = 2 by decide), if_neg (show ¬ (10 : Int32) = 3 by decide), if_neg (show ¬ (10 : Int32) = 4 by decide), if_neg (show ¬ (10 : Int32) = 5 by decide), if_neg (show ¬ (10 : Int32) = 6 by decide), if_neg (show ¬ (10 : Int32) = 7 by decide), if_neg (show ¬ (10 : Int32) = 8 by decide), if_neg (show ¬ (10 : Int32) = 9 by decide), if_true] at h
    exact m_place h
  · intro e
    subst e
    simp only [if_neg (show ¬ (11 : Int32) = 1 by decide), if_neg (show ¬ (11 : Int32) = 2 by decide), if_neg (show ¬ (11 : Int32) = 3 by decide), if_neg (show ¬ (11 : Int32) = 4 by decide), if_neg (show ¬ (11 : Int32) = 5 by decide), if_neg (show ¬ (11 : Int32) = 6 by decide), if_neg (show ¬ (11 : Int32) = 7 by decide), if_neg (show ¬ (11 : Int32) = 8 by decide), if_neg (show ¬ (11 : Int32) = 9 by decide), if_neg (show ¬ (11 : Int32) = 10 by decide), if_true] at h
    by_cases g0 : (f_X5_isPlace p2) = 0
    · simp only [if_pos g0] at h
      exact absurd trivial h
    simp only [if_neg g0] at h
    by_cases g1 : (f_X5_isPlace p3) = 0
    · simp only [if_pos g1] at h
      exact absurd trivial h
    simp only [if_neg g1] at h
    exact ⟨m_place g0, m_place g1⟩
  · intro e
    subst e
    simp only [if_neg (show ¬ (12 : Int32) = 1 by decide), if_neg (show ¬ (12 : Int32) = 2 by decide), if_neg (show ¬ (12 : Int32) = 3 by decide), if_neg (show ¬ (12 : Int32) = 4 by decide), if_neg (show ¬ (12 : Int32) = 5 by decide), if_neg (show ¬ (12 : Int32) = 6 by decide), if_neg (show ¬ (12 : Int32) = 7 by decide), if_neg (show ¬ (12 : Int32) = 8 by decide), if_neg (show ¬ (12 : Int32) = 9 by decide), if_neg (show ¬ (12 : Int32) = 10 by decide), if_neg (show ¬ (12 : Int32) = 11 by decide), if_true] at h
    exact m_place h
  · intro e
    subst e
    simp only [if_neg (show ¬ (13 : Int32) = 1 by decide), if_neg (show ¬ (13 : Int32) = 2 by decide), if_neg (show ¬ (13 : Int32) = 3 by decide), if_neg (show ¬ (13 : Int32) = 4 by decide), if_neg (show ¬ (13 : Int32) = 5 by decide), if_neg (show ¬ (13 : Int32) = 6 by decide), if_neg (show ¬ (13 : Int32) = 7 by decide), if_neg (show ¬ (13 : Int32) = 8 by decide), if_neg (show ¬ (13 : Int32) = 9 by decide), if_neg (show ¬ (13 : Int32) = 10 by decide), if_neg (show ¬ (13 : Int32) = 11 by decide), if_neg (show ¬ (13 : Int32) = 12 by decide), if_true] at h
    exact m_place h
