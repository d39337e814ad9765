/-! the reference's public answers -/
def Mm (I : IM) (mm : Nat) : Prop := I 35 10 = nI mm ∧ mm ≤ 120
theorem mk_rg {I : IM} {mm : Nat} {v : Int32} (h1 : I 35 10 = nI mm) (h2 : mm ≤ 120) (h : inB v 0 (I 35 10 - 1) = true) : v = nI v.toNatClampNeg ∧ v.toNatClampNeg < mm := by
  rw [h1] at h
  cases mm with
  | zero =>
    exfalso
    unfold inB at h
    simp only [Bool.and_eq_true, Bool.not_eq_true', decide_eq_false_iff_not] at h
    have a1 := h.1
    have a2 := h.2
    rw [Int32.lt_iff_toInt_lt] at a1 a2
    have e1 : (nI 0 - 1).toInt = -1 := by decide
    rw [tI0] at a1
    rw [e1] at a2
    omega
  | succ k =>
    rw [nI_pred] at h
    have := inB_rg h (by omega)
    exact ⟨this.1, Nat.lt_succ_of_le this.2⟩
theorem in1_rg {v : Int32} {N : Nat} (hN : N < 2 ^ 31) (h : inB v 0 (nI N - 1) = true) : v = nI v.toNatClampNeg ∧ v.toNatClampNeg < N := by
  cases N with
  | zero =>
    exfalso
    unfold inB at h
    simp only [Bool.and_eq_true, Bool.not_eq_true', decide_eq_false_iff_not] at h
    have a1 := h.1
    have a2 := h.2
    rw [Int32.lt_iff_toInt_lt] at a1 a2
    have e1 : (nI 0 - 1).toInt = -1 := by decide
    rw [tI0] at a1
    rw [e1] at a2
    omega
  | succ k =>
    rw [nI_pred] at h
    have := inB_rg h (by omega)
    exact ⟨this.1, Nat.lt_succ_of_le this.2⟩
theorem inp_rg {v x : Int32} (hp : x = -1 ∨ rg x 27) (h : inB v 0 (x - 1) = true) : v = nI v.toNatClampNeg ∧ v.toNatClampNeg < 27 := by
  rcases hp with rfl | hp
  · exfalso
    unfold inB at h
    simp only [Bool.and_eq_true, Bool.not_eq_true', decide_eq_false_iff_not] at h
    have a1 := h.1
    have a2 := h.2
    rw [Int32.lt_iff_toInt_lt] at a1 a2
    have e1 : ((-1 : Int32) - 1).toInt = -2 := by decide
    rw [tI0] at a1
    rw [e1] at a2
    omega
  · rw [hp.1] at h
    have h2 := hp.2
    have := in1_rg (by omega) h
    exact ⟨this.1, by omega⟩
theorem inm_rg {v : Int32} {hi : Nat} (hh : hi < 2 ^ 31) (h : inB v (-1) (nI hi) = true) (hv : ¬ v = -1) : rg v hi := by
  refine inB_rg ?_ hh
  unfold inB at h ⊢
  simp only [Bool.and_eq_true, Bool.not_eq_true', decide_eq_false_iff_not] at h ⊢
  refine ⟨?_, h.2⟩
  have a1 := h.1
  rw [Int32.lt_iff_toInt_lt] at a1 ⊢
  have e1 : (-1 : Int32).toInt = -1 := by decide
  rw [e1] at a1
  rw [tI0]
  have : ¬ v.toInt = -1 := fun q => hv (Int32.toInt_inj.mp (by rw [q, e1]))
  omega
def mkB (I : IM) (v : Int32) : Bool := inB v 0 (I 35 10 - 1)
-- row
def rowN (I : IM) (l n : Int32) : IM := va_up (va_up I 36 (upd (I 36) l.toNatClampNeg n)) 37 (zf (I 37) (27 * l.toNatClampNeg) 27)
def rowK (l n : Int32) : Bool := inB l 0 25 && inB n (-1) 27
-- first
def fiU (r : Nat → Int32) : Nat → Int32 × Int32
  | 0 => (-1, 0)
  | a + 1 => if ¬ r a < 0 ∧ ((fiU r a).1 < 0 ∨ r a < (fiU r a).2) then (nI a, r a) else fiU r a
-- may: c a: 0 nothing, 1 own, 2 leave, 3 group, 4 stands in the way
def maU (c : Nat → Nat) (r : Nat → Int32) : Nat → Int32 × Int32 × Bool × Bool × Bool
  | 0 => (-1, 0, false, false, false)
  | a + 1 => if c a = 1 then ((maU c r a).1, (maU c r a).2.1, true, (maU c r a).2.2.2.1, (maU c r a).2.2.2.2)
    else if c a = 2 then ((maU c r a).1, (maU c r a).2.1, (maU c r a).2.2.1, true, (maU c r a).2.2.2.2)
    else if c a = 3 then ((maU c r a).1, (maU c r a).2.1, (maU c r a).2.2.1, (maU c r a).2.2.2.1, true)
    else if c a = 4 ∧ ((maU c r a).1 < 0 ∨ r a < (maU c r a).2.1) then (nI a, r a, (maU c r a).2.2.1, (maU c r a).2.2.2.1, (maU c r a).2.2.2.2)
    else maU c r a
def maE (x : Int32 × Int32 × Bool × Bool × Bool) : Int32 := if ¬ x.1 < 0 then 10 + x.1 else if x.2.2.1 = true then 1 else if x.2.2.2.1 = true then 2 else if x.2.2.2.2 = true then 3 else 0
-- watch
def leU (pk : Nat → Int32) : Nat → Int32
  | 0 => -1
  | c + 1 => if pk c = 1 then nI c else leU pk c
theorem leU_lt {pk : Nat → Int32} : ∀ {c : Nat}, c ≤ 400 → ¬ leU pk c < 0 → (leU pk c).toNatClampNeg < c
  | 0, _, h => absurd (show (-1 : Int32) < 0 by decide) h
  | c + 1, hc, h => by
    unfold leU at h ⊢
    by_cases q : pk c = 1
    · rw [if_pos q, nI_clamp (by omega)]
      omega
    · rw [if_neg q] at h ⊢
      exact Nat.lt_succ_of_lt (leU_lt (by omega) h)
def cnH (h : Nat → Bool) : Nat → Nat
  | 0 => 0
  | a + 1 => cnH h a + (if h a = true then 1 else 0)
theorem cnH_le {h : Nat → Bool} : ∀ a, cnH h a ≤ a
  | 0 => Nat.le_refl _
  | a + 1 => by
    have := cnH_le (h := h) a
    unfold cnH
    split <;> omega

