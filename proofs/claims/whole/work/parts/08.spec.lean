/-! what the log says: plain functions -/
theorem tn_eq {x : Int32} (h : ¬ x < 0) : x = nI x.toNatClampNeg := by
  obtain ⟨j, hj, rfl⟩ := nI_of h
  rw [nI_clamp hj]
theorem tI0 : (0 : Int32).toInt = 0 := by decide
theorem latU_lt {p : PL} {k m x t : Int32} : ∀ {i : Nat}, i ≤ 400 → ¬ latU p k m x t i < 0 → (latU p k m x t i).toNatClampNeg < i
  | 0, _, h => absurd (show (-1 : Int32) < 0 by decide) h
  | i + 1, hi, h => by
    unfold latU at h ⊢
    by_cases c : mt p k m x t i = true
    · rw [if_pos c, nI_clamp (by omega)]
      omega
    · rw [if_neg c] at h ⊢
      exact Nat.lt_succ_of_lt (latU_lt (by omega) h)
theorem latF_lt {p : PL} {k m x t : Int32} (hn : p.2.2.2.2 ≤ 400) (h : ¬ latF p k m x t < 0) : (latF p k m x t).toNatClampNeg < p.2.2.2.2 := latU_lt hn h
theorem eaU_lt {p : PL} {k m x t : Int32} {N : Nat} (hN : N ≤ 400) : ∀ {i : Nat} {f : Int32}, i ≤ N → (¬ f < 0 → f.toNatClampNeg < N) → ¬ eaU p k m x t i f < 0 → (eaU p k m x t i f).toNatClampNeg < N
  | 0, _, _, h, h2 => h h2
  | i + 1, f, hi, h, h2 => by
    unfold eaU at h2 ⊢
    refine eaU_lt hN (by omega) (fun h3 => ?_) h2
    by_cases c : mt p k m x t i = true
    · rw [if_pos c, nI_clamp (by omega)]
      omega
    · rw [if_neg c] at h3 ⊢
      exact h h3
theorem eaF_lt {p : PL} {k m x t : Int32} (hn : p.2.2.2.2 ≤ 400) (h : ¬ eaF p k m x t < 0) : (eaF p k m x t).toNatClampNeg < p.2.2.2.2 := eaU_lt hn (Nat.le_refl _) (fun h => absurd (by decide) h) h
theorem cntU_le {p : PL} {k m t : Int32} : ∀ (i : Nat), cntU p k m t i ≤ i
  | 0 => Nat.le_refl _
  | i + 1 => by
    have := cntU_le (p := p) (k := k) (m := m) (t := t) i
    unfold cntU
    split <;> omega
def dyF (p : PL) (i : Int32) : Int32 := p.2.2.2.1 i.toNatClampNeg
theorem dyM {I : IM} {n : Nat} {x : Int32} : dyF (pM I n) x = I 52 x.toNatClampNeg := rfl
theorem mtM {I : IM} {n : Nat} {k m x t : Int32} {i : Nat} : mt (pM I n) k m x t i = (decide (I 49 i = k) && (decide (I 50 i = m) && ((decide (x = -1) || decide (I 51 i = x)) && !decide (t < I 52 i)))) := rfl
theorem pM_k {I : IM} {n : Nat} : (pM I n).1 = I 49 := rfl
theorem pM_m {I : IM} {n : Nat} : (pM I n).2.1 = I 50 := rfl
theorem pM_x {I : IM} {n : Nat} : (pM I n).2.2.1 = I 51 := rfl
theorem pM_d {I : IM} {n : Nat} : (pM I n).2.2.2.1 = I 52 := rfl
theorem pM_n {I : IM} {n : Nat} : (pM I n).2.2.2.2 = n := rfl
def sinceF (p : PL) (m g t : Int32) : Int32 := if latF p 0 m g t < 0 ∨ (latF p 0 m g t < latF p 3 m g t ∧ ¬ dyF p (latF p 3 m g t) = t) then -1 else dyF p (latF p 0 m g t)
def firF (p : PL) (m t : Int32) : Int32 := if eaF p 1 m (-1) t < 0 then -1 else dyF p (eaF p 1 m (-1) t)
def termF (p : PL) (m t : Int32) : Int32 := firF p m t + nI (3650 * (1 + cntF p 2 m t))
def lapF (p : PL) (m t : Int32) : Bool := decide (termF p m t + 180 < t)
def strF (p : PL) (m t : Int32) : Bool := !decide (latF p 4 m (-1) t < 0)
def rightF (p : PL) (m g c t : Int32) : Int32 := if sinceF p m g t < 0 ∨ eaF p 1 m c t < 0 then -1 else
  if (if ¬ 182 < dyF p (eaF p 1 m c t) - firF p m t ∧ ¬ firF p m t < sinceF p m g t then firF p m t else dyF p (eaF p 1 m c t)) < sinceF p m g t then sinceF p m g t
  else (if ¬ 182 < dyF p (eaF p 1 m c t) - firF p m t ∧ ¬ firF p m t < sinceF p m g t then firF p m t else dyF p (eaF p 1 m c t))
def lastF (p : PL) (m g c t : Int32) : Int32 := if ¬ latF p 6 m g t < 0 ∧ rightF p m g c t < dyF p (latF p 6 m g t) then dyF p (latF p 6 m g t) else rightF p m g c t
def standsF (p : PL) (m g c t : Int32) : Bool := !(decide (rightF p m g c t < 0) || (decide (t < rightF p m g c t) || (lapF p m t || strF p m t))) && !decide (1825 < t - lastF p m g c t)
def hasPU (p : PL) (m : Int32) : Nat → Bool
  | 0 => false
  | i + 1 => hasPU p m i || decide (p.2.1 i = m)
def hasPF (p : PL) (m : Int32) : Bool := hasPU p m p.2.2.2.2
/-! pairs of goods: low, high, near, how many -/
abbrev NP : Type := (Nat → Int32) × (Nat → Int32) × (Nat → Int32) × Nat
def lowF (g h : Int32) : Int32 := if g < h then g else h
def highF (g h : Int32) : Int32 := if g < h then h else g
def prU (q : NP) (g h : Int32) : Nat → Int32
  | 0 => -1
  | i + 1 => if q.1 i = lowF g h ∧ q.2.1 i = highF g h then nI i else prU q g h i
def prF (q : NP) (g h : Int32) : Int32 := prU q g h q.2.2.2
theorem prU_lt {q : NP} {g h : Int32} : ∀ {i : Nat}, i ≤ 400 → ¬ prU q g h i < 0 → (prU q g h i).toNatClampNeg < i
  | 0, _, h => absurd (show (-1 : Int32) < 0 by decide) h
  | i + 1, hi, h2 => by
    unfold prU at h2 ⊢
    by_cases c : q.1 i = lowF g h ∧ q.2.1 i = highF g h
    · rw [if_pos c, nI_clamp (by omega)]
      omega
    · rw [if_neg c] at h2 ⊢
      exact Nat.lt_succ_of_lt (prU_lt (by omega) h2)
def nearF (q : NP) (g h : Int32) : Int32 := if g = h then 1000 else if prF q g h < 0 then 0 else q.2.2.1 (prF q g h).toNatClampNeg
def qM (I : IM) (n : Nat) : NP := (I 40, I 41, I 42, n)
theorem qM_l {I : IM} {n : Nat} : (qM I n).1 = I 40 := rfl
theorem qM_h {I : IM} {n : Nat} : (qM I n).2.1 = I 41 := rfl
theorem qM_v {I : IM} {n : Nat} : (qM I n).2.2.1 = I 42 := rfl
theorem qM_n {I : IM} {n : Nat} : (qM I n).2.2.2 = n := rfl
def Mq (I : IM) (n : Nat) : Prop := I 35 7 = nI n ∧ n ≤ 100
theorem i32_lt {a b : Int32} (h1 : ¬ a < 0) (h2 : a < b) : ¬ b < 0 := by
  rw [Int32.lt_iff_toInt_lt] at *
  rw [tI0] at *
  omega
def leF (p : PL) (a x t : Int32) : Bool := !decide (latF p 5 a x t < 0)
def neF (p : PL) (q : NP) (lv a g h t : Int32) : Bool := !decide (nearF q g h < lv) || !decide (latF p 7 a (-1) t < 0)
/-- a number from 0 to hi -/
def rg (x : Int32) (hi : Nat) : Prop := x = nI x.toNatClampNeg ∧ x.toNatClampNeg ≤ hi
theorem rg_nI {a hi : Nat} (h : a ≤ hi) (hh : hi < 2 ^ 31) : rg (nI a) hi := by
  unfold rg
  rw [nI_clamp (by omega)]
  exact ⟨rfl, h⟩
theorem rg_0 (hi : Nat) : rg 0 hi := ⟨rfl, Nat.zero_le _⟩
theorem inB_rg {v : Int32} {hi : Nat} (h : inB v 0 (nI hi) = true) (hh : hi < 2 ^ 31) : rg v hi := by
  unfold inB at h
  simp only [Bool.and_eq_true, Bool.not_eq_true', decide_eq_false_iff_not] at h
  refine ⟨tn_eq h.1, ?_⟩
  have h2 := h.2
  rw [tn_eq h.1] at h2
  have h3 : v.toNatClampNeg < 2 ^ 31 := by
    obtain ⟨j, hj, rfl⟩ := nI_of h.1
    rw [nI_clamp hj]
    exact hj
  exact Nat.not_lt.mp (fun q => h2 ((nI_ltI hh h3).mpr q))
theorem rg_inB {v : Int32} {hi : Nat} (h : rg v hi) (hh : hi < 2 ^ 31) : inB v 0 (nI hi) = true := by
  unfold inB
  have h2 := h.2
  have e0 : ¬ v < 0 := by rw [h.1]; exact nI_pos (by omega)
  have e1 : ¬ nI hi < v := by rw [h.1]; exact nI_nlt h2 hh
  simp [e0, e1]
theorem rg_lt {x : Int32} {hi : Nat} (h : rg x hi) (hh : hi < 2 ^ 31) : ¬ x < 0 := by rw [h.1]; have := h.2; exact nI_pos (by omega)
/-- f, with zeros from b on for k places -/
def zf (f : Nat → Int32) (b : Nat) : Nat → (Nat → Int32)
  | 0 => f
  | k + 1 => upd (zf f b k) (b + k) 0

/-! words and pictures -/
def hasCU (f : Nat → Int32) (b : Nat) (c : Int32) : Nat → Bool
  | 0 => false
  | i + 1 => hasCU f b c i || decide (f (b + i) = c)
def hasCF (f : Nat → Int32) (b : Nat) (k c : Int32) : Bool := hasCU f b c k.toNatClampNeg
/-- what the reference's rows hold of marks, sounds and costs -/
def MIv (I : IM) : Prop := (∀ j, j < 120 → rg (I 43 j) 4) ∧ (∀ j, j < 120 → rg (I 44 j) 99) ∧ (∀ j, j < 120 → rg (I 45 j) 40) ∧ (∀ j, j < 120 → rg (I 47 j) 12) ∧ (∀ i, i < 4800 → rg (I 46 i) 25) ∧
  (∀ l, l < 26 → I 36 l = -1 ∨ rg (I 36 l) 27) ∧ (∀ i, i < 702 → rg (I 37 i) 39) ∧ (∀ i, i < 66 → rg (I 39 i) 100) ∧ (∀ i, i < 4356 → rg (I 38 i) 100)

