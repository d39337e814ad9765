/-! the shape of the world: 58 cells that stand from the start, then three for each mark -/
def fx : SH := [(6, 0, [some 1, some 9, some 13, some 14, none, none, none, some 19, some 24, some 29, some 34]), (4, 0, [some 2, some 3, some 4, some 5, some 6, some 7, some 8]), (8, 26, []), (8, 702, []), (8, 66, []), (8, 4356, []), (8, 40, []), (8, 40, []), (8, 41, []), (2, 0, [some 10, some 11, some 12, none]), (8, 100, []), (8, 100, []), (8, 100, []), (10, 120, []), (3, 0, [some 15, some 16, some 17, some 18, none]), (8, 400, []), (8, 400, []), (8, 400, []), (8, 400, []), (5, 0, [none, none, none, none, none, none, none, none, none, some 20, some 21, some 22, some 23]), (8, 20, []), (8, 20, []), (8, 20, []), (9, 20, []), (5, 0, [none, none, none, none, none, none, none, none, none, some 25, some 26, some 27, some 28]), (8, 20, []), (8, 20, []), (8, 20, []), (9, 20, []), (5, 0, [none, none, none, none, none, none, none, none, none, some 30, some 31, some 32, some 33]), (8, 20, []), (8, 20, []), (8, 20, []), (9, 20, []), (0, 0, [none, none]), (7, 0, [some 36, some 37, some 38, some 39, some 40, some 41, some 42, none, none, none, none, some 43, some 44, some 45, some 46, some 47, some 48, none, some 49, some 50, some 51, some 52, some 53, some 54, some 55, some 56, some 57]), (8, 26, []), (8, 702, []), (8, 4356, []), (8, 66, []), (8, 100, []), (8, 100, []), (8, 100, []), (8, 120, []), (8, 120, []), (8, 120, []), (8, 4800, []), (8, 120, []), (8, 1440, []), (8, 400, []), (8, 400, []), (8, 400, []), (8, 400, []), (8, 40, []), (8, 40, []), (8, 1681, []), (8, 400, []), (8, 400, [])]
def Fx (S : SH) : Prop := ∀ a, a < 58 → a ≠ 13 → S[a]? = fx[a]?

theorem fx0 {S : SH} (h : Fx S) : S[0]? = some (6, 0, [some 1, some 9, some 13, some 14, none, none, none, some 19, some 24, some 29, some 34]) := h 0 (by decide) (by decide)
theorem fx1 {S : SH} (h : Fx S) : S[1]? = some (4, 0, [some 2, some 3, some 4, some 5, some 6, some 7, some 8]) := h 1 (by decide) (by decide)
theorem fx2 {S : SH} (h : Fx S) : S[2]? = some (8, 26, []) := h 2 (by decide) (by decide)
theorem fx3 {S : SH} (h : Fx S) : S[3]? = some (8, 702, []) := h 3 (by decide) (by decide)
theorem fx4 {S : SH} (h : Fx S) : S[4]? = some (8, 66, []) := h 4 (by decide) (by decide)
theorem fx5 {S : SH} (h : Fx S) : S[5]? = some (8, 4356, []) := h 5 (by decide) (by decide)
theorem fx6 {S : SH} (h : Fx S) : S[6]? = some (8, 40, []) := h 6 (by decide) (by decide)
theorem fx7 {S : SH} (h : Fx S) : S[7]? = some (8, 40, []) := h 7 (by decide) (by decide)
theorem fx8 {S : SH} (h : Fx S) : S[8]? = some (8, 41, []) := h 8 (by decide) (by decide)
theorem fx9 {S : SH} (h : Fx S) : S[9]? = some (2, 0, [some 10, some 11, some 12, none]) := h 9 (by decide) (by decide)
theorem fx10 {S : SH} (h : Fx S) : S[10]? = some (8, 100, []) := h 10 (by decide) (by decide)
theorem fx11 {S : SH} (h : Fx S) : S[11]? = some (8, 100, []) := h 11 (by decide) (by decide)
theorem fx12 {S : SH} (h : Fx S) : S[12]? = some (8, 100, []) := h 12 (by decide) (by decide)
theorem fx14 {S : SH} (h : Fx S) : S[14]? = some (3, 0, [some 15, some 16, some 17, some 18, none]) := h 14 (by decide) (by decide)
theorem fx15 {S : SH} (h : Fx S) : S[15]? = some (8, 400, []) := h 15 (by decide) (by decide)
theorem fx16 {S : SH} (h : Fx S) : S[16]? = some (8, 400, []) := h 16 (by decide) (by decide)
theorem fx17 {S : SH} (h : Fx S) : S[17]? = some (8, 400, []) := h 17 (by decide) (by decide)
theorem fx18 {S : SH} (h : Fx S) : S[18]? = some (8, 400, []) := h 18 (by decide) (by decide)
theorem fx19 {S : SH} (h : Fx S) : S[19]? = some (5, 0, [none, none, none, none, none, none, none, none, none, some 20, some 21, some 22, some 23]) := h 19 (by decide) (by decide)
theorem fx20 {S : SH} (h : Fx S) : S[20]? = some (8, 20, []) := h 20 (by decide) (by decide)
theorem fx21 {S : SH} (h : Fx S) : S[21]? = some (8, 20, []) := h 21 (by decide) (by decide)
theorem fx22 {S : SH} (h : Fx S) : S[22]? = some (8, 20, []) := h 22 (by decide) (by decide)
theorem fx23 {S : SH} (h : Fx S) : S[23]? = some (9, 20, []) := h 23 (by decide) (by decide)
theorem fx24 {S : SH} (h : Fx S) : S[24]? = some (5, 0, [none, none, none, none, none, none, none, none, none, some 25, some 26, some 27, some 28]) := h 24 (by decide) (by decide)
theorem fx25 {S : SH} (h : Fx S) : S[25]? = some (8, 20, []) := h 25 (by decide) (by decide)
theorem fx26 {S : SH} (h : Fx S) : S[26]? = some (8, 20, []) := h 26 (by decide) (by decide)
theorem fx27 {S : SH} (h : Fx S) : S[27]? = some (8, 20, []) := h 27 (by decide) (by decide)
theorem fx28 {S : SH} (h : Fx S) : S[28]? = some (9, 20, []) := h 28 (by decide) (by decide)
theorem fx29 {S : SH} (h : Fx S) : S[29]? = some (5, 0, [none, none, none, none, none, none, none, none, none, some 30, some 31, some 32, some 33]) := h 29 (by decide) (by decide)
theorem fx30 {S : SH} (h : Fx S) : S[30]? = some (8, 20, []) := h 30 (by decide) (by decide)
theorem fx31 {S : SH} (h : Fx S) : S[31]? = some (8, 20, []) := h 31 (by decide) (by decide)
theorem fx32 {S : SH} (h : Fx S) : S[32]? = some (8, 20, []) := h 32 (by decide) (by decide)
theorem fx33 {S : SH} (h : Fx S) : S[33]? = some (9, 20, []) := h 33 (by decide) (by decide)
theorem fx34 {S : SH} (h : Fx S) : S[34]? = some (0, 0, [none, none]) := h 34 (by decide) (by decide)
theorem fx35 {S : SH} (h : Fx S) : S[35]? = some (7, 0, [some 36, some 37, some 38, some 39, some 40, some 41, some 42, none, none, none, none, some 43, some 44, some 45, some 46, some 47, some 48, none, some 49, some 50, some 51, some 52, some 53, some 54, some 55, some 56, some 57]) := h 35 (by decide) (by decide)
theorem fx36 {S : SH} (h : Fx S) : S[36]? = some (8, 26, []) := h 36 (by decide) (by decide)
theorem fx37 {S : SH} (h : Fx S) : S[37]? = some (8, 702, []) := h 37 (by decide) (by decide)
theorem fx38 {S : SH} (h : Fx S) : S[38]? = some (8, 4356, []) := h 38 (by decide) (by decide)
theorem fx39 {S : SH} (h : Fx S) : S[39]? = some (8, 66, []) := h 39 (by decide) (by decide)
theorem fx40 {S : SH} (h : Fx S) : S[40]? = some (8, 100, []) := h 40 (by decide) (by decide)
theorem fx41 {S : SH} (h : Fx S) : S[41]? = some (8, 100, []) := h 41 (by decide) (by decide)
theorem fx42 {S : SH} (h : Fx S) : S[42]? = some (8, 100, []) := h 42 (by decide) (by decide)
theorem fx43 {S : SH} (h : Fx S) : S[43]? = some (8, 120, []) := h 43 (by decide) (by decide)
theorem fx44 {S : SH} (h : Fx S) : S[44]? = some (8, 120, []) := h 44 (by decide) (by decide)
theorem fx45 {S : SH} (h : Fx S) : S[45]? = some (8, 120, []) := h 45 (by decide) (by decide)
theorem fx46 {S : SH} (h : Fx S) : S[46]? = some (8, 4800, []) := h 46 (by decide) (by decide)
theorem fx47 {S : SH} (h : Fx S) : S[47]? = some (8, 120, []) := h 47 (by decide) (by decide)
theorem fx48 {S : SH} (h : Fx S) : S[48]? = some (8, 1440, []) := h 48 (by decide) (by decide)
theorem fx49 {S : SH} (h : Fx S) : S[49]? = some (8, 400, []) := h 49 (by decide) (by decide)
theorem fx50 {S : SH} (h : Fx S) : S[50]? = some (8, 400, []) := h 50 (by decide) (by decide)
theorem fx51 {S : SH} (h : Fx S) : S[51]? = some (8, 400, []) := h 51 (by decide) (by decide)
theorem fx52 {S : SH} (h : Fx S) : S[52]? = some (8, 400, []) := h 52 (by decide) (by decide)
theorem fx53 {S : SH} (h : Fx S) : S[53]? = some (8, 40, []) := h 53 (by decide) (by decide)
theorem fx54 {S : SH} (h : Fx S) : S[54]? = some (8, 40, []) := h 54 (by decide) (by decide)
theorem fx55 {S : SH} (h : Fx S) : S[55]? = some (8, 1681, []) := h 55 (by decide) (by decide)
theorem fx56 {S : SH} (h : Fx S) : S[56]? = some (8, 400, []) := h 56 (by decide) (by decide)
theorem fx57 {S : SH} (h : Fx S) : S[57]? = some (8, 400, []) := h 57 (by decide) (by decide)
def mkC (x : Nat) : SC := (1, 0, [none, none, some (x + 1), some (x + 2), none, none])
/-- a mark at x, whose row of codes has c places -/
def Mk (S : SH) (x c : Nat) : Prop := S[x]? = some (mkC x) ∧ S[x + 1]? = some (8, 40, []) ∧ S[x + 2]? = some (8, c, [])
def Sh (S : SH) (m : Nat) (c : Nat → Nat) : Prop := Fx S ∧ S.length = 58 + 3 * m ∧ (∃ mr, S[13]? = some (10, 120, mr) ∧ mr.length = 120 ∧ ∀ j, j < m → mr[j]? = some (some (58 + 3 * j))) ∧ ∀ j, j < m → Mk S (58 + 3 * j) (c j)
/-! switches -/
theorem sw_aux {N : Nat} {x : Int32} (h : ¬ (x.toInt < 0 ∨ (N : Int) < x.toInt)) (hN : N < 2 ^ 31) : ∃ j : Nat, j ≤ N ∧ x = nI j := by
  refine ⟨x.toInt.toNat, by omega, Int32.toInt_inj.mp ?_⟩
  rw [nI_toInt (by omega)]
  omega

theorem sw_0_1 (x : Int32) : x = 0 ∨ x = 1 ∨ (x.toInt < 0 ∨ 1 < x.toInt) := by
  by_cases h : x.toInt < 0 ∨ ((1 : Nat) : Int) < x.toInt
  · rcases h with h | h <;> (right; right <;> omega)
  · obtain ⟨j, hj, rfl⟩ := sw_aux h (by decide)
    match j, hj with
    | 0, _ => exact Or.inl rfl
    | 1, _ => exact Or.inr (Or.inl rfl)
    | j + 2, hj => exact absurd hj (by omega)
theorem sw_0_2 (x : Int32) : x = 0 ∨ x = 1 ∨ x = 2 ∨ (x.toInt < 0 ∨ 2 < x.toInt) := by
  by_cases h : x.toInt < 0 ∨ ((2 : Nat) : Int) < x.toInt
  · rcases h with h | h <;> (right; right; right <;> omega)
  · obtain ⟨j, hj, rfl⟩ := sw_aux h (by decide)
    match j, hj with
    | 0, _ => exact Or.inl rfl
    | 1, _ => exact Or.inr (Or.inl rfl)
    | 2, _ => exact Or.inr (Or.inr (Or.inl rfl))
    | j + 3, hj => exact absurd hj (by omega)
theorem sw_0_3 (x : Int32) : x = 0 ∨ x = 1 ∨ x = 2 ∨ x = 3 ∨ (x.toInt < 0 ∨ 3 < x.toInt) := by
  by_cases h : x.toInt < 0 ∨ ((3 : Nat) : Int) < x.toInt
  · rcases h with h | h <;> (right; right; right; right <;> omega)
  · obtain ⟨j, hj, rfl⟩ := sw_aux h (by decide)
    match j, hj with
    | 0, _ => exact Or.inl rfl
    | 1, _ => exact Or.inr (Or.inl rfl)
    | 2, _ => exact Or.inr (Or.inr (Or.inl rfl))
    | 3, _ => exact Or.inr (Or.inr (Or.inr (Or.inl rfl)))
    | j + 4, hj => exact absurd hj (by omega)
theorem sw_0_4 (x : Int32) : x = 0 ∨ x = 1 ∨ x = 2 ∨ x = 3 ∨ x = 4 ∨ (x.toInt < 0 ∨ 4 < x.toInt) := by
  by_cases h : x.toInt < 0 ∨ ((4 : Nat) : Int) < x.toInt
  · rcases h with h | h <;> (right; right; right; right; right <;> omega)
  · obtain ⟨j, hj, rfl⟩ := sw_aux h (by decide)
    match j, hj with
    | 0, _ => exact Or.inl rfl
    | 1, _ => exact Or.inr (Or.inl rfl)
    | 2, _ => exact Or.inr (Or.inr (Or.inl rfl))
    | 3, _ => exact Or.inr (Or.inr (Or.inr (Or.inl rfl)))
    | 4, _ => exact Or.inr (Or.inr (Or.inr (Or.inr (Or.inl rfl))))
    | j + 5, hj => exact absurd hj (by omega)
theorem sw_0_5 (x : Int32) : x = 0 ∨ x = 1 ∨ x = 2 ∨ x = 3 ∨ x = 4 ∨ x = 5 ∨ (x.toInt < 0 ∨ 5 < x.toInt) := by
  by_cases h : x.toInt < 0 ∨ ((5 : Nat) : Int) < x.toInt
  · rcases h with h | h <;> (right; right; right; right; right; right <;> omega)
  · obtain ⟨j, hj, rfl⟩ := sw_aux h (by decide)
    match j, hj with
    | 0, _ => exact Or.inl rfl
    | 1, _ => exact Or.inr (Or.inl rfl)
    | 2, _ => exact Or.inr (Or.inr (Or.inl rfl))
    | 3, _ => exact Or.inr (Or.inr (Or.inr (Or.inl rfl)))
    | 4, _ => exact Or.inr (Or.inr (Or.inr (Or.inr (Or.inl rfl))))
    | 5, _ => exact Or.inr (Or.inr (Or.inr (Or.inr (Or.inr (Or.inl rfl)))))
    | j + 6, hj => exact absurd hj (by omega)
theorem sw_0_8 (x : Int32) : x = 0 ∨ x = 1 ∨ x = 2 ∨ x = 3 ∨ x = 4 ∨ x = 5 ∨ x = 6 ∨ x = 7 ∨ x = 8 ∨ (x.toInt < 0 ∨ 8 < x.toInt) := by
  by_cases h : x.toInt < 0 ∨ ((8 : Nat) : Int) < x.toInt
  · rcases h with h | h <;> (right; right; right; right; right; right; right; right; right <;> omega)
  · obtain ⟨j, hj, rfl⟩ := sw_aux h (by decide)
    match j, hj with
    | 0, _ => exact Or.inl rfl
    | 1, _ => exact Or.inr (Or.inl rfl)
    | 2, _ => exact Or.inr (Or.inr (Or.inl rfl))
    | 3, _ => exact Or.inr (Or.inr (Or.inr (Or.inl rfl)))
    | 4, _ => exact Or.inr (Or.inr (Or.inr (Or.inr (Or.inl rfl))))
    | 5, _ => exact Or.inr (Or.inr (Or.inr (Or.inr (Or.inr (Or.inl rfl)))))
    | 6, _ => exact Or.inr (Or.inr (Or.inr (Or.inr (Or.inr (Or.inr (Or.inl rfl))))))
    | 7, _ => exact Or.inr (Or.inr (Or.inr (Or.inr (Or.inr (Or.inr (Or.inr (Or.inl rfl)))))))
    | 8, _ => exact Or.inr (Or.inr (Or.inr (Or.inr (Or.inr (Or.inr (Or.inr (Or.inr (Or.inl rfl))))))))
    | j + 9, hj => exact absurd hj (by omega)
theorem sw_2_7 (x : Int32) : x = 2 ∨ x = 3 ∨ x = 4 ∨ x = 5 ∨ x = 6 ∨ x = 7 ∨ (x.toInt < 2 ∨ 7 < x.toInt) := by
  by_cases h : x.toInt < 0 ∨ ((7 : Nat) : Int) < x.toInt
  · rcases h with h | h <;> (right; right; right; right; right; right <;> omega)
  · obtain ⟨j, hj, rfl⟩ := sw_aux h (by decide)
    match j, hj with
    | 0, _ => exact Or.inr (Or.inr (Or.inr (Or.inr (Or.inr (Or.inr (by decide))))))
    | 1, _ => exact Or.inr (Or.inr (Or.inr (Or.inr (Or.inr (Or.inr (by decide))))))
    | 2, _ => exact Or.inl rfl
    | 3, _ => exact Or.inr (Or.inl rfl)
    | 4, _ => exact Or.inr (Or.inr (Or.inl rfl))
    | 5, _ => exact Or.inr (Or.inr (Or.inr (Or.inl rfl)))
    | 6, _ => exact Or.inr (Or.inr (Or.inr (Or.inr (Or.inl rfl))))
    | 7, _ => exact Or.inr (Or.inr (Or.inr (Or.inr (Or.inr (Or.inl rfl)))))
    | j + 8, hj => exact absurd hj (by omega)
/-! the log of papers -/
abbrev PL : Type := (Nat → Int32) × (Nat → Int32) × (Nat → Int32) × (Nat → Int32) × Nat
def mt (p : PL) (k m x t : Int32) (i : Nat) : Bool := decide (p.1 i = k) && (decide (p.2.1 i = m) && ((decide (x = -1) || decide (p.2.2.1 i = x)) && !decide (t < p.2.2.2.1 i)))
def latU (p : PL) (k m x t : Int32) : Nat → Int32
  | 0 => -1
  | i + 1 => if mt p k m x t i = true then nI i else latU p k m x t i
def latF (p : PL) (k m x t : Int32) : Int32 := latU p k m x t p.2.2.2.2
def eaU (p : PL) (k m x t : Int32) : Nat → Int32 → Int32
  | 0, f => f
  | i + 1, f => eaU p k m x t i (if mt p k m x t i = true then nI i else f)
def eaF (p : PL) (k m x t : Int32) : Int32 := eaU p k m x t p.2.2.2.2 (-1)
def cntU (p : PL) (k m t : Int32) : Nat → Nat
  | 0 => 0
  | i + 1 => cntU p k m t i + (if decide (p.1 i = k) && (decide (p.2.1 i = m) && !decide (t < p.2.2.2.1 i)) then 1 else 0)
def cntF (p : PL) (k m t : Int32) : Nat := cntU p k m t p.2.2.2.2
def inB (v lo hi : Int32) : Bool := !decide (v < lo) && !decide (hi < v)
/-- the reference's papers, as the world holds them -/
def pM (I : IM) (n : Nat) : PL := (I 49, I 50, I 51, I 52, n)
def Mp (I : IM) (n : Nat) : Prop := I 35 17 = nI n ∧ n ≤ 400
theorem nI_dec {c : Nat} (h : 0 < c) : nI c + Int32.ofInt (-1) = nI (c - 1) := by
  obtain ⟨c, rfl⟩ : ∃ e, c = e + 1 := ⟨c - 1, by omega⟩
  exact pk_m1 c
theorem nI_m1 (c : Nat) : nI c + Int32.ofInt (-1) = nI c - 1 := by
  rw [Int32.sub_eq_add_neg]
  rfl
/-! rows that a call may leave otherwise without anyone seeing it -/
def scr (a : Nat) : Bool := [6, 7, 8, 19, 20, 21, 22, 23, 24, 25, 26, 27, 28, 29, 30, 31, 32, 33, 34, 53, 54, 55, 56, 57].contains a
def Ex (I J : IM) : Prop := ∀ a, scr a = false → J a = I a
theorem Ex.at {I J : IM} (h : Ex I J) (a k : Nat) (hs : scr a = false) : J a k = I a k := congrFun (h a hs) k
theorem Ex.rf {I : IM} : Ex I I := fun _ _ => rfl
theorem Ex.up {I J : IM} {a : Nat} {f : Nat → Int32} (h : Ex I J) (hs : scr a = true) : Ex I (va_up J a f) := fun b hb => by
  have hne : ¬ b = a := fun q => by rw [q, hs] at hb; cases hb
  simp [va_up, hne, h b hb]
theorem Ex.upB {I J : IM} {a : Nat} {f : Nat → Int32} (h : Ex I J) : Ex (va_up I a f) (va_up J a f) := fun b hb => by
  by_cases hba : b = a
  · simp [va_up, hba]
  · simp [va_up, hba, h b hb]
theorem Ex.upC {I J : IM} {a : Nat} {f f' : Nat → Int32} (h : Ex I J) (e : f = f') : Ex (va_up I a f) (va_up J a f') := e ▸ h.upB
theorem scr_ge {a : Nat} (h : 58 ≤ a) : scr a = false := by
  unfold scr
  simp only [List.contains_eq_mem, List.mem_cons, List.not_mem_nil, or_false, decide_eq_false_iff_not]
  omega
def NQ (r : Value) (I : IM) (S : SH) : ZQ := fun v J T => v = some r ∧ Ex I J ∧ T = S
theorem nq_of {g : GP} {d mc ms : Nat} {M : MI} {pc : Nat} {L st : List Value} {I J : IM} {S : SH} {r : Value} (hE : Ex I J) (h : Z g d mc ms M pc L st J S (PQ r J S)) : Z g d mc ms M pc L st J S (NQ r I S) := h.conseq (fun v J' T q => ⟨q.1, by rw [q.2.1]; exact hE, q.2.2⟩)

