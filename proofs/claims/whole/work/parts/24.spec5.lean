/-! the class's rows beside the reference's -/
def Cp (I : IM) : Prop := I 15 = I 49 ∧ I 16 = I 50 ∧ I 17 = I 51 ∧ I 18 = I 52 ∧ I 14 4 = I 35 17 ∧ I 0 4 = I 35 10 ∧ I 0 5 = I 35 8 ∧ I 0 6 = I 35 9 ∧ I 2 = I 36 ∧ I 3 = I 37 ∧ I 4 = I 39 ∧ I 5 = I 38 ∧ I 9 3 = I 35 7 ∧ I 12 = I 42
theorem Cp.c15 {I : IM} (h : Cp I) : I 15 = I 49 := h.1
theorem Cp.c16 {I : IM} (h : Cp I) : I 16 = I 50 := h.2.1
theorem Cp.c17 {I : IM} (h : Cp I) : I 17 = I 51 := h.2.2.1
theorem Cp.c18 {I : IM} (h : Cp I) : I 18 = I 52 := h.2.2.2.1
theorem Cp.f14_4 {I : IM} (h : Cp I) : I 14 4 = I 35 17 := h.2.2.2.2.1
theorem Cp.f0_4 {I : IM} (h : Cp I) : I 0 4 = I 35 10 := h.2.2.2.2.2.1
theorem Cp.f0_5 {I : IM} (h : Cp I) : I 0 5 = I 35 8 := h.2.2.2.2.2.2.1
theorem Cp.f0_6 {I : IM} (h : Cp I) : I 0 6 = I 35 9 := h.2.2.2.2.2.2.2.1
theorem Cp.c2 {I : IM} (h : Cp I) : I 2 = I 36 := h.2.2.2.2.2.2.2.2.1
theorem Cp.c3 {I : IM} (h : Cp I) : I 3 = I 37 := h.2.2.2.2.2.2.2.2.2.1
theorem Cp.c4 {I : IM} (h : Cp I) : I 4 = I 39 := h.2.2.2.2.2.2.2.2.2.2.1
theorem Cp.c5 {I : IM} (h : Cp I) : I 5 = I 38 := h.2.2.2.2.2.2.2.2.2.2.2.1
theorem Cp.f9_3 {I : IM} (h : Cp I) : I 9 3 = I 35 7 := h.2.2.2.2.2.2.2.2.2.2.2.2.1
theorem Cp.c12 {I : IM} (h : Cp I) : I 12 = I 42 := h.2.2.2.2.2.2.2.2.2.2.2.2.2
/-- pairs of goods: at each place the same two, none twice -/
def Cq (I : IM) (nq : Nat) : Prop := (∀ k, k < nq → lowF (I 10 k) (I 11 k) = I 40 k ∧ highF (I 10 k) (I 11 k) = I 41 k) ∧ ∀ i j, i < nq → j < nq → I 40 i = I 40 j → I 41 i = I 41 j → i = j
/-- a mark's cells -/
def Cm1 (I : IM) (j : Nat) : Prop := I (58 + 3 * j) 0 = I 43 j ∧ I (58 + 3 * j) 1 = I 44 j ∧ I (58 + 3 * j) 4 = I 45 j ∧ I (58 + 3 * j) 5 = I 47 j ∧ (∀ i, i < 40 → I (58 + 3 * j + 1) i = I 46 (40 * j + i)) ∧ (∀ i, i < 12 → I (58 + 3 * j + 2) i = I 48 (12 * j + i))
def belB (v b : Int32) : Bool := !decide (v < 0) && decide (v < b)
theorem belB_in {v x y : Int32} (h : x.toInt = y.toInt + 1) : belB v x = inB v 0 y := by
  have e : decide (v < x) = !decide (y < v) := by
    by_cases c : v < x
    · have : ¬ y < v := by rw [Int32.lt_iff_toInt_lt] at *; omega
      simp [c, this]
    · have : y < v := by rw [Int32.lt_iff_toInt_lt] at *; omega
      simp [c, this]
  unfold belB inB
  rw [e]
theorem nI_m1i {N : Nat} (hN : N < 2 ^ 31) : (nI N).toInt = (nI N - 1).toInt + 1 := by
  cases N with
  | zero => decide
  | succ k =>
    rw [nI_pred, nI_toInt (by omega), nI_toInt (by omega)]
    omega
theorem pr_iff {a b g h : Int32} : ((a = g ∧ b = h) ∨ (a = h ∧ b = g)) ↔ (lowF a b = lowF g h ∧ highF a b = highF g h) := by
  have t : ∀ x y : Int32, x < y ∨ x = y ∨ y < x := fun x y => by
    rw [Int32.lt_iff_toInt_lt, Int32.lt_iff_toInt_lt, ← Int32.toInt_inj]
    omega
  have ns : ∀ {x y : Int32}, x < y → ¬ y < x := fun {x y} q => by rw [Int32.lt_iff_toInt_lt] at *; omega
  have ir : ∀ {x : Int32}, ¬ x < x := fun {x} => by rw [Int32.lt_iff_toInt_lt]; omega
  constructor
  · rintro (⟨rfl, rfl⟩ | ⟨rfl, rfl⟩)
    · exact ⟨rfl, rfl⟩
    · unfold lowF highF
      rcases t a b with q | q | q
      · simp [q, ns q]
      · simp [q]
      · simp [q, ns q]
  · unfold lowF highF
    rintro ⟨h1, h2⟩
    rcases t a b with q | q | q <;> rcases t g h with r | r | r
    · simp [q, r] at h1 h2; exact Or.inl ⟨h1, h2⟩
    · subst r; simp [q, ir] at h1 h2; subst h1; subst h2; exact absurd q ir
    · simp [q, ns r] at h1 h2; exact Or.inr ⟨h1, h2⟩
    · subst q; simp [r, ir] at h1 h2; subst h1; subst h2; exact absurd r ir
    · subst q; subst r; simp [ir] at h1; exact Or.inl ⟨h1, h1⟩
    · subst q; simp [ns r, ir] at h1 h2; subst h1; subst h2; exact absurd r ir
    · simp [ns q, r] at h1 h2; exact Or.inr ⟨h2, h1⟩
    · subst r; simp [ns q, ir] at h1 h2; subst h1; subst h2; exact absurd q ir
    · simp [ns q, ns r] at h1 h2; exact Or.inl ⟨h2, h1⟩
theorem prU_none {q : NP} {g h : Int32} : ∀ {i : Nat}, (∀ k, k < i → ¬ (q.1 k = lowF g h ∧ q.2.1 k = highF g h)) → prU q g h i = -1
  | 0, _ => rfl
  | i + 1, hn => by
    unfold prU
    rw [if_neg (hn i (by omega))]
    exact prU_none (fun k hk => hn k (by omega))
theorem prU_uniq {q : NP} {g h : Int32} {k : Nat} : ∀ {i : Nat}, k < i → (q.1 k = lowF g h ∧ q.2.1 k = highF g h) → (∀ j, j < i → (q.1 j = lowF g h ∧ q.2.1 j = highF g h) → j = k) → prU q g h i = nI k
  | 0, hk, _, _ => absurd hk (Nat.not_lt_zero _)
  | i + 1, hk, hm, hu => by
    unfold prU
    by_cases c : q.1 i = lowF g h ∧ q.2.1 i = highF g h
    · rw [if_pos c, hu i (by omega) c]
    · rw [if_neg c]
      have : k < i := by
        rcases Nat.lt_or_ge k i with z | z
        · exact z
        · have : k = i := by omega
          rw [this] at hm
          exact absurd hm c
      exact prU_uniq this hm (fun j hj => hu j (by omega))
/-- days never fall -/
def So (I : IM) (n : Nat) : Prop := ∀ i j, i ≤ j → j < n → ¬ I 52 j < I 52 i
theorem latU_none {p : PL} {k m x t : Int32} : ∀ {i : Nat}, (∀ j, j < i → mt p k m x t j = false) → latU p k m x t i = -1
  | 0, _ => rfl
  | i + 1, h => by
    unfold latU
    rw [if_neg (by rw [h i (by omega)]; decide)]
    exact latU_none (fun j hj => h j (by omega))
theorem latU_some {p : PL} {k m x t : Int32} {j : Nat} : ∀ {i : Nat}, i ≤ 400 → j < i → mt p k m x t j = true → ¬ latU p k m x t i < 0
  | 0, _, hj, _ => absurd hj (Nat.not_lt_zero _)
  | i + 1, hi, hj, h => by
    unfold latU
    by_cases c : mt p k m x t i = true
    · rw [if_pos c]
      exact nI_pos (by omega)
    · rw [if_neg c]
      have : j ≠ i := fun q => c (q ▸ h)
      exact latU_some (by omega) (by omega) h
theorem hasCU_t {f : Nat → Int32} {b : Nat} {c : Int32} : ∀ {k i : Nat}, i < k → f (b + i) = c → hasCU f b c k = true
  | 0, _, h, _ => absurd h (Nat.not_lt_zero _)
  | k + 1, i, h, e => by
    unfold hasCU
    by_cases q : i = k
    · subst q; simp [e]
    · rw [hasCU_t (by omega) e]; rfl
theorem hasCU_f {f : Nat → Int32} {b : Nat} {c : Int32} : ∀ {k : Nat}, (∀ i, i < k → ¬ f (b + i) = c) → hasCU f b c k = false
  | 0, _ => rfl
  | k + 1, h => by
    unfold hasCU
    rw [hasCU_f (fun i hi => h i (by omega))]
    simp [h k (by omega)]
theorem hasPU_t {p : PL} {m : Int32} : ∀ {k i : Nat}, i < k → p.2.1 i = m → hasPU p m k = true
  | 0, _, h, _ => absurd h (Nat.not_lt_zero _)
  | k + 1, i, h, e => by
    unfold hasPU
    by_cases q : i = k
    · subst q; simp [e]
    · rw [hasPU_t (by omega) e]; rfl
theorem hasPU_f {p : PL} {m : Int32} : ∀ {k : Nat}, (∀ i, i < k → ¬ p.2.1 i = m) → hasPU p m k = false
  | 0, _ => rfl
  | k + 1, h => by
    unfold hasPU
    rw [hasPU_f (fun i hi => h i (by omega))]
    simp [h k (by omega)]

