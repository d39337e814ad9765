/-! what a whole view tells -/
theorem lat_day {I : IM} {i : Nat} {k m x t : Int32} (hi : i ≤ 400) (h : ¬ latF (pM I i) k m x t < 0) : ¬ t < I 52 (latF (pM I i) k m x t).toNatClampNeg := by
  induction i with
  | zero => exact absurd (show (-1 : Int32) < 0 by decide) h
  | succ i ih =>
    rw [latF_s] at h ⊢
    by_cases c : mt (pM I i) k m x t i = true
    · rw [if_pos c, nI_clamp (by omega)]
      rw [mtM] at c
      simp only [Bool.and_eq_true, Bool.not_eq_true', decide_eq_false_iff_not] at c
      exact c.2.2.2
    · rw [if_neg c] at h ⊢
      exact ih (by omega) h
theorem ea_day {I : IM} {i : Nat} {k m x t : Int32} (hi : i ≤ 400) (h : ¬ eaF (pM I i) k m x t < 0) : ¬ t < I 52 (eaF (pM I i) k m x t).toNatClampNeg := by
  induction i with
  | zero => exact absurd (show (-1 : Int32) < 0 by decide) h
  | succ i ih =>
    rw [eaF_s (by omega)] at h ⊢
    by_cases q : eaF (pM I i) k m x t < 0
    · rw [if_pos q] at h ⊢
      by_cases c : mt (pM I i) k m x t i = true
      · rw [if_pos c, nI_clamp (by omega)]
        rw [mtM] at c
        simp only [Bool.and_eq_true, Bool.not_eq_true', decide_eq_false_iff_not] at c
        exact c.2.2.2
      · rw [if_neg c] at h
        exact absurd (by decide) h
    · rw [if_neg q] at h ⊢
      exact ih (by omega) h
def mxI (a b : Int32) : Int32 := if a < b then b else a
def rtB (e f s : Int32) : Int32 := if ¬ 182 < e - f ∧ ¬ f < s then f else e
theorem right_of {I : IM} {n : Nat} {m g c t : Int32} (hD : Dn I n) (hn4 : n ≤ 400) (hs : ¬ sinceF (pM I n) m g t < 0) (he : ¬ enF (pM I n) m c t = -1) : rightF (pM I n) m g c t = mxI (rtB (enF (pM I n) m c t) (firF (pM I n) m t) (sinceF (pM I n) m g t)) (sinceF (pM I n) m g t) := by
  have el : ¬ eaF (pM I n) 1 m c t < 0 := fun z => he ((en_c hD (Nat.le_refl _) hn4).mpr z)
  have ee : enF (pM I n) m c t = dyF (pM I n) (eaF (pM I n) 1 m c t) := by unfold enF; rw [if_neg el]
  unfold rightF mxI rtB
  rw [if_neg (fun z => z.elim hs el), ee]
theorem right_no {I : IM} {n : Nat} {m g c t : Int32} (hD : Dn I n) (hn4 : n ≤ 400) (he : enF (pM I n) m c t = -1) : rightF (pM I n) m g c t = -1 := by
  unfold rightF
  rw [if_pos (Or.inr ((en_c hD (Nat.le_refl _) hn4).mp he))]
theorem right_ns {p : PL} {m g c t : Int32} (hs : sinceF p m g t < 0) : rightF p m g c t = -1 := by
  unfold rightF
  rw [if_pos (Or.inl hs)]
theorem since_le {I : IM} {n : Nat} {m g t : Int32} (hD : Dn I n) (hn4 : n ≤ 400) (hs : ¬ sinceF (pM I n) m g t < 0) : ¬ t < sinceF (pM I n) m g t := by
  have a := fun z => hs ((si_c (m := m) (g := g) (t := t) hD (Nat.le_refl _) hn4).mpr z)
  unfold sinceF
  rw [if_neg a]
  exact lat_day hn4 (fun z => a (Or.inl z))
theorem en_le {I : IM} {n : Nat} {m c t : Int32} (hD : Dn I n) (hn4 : n ≤ 400) (hs : ¬ enF (pM I n) m c t = -1) : ¬ t < enF (pM I n) m c t ∧ ¬ enF (pM I n) m c t < 0 := by
  have a := fun z => hs ((en_c hD (Nat.le_refl _) hn4).mpr z)
  unfold enF
  rw [if_neg a]
  exact ⟨ea_day hn4 a, dye_nn hD (Nat.le_refl _) hn4 a⟩
theorem fi_le {I : IM} {n : Nat} {m t : Int32} (hD : Dn I n) (hn4 : n ≤ 400) (hs : ¬ firF (pM I n) m t = -1) : ¬ t < firF (pM I n) m t ∧ ¬ firF (pM I n) m t < 0 := by
  have a := fun z => hs ((fi_c hD (Nat.le_refl _) hn4).mpr z)
  unfold firF
  rw [if_neg a]
  exact ⟨ea_day hn4 a, dye_nn hD (Nat.le_refl _) hn4 a⟩
/-- who is entered in a country is entered -/
theorem en_fi {I : IM} {n : Nat} {m c t : Int32} (hD : Dn I n) (hn4 : n ≤ 400) (hs : ¬ enF (pM I n) m c t = -1) : ¬ firF (pM I n) m t = -1 := fun z => by
  have a : ¬ eaF (pM I n) 1 m c t < 0 := fun z => hs ((en_c hD (Nat.le_refl _) hn4).mpr z)
  have b := (fi_c hD (Nat.le_refl _) hn4).mp z
  have key : ∀ i, i ≤ n → eaF (pM I i) 1 m (-1) t < 0 → eaF (pM I i) 1 m c t = -1 := by
    intro i
    induction i with
    | zero => intro _ _; rfl
    | succ i ih =>
      intro hi h
      rw [eaF_s (by omega)] at h
      by_cases q : eaF (pM I i) 1 m (-1) t < 0
      · rw [if_pos q] at h
        rw [eaF_s (by omega), if_pos (by rw [ih (by omega) q]; decide)]
        have w : ¬ mt (pM I i) 1 m (-1) t i = true := fun z => by rw [if_pos z] at h; exact nI_pos (by omega) h
        rw [if_neg]
        intro y
        apply w
        rw [mtM] at y ⊢
        simp only [Bool.and_eq_true, Bool.or_eq_true, Bool.not_eq_true', decide_eq_false_iff_not, decide_eq_true_eq] at y ⊢
        exact ⟨y.1, y.2.1, Or.inl trivial, y.2.2.2⟩
      · rw [if_neg q] at h
        exact absurd h q
  exact a (by rw [key n (Nat.le_refl _) b]; decide)
theorem mx_ge {a b : Int32} : ¬ mxI a b < b ∧ ¬ mxI a b < a := by
  unfold mxI
  split <;> rename_i h <;> rw [Int32.lt_iff_toInt_lt] at h <;> constructor <;> rw [Int32.lt_iff_toInt_lt] <;> omega
theorem mx_le {a b t : Int32} (h1 : ¬ t < a) (h2 : ¬ t < b) : ¬ t < mxI a b := by
  unfold mxI
  split <;> assumption
theorem rt_c {e f s : Int32} : rtB e f s = f ∨ rtB e f s = e := by
  unfold rtB
  split
  · exact Or.inl rfl
  · exact Or.inr rfl
/-- RIGHT: -1, or a day from SINCE to the day -/
theorem right_c {I : IM} {n : Nat} {m g c t : Int32} (hD : Dn I n) (hn4 : n ≤ 400) : rightF (pM I n) m g c t = -1 ∨ (¬ rightF (pM I n) m g c t < 0 ∧ ¬ t < rightF (pM I n) m g c t ∧ ¬ rightF (pM I n) m g c t < sinceF (pM I n) m g t ∧ ¬ sinceF (pM I n) m g t < 0 ∧ ¬ enF (pM I n) m c t = -1) := by
  by_cases hs : sinceF (pM I n) m g t < 0
  · exact Or.inl (right_ns hs)
  · by_cases he : enF (pM I n) m c t = -1
    · exact Or.inl (right_no hD hn4 he)
    · right
      rw [right_of hD hn4 hs he]
      have e1 := en_le hD hn4 he
      have f1 := fi_le hD hn4 (en_fi hD hn4 he)
      have s1 := since_le hD hn4 hs
      refine ⟨?_, ?_, mx_ge.1, hs, he⟩
      · exact fun z => (mx_ge (a := rtB (enF (pM I n) m c t) (firF (pM I n) m t) (sinceF (pM I n) m g t)) (b := sinceF (pM I n) m g t)).1 (by rw [Int32.lt_iff_toInt_lt] at *; omega)
      · refine mx_le ?_ s1
        rcases rt_c (e := enF (pM I n) m c t) (f := firF (pM I n) m t) (s := sinceF (pM I n) m g t) with q | q
        · rw [q]; exact f1.1
        · rw [q]; exact e1.1
theorem right_ng {I : IM} {n : Nat} {m g c t : Int32} (hD : Dn I n) (hn4 : n ≤ 400) (h : ¬ rightF (pM I n) m g c t = -1) : ¬ rightF (pM I n) m g c t < 0 := ((right_c hD hn4).resolve_left h).1
/-- the last use, as a view has it -/
theorem last_of {I : IM} {n : Nat} {m g c t u : Int32} (hD : Dn I n) (hn4 : n ≤ 400) (hu : UO I n m t g (sinceF (pM I n) m g t) u) (hr : ¬ rightF (pM I n) m g c t = -1) : mxI (rightF (pM I n) m g c t) u = lastF (pM I n) m g c t := by
  have r := (right_c hD hn4).resolve_left hr
  have hm1 : ∀ x : Int32, ¬ x < 0 → ¬ x < -1 := fun x h => by
    have : (-1 : Int32).toInt = -1 := by decide
    rw [Int32.lt_iff_toInt_lt] at *
    rw [tI0] at h
    omega
  unfold lastF
  by_cases c6 : latF (pM I n) 6 m g t < 0
  · rw [hu.1 c6, if_neg (fun z => z.1 c6)]
    unfold mxI
    rw [if_neg (hm1 _ r.1)]
  · rcases hu.2 c6 with e | ⟨e, l⟩
    · rw [e]
      unfold mxI
      by_cases q : rightF (pM I n) m g c t < dyF (pM I n) (latF (pM I n) 6 m g t)
      · rw [if_pos q, if_pos ⟨c6, q⟩]
      · rw [if_neg q, if_neg (fun z => q z.2)]
    · rw [e]
      have nl : ¬ rightF (pM I n) m g c t < dyF (pM I n) (latF (pM I n) 6 m g t) := le_tr l r.2.2.1
      unfold mxI
      rw [if_neg (hm1 _ r.1), if_neg (fun z => nl z.2)]
theorem stands_no {I : IM} {n : Nat} {m g c t : Int32} (h : rightF (pM I n) m g c t = -1) : standsF (pM I n) m g c t = false := by
  unfold standsF
  rw [h, show decide ((-1 : Int32) < 0) = true by decide]
  rfl
theorem stands_of {I : IM} {n : Nat} {m g c t : Int32} (hD : Dn I n) (hn4 : n ≤ 400) (h : ¬ rightF (pM I n) m g c t = -1) : standsF (pM I n) m g c t = (!(strF (pM I n) m t) && (!(lapF (pM I n) m t) && !decide (1825 < t - lastF (pM I n) m g c t))) := by
  have r := (right_c hD hn4).resolve_left h
  unfold standsF
  rw [show decide (rightF (pM I n) m g c t < 0) = false from decide_eq_false r.1, show decide (t < rightF (pM I n) m g c t) = false from decide_eq_false r.2.1]
  cases lapF (pM I n) m t <;> cases strF (pM I n) m t <;> rfl
/-- the latest paper of the goods -/
theorem keep_of {I : IM} {n : Nat} {m g t : Int32} (hD : Dn I n) (hn4 : n ≤ 400) (hs : ¬ sinceF (pM I n) m g t < 0) : (!decide (latF (pM I n) 0 m g t < latF (pM I n) 3 m g t)) = decide (latF (pM I n) 3 m g t < latF (pM I n) 0 m g t) := by
  have a := fun z => hs ((si_c (m := m) (g := g) (t := t) hD (Nat.le_refl _) hn4).mpr z)
  have h0 : ¬ latF (pM I n) 0 m g t < 0 := fun z => a (Or.inl z)
  have ne : ¬ latF (pM I n) 0 m g t = latF (pM I n) 3 m g t := by
    have key : ∀ i, i ≤ n → ¬ latF (pM I i) 0 m g t < 0 → ¬ latF (pM I i) 0 m g t = latF (pM I i) 3 m g t := by
      intro i
      induction i with
      | zero => intro _ h; exact absurd (show (-1 : Int32) < 0 by decide) h
      | succ i ih =>
        intro hi h e
        rw [latF_s, latF_s] at e
        rw [latF_s] at h
        have b0 := lat_ltI (I := I) (i := i) (k := 0) (m := m) (x := g) (t := t) (by omega)
        have b3 := lat_ltI (I := I) (i := i) (k := 3) (m := m) (x := g) (t := t) (by omega)
        by_cases c0 : mt (pM I i) 0 m g t i = true <;> by_cases c3 : mt (pM I i) 3 m g t i = true
        · rw [mtM] at c0 c3
          simp only [Bool.and_eq_true, decide_eq_true_eq] at c0 c3
          have := c0.1.symm.trans c3.1
          exact absurd this (by decide)
        · rw [if_pos c0, if_neg c3] at e
          rw [← e] at b3
          exact lt_as b3 b3
        · rw [if_neg c0, if_pos c3] at e
          rw [e] at b0
          exact lt_as b0 b0
        · rw [if_neg c0, if_neg c3] at e
          rw [if_neg c0] at h
          exact ih (by omega) h e
    exact key n (Nat.le_refl _) h0
  by_cases q : latF (pM I n) 0 m g t < latF (pM I n) 3 m g t
  · rw [decide_eq_true q, decide_eq_false (lt_as q)]
    rfl
  · rw [decide_eq_false q, decide_eq_true (lt_ne_le q (fun z => ne z.symm))]
    rfl
theorem keep_no {I : IM} {n : Nat} {m g t : Int32} (hD : Dn I n) (hn4 : n ≤ 400) (hs : sinceF (pM I n) m g t < 0) : decide (latF (pM I n) 3 m g t < latF (pM I n) 0 m g t) = false := by
  have a := (si_c (m := m) (g := g) (t := t) hD (Nat.le_refl _) hn4).mp hs
  apply decide_eq_false
  rcases a with a | a
  · rcases lat_c (I := I) (i := n) (k := 0) (m := m) (x := g) (t := t) hn4 with e | ⟨j, hj, e⟩
    · rw [e]
      rcases lat_c (I := I) (i := n) (k := 3) (m := m) (x := g) (t := t) hn4 with e3 | ⟨j, hj, e3⟩
      · rw [e3]; decide
      · rw [e3]
        have := nI_pos (n := j) (by omega)
        have h1 : (-1 : Int32).toInt = -1 := by decide
        rw [Int32.lt_iff_toInt_lt] at *
        rw [tI0] at this
        omega
    · rw [e] at a
      exact absurd a (nI_pos (by omega))
  · exact lt_as a.1
/-- goods that are in no place of the view -/
theorem VB_none {I : IM} {n : Nat} {m t g : Int32} {G Sn Us Gv : Nat → Int32} {K : Nat} (h : VB I n m t G Sn Us Gv K) (hg : ¬ g = -1) (hno : ∀ q, q < K → ¬ G q = g) : sinceF (pM I n) m g t < 0 := Decidable.byContradiction (fun z => by
  obtain ⟨q, hq, e⟩ := h.2.1 g hg z
  exact hno q hq e)
theorem inB_nK {q K : Nat} (h : q < K) (hK : K ≤ 400) : inB (nI q) 0 (nI K - 1) = true := by
  cases K with
  | zero => omega
  | succ k =>
    rw [nI_pred]
    exact rg_inB (rg_nI (by omega) (by omega)) (by omega)
theorem inB_n1 {x : Int32} : inB (-1) 0 x = false := inB_lo (by decide)
theorem nI_nm1 {q : Nat} (h : q < 2 ^ 31) : ¬ nI q = -1 := fun e => nI_pos h (by rw [e]; decide)

