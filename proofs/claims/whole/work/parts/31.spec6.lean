/-! a view of a mark, as the first papers show it -/
theorem latU_n {I : IM} {a b : Nat} {k m x t : Int32} : ∀ j, latU (pM I a) k m x t j = latU (pM I b) k m x t j
  | 0 => rfl
  | j + 1 => by
    unfold latU
    rw [latU_n (b := b) j]
    rfl
theorem eaU_n {I : IM} {a b : Nat} {k m x t : Int32} : ∀ (j : Nat) (f : Int32), eaU (pM I a) k m x t j f = eaU (pM I b) k m x t j f
  | 0, _ => rfl
  | j + 1, f => by
    unfold eaU
    rw [eaU_n (b := b) j]
    rfl
theorem cntU_n {I : IM} {a b : Nat} {k m t : Int32} : ∀ j, cntU (pM I a) k m t j = cntU (pM I b) k m t j
  | 0 => rfl
  | j + 1 => by
    unfold cntU
    rw [cntU_n (b := b) j]
    rfl
theorem latF_s {I : IM} {i : Nat} {k m x t : Int32} : latF (pM I (i + 1)) k m x t = if mt (pM I i) k m x t i = true then nI i else latF (pM I i) k m x t := by
  show latU (pM I (i + 1)) k m x t (i + 1) = _
  rw [latU, latU_n (b := i)]
  rfl
theorem cntF_s {I : IM} {i : Nat} {k m t : Int32} : cntF (pM I (i + 1)) k m t = cntF (pM I i) k m t + (if decide (I 49 i = k) && (decide (I 50 i = m) && !decide (t < I 52 i)) then 1 else 0) := by
  show cntU (pM I (i + 1)) k m t (i + 1) = _
  rw [cntU, cntU_n (b := i)]
  rfl
theorem eaU_f {p : PL} {k m x t : Int32} : ∀ {i : Nat} (f : Int32), i ≤ 400 → eaU p k m x t i f = if eaU p k m x t i (-1) < 0 then f else eaU p k m x t i (-1)
  | 0, f, _ => by
    show f = if (-1 : Int32) < 0 then f else -1
    rw [if_pos (by decide)]
  | i + 1, f, hi => by
    unfold eaU
    rw [eaU_f (i := i) (if mt p k m x t i = true then nI i else f) (by omega), eaU_f (i := i) (if mt p k m x t i = true then nI i else -1) (by omega)]
    by_cases c : eaU p k m x t i (-1) < 0
    · simp only [c, if_true]
      by_cases q : mt p k m x t i = true
      · rw [if_pos q, if_pos q, if_neg (nI_pos (by omega))]
      · rw [if_neg q, if_neg q, if_pos (by decide)]
    · simp only [c, if_false]
theorem eaF_s {I : IM} {i : Nat} {k m x t : Int32} (hi : i ≤ 400) : eaF (pM I (i + 1)) k m x t = if eaF (pM I i) k m x t < 0 then (if mt (pM I i) k m x t i = true then nI i else -1) else eaF (pM I i) k m x t := by
  show eaU (pM I (i + 1)) k m x t (i + 1) (-1) = _
  rw [eaU, eaU_n (b := i), eaU_f _ hi]
  rfl
theorem lat_c {I : IM} {i : Nat} {k m x t : Int32} (hi : i ≤ 400) : latF (pM I i) k m x t = -1 ∨ ∃ j, j < i ∧ latF (pM I i) k m x t = nI j := by
  induction i with
  | zero => exact Or.inl rfl
  | succ i ih =>
    rw [latF_s]
    by_cases c : mt (pM I i) k m x t i = true
    · rw [if_pos c]
      exact Or.inr ⟨i, by omega, rfl⟩
    · rw [if_neg c]
      rcases ih (by omega) with h | ⟨j, hj, h⟩
      · exact Or.inl h
      · exact Or.inr ⟨j, by omega, h⟩
theorem ea_c {I : IM} {i : Nat} {k m x t : Int32} (hi : i ≤ 400) : eaF (pM I i) k m x t = -1 ∨ ∃ j, j < i ∧ eaF (pM I i) k m x t = nI j := by
  induction i with
  | zero => exact Or.inl rfl
  | succ i ih =>
    rw [eaF_s (by omega)]
    rcases ih (by omega) with h | ⟨j, hj, h⟩
    · rw [if_pos (by rw [h]; decide)]
      by_cases c : mt (pM I i) k m x t i = true
      · rw [if_pos c]
        exact Or.inr ⟨i, by omega, rfl⟩
      · rw [if_neg c]
        exact Or.inl rfl
    · rw [h, if_neg (nI_pos (by omega))]
      exact Or.inr ⟨j, by omega, rfl⟩
theorem lat_ltI {I : IM} {i : Nat} {k m x t : Int32} (hi : i ≤ 400) : latF (pM I i) k m x t < nI i := by
  rcases lat_c (I := I) (k := k) (m := m) (x := x) (t := t) hi with h | ⟨j, hj, h⟩
  · rw [h, Int32.lt_iff_toInt_lt, nI_toInt (by omega)]
    have : (-1 : Int32).toInt = -1 := by decide
    omega
  · rw [h]
    exact (nI_ltI (by omega) (by omega)).mpr hj
theorem lat_no {I : IM} {i : Nat} {k m x t : Int32} (hi : i ≤ 400) (h : latF (pM I i) k m x t < 0) : ∀ j, j < i → mt (pM I i) k m x t j = false := fun j hj => by
  rcases Bool.eq_false_or_eq_true (mt (pM I i) k m x t j) with q | q
  · exact absurd h (latU_some (i := i) hi hj q)
  · exact q
theorem ea_no {I : IM} {i : Nat} {k m x t : Int32} (hi : i ≤ 400) (h : ∀ j, j < i → mt (pM I i) k m x t j = false) : eaF (pM I i) k m x t = -1 := by
  induction i with
  | zero => rfl
  | succ i ih =>
    rw [eaF_s (by omega), ih (by omega) (fun j hj => h j (by omega)), if_pos (by decide), if_neg (by rw [show mt (pM I i) k m x t i = false from h i (by omega)]; decide)]
/-- days of the log are no less than 0 -/
def Dn (I : IM) (n : Nat) : Prop := ∀ i, i < n → ¬ I 52 i < 0
theorem dy_nn {I : IM} {n i : Nat} {k m x t : Int32} (hd : Dn I n) (hi : i ≤ n) (h4 : n ≤ 400) (h : ¬ latF (pM I i) k m x t < 0) : ¬ I 52 (latF (pM I i) k m x t).toNatClampNeg < 0 := by
  rcases lat_c (I := I) (i := i) (k := k) (m := m) (x := x) (t := t) (by omega) with e | ⟨j, hj, e⟩
  · rw [e] at h
    exact absurd (by decide) h
  · rw [e, nI_clamp (by omega)]
    exact hd j (by omega)
theorem dye_nn {I : IM} {n i : Nat} {k m x t : Int32} (hd : Dn I n) (hi : i ≤ n) (h4 : n ≤ 400) (h : ¬ eaF (pM I i) k m x t < 0) : ¬ I 52 (eaF (pM I i) k m x t).toNatClampNeg < 0 := by
  rcases ea_c (I := I) (i := i) (k := k) (m := m) (x := x) (t := t) (by omega) with e | ⟨j, hj, e⟩
  · rw [e] at h
    exact absurd (by decide) h
  · rw [e, nI_clamp (by omega)]
    exact hd j (by omega)
theorem fi_c {I : IM} {n i : Nat} {m t : Int32} (hd : Dn I n) (hi : i ≤ n) (h4 : n ≤ 400) : firF (pM I i) m t = -1 ↔ eaF (pM I i) 1 m (-1) t < 0 := by
  unfold firF
  constructor
  · intro h
    refine Decidable.byContradiction (fun q => ?_)
    rw [if_neg q] at h
    exact dye_nn hd hi h4 q (by have h2 : I 52 (eaF (pM I i) 1 m (-1) t).toNatClampNeg = -1 := h; rw [h2]; decide)
  · intro h
    rw [if_pos h]
/-- the day of entering in country c, -1 if none -/
def enF (p : PL) (m c t : Int32) : Int32 := if eaF p 1 m c t < 0 then -1 else dyF p (eaF p 1 m c t)
theorem en_c {I : IM} {n i : Nat} {m c t : Int32} (hd : Dn I n) (hi : i ≤ n) (h4 : n ≤ 400) : enF (pM I i) m c t = -1 ↔ eaF (pM I i) 1 m c t < 0 := by
  unfold enF
  constructor
  · intro h
    refine Decidable.byContradiction (fun q => ?_)
    rw [if_neg q] at h
    exact dye_nn hd hi h4 q (by have h2 : I 52 (eaF (pM I i) 1 m c t).toNatClampNeg = -1 := h; rw [h2]; decide)
  · intro h
    rw [if_pos h]
theorem si_c {I : IM} {n i : Nat} {m g t : Int32} (hd : Dn I n) (hi : i ≤ n) (h4 : n ≤ 400) : sinceF (pM I i) m g t < 0 ↔ (latF (pM I i) 0 m g t < 0 ∨ (latF (pM I i) 0 m g t < latF (pM I i) 3 m g t ∧ ¬ dyF (pM I i) (latF (pM I i) 3 m g t) = t)) := by
  unfold sinceF
  constructor
  · intro h
    refine Decidable.byContradiction (fun q => ?_)
    rw [if_neg q] at h
    exact dy_nn hd hi h4 (fun r => q (Or.inl r)) h
  · intro h
    rw [if_pos h]
    decide
theorem si_m1 {p : PL} {m g t : Int32} (hd : ¬ latF p 0 m g t < 0 → ¬ dyF p (latF p 0 m g t) < 0) (h : sinceF p m g t < 0) : sinceF p m g t = -1 := by
  unfold sinceF at h ⊢
  by_cases c : latF p 0 m g t < 0 ∨ (latF p 0 m g t < latF p 3 m g t ∧ ¬ dyF p (latF p 3 m g t) = t)
  · rw [if_pos c]
  · rw [if_neg c] at h
    exact absurd h (hd (fun r => c (Or.inl r)))
/-- the count of papers does not matter to days -/
theorem dy_n {I : IM} {a b : Nat} {x : Int32} : dyF (pM I a) x = dyF (pM I b) x := rfl
theorem since_eq {I : IM} {a b : Nat} {m g t : Int32} (h0 : latF (pM I a) 0 m g t = latF (pM I b) 0 m g t) (h3 : latF (pM I a) 3 m g t = latF (pM I b) 3 m g t) : sinceF (pM I a) m g t = sinceF (pM I b) m g t := by
  unfold sinceF
  rw [h0, h3]
  rfl
theorem mt_k {I : IM} {i : Nat} {k m g t : Int32} (hm : I 50 i = m) (hd : ¬ t < I 52 i) : mt (pM I i) k m g t i = (decide (I 49 i = k) && (decide (g = -1) || decide (I 51 i = g))) := by
  rw [mtM]
  simp [hm, hd]
theorem lat_k {I : IM} {i : Nat} {k m g t : Int32} (hm : I 50 i = m) (hd : ¬ t < I 52 i) : latF (pM I (i + 1)) k m g t = if I 49 i = k ∧ (g = -1 ∨ I 51 i = g) then nI i else latF (pM I i) k m g t := by
  rw [latF_s, mt_k hm hd]
  by_cases c : I 49 i = k ∧ (g = -1 ∨ I 51 i = g)
  · rw [if_pos c, if_pos (by simpa using c)]
  · rw [if_neg c, if_neg (by simpa using c)]
theorem lat_sk {I : IM} {i : Nat} {k m g t : Int32} (h : ¬ (I 50 i = m ∧ ¬ t < I 52 i)) : latF (pM I (i + 1)) k m g t = latF (pM I i) k m g t := by
  rw [latF_s, if_neg]
  rw [mtM]
  simp
  intro _ h1 _
  exact Decidable.byContradiction (fun q => h ⟨h1, by simpa using q⟩)
/-! the first part of a view: its fields -/
def VA (I : IM) (i : Nat) (m c t : Int32) (F : Nat → Int32) (K : Nat) : Prop := F 0 = t ∧ F 1 = firF (pM I i) m t ∧ (¬ c = -1 → F 2 = enF (pM I i) m c t) ∧ F 3 = nI (cntF (pM I i) 1 m t) ∧ F 4 = nI (cntF (pM I i) 2 m t) ∧ F 5 = bI (strF (pM I i) m t) ∧ F 6 = bI (!decide (latF (pM I i) 7 m (-1) t < 0)) ∧ F 7 = bI (!decide (latF (pM I i) 0 m (-1) t < 0)) ∧ F 8 = nI K ∧ K ≤ 20
/-! the second part: what the goods' rows hold -/
def UO (I : IM) (i : Nat) (m t g s u : Int32) : Prop := (latF (pM I i) 6 m g t < 0 → u = -1) ∧ (¬ latF (pM I i) 6 m g t < 0 → u = dyF (pM I i) (latF (pM I i) 6 m g t) ∨ (u = -1 ∧ ¬ s < dyF (pM I i) (latF (pM I i) 6 m g t)))
def VP (I : IM) (i : Nat) (m t g s u v : Int32) : Prop := ¬ g = -1 ∧ s = sinceF (pM I i) m g t ∧ ¬ s < 0 ∧ UO I i m t g s u ∧ v = bI (decide (latF (pM I i) 0 m g t < latF (pM I i) 3 m g t))
def VB (I : IM) (i : Nat) (m t : Int32) (G Sn Us Gv : Nat → Int32) (K : Nat) : Prop := (∀ q, q < K → VP I i m t (G q) (Sn q) (Us q) (Gv q)) ∧ (∀ g, ¬ g = -1 → ¬ sinceF (pM I i) m g t < 0 → ∃ q, q < K ∧ G q = g) ∧ ∀ q r, q < K → r < K → G q = G r → q = r
theorem UO_eq {I : IM} {a b : Nat} {m t g s u : Int32} (h6 : latF (pM I a) 6 m g t = latF (pM I b) 6 m g t) (h : UO I b m t g s u) : UO I a m t g s u := by
  unfold UO at *
  rw [h6]
  exact h
theorem VP_eq {I : IM} {a b : Nat} {m t g s u v : Int32} (h0 : latF (pM I a) 0 m g t = latF (pM I b) 0 m g t) (h3 : latF (pM I a) 3 m g t = latF (pM I b) 3 m g t) (h6 : latF (pM I a) 6 m g t = latF (pM I b) 6 m g t) (h : VP I b m t g s u v) : VP I a m t g s u v := by
  unfold VP at *
  rw [since_eq h0 h3, h0, h3]
  exact ⟨h.1, h.2.1, h.2.2.1, UO_eq h6 h.2.2.2.1, h.2.2.2.2⟩
theorem VB_eq {I : IM} {a b : Nat} {m t : Int32} {G Sn Us Gv : Nat → Int32} {K : Nat} (h0 : ∀ g, ¬ g = -1 → latF (pM I a) 0 m g t = latF (pM I b) 0 m g t) (h3 : ∀ g, ¬ g = -1 → latF (pM I a) 3 m g t = latF (pM I b) 3 m g t) (h6 : ∀ g, ¬ g = -1 → latF (pM I a) 6 m g t = latF (pM I b) 6 m g t) (h : VB I b m t G Sn Us Gv K) : VB I a m t G Sn Us Gv K := by
  refine ⟨fun q hq => ?_, fun g hg hs => ?_, h.2.2⟩
  · have hp := h.1 q hq
    exact VP_eq (h0 _ hp.1) (h3 _ hp.1) (h6 _ hp.1) hp
  · exact h.2.1 g hg (by rw [← since_eq (h0 g hg) (h3 g hg)]; exact hs)
/-- a paper that is no matter of goods -/
theorem VB_oth {I : IM} {i : Nat} {m t : Int32} {G Sn Us Gv : Nat → Int32} {K : Nat} (hm : I 50 i = m) (hd : ¬ t < I 52 i) (k0 : ¬ I 49 i = 0) (k3 : ¬ I 49 i = 3) (k6 : ¬ I 49 i = 6) (h : VB I i m t G Sn Us Gv K) : VB I (i + 1) m t G Sn Us Gv K :=
  VB_eq (fun g _ => by rw [lat_k hm hd, if_neg (fun q => k0 q.1)]) (fun g _ => by rw [lat_k hm hd, if_neg (fun q => k3 q.1)]) (fun g _ => by rw [lat_k hm hd, if_neg (fun q => k6 q.1)]) h
theorem VB_sk {I : IM} {i : Nat} {m t : Int32} {G Sn Us Gv : Nat → Int32} {K : Nat} (hs : ¬ (I 50 i = m ∧ ¬ t < I 52 i)) (h : VB I i m t G Sn Us Gv K) : VB I (i + 1) m t G Sn Us Gv K :=
  VB_eq (fun g _ => lat_sk hs) (fun g _ => lat_sk hs) (fun g _ => lat_sk hs) h
theorem lt_as {a b : Int32} (h : a < b) : ¬ b < a := by rw [Int32.lt_iff_toInt_lt] at *; omega
/-- the goods of a paper GOODS -/
theorem VP_goods {I : IM} {i : Nat} {m t u : Int32} (hi : i ≤ 400) (hm : I 50 i = m) (hd : ¬ t < I 52 i) (k : I 49 i = 0) (hx : ¬ I 51 i = -1) (h0 : ¬ I 52 i < 0) (hu : UO I i m t (I 51 i) (I 52 i) u) : VP I (i + 1) m t (I 51 i) (I 52 i) u 0 := by
  have l0 : latF (pM I (i + 1)) 0 m (I 51 i) t = nI i := by rw [lat_k hm hd, if_pos ⟨k, Or.inr rfl⟩]
  have l3 : latF (pM I (i + 1)) 3 m (I 51 i) t = latF (pM I i) 3 m (I 51 i) t := by rw [lat_k hm hd, if_neg (fun q => by rw [k] at q; exact absurd q.1 (by decide))]
  have l6 : latF (pM I (i + 1)) 6 m (I 51 i) t = latF (pM I i) 6 m (I 51 i) t := by rw [lat_k hm hd, if_neg (fun q => by rw [k] at q; exact absurd q.1 (by decide))]
  have lt := lat_ltI (I := I) (k := 3) (m := m) (x := I 51 i) (t := t) hi
  refine ⟨hx, ?_, h0, UO_eq l6 hu, ?_⟩
  · unfold sinceF
    rw [l0, l3, if_neg]
    · rw [dyM, nI_clamp (by omega)]
    · rintro (q | q)
      · exact nI_pos (by omega) q
      · exact lt_as lt q.1
  · rw [l0, l3, show decide (nI i < latF (pM I i) 3 m (I 51 i) t) = false from decide_eq_false (lt_as lt)]
    rfl
theorem VB_gnew {I : IM} {i : Nat} {m t : Int32} {G Sn Us Gv : Nat → Int32} {K : Nat} (hi : i ≤ 400) (hso : So I (i + 1)) (hm : I 50 i = m) (hd : ¬ t < I 52 i) (k : I 49 i = 0) (hx : ¬ I 51 i = -1) (h0 : ¬ I 52 i < 0) (hno : ∀ q, q < K → ¬ G q = I 51 i) (h : VB I i m t G Sn Us Gv K) : VB I (i + 1) m t (upd G K (I 51 i)) (upd Sn K (I 52 i)) (upd Us K (-1)) (upd Gv K 0) (K + 1) := by
  have o : ∀ kk g, ¬ g = I 51 i → ¬ g = -1 → latF (pM I (i + 1)) kk m g t = latF (pM I i) kk m g t := fun kk g hg hn => by
    rw [lat_k hm hd, if_neg]
    rintro ⟨_, q | q⟩
    · exact hn q
    · exact hg q.symm
  refine ⟨fun q hq => ?_, fun g hg hs => ?_, fun q r hq hr e => ?_⟩
  · by_cases c : q = K
    · subst c
      simp only [upd, if_true]
      refine VP_goods hi hm hd k hx h0 ⟨fun _ => rfl, fun hl => Or.inr ⟨rfl, ?_⟩⟩
      rcases lat_c (I := I) (i := i) (k := 6) (m := m) (x := I 51 i) (t := t) hi with e | ⟨j, hj, e⟩
      · rw [e] at hl
        exact absurd (by decide) hl
      · rw [e, dyM, nI_clamp (by omega)]
        exact hso j i (by omega) (by omega)
    · simp only [upd, if_neg c]
      have hp := h.1 q (by omega)
      exact VP_eq (o 0 _ (hno q (by omega)) hp.1) (o 3 _ (hno q (by omega)) hp.1) (o 6 _ (hno q (by omega)) hp.1) hp
  · by_cases c : g = I 51 i
    · exact ⟨K, by omega, by simp [upd, c]⟩
    · obtain ⟨q, hq, e⟩ := h.2.1 g hg (by rw [← since_eq (o 0 g c hg) (o 3 g c hg)]; exact hs)
      exact ⟨q, by omega, by simp only [upd, if_neg (show ¬ q = K by omega)]; exact e⟩
  · simp only [upd] at e
    by_cases c1 : q = K <;> by_cases c2 : r = K
    · omega
    · rw [if_pos c1, if_neg c2] at e
      exact absurd e.symm (hno r (by omega))
    · rw [if_neg c1, if_pos c2] at e
      exact absurd e (hno q (by omega))
    · rw [if_neg c1, if_neg c2] at e
      exact h.2.2 q r (by omega) (by omega) e
theorem le_tr {a b c : Int32} (h1 : ¬ b < a) (h2 : ¬ c < b) : ¬ c < a := by rw [Int32.lt_iff_toInt_lt] at *; omega
theorem VB_gold {I : IM} {i q0 : Nat} {m t : Int32} {G Sn Us Gv : Nat → Int32} {K : Nat} (hi : i ≤ 400) (hso : So I (i + 1)) (hm : I 50 i = m) (hd : ¬ t < I 52 i) (k : I 49 i = 0) (hx : ¬ I 51 i = -1) (h0 : ¬ I 52 i < 0) (hq0 : q0 < K) (hg0 : G q0 = I 51 i) (h : VB I i m t G Sn Us Gv K) : VB I (i + 1) m t G (upd Sn q0 (I 52 i)) Us (upd Gv q0 0) K := by
  have o : ∀ kk g, ¬ g = I 51 i → ¬ g = -1 → latF (pM I (i + 1)) kk m g t = latF (pM I i) kk m g t := fun kk g hg hn => by
    rw [lat_k hm hd, if_neg]
    rintro ⟨_, q | q⟩
    · exact hn q
    · exact hg q.symm
  refine ⟨fun q hq => ?_, fun g hg hs => ?_, h.2.2⟩
  · by_cases c : q = q0
    · subst c
      simp only [upd, if_true]
      rw [hg0]
      have hp := h.1 q hq
      rw [hg0] at hp
      refine VP_goods hi hm hd k hx h0 ⟨hp.2.2.2.1.1, fun hl => ?_⟩
      rcases hp.2.2.2.1.2 hl with e | e
      · exact Or.inl e
      · refine Or.inr ⟨e.1, ?_⟩
        rcases lat_c (I := I) (i := i) (k := 6) (m := m) (x := I 51 i) (t := t) hi with e | ⟨j, hj, e⟩
        · rw [e] at hl
          exact absurd (by decide) hl
        · rw [e, dyM, nI_clamp (by omega)]
          exact hso j i (by omega) (by omega)
    · simp only [upd, if_neg c]
      have hp := h.1 q hq
      have hne : ¬ G q = I 51 i := fun e => c (h.2.2 q q0 hq hq0 (e.trans hg0.symm))
      exact VP_eq (o 0 _ hne hp.1) (o 3 _ hne hp.1) (o 6 _ hne hp.1) hp
  · by_cases c : g = I 51 i
    · exact ⟨q0, hq0, by rw [c]; exact hg0⟩
    · exact h.2.1 g hg (by rw [← since_eq (o 0 g c hg) (o 3 g c hg)]; exact hs)
/-- GIVE on the day itself -/
theorem VB_gday {I : IM} {i q0 : Nat} {m t : Int32} {G Sn Us Gv : Nat → Int32} {K : Nat} (hi : i ≤ 400) (hm : I 50 i = m) (hd : I 52 i = t) (k : I 49 i = 3) (hkp : latF (pM I i) 3 m (I 51 i) t < latF (pM I i) 0 m (I 51 i) t) (hq0 : q0 < K) (hg0 : G q0 = I 51 i) (h : VB I i m t G Sn Us Gv K) : VB I (i + 1) m t G Sn Us (upd Gv q0 1) K := by
  have hdd : ¬ t < I 52 i := by rw [hd, Int32.lt_iff_toInt_lt]; omega
  have o : ∀ kk g, ¬ g = I 51 i → ¬ g = -1 → latF (pM I (i + 1)) kk m g t = latF (pM I i) kk m g t := fun kk g hg hn => by
    rw [lat_k hm hdd, if_neg]
    rintro ⟨_, q | q⟩
    · exact hn q
    · exact hg q.symm
  have l0 : latF (pM I (i + 1)) 0 m (I 51 i) t = latF (pM I i) 0 m (I 51 i) t := by rw [lat_k hm hdd, if_neg (fun q => by rw [k] at q; exact absurd q.1 (by decide))]
  have l3 : latF (pM I (i + 1)) 3 m (I 51 i) t = nI i := by rw [lat_k hm hdd, if_pos ⟨k, Or.inr rfl⟩]
  have l6 : latF (pM I (i + 1)) 6 m (I 51 i) t = latF (pM I i) 6 m (I 51 i) t := by rw [lat_k hm hdd, if_neg (fun q => by rw [k] at q; exact absurd q.1 (by decide))]
  refine ⟨fun q hq => ?_, fun g hg hs => ?_, h.2.2⟩
  · by_cases c : q = q0
    · subst c
      simp only [upd, if_true]
      have hp := h.1 q hq
      rw [hg0] at hp ⊢
      have ltt := lat_ltI (I := I) (k := 0) (m := m) (x := I 51 i) (t := t) hi
      refine ⟨hp.1, ?_, hp.2.2.1, UO_eq l6 hp.2.2.2.1, ?_⟩
      · rw [hp.2.1]
        unfold sinceF
        rw [l0, l3]
        by_cases c0 : latF (pM I i) 0 m (I 51 i) t < 0
        · rw [if_pos (Or.inl c0), if_pos (Or.inl c0)]
        · rw [if_neg, if_neg]
          · rfl
          · rintro (q | q)
            · exact c0 q
            · exact q.2 (by rw [dyM, nI_clamp (by omega)]; exact hd)
          · rintro (q | q)
            · exact c0 q
            · exact lt_as hkp q.1
      · rw [l0, l3, show decide (latF (pM I i) 0 m (I 51 i) t < nI i) = true from decide_eq_true ltt]
        rfl
    · simp only [upd, if_neg c]
      have hp := h.1 q hq
      have hne : ¬ G q = I 51 i := fun e => c (h.2.2 q q0 hq hq0 (e.trans hg0.symm))
      exact VP_eq (o 0 _ hne hp.1) (o 3 _ hne hp.1) (o 6 _ hne hp.1) hp
  · by_cases c : g = I 51 i
    · exact ⟨q0, hq0, by rw [c]; exact hg0⟩
    · exact h.2.1 g hg (by rw [← since_eq (o 0 g c hg) (o 3 g c hg)]; exact hs)
/-- GIVE on an earlier day -/
theorem VB_grm {I : IM} {i q0 : Nat} {m t : Int32} {G Sn Us Gv : Nat → Int32} {K : Nat} (hi : i ≤ 400) (hm : I 50 i = m) (hdd : ¬ t < I 52 i) (hd : ¬ I 52 i = t) (k : I 49 i = 3) (hq0 : q0 < K) (hg0 : G q0 = I 51 i) (h : VB I i m t G Sn Us Gv K) : VB I (i + 1) m t (upd G q0 (G (K - 1))) (upd Sn q0 (Sn (K - 1))) (upd Us q0 (Us (K - 1))) (upd Gv q0 (Gv (K - 1))) (K - 1) := by
  have o : ∀ kk g, ¬ g = I 51 i → ¬ g = -1 → latF (pM I (i + 1)) kk m g t = latF (pM I i) kk m g t := fun kk g hg hn => by
    rw [lat_k hm hdd, if_neg]
    rintro ⟨_, q | q⟩
    · exact hn q
    · exact hg q.symm
  have l0 : latF (pM I (i + 1)) 0 m (I 51 i) t = latF (pM I i) 0 m (I 51 i) t := by rw [lat_k hm hdd, if_neg (fun q => by rw [k] at q; exact absurd q.1 (by decide))]
  have l3 : latF (pM I (i + 1)) 3 m (I 51 i) t = nI i := by rw [lat_k hm hdd, if_pos ⟨k, Or.inr rfl⟩]
  have ltt := lat_ltI (I := I) (k := 0) (m := m) (x := I 51 i) (t := t) hi
  have gone : sinceF (pM I (i + 1)) m (I 51 i) t < 0 := by
    unfold sinceF
    rw [l0, l3, if_pos (Or.inr ⟨ltt, by rw [dyM, nI_clamp (by omega)]; exact hd⟩)]
    decide
  have all : ∀ q, q < K → ¬ q = q0 → VP I (i + 1) m t (G q) (Sn q) (Us q) (Gv q) := fun q hq c => by
    have hp := h.1 q hq
    have hne : ¬ G q = I 51 i := fun e => c (h.2.2 q q0 hq hq0 (e.trans hg0.symm))
    exact VP_eq (o 0 _ hne hp.1) (o 3 _ hne hp.1) (o 6 _ hne hp.1) hp
  refine ⟨fun q hq => ?_, fun g hg hs => ?_, fun q r hq hr e => ?_⟩
  · by_cases c : q = q0
    · subst c
      simp only [upd, if_true]
      exact all (K - 1) (by omega) (by omega)
    · simp only [upd, if_neg c]
      exact all q (by omega) c
  · have c : ¬ g = I 51 i := fun e => hs (by rw [e]; exact gone)
    obtain ⟨q, hq, e⟩ := h.2.1 g hg (by rw [← since_eq (o 0 g c hg) (o 3 g c hg)]; exact hs)
    have cq : ¬ q = q0 := fun z => c (by rw [← e, z]; exact hg0)
    by_cases cl : q = K - 1
    · exact ⟨q0, by omega, by simp only [upd, if_true]; rw [← cl]; exact e⟩
    · exact ⟨q, by omega, by simp only [upd, if_neg cq]; exact e⟩
  · simp only [upd] at e
    by_cases c1 : q = q0 <;> by_cases c2 : r = q0
    · omega
    · rw [if_pos c1, if_neg c2] at e
      have := h.2.2 (K - 1) r (by omega) (by omega) e
      omega
    · rw [if_neg c1, if_pos c2] at e
      have := h.2.2 q (K - 1) (by omega) (by omega) e
      omega
    · rw [if_neg c1, if_neg c2] at e
      exact h.2.2 q r (by omega) (by omega) e
/-- USE -/
theorem VB_use {I : IM} {i q0 : Nat} {m t : Int32} {G Sn Us Gv : Nat → Int32} {K : Nat} (hi : i ≤ 400) (hm : I 50 i = m) (hdd : ¬ t < I 52 i) (k : I 49 i = 6) (hq0 : q0 < K) (hg0 : G q0 = I 51 i) (h : VB I i m t G Sn Us Gv K) : VB I (i + 1) m t G Sn (upd Us q0 (I 52 i)) Gv K := by
  have o : ∀ kk g, ¬ g = I 51 i → ¬ g = -1 → latF (pM I (i + 1)) kk m g t = latF (pM I i) kk m g t := fun kk g hg hn => by
    rw [lat_k hm hdd, if_neg]
    rintro ⟨_, q | q⟩
    · exact hn q
    · exact hg q.symm
  have l0 : ∀ g, latF (pM I (i + 1)) 0 m g t = latF (pM I i) 0 m g t := fun g => by rw [lat_k hm hdd, if_neg (fun q => by rw [k] at q; exact absurd q.1 (by decide))]
  have l3 : ∀ g, latF (pM I (i + 1)) 3 m g t = latF (pM I i) 3 m g t := fun g => by rw [lat_k hm hdd, if_neg (fun q => by rw [k] at q; exact absurd q.1 (by decide))]
  have l6 : latF (pM I (i + 1)) 6 m (I 51 i) t = nI i := by rw [lat_k hm hdd, if_pos ⟨k, Or.inr rfl⟩]
  refine ⟨fun q hq => ?_, fun g hg hs => ?_, h.2.2⟩
  · by_cases c : q = q0
    · subst c
      simp only [upd, if_true]
      have hp := h.1 q hq
      refine ⟨hp.1, by rw [since_eq (l0 _) (l3 _)]; exact hp.2.1, hp.2.2.1, ?_, by rw [l0, l3]; exact hp.2.2.2.2⟩
      unfold UO
      rw [hg0, l6]
      exact ⟨fun z => absurd z (nI_pos (by omega)), fun _ => Or.inl (by rw [dyM, nI_clamp (by omega)])⟩
    · simp only [upd, if_neg c]
      have hp := h.1 q hq
      have hne : ¬ G q = I 51 i := fun e => c (h.2.2 q q0 hq hq0 (e.trans hg0.symm))
      exact VP_eq (o 0 _ hne hp.1) (o 3 _ hne hp.1) (o 6 _ hne hp.1) hp
  · exact h.2.1 g hg (by rw [← since_eq (l0 g) (l3 g)]; exact hs)

