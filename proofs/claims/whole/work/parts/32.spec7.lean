/-! the fields' step -/
theorem ea_k {I : IM} {i : Nat} {k m g t : Int32} (hi : i ≤ 400) (hm : I 50 i = m) (hd : ¬ t < I 52 i) : eaF (pM I (i + 1)) k m g t = if eaF (pM I i) k m g t < 0 then (if I 49 i = k ∧ (g = -1 ∨ I 51 i = g) then nI i else -1) else eaF (pM I i) k m g t := by
  rw [eaF_s hi, mt_k hm hd]
  by_cases c : I 49 i = k ∧ (g = -1 ∨ I 51 i = g)
  · rw [if_pos c, if_pos (show (decide (I 49 i = k) && (decide (g = -1) || decide (I 51 i = g))) = true by simpa using c)]
  · rw [if_neg c, if_neg (show ¬ (decide (I 49 i = k) && (decide (g = -1) || decide (I 51 i = g))) = true by simpa using c)]
theorem lat_dt {I : IM} {i : Nat} {k m x t d : Int32} (h : ∀ j, j < i → ¬ d < I 52 j) (ht : ¬ t < d) : latF (pM I i) k m x t = latF (pM I i) k m x d := by
  have key : ∀ j, j ≤ i → latU (pM I i) k m x t j = latU (pM I i) k m x d j := by
    intro j
    induction j with
    | zero => intro _; rfl
    | succ j ih =>
      intro hj
      unfold latU
      rw [ih (by omega)]
      have h1 : mt (pM I i) k m x t j = mt (pM I i) k m x d j := by
        rw [mtM, mtM]
        have a := h j (by omega)
        have b : ¬ t < I 52 j := le_tr a ht
        simp [a, b]
      rw [h1]
  exact key i (Nat.le_refl _)
/-- what holds of a paper that was taken -/
def PW (I : IM) (i : Nat) : Prop := (I 49 i = 0 → (gS (pM I i) (I 50 i) (I 52 i)).1 < 20) ∧ (I 49 i = 1 → latF (pM I i) 1 (I 50 i) (I 51 i) (I 52 i) < 0) ∧ (I 49 i = 3 ∨ I 49 i = 6 → latF (pM I i) 3 (I 50 i) (I 51 i) (I 52 i) < latF (pM I i) 0 (I 50 i) (I 51 i) (I 52 i)) ∧ ¬ I 51 i = -1
theorem VA_step {I : IM} {i n K K' : Nat} {m c t : Int32} {F F' : Nat → Int32} (hin : i < n) (hn4 : n ≤ 400) (hD : Dn I n) (hso : So I n) (hpw : PW I i) (hm : I 50 i = m) (hd : ¬ t < I 52 i) (h : VA I i m c t F K) (e0 : F' 0 = F 0) (e1 : F' 1 = if I 49 i = 1 ∧ F 1 = -1 then I 52 i else F 1) (e2 : F' 2 = if I 49 i = 1 ∧ I 51 i = c then I 52 i else F 2) (e3 : F' 3 = if I 49 i = 1 then nI (cntF (pM I i) 1 m t + 1) else F 3) (e4 : F' 4 = if I 49 i = 2 then nI (cntF (pM I i) 2 m t + 1) else F 4) (e5 : F' 5 = if I 49 i = 4 then 1 else F 5) (e6 : F' 6 = if I 49 i = 7 then 1 else F 6) (e7 : F' 7 = if I 49 i = 0 then 1 else F 7) (e8 : F' 8 = nI K') (hK : K' ≤ 20) : VA I (i + 1) m c t F' K' := by
  have hn : ∀ k, ¬ I 49 i = k → (decide (I 49 i = k) && (decide (I 50 i = m) && !decide (t < I 52 i))) = false := fun k q => by simp [q]
  have hy : ∀ k, I 49 i = k → (decide (I 49 i = k) && (decide (I 50 i = m) && !decide (t < I 52 i))) = true := fun k q => by simp [q, hm, hd]
  have ex : ∀ k, (!decide (latF (pM I (i + 1)) k m (-1) t < 0)) = if I 49 i = k then true else !decide (latF (pM I i) k m (-1) t < 0) := fun k => by
    rw [lat_k hm hd]
    by_cases q : I 49 i = k
    · rw [if_pos ⟨q, Or.inl rfl⟩, if_pos q, show decide (nI i < 0) = false from decide_eq_false (nI_pos (by omega))]
      rfl
    · rw [if_neg (fun z => q z.1), if_neg q]
  obtain ⟨h0, h1, h2, h3, h4, h5, h6, h7, h8, h9⟩ := h
  refine ⟨e0.trans h0, ?_, fun hc => ?_, ?_, ?_, ?_, ?_, ?_, e8, hK⟩
  · rw [e1, h1]
    have fc := fi_c (m := m) (t := t) hD (Nat.le_of_lt hin) hn4
    by_cases q : firF (pM I i) m t = -1
    · have el := fc.mp q
      by_cases k : I 49 i = 1
      · rw [if_pos ⟨k, q⟩]
        have ev : eaF (pM I (i + 1)) 1 m (-1) t = nI i := by rw [ea_k (by omega) hm hd, if_pos el, if_pos ⟨k, Or.inl rfl⟩]
        unfold firF
        rw [ev, if_neg (nI_pos (by omega)), dyM, nI_clamp (by omega)]
      · rw [if_neg (fun z => k z.1), q]
        have ev : eaF (pM I (i + 1)) 1 m (-1) t = -1 := by rw [ea_k (by omega) hm hd, if_pos el, if_neg (fun z => k z.1)]
        unfold firF
        rw [ev, if_pos (by decide)]
    · have el : ¬ eaF (pM I i) 1 m (-1) t < 0 := fun z => q (fc.mpr z)
      rw [if_neg (fun z => q z.2)]
      have ev : eaF (pM I (i + 1)) 1 m (-1) t = eaF (pM I i) 1 m (-1) t := by rw [ea_k (by omega) hm hd, if_neg el]
      unfold firF
      rw [ev]
      rfl
  · rw [e2, h2 hc]
    have fc := en_c (m := m) (c := c) (t := t) hD (Nat.le_of_lt hin) hn4
    by_cases k : I 49 i = 1 ∧ I 51 i = c
    · have hl := hpw.2.1 k.1
      rw [hm, k.2] at hl
      have hl2 : latF (pM I i) 1 m c t < 0 := by rw [lat_dt (fun j hj => hso j i (by omega) hin) hd]; exact hl
      have el := ea_no (by omega) (lat_no (by omega) hl2)
      rw [if_pos k]
      have ev : eaF (pM I (i + 1)) 1 m c t = nI i := by rw [ea_k (by omega) hm hd, if_pos (by rw [el]; decide), if_pos ⟨k.1, Or.inr k.2⟩]
      unfold enF
      rw [ev, if_neg (nI_pos (by omega)), dyM, nI_clamp (by omega)]
    · rw [if_neg k]
      have nk : ¬ (I 49 i = 1 ∧ (c = -1 ∨ I 51 i = c)) := fun z => z.2.elim hc (fun w => k ⟨z.1, w⟩)
      have ev : eaF (pM I (i + 1)) 1 m c t = eaF (pM I i) 1 m c t := by
        rw [ea_k (by omega) hm hd, if_neg nk]
        rcases ea_c (I := I) (i := i) (k := 1) (m := m) (x := c) (t := t) (by omega) with q | ⟨j, hj, q⟩
        · rw [q, if_pos (by decide)]
        · rw [q, if_neg (nI_pos (by omega))]
      unfold enF
      rw [ev]
      rfl
  · rw [e3, cntF_s]
    by_cases q : I 49 i = 1
    · rw [if_pos q, hy 1 q]
      rfl
    · rw [if_neg q, h3, hn 1 q]
      rfl
  · rw [e4, cntF_s]
    by_cases q : I 49 i = 2
    · rw [if_pos q, hy 2 q]
      rfl
    · rw [if_neg q, h4, hn 2 q]
      rfl
  · rw [e5, strF, ex 4]
    by_cases q : I 49 i = 4
    · rw [if_pos q, if_pos q]
      rfl
    · rw [if_neg q, if_neg q, h5]
      rfl
  · rw [e6, ex 7]
    by_cases q : I 49 i = 7
    · rw [if_pos q, if_pos q]
      rfl
    · rw [if_neg q, if_neg q, h6]
  · rw [e7, ex 0]
    by_cases q : I 49 i = 0
    · rw [if_pos q, if_pos q]
      rfl
    · rw [if_neg q, if_neg q, h7]
theorem ea_sk {I : IM} {i : Nat} {k m g t : Int32} (hi : i ≤ 400) (h : ¬ (I 50 i = m ∧ ¬ t < I 52 i)) : eaF (pM I (i + 1)) k m g t = eaF (pM I i) k m g t := by
  have e : mt (pM I i) k m g t i = false := by
    rw [mtM]
    by_cases a : I 50 i = m
    · have : t < I 52 i := Decidable.byContradiction (fun q => h ⟨a, q⟩)
      simp [this]
    · simp [a]
  rw [eaF_s hi, e]
  rcases ea_c (I := I) (i := i) (k := k) (m := m) (x := g) (t := t) hi with q | ⟨j, hj, q⟩
  · rw [q, if_pos (by decide), if_neg (by decide)]
  · rw [q, if_neg (nI_pos (by omega))]
theorem VA_sk {I : IM} {i K : Nat} {m c t : Int32} {F : Nat → Int32} (hi : i ≤ 400) (hs : ¬ (I 50 i = m ∧ ¬ t < I 52 i)) (h : VA I i m c t F K) : VA I (i + 1) m c t F K := by
  obtain ⟨h0, h1, h2, h3, h4, h5, h6, h7, h8, h9⟩ := h
  have cn : ∀ k, cntF (pM I (i + 1)) k m t = cntF (pM I i) k m t := fun k => by
    rw [cntF_s]
    have : (decide (I 49 i = k) && (decide (I 50 i = m) && !decide (t < I 52 i))) = false := by
      by_cases a : I 50 i = m
      · have : t < I 52 i := Decidable.byContradiction (fun q => hs ⟨a, q⟩)
        simp [this]
      · simp [a]
    rw [this]
    rfl
  refine ⟨h0, ?_, fun hc => ?_, ?_, ?_, ?_, ?_, ?_, h8, h9⟩
  · rw [h1]; unfold firF; rw [ea_sk hi hs]; rfl
  · rw [h2 hc]; unfold enF; rw [ea_sk hi hs]; rfl
  · rw [h3, cn]
  · rw [h4, cn]
  · rw [h5, strF, strF, lat_sk hs]
  · rw [h6, lat_sk hs]
  · rw [h7, lat_sk hs]
/-! the reference's row of goods: all of them, once, by size -/
theorem insF_at {g : Int32} : ∀ (k : Nat) (f : Nat → Int32), ∃ ps, ps ≤ k ∧ (∀ r, insF g k f r = if r < ps then f r else if r = ps then g else if r ≤ k then f (r - 1) else f r) ∧ (∀ r, ps ≤ r → r < k → g < f r) ∧ (0 < ps → ¬ g < f (ps - 1))
  | 0, f => ⟨0, Nat.le_refl _, fun r => by
      by_cases c : r = 0
      · simp [insF, upd, c]
      · simp only [insF, upd, if_neg c, if_neg (Nat.not_lt_zero r), if_neg (show ¬ r ≤ 0 by omega)], fun r h1 h2 => absurd h2 (Nat.not_lt_zero _), fun h => absurd h (Nat.not_lt_zero _)⟩
  | k + 1, f => by
    unfold insF
    by_cases c : g < f k
    · rw [if_pos c]
      obtain ⟨ps, h1, h2, h3, h4⟩ := insF_at (g := g) k (upd f (k + 1) (f k))
      refine ⟨ps, by omega, fun r => ?_, fun r hr1 hr2 => ?_, fun hp => ?_⟩
      · rw [h2 r]
        by_cases a : r < ps
        · rw [if_pos a, if_pos a]
          simp only [upd, if_neg (show ¬ r = k + 1 by omega)]
        · rw [if_neg a, if_neg a]
          by_cases b : r = ps
          · rw [if_pos b, if_pos b]
          · rw [if_neg b, if_neg b]
            by_cases d : r ≤ k
            · rw [if_pos d, if_pos (show r ≤ k + 1 by omega)]
              simp only [upd, if_neg (show ¬ r - 1 = k + 1 by omega)]
            · rw [if_neg d]
              by_cases e : r = k + 1
              · rw [if_pos (show r ≤ k + 1 by omega)]
                simp only [upd, if_pos e]
                rw [show r - 1 = k by omega]
              · rw [if_neg (show ¬ r ≤ k + 1 by omega)]
                simp only [upd, if_neg e]
      · by_cases e : r = k
        · rw [e]; exact c
        · have := h3 r hr1 (by omega)
          simp only [upd, if_neg (show ¬ r = k + 1 by omega)] at this
          exact this
      · have := h4 hp
        simp only [upd, if_neg (show ¬ ps - 1 = k + 1 by omega)] at this
        exact this
    · rw [if_neg c]
      refine ⟨k + 1, Nat.le_refl _, fun r => ?_, fun r h1 h2 => absurd h1 (by omega), fun _ => c⟩
      by_cases a : r < k + 1
      · rw [if_pos a]
        simp only [upd, if_neg (show ¬ r = k + 1 by omega)]
      · rw [if_neg a]
        by_cases b : r = k + 1
        · rw [if_pos b]
          simp only [upd, if_pos b]
        · rw [if_neg b, if_neg (show ¬ r ≤ k + 1 by omega)]
          simp only [upd, if_neg b]
def srt (f : Nat → Int32) (k : Nat) : Prop := ∀ q r, q < r → r < k → f q < f r
theorem lt_tr {a b c : Int32} (h1 : a < b) (h2 : b < c) : a < c := by rw [Int32.lt_iff_toInt_lt] at *; omega
theorem lt_ne_le {a b : Int32} (h1 : ¬ b < a) (h2 : ¬ a = b) : a < b := by
  rw [Int32.lt_iff_toInt_lt] at *
  have : ¬ a.toInt = b.toInt := fun q => h2 (Int32.toInt_inj.mp q)
  omega
theorem ins_srt {g : Int32} {k : Nat} {f : Nat → Int32} (h : srt f k) (hn : ∀ r, r < k → ¬ f r = g) : srt (insF g k f) (k + 1) := by
  obtain ⟨ps, h1, h2, h3, h4⟩ := insF_at (g := g) k f
  have lo : ∀ r, r < ps → f r < g := fun r hr => by
    have a : f (ps - 1) < g := lt_ne_le (h4 (by omega)) (hn _ (by omega))
    by_cases e : r = ps - 1
    · rw [e]; exact a
    · exact lt_tr (h r (ps - 1) (by omega) (by omega)) a
  intro q r hqr hr
  rw [h2 q, h2 r]
  by_cases a : q < ps
  · rw [if_pos a]
    by_cases b : r < ps
    · rw [if_pos b]; exact h q r hqr (by omega)
    · rw [if_neg b]
      by_cases e : r = ps
      · rw [if_pos e]; exact lo q a
      · rw [if_neg e, if_pos (by omega)]
        by_cases z : q = r - 1
        · omega
        · exact h q (r - 1) (by omega) (by omega)
  · rw [if_neg a, if_neg (show ¬ r < ps by omega)]
    by_cases b : q = ps
    · rw [if_pos b, if_neg (by omega), if_pos (by omega)]
      exact h3 (r - 1) (by omega) (by omega)
    · rw [if_neg b, if_pos (show q ≤ k by omega), if_neg (show ¬ r = ps by omega), if_pos (show r ≤ k by omega)]
      exact h (q - 1) (r - 1) (by omega) (by omega)
theorem ins_mem {g x : Int32} {k : Nat} {f : Nat → Int32} : (∃ r, r < k + 1 ∧ insF g k f r = x) ↔ (x = g ∨ ∃ r, r < k ∧ f r = x) := by
  obtain ⟨ps, h1, h2, h3, h4⟩ := insF_at (g := g) k f
  constructor
  · rintro ⟨r, hr, e⟩
    rw [h2 r] at e
    by_cases a : r < ps
    · rw [if_pos a] at e; exact Or.inr ⟨r, by omega, e⟩
    · rw [if_neg a] at e
      by_cases b : r = ps
      · rw [if_pos b] at e; exact Or.inl e.symm
      · rw [if_neg b, if_pos (by omega)] at e; exact Or.inr ⟨r - 1, by omega, e⟩
  · rintro (e | ⟨r, hr, e⟩)
    · exact ⟨ps, by omega, by rw [h2 ps, if_neg (by omega), if_pos rfl, e]⟩
    · by_cases a : r < ps
      · exact ⟨r, by omega, by rw [h2 r, if_pos a, e]⟩
      · exact ⟨r + 1, by omega, by rw [h2 (r + 1), if_neg (by omega), if_neg (by omega), if_pos (by omega)]; exact e⟩
theorem inRU_m {f : Nat → Int32} {g : Int32} : ∀ {k : Nat}, inRU f g k = true ↔ ∃ r, r < k ∧ f r = g
  | 0 => ⟨fun h => absurd h (by unfold inRU; decide), fun ⟨r, hr, _⟩ => absurd hr (Nat.not_lt_zero _)⟩
  | k + 1 => by
    unfold inRU
    rw [Bool.or_eq_true, inRU_m (k := k), decide_eq_true_iff]
    constructor
    · rintro (⟨r, hr, e⟩ | e)
      · exact ⟨r, by omega, e⟩
      · exact ⟨k, by omega, e⟩
    · rintro ⟨r, hr, e⟩
      by_cases c : r = k
      · exact Or.inr (c ▸ e)
      · exact Or.inl ⟨r, by omega, e⟩
theorem gi_all {p : PL} {m t : Int32} {f0 : Nat → Int32} : ∀ i, srt (giU p m t f0 i).2 (giU p m t f0 i).1 ∧ ∀ x, (∃ r, r < (giU p m t f0 i).1 ∧ (giU p m t f0 i).2 r = x) ↔ (¬ sinceF p m x t < 0 ∧ ∃ j, j < i ∧ gdC p m t j = true ∧ p.2.2.1 j = x)
  | 0 => ⟨fun q r _ h => absurd h (Nat.not_lt_zero _), fun x => ⟨fun ⟨r, h, _⟩ => absurd h (Nat.not_lt_zero _), fun ⟨_, j, h, _⟩ => absurd h (Nat.not_lt_zero _)⟩⟩
  | i + 1 => by
    obtain ⟨hs, hm⟩ := gi_all (p := p) (m := m) (t := t) (f0 := f0) i
    unfold giU
    by_cases c : gdC p m t i = true ∧ inRU (giU p m t f0 i).2 (p.2.2.1 i) (giU p m t f0 i).1 = false ∧ ¬ sinceF p m (p.2.2.1 i) t < 0
    · rw [if_pos c]
      have hno : ∀ r, r < (giU p m t f0 i).1 → ¬ (giU p m t f0 i).2 r = p.2.2.1 i := fun r hr e => by
        have := inRU_m.mpr ⟨r, hr, e⟩
        rw [c.2.1] at this
        cases this
      refine ⟨ins_srt hs hno, fun x => ?_⟩
      show (∃ r, r < _ + 1 ∧ insF _ _ _ r = x) ↔ _
      rw [ins_mem, hm x]
      constructor
      · rintro (e | ⟨e, j, hj, h1, h2⟩)
        · exact ⟨by rw [e]; exact c.2.2, i, by omega, c.1, e.symm⟩
        · exact ⟨e, j, by omega, h1, h2⟩
      · rintro ⟨e, j, hj, h1, h2⟩
        by_cases z : j = i
        · exact Or.inl (by rw [← h2, z])
        · exact Or.inr ⟨e, j, by omega, h1, h2⟩
    · rw [if_neg c]
      refine ⟨hs, fun x => ?_⟩
      rw [hm x]
      constructor
      · rintro ⟨e, j, hj, h1, h2⟩
        exact ⟨e, j, by omega, h1, h2⟩
      · rintro ⟨e, j, hj, h1, h2⟩
        by_cases z : j = i
        · subst z
          have hin : inRU (giU p m t f0 j).2 (p.2.2.1 j) (giU p m t f0 j).1 = true := by
            rcases Bool.eq_false_or_eq_true (inRU (giU p m t f0 j).2 (p.2.2.1 j) (giU p m t f0 j).1) with q | q
            · exact q
            · exact absurd ⟨h1, q, by rw [h2]; exact e⟩ c
          obtain ⟨r, hr, er⟩ := inRU_m.mp hin
          exact (hm x).mp ⟨r, hr, by rw [er, h2]⟩
        · exact ⟨e, j, by omega, h1, h2⟩
/-- the goods' row holds just the goods that the mark has -/
theorem gS_mem {I : IM} {i : Nat} {m t x : Int32} (hi : i ≤ 400) (hx : ¬ x = -1) : (∃ r, r < (gS (pM I i) m t).1 ∧ (gS (pM I i) m t).2 r = x) ↔ ¬ sinceF (pM I i) m x t < 0 := by
  unfold gS
  rw [(gi_all (p := pM I i) (m := m) (t := t) (f0 := fun _ => 0) _).2 x]
  refine ⟨fun h => h.1, fun h => ⟨h, ?_⟩⟩
  have h0 : ¬ latF (pM I i) 0 m x t < 0 := fun q => h (by unfold sinceF; rw [if_pos (Or.inl q)]; decide)
  have : ∃ j, j < i ∧ mt (pM I i) 0 m x t j = true := Decidable.byContradiction (fun q => h0 (by
    have : latF (pM I i) 0 m x t = -1 := latU_none (i := i) (fun j hj => by
      rcases Bool.eq_false_or_eq_true (mt (pM I i) 0 m x t j) with z | z
      · exact absurd ⟨j, hj, z⟩ q
      · exact z)
    rw [this]; decide))
  obtain ⟨j, hj, e⟩ := this
  rw [mtM] at e
  simp only [Bool.and_eq_true, decide_eq_true_eq, Bool.or_eq_true, Bool.not_eq_true', decide_eq_false_iff_not] at e
  exact ⟨j, hj, by show (decide (I 49 j = 0) && (decide (I 50 j = m) && !decide (t < I 52 j))) = true; rw [e.1, e.2.1, decide_eq_false e.2.2.2]; simp, e.2.2.1.resolve_left hx⟩
theorem gS_srt {I : IM} {i : Nat} {m t : Int32} : srt (gS (pM I i) m t).2 (gS (pM I i) m t).1 := (gi_all _).1
theorem gS_nm {I : IM} {i : Nat} {m t : Int32} (hx : ∀ j, j < i → ¬ I 51 j = -1) {r : Nat} (hr : r < (gS (pM I i) m t).1) : ¬ (gS (pM I i) m t).2 r = -1 ∧ ¬ sinceF (pM I i) m ((gS (pM I i) m t).2 r) t < 0 := by
  obtain ⟨h1, j, hj, h2, h3⟩ := ((gi_all (p := pM I i) (m := m) (t := t) (f0 := fun _ => 0) i).2 _).mp ⟨r, hr, rfl⟩
  exact ⟨fun q => hx j hj (h3.trans q), h1⟩
/-! pigeons -/
theorem pigeon : ∀ (N K : Nat) (f : Nat → Nat), (∀ q, q < K → f q < N) → (∀ q r, q < K → r < K → f q = f r → q = r) → K ≤ N
  | 0, K, f, h, _ => by
    cases K with
    | zero => exact Nat.le_refl _
    | succ k => exact absurd (h 0 (by omega)) (Nat.not_lt_zero _)
  | N + 1, K, f, h, hi => by
    cases K with
    | zero => exact Nat.zero_le _
    | succ k =>
      refine Nat.succ_le_succ (pigeon N k (fun q => if f q = N then f k else f q) (fun q hq => ?_) (fun q r hq hr e => ?_))
      · show (if f q = N then f k else f q) < N
        by_cases c : f q = N
        · rw [if_pos c]
          have : f k ≠ N := fun z => by have := hi q k (by omega) (by omega) (c.trans z.symm); omega
          have := h k (by omega)
          omega
        · rw [if_neg c]
          have := h q (by omega)
          omega
      · have e : (if f q = N then f k else f q) = (if f r = N then f k else f r) := e
        by_cases c1 : f q = N <;> by_cases c2 : f r = N
        · exact hi q r (by omega) (by omega) (c1.trans c2.symm)
        · rw [if_pos c1, if_neg c2] at e
          have := hi k r (by omega) (by omega) e
          omega
        · rw [if_neg c1, if_pos c2] at e
          have := hi q k (by omega) (by omega) e
          omega
        · rw [if_neg c1, if_neg c2] at e
          exact hi q r (by omega) (by omega) e
theorem pig2 {G R : Nat → Int32} {K N : Nat} (h : ∀ q, q < K → ∃ r, r < N ∧ R r = G q) (hi : ∀ q r, q < K → r < K → G q = G r → q = r) : K ≤ N := by
  refine pigeon N K (fun q => if hq : q < K then Classical.choose (h q hq) else 0) (fun q hq => ?_) (fun q r hq hr e => ?_)
  · simp only [hq, dif_pos]
    exact (Classical.choose_spec (h q hq)).1
  · simp only [hq, hr, dif_pos] at e
    have a := (Classical.choose_spec (h q hq)).2
    have b := (Classical.choose_spec (h r hr)).2
    rw [e] at a
    exact hi q r hq hr (a.symm.trans b)
theorem srt_inj {f : Nat → Int32} {k : Nat} (h : srt f k) : ∀ q r, q < k → r < k → f q = f r → q = r := fun q r hq hr e => by
  rcases Nat.lt_trichotomy q r with z | z | z
  · have := h q r z hr
    rw [e] at this
    exact absurd this (lt_as this)
  · exact z
  · have := h r q z hq
    rw [e] at this
    exact absurd this (lt_as this)
/-- a view has as many goods as the reference's row -/
theorem VB_len {I : IM} {i : Nat} {m t : Int32} {G Sn Us Gv : Nat → Int32} {K : Nat} (hi : i ≤ 400) (hx : ∀ j, j < i → ¬ I 51 j = -1) (h : VB I i m t G Sn Us Gv K) : K = (gS (pM I i) m t).1 := by
  refine Nat.le_antisymm (pig2 (R := (gS (pM I i) m t).2) (fun q hq => ?_) h.2.2) (pig2 (R := G) (fun r hr => ?_) (srt_inj gS_srt))
  · have hp := h.1 q hq
    exact (gS_mem hi hp.1).mpr (by rw [← hp.2.1]; exact hp.2.2.1)
  · have a := gS_nm hx hr
    exact h.2.1 _ a.1 a.2
/-- the room for one more -/
theorem VB_room {I : IM} {i n : Nat} {m t : Int32} {G Sn Us Gv : Nat → Int32} {K : Nat} (hin : i < n) (hn4 : n ≤ 400) (hD : Dn I n) (hso : So I n) (hm : I 50 i = m) (hd : ¬ t < I 52 i) (h20 : (gS (pM I i) m (I 52 i)).1 < 20) (h : VB I i m t G Sn Us Gv K) : K < 20 := by
  refine Nat.lt_of_le_of_lt (pig2 (R := (gS (pM I i) m (I 52 i)).2) (fun q hq => ?_) h.2.2) h20
  have hp := h.1 q hq
  refine (gS_mem (by omega) hp.1).mpr (fun z => ?_)
  have hs : ¬ sinceF (pM I i) m (G q) t < 0 := by rw [← hp.2.1]; exact hp.2.2.1
  have dt := fun k => lat_dt (I := I) (i := i) (k := k) (m := m) (x := G q) (fun j hj => hso j i (by omega) hin) hd
  rw [si_c hD (Nat.le_of_lt hin) hn4, dt 0, dt 3] at hs
  rw [si_c hD (Nat.le_of_lt hin) hn4] at z
  rcases z with z | z
  · exact hs (Or.inl z)
  · refine hs (Or.inr ⟨z.1, fun w => z.2 ?_⟩)
    have l3 : ¬ latF (pM I i) 3 m (G q) (I 52 i) < 0 := fun y => hs (Or.inl (lt_tr z.1 y))
    rcases lat_c (I := I) (i := i) (k := 3) (m := m) (x := G q) (t := I 52 i) (by omega) with e | ⟨j, hj, e⟩
    · rw [e] at l3
      exact absurd (by decide) l3
    · rw [e, dyM, nI_clamp (by omega)] at w ⊢
      have a := hso j i (by omega) hin
      rw [w] at a ⊢
      rw [Int32.lt_iff_toInt_lt] at a hd
      exact Int32.toInt_inj.mp (by omega)

