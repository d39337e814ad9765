/-! the least of some numbers -/
def isMn (Q : Int32 → Prop) (x : Int32) : Prop := (x = -1 ∧ ∀ y, ¬ Q y) ∨ (Q x ∧ ∀ y, Q y → ¬ y < x)
theorem mn_uniq {Q : Int32 → Prop} {x y : Int32} (h : isMn Q x) (h2 : isMn Q y) : x = y := by
  rcases h with ⟨a, b⟩ | ⟨a, b⟩ <;> rcases h2 with ⟨c, d⟩ | ⟨c, d⟩
  · rw [a, c]
  · exact absurd c (b y)
  · exact absurd a (d x)
  · have p := b y c
    have q := d x a
    rw [Int32.lt_iff_toInt_lt] at p q
    exact Int32.toInt_inj.mp (by omega)
theorem mn_iff {Q Q' : Int32 → Prop} {x : Int32} (h : ∀ y, Q y ↔ Q' y) (hm : isMn Q x) : isMn Q' x := by
  rcases hm with ⟨a, b⟩ | ⟨a, b⟩
  · exact Or.inl ⟨a, fun y z => b y ((h y).mpr z)⟩
  · exact Or.inr ⟨(h x).mp a, fun y z => b y ((h y).mpr z)⟩
theorem mn_add {Q : Int32 → Prop} {x v z : Int32} (hm : isMn Q x) (hn : ∀ y, Q y → ¬ y < 0) (hz : z = if x < 0 ∨ v < x then v else x) : isMn (fun y => Q y ∨ y = v) z := by
  have ir : ¬ v < v := by rw [Int32.lt_iff_toInt_lt]; omega
  rcases hm with ⟨a, b⟩ | ⟨a, b⟩
  · rw [a, if_pos (Or.inl (by decide))] at hz
    subst hz
    exact Or.inr ⟨Or.inr rfl, fun y h => h.elim (fun h => absurd h (b y)) (fun h => h ▸ ir)⟩
  · by_cases c : v < x
    · rw [if_pos (Or.inr c)] at hz
      subst hz
      refine Or.inr ⟨Or.inr rfl, fun y h => h.elim (fun h q => b y h (lt_tr q c)) (fun h => h ▸ ir)⟩
    · rw [if_neg (fun q => q.elim (hn x a) c)] at hz
      subst hz
      exact Or.inr ⟨Or.inl a, fun y h => h.elim (b y) (fun h => h ▸ c)⟩
theorem mn_neg {Q : Int32 → Prop} {x : Int32} (hm : isMn Q x) (hn : ∀ y, Q y → ¬ y < 0) : x = -1 ↔ x < 0 := by
  rcases hm with ⟨a, b⟩ | ⟨a, b⟩
  · exact ⟨fun h => by rw [h]; decide, fun _ => a⟩
  · exact ⟨fun h => by rw [h]; decide, fun h => absurd h (hn x a)⟩
theorem nrU_mn {h : Nat → Bool} {r : Nat → Int32} : ∀ N, (∀ i, i < N → h i = true → ¬ r i < 0) → isMn (fun y => ∃ i, i < N ∧ h i = true ∧ r i = y) (nrU h r N)
  | 0, _ => Or.inl ⟨rfl, fun y ⟨i, hi, _⟩ => absurd hi (Nat.not_lt_zero _)⟩
  | N + 1, hr => by
    have ih := nrU_mn (h := h) (r := r) N (fun i hi => hr i (by omega))
    by_cases c : h N = true
    · refine mn_iff (fun y => ?_) (mn_add (z := nrU h r (N + 1)) (v := r N) ih (fun y ⟨i, hi, h1, h2⟩ => h2 ▸ hr i (by omega) h1) (show nrU h r (N + 1) = _ from if_pos c))
      constructor
      · rintro (⟨i, hi, h1, h2⟩ | h2)
        · exact ⟨i, by omega, h1, h2⟩
        · exact ⟨N, by omega, c, h2.symm⟩
      · rintro ⟨i, hi, h1, h2⟩
        by_cases e : i = N
        · exact Or.inr (by rw [← h2, e])
        · exact Or.inl ⟨i, by omega, h1, h2⟩
    · have e : nrU h r (N + 1) = nrU h r N := by
        conv => lhs; unfold nrU
        rw [if_neg c]
      rw [e]
      refine mn_iff (fun y => ⟨fun ⟨i, hi, h1, h2⟩ => ⟨i, by omega, h1, h2⟩, fun ⟨i, hi, h1, h2⟩ => ?_⟩) ih
      have : i ≠ N := fun q => c (q ▸ h1)
      exact ⟨i, by omega, h1, h2⟩
theorem anU_iff {h : Nat → Bool} : ∀ {N : Nat}, anU h N = true ↔ ∃ i, i < N ∧ h i = true
  | 0 => ⟨fun h => absurd h (by unfold anU; decide), fun ⟨i, hi, _⟩ => absurd hi (Nat.not_lt_zero _)⟩
  | N + 1 => by
    unfold anU
    rw [Bool.or_eq_true, anU_iff (N := N)]
    constructor
    · rintro (⟨i, hi, e⟩ | e)
      · exact ⟨i, by omega, e⟩
      · exact ⟨N, by omega, e⟩
    · rintro ⟨i, hi, e⟩
      by_cases c : i = N
      · exact Or.inr (c ▸ e)
      · exact Or.inl ⟨i, by omega, e⟩
theorem b_eq {a b : Bool} (h : a = true ↔ b = true) : a = b := by
  cases a <;> cases b <;> simp at h <;> rfl
theorem stands_r {I : IM} {n : Nat} {m g c t : Int32} (hD : Dn I n) (hn4 : n ≤ 400) (h : standsF (pM I n) m g c t = true) : ¬ rightF (pM I n) m g c t < 0 := right_ng hD hn4 (fun q => by rw [stands_no q] at h; cases h)
theorem stands_s {I : IM} {n : Nat} {m g c t : Int32} (hD : Dn I n) (hn4 : n ≤ 400) (h : standsF (pM I n) m g c t = true) : ¬ sinceF (pM I n) m g t < 0 := fun q => stands_r hD hn4 h (by rw [right_ns q]; decide)
/-- goods: by the view and by the reference's row -/
theorem vw_ex {I : IM} {n : Nat} {m t : Int32} {G Sn Us Gv : Nat → Int32} {K : Nat} (hn4 : n ≤ 400) (hx : ∀ j, j < n → ¬ I 51 j = -1) (hB : VB I n m t G Sn Us Gv K) (Q : Int32 → Prop) : (∃ q, q < K ∧ Q (G q)) ↔ ∃ r, r < (gS (pM I n) m t).1 ∧ Q ((gS (pM I n) m t).2 r) := by
  constructor
  · rintro ⟨q, hq, h⟩
    have hp := hB.1 q hq
    obtain ⟨r, hr, e⟩ := (gS_mem (m := m) (t := t) hn4 hp.1).mpr (by rw [← hp.2.1]; exact hp.2.2.1)
    exact ⟨r, hr, by rw [e]; exact h⟩
  · rintro ⟨r, hr, h⟩
    have a := gS_nm hx hr
    obtain ⟨q, hq, e⟩ := hB.2.1 _ a.1 a.2
    exact ⟨q, hq, by rw [e]; exact h⟩
theorem nr_eq {I : IM} {n nq : Nat} {a h_ c t : Int32} {G Sn Us Gv : Nat → Int32} {K : Nat} (hD : Dn I n) (hn4 : n ≤ 400) (hx : ∀ j, j < n → ¬ I 51 j = -1) (hB : VB I n a t G Sn Us Gv K) : nrU (fun q => standsF (pM I n) a (G q) c t && neF (pM I n) (qM I nq) (I 35 9) a (G q) h_ t) (fun q => rightF (pM I n) a (G q) c t) K = nrF I n nq a h_ c t := by
  have h1 := nrU_mn (h := fun q => standsF (pM I n) a (G q) c t && neF (pM I n) (qM I nq) (I 35 9) a (G q) h_ t) (r := fun q => rightF (pM I n) a (G q) c t) K (fun i _ h => by rw [Bool.and_eq_true] at h; exact stands_r hD hn4 h.1)
  have h2 := nrU_mn (h := fun i => neF (pM I n) (qM I nq) (I 35 9) a ((gS (pM I n) a t).2 i) h_ t && standsF (pM I n) a ((gS (pM I n) a t).2 i) c t) (r := fun i => rightF (pM I n) a ((gS (pM I n) a t).2 i) c t) (gS (pM I n) a t).1 (fun i _ h => by rw [Bool.and_eq_true] at h; exact stands_r hD hn4 h.2)
  refine mn_uniq h1 (mn_iff (fun y => ?_) h2)
  rw [vw_ex hn4 hx hB (fun g => (standsF (pM I n) a g c t && neF (pM I n) (qM I nq) (I 35 9) a g h_ t) = true ∧ rightF (pM I n) a g c t = y)]
  constructor
  · rintro ⟨i, hi, e, e2⟩
    exact ⟨i, hi, by rw [Bool.and_comm]; exact e, e2⟩
  · rintro ⟨i, hi, e, e2⟩
    exact ⟨i, hi, by rw [Bool.and_comm]; exact e, e2⟩
/-! the least over pairs -/
def hS (h : Nat → Nat → Bool) (v : Nat → Nat → Int32) (KE r q : Nat) (y : Int32) : Prop := ∃ r' q', ((r' < r ∧ q' < KE) ∨ (r' = r ∧ q' < q)) ∧ h r' q' = true ∧ v r' q' = y
def CM (h : Nat → Nat → Bool) (vp vr : Nat → Nat → Int32) (KE r q : Nat) (f : Nat → Int32) : Prop := isMn (hS h vp KE r q) (f 0) ∧ isMn (hS h vr KE r q) (f 1)
theorem CM_0 {h : Nat → Nat → Bool} {vp vr : Nat → Nat → Int32} {KE : Nat} {f : Nat → Int32} (h0 : f 0 = -1) (h1 : f 1 = -1) : CM h vp vr KE 0 0 f := ⟨Or.inl ⟨h0, fun y ⟨r, q, e, _⟩ => by omega⟩, Or.inl ⟨h1, fun y ⟨r, q, e, _⟩ => by omega⟩⟩
theorem hS_s {h : Nat → Nat → Bool} {v : Nat → Nat → Int32} {KE r q : Nat} {y : Int32} : hS h v KE r (q + 1) y ↔ (hS h v KE r q y ∨ (h r q = true ∧ v r q = y)) := by
  constructor
  · rintro ⟨r', q', e, h1, h2⟩
    by_cases c : r' = r ∧ q' = q
    · exact Or.inr ⟨c.1 ▸ c.2 ▸ h1, c.1 ▸ c.2 ▸ h2⟩
    · exact Or.inl ⟨r', q', by omega, h1, h2⟩
  · rintro (⟨r', q', e, h1, h2⟩ | ⟨h1, h2⟩)
    · exact ⟨r', q', by omega, h1, h2⟩
    · exact ⟨r, q, by omega, h1, h2⟩
theorem CM_no {h : Nat → Nat → Bool} {vp vr : Nat → Nat → Int32} {KE r q : Nat} {f : Nat → Int32} (hn : h r q = false) (hc : CM h vp vr KE r q f) : CM h vp vr KE r (q + 1) f := by
  have e : ∀ v y, hS h v KE r q y ↔ hS h v KE r (q + 1) y := fun v y => by
    rw [hS_s, hn]
    simp
  exact ⟨mn_iff (e vp) hc.1, mn_iff (e vr) hc.2⟩
theorem CM_row {h : Nat → Nat → Bool} {vp vr : Nat → Nat → Int32} {KE r : Nat} {f : Nat → Int32} (hc : CM h vp vr KE r KE f) : CM h vp vr KE (r + 1) 0 f := by
  have e : ∀ v y, hS h v KE r KE y ↔ hS h v KE (r + 1) 0 y := fun v y => ⟨fun ⟨r', q', e, z⟩ => ⟨r', q', by omega, z⟩, fun ⟨r', q', e, z⟩ => ⟨r', q', by omega, z⟩⟩
  exact ⟨mn_iff (e vp) hc.1, mn_iff (e vr) hc.2⟩
theorem CM_sk {h : Nat → Nat → Bool} {vp vr : Nat → Nat → Int32} {KE r : Nat} {f : Nat → Int32} (hn : ∀ q, h r q = false) (hc : CM h vp vr KE r 0 f) : CM h vp vr KE (r + 1) 0 f := by
  have e : ∀ v y, hS h v KE r 0 y ↔ hS h v KE (r + 1) 0 y := fun v y => ⟨fun ⟨r', q', e, z⟩ => ⟨r', q', by omega, z⟩, fun ⟨r', q', e, z, w⟩ => by
    by_cases c : r' = r
    · rw [c, hn q'] at z; cases z
    · exact ⟨r', q', by omega, z, w⟩⟩
  exact ⟨mn_iff (e vp) hc.1, mn_iff (e vr) hc.2⟩
theorem CM_hit {h : Nat → Nat → Bool} {vp vr : Nat → Nat → Int32} {KE KY r q : Nat} {f : Nat → Int32} {g_ h_ : Int32} (hr : r < KY) (hq : q < KE) (hnp : ∀ r q, r < KY → q < KE → h r q = true → ¬ vp r q < 0) (hnr : ∀ r q, r < KY → q < KE → h r q = true → ¬ vr r q < 0) (hh : h r q = true) (hp : vp r q = 360 * g_ + h_) (hc : CM h vp vr KE r q f) : CM h vp vr KE r (q + 1) (clA f g_ h_ (vr r q)) := by
  have np : ∀ y, hS h vp KE r q y → ¬ y < 0 := fun y ⟨r', q', e, z, w⟩ => w ▸ hnp r' q' (by omega) (by omega) z
  have nr : ∀ y, hS h vr KE r q y → ¬ y < 0 := fun y ⟨r', q', e, z, w⟩ => w ▸ hnr r' q' (by omega) (by omega) z
  have e0 : clA f g_ h_ (vr r q) 0 = if f 0 < 0 ∨ vp r q < f 0 then vp r q else f 0 := by
    have a : clA f g_ h_ (vr r q) 0 = clA1 f g_ h_ 0 := by unfold clA; split <;> rfl
    rw [a, hp]
    unfold clA1
    by_cases c : f 0 = -1 ∨ 360 * g_ + h_ < f 0
    · rw [if_pos c, if_pos (c.elim (fun z => Or.inl ((mn_neg hc.1 np).mp z)) Or.inr)]
      rfl
    · rw [if_neg c, if_neg (fun z => c (z.elim (fun z => Or.inl ((mn_neg hc.1 np).mpr z)) Or.inr))]
  have e1 : clA f g_ h_ (vr r q) 1 = if f 1 < 0 ∨ vr r q < f 1 then vr r q else f 1 := by
    have b : clA1 f g_ h_ 1 = f 1 := by unfold clA1; split <;> rfl
    unfold clA
    by_cases c : f 1 = -1 ∨ vr r q < f 1
    · rw [if_pos c, if_pos (c.elim (fun z => Or.inl ((mn_neg hc.2 nr).mp z)) Or.inr)]
      rfl
    · rw [if_neg c, if_neg (fun z => c (z.elim (fun z => Or.inl ((mn_neg hc.2 nr).mpr z)) Or.inr)), b]
  refine ⟨mn_iff (fun y => ?_) (mn_add hc.1 np e0), mn_iff (fun y => ?_) (mn_add hc.2 nr e1)⟩
  · rw [hS_s]
    exact ⟨fun z => z.elim Or.inl (fun z => Or.inr ⟨hh, z.symm⟩), fun z => z.elim Or.inl (fun z => Or.inr z.2.symm)⟩
  · rw [hS_s]
    exact ⟨fun z => z.elim Or.inl (fun z => Or.inr ⟨hh, z.symm⟩), fun z => z.elim Or.inl (fun z => Or.inr z.2.symm)⟩
/-! the reference's searches -/
theorem fstW_c {h : Nat → Bool} : ∀ (r j : Nat), (∀ k, j ≤ k → k < j + r → h k = false) ∧ fstW h r j = none ∨ ∃ k, j ≤ k ∧ k < j + r ∧ h k = true ∧ (∀ i, j ≤ i → i < k → h i = false) ∧ fstW h r j = some k
  | 0, j => Or.inl ⟨fun k h1 h2 => by omega, rfl⟩
  | r + 1, j => by
    unfold fstW
    by_cases c : h j = true
    · exact Or.inr ⟨j, by omega, by omega, c, fun i h1 h2 => by omega, by rw [if_pos c]⟩
    · rw [if_neg c]
      have cf : h j = false := by simpa using c
      rcases fstW_c (h := h) r (j + 1) with ⟨a, b⟩ | ⟨k, h1, h2, h3, h4, h5⟩
      · exact Or.inl ⟨fun k h1 h2 => by
          by_cases e : k = j
          · rw [e]; exact cf
          · exact a k (by omega) (by omega), b⟩
      · exact Or.inr ⟨k, by omega, by omega, h3, fun i i1 i2 => by
          by_cases e : i = j
          · rw [e]; exact cf
          · exact h4 i (by omega) i2, h5⟩
theorem fs2_c {h : Nat → Nat → Bool} {nb : Nat} : ∀ (r i : Nat), (∀ k j, i ≤ k → k < i + r → j < nb → h k j = false) ∧ fs2 h nb r i = none ∨ ∃ k j, i ≤ k ∧ k < i + r ∧ j < nb ∧ h k j = true ∧ (∀ k' j', i ≤ k' → k' < k → j' < nb → h k' j' = false) ∧ (∀ j', j' < j → h k j' = false) ∧ fs2 h nb r i = some (k, j)
  | 0, i => Or.inl ⟨fun k j h1 h2 => by omega, rfl⟩
  | r + 1, i => by
    unfold fs2
    rcases fstW_c (h := h i) nb 0 with ⟨a, b⟩ | ⟨j, h1, h2, h3, h4, h5⟩
    · rw [b]
      rcases fs2_c (h := h) (nb := nb) r (i + 1) with ⟨x, y⟩ | ⟨k, j, e1, e2, e3, e4, e5, e6, e7⟩
      · exact Or.inl ⟨fun k j k1 k2 k3 => by
          by_cases e : k = i
          · rw [e]; exact a j (by omega) (by omega)
          · exact x k j (by omega) (by omega) k3, y⟩
      · exact Or.inr ⟨k, j, by omega, by omega, e3, e4, fun k' j' k1 k2 k3 => by
          by_cases e : k' = i
          · rw [e]; exact a j' (by omega) (by omega)
          · exact e5 k' j' (by omega) k2 k3, e6, e7⟩
    · rw [h5]
      exact Or.inr ⟨i, j, by omega, by omega, by omega, h3, fun k' j' k1 k2 k3 => by omega, fun j' j1 => h4 j' (by omega) j1, rfl⟩
theorem pr_nI {a b : Int32} (ha : rg a 359) (hb : rg b 359) : 360 * a + b = nI (360 * a.toNatClampNeg + b.toNatClampNeg) := by
  have e : (360 : Int32) * nI a.toNatClampNeg + nI b.toNatClampNeg = nI (360 * a.toNatClampNeg + b.toNatClampNeg) := by
    rw [← nI_add, ← pk_mul]
    rfl
  rw [← ha.1, ← hb.1] at e
  exact e
theorem rg_ltI {a b : Int32} (ha : rg a 359) (hb : rg b 359) : a < b ↔ a.toNatClampNeg < b.toNatClampNeg := by
  have h1 := ha.2
  have h2 := hb.2
  have e := nI_ltI (a := a.toNatClampNeg) (b := b.toNatClampNeg) (by omega) (by omega)
  rw [← ha.1, ← hb.1] at e
  exact e
/-- the first pair, of rows by size, is the least -/
theorem co_mn {h : Nat → Nat → Bool} {GA GB : Nat → Int32} {NA NB : Nat} (sa : srt GA NA) (sb : srt GB NB) (ra : ∀ i, i < NA → rg (GA i) 359) (rb : ∀ i, i < NB → rg (GB i) 359) : isMn (fun y => ∃ i j, i < NA ∧ j < NB ∧ h i j = true ∧ 360 * GA i + GB j = y) (coO (fs2 h NB NA 0) (fun x => 360 * GA x.1 + GB x.2)) := by
  rcases fs2_c (h := h) (nb := NB) NA 0 with ⟨a, b⟩ | ⟨k, j, e1, e2, e3, e4, e5, e6, e7⟩
  · rw [b]
    exact Or.inl ⟨rfl, fun y ⟨i, j, h1, h2, h3, _⟩ => by rw [a i j (by omega) (by omega) h2] at h3; cases h3⟩
  · rw [e7]
    refine Or.inr ⟨⟨k, j, by omega, e3, e4, rfl⟩, fun y ⟨i', j', h1, h2, h3, h4⟩ => ?_⟩
    show ¬ y < 360 * GA k + GB j
    have q1 := (ra k (by omega)).2
    have q2 := (rb j e3).2
    have q3 := (ra i' h1).2
    have q4 := (rb j' h2).2
    rw [← h4, pr_nI (ra i' h1) (rb j' h2), pr_nI (ra k (by omega)) (rb j e3), nI_ltI (by omega) (by omega)]
    rcases Nat.lt_trichotomy i' k with z | z | z
    · rw [e5 i' j' (by omega) z h2] at h3; cases h3
    · subst z
      rcases Nat.lt_trichotomy j' j with w | w | w
      · rw [e6 j' w] at h3; cases h3
      · subst w; omega
      · have := (rg_ltI (rb j e3) (rb j' h2)).mp (sb j j' w h2)
        omega
    · have := (rg_ltI (ra k (by omega)) (ra i' h1)).mp (sa k i' z h1)
      omega
theorem crJ_mn {h : Nat → Bool} {r b : Int32} {Q : Int32 → Prop} (hb : isMn Q b) (hn : ∀ y, Q y → ¬ y < 0) : ∀ N, (∀ j, j < N → h j = true → ¬ r < 0) → isMn (fun y => Q y ∨ ∃ j, j < N ∧ h j = true ∧ r = y) (crJ h r b N)
  | 0, _ => mn_iff (fun y => ⟨Or.inl, fun z => z.elim id (fun ⟨j, hj, _⟩ => absurd hj (Nat.not_lt_zero _))⟩) hb
  | N + 1, hr => by
    have ih := crJ_mn (h := h) (r := r) hb hn N (fun j hj => hr j (by omega))
    have nn : ∀ y, (Q y ∨ ∃ j, j < N ∧ h j = true ∧ r = y) → ¬ y < 0 := fun y z => z.elim (hn y) (fun ⟨j, hj, h1, h2⟩ => h2 ▸ hr j (by omega) h1)
    by_cases c : h N = true
    · refine mn_iff (fun y => ?_) (mn_add (z := crJ h r b (N + 1)) (v := r) ih nn (by
        conv => lhs; unfold crJ
        by_cases d : crJ h r b N < 0 ∨ r < crJ h r b N
        · rw [if_pos ⟨d, c⟩, if_pos d]
        · rw [if_neg (fun z => d z.1), if_neg d]))
      constructor
      · rintro ((z | ⟨j, hj, h1, h2⟩) | z)
        · exact Or.inl z
        · exact Or.inr ⟨j, by omega, h1, h2⟩
        · exact Or.inr ⟨N, by omega, c, z.symm⟩
      · rintro (z | ⟨j, hj, h1, h2⟩)
        · exact Or.inl (Or.inl z)
        · exact Or.inr h2.symm
    · have e : crJ h r b (N + 1) = crJ h r b N := by
        conv => lhs; unfold crJ
        rw [if_neg (fun z => c z.2)]
      rw [e]
      refine mn_iff (fun y => ⟨fun z => z.elim Or.inl (fun ⟨j, hj, w⟩ => Or.inr ⟨j, by omega, w⟩), fun z => z.elim Or.inl (fun ⟨j, hj, w⟩ => Or.inr ⟨j, ?_, w⟩)⟩) ih
      have : j ≠ N := fun q => c (q ▸ w.1)
      omega
theorem crI_mn {h : Nat → Nat → Bool} {r : Nat → Int32} {nb : Nat} : ∀ N, (∀ i j, i < N → j < nb → h i j = true → ¬ r i < 0) → isMn (fun y => ∃ i j, i < N ∧ j < nb ∧ h i j = true ∧ r i = y) (crI h r nb N)
  | 0, _ => Or.inl ⟨rfl, fun y ⟨i, j, hi, _⟩ => absurd hi (Nat.not_lt_zero _)⟩
  | N + 1, hr => by
    have ih := crI_mn (h := h) (r := r) (nb := nb) N (fun i j hi => hr i j (by omega))
    unfold crI
    refine mn_iff (fun y => ?_) (crJ_mn (h := h N) (r := r N) ih (fun y ⟨i, j, h1, h2, h3, h4⟩ => h4 ▸ hr i j (by omega) h2 h3) nb (fun j hj e => hr N j (by omega) hj e))
    constructor
    · rintro (⟨i, j, h1, h2⟩ | ⟨j, h1, h2⟩)
      · exact ⟨i, j, by omega, h2⟩
      · exact ⟨N, j, by omega, h1, h2⟩
    · rintro ⟨i, j, h1, h2, h3, h4⟩
      by_cases e : i = N
      · subst e; exact Or.inr ⟨j, h2, h3, h4⟩
      · exact Or.inl ⟨i, j, by omega, h2, h3, h4⟩

