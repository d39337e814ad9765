/-! words: sounds and costs -/
def heardF (pl sa : Nat → Int32) (l nx : Nat) : Int32 := if pl l = -1 then nI (40 + l) else if nI nx < pl l then sa (27 * l + nx) else -1
def soG (pl sa w : Nat → Int32) (len k : Nat) : Int32 := heardF pl sa (w k).toNatClampNeg (if k + 1 < len then (w (k + 1)).toNatClampNeg else 26)
def siU (pl sa w : Nat → Int32) (len : Nat) (f0 : Nat → Int32) : Nat → Nat × (Nat → Int32)
  | 0 => (0, f0)
  | k + 1 => if soG pl sa w len k < 0 then siU pl sa w len f0 k else ((siU pl sa w len f0 k).1 + 1, upd (siU pl sa w len f0 k).2 (siU pl sa w len f0 k).1 (soG pl sa w len k))
theorem siU_le {pl sa w f0 : Nat → Int32} {len : Nat} : ∀ k, (siU pl sa w len f0 k).1 ≤ k
  | 0 => Nat.le_refl _
  | k + 1 => by
    have := siU_le (pl := pl) (sa := sa) (w := w) (f0 := f0) (len := len) k
    unfold siU
    split
    · omega
    · show _ + 1 ≤ _
      omega
def wM (I : IM) (j : Nat) : Nat → Int32 := fun i => I 46 (40 * j + i)
/-- sounds are numbers from 0 to 65 -/
theorem siU_rg {pl sa w f0 : Nat → Int32} {len : Nat} (hs : ∀ k, k < len → soG pl sa w len k < 0 ∨ rg (soG pl sa w len k) 65) : ∀ k, k ≤ len → ∀ i, i < (siU pl sa w len f0 k).1 → rg ((siU pl sa w len f0 k).2 i) 65
  | 0, _, i, hi => absurd hi (Nat.not_lt_zero _)
  | k + 1, hk, i, hi => by
    have ih := siU_rg (f0 := f0) hs k (by omega)
    unfold siU at hi ⊢
    by_cases c : soG pl sa w len k < 0
    · rw [if_pos c] at hi ⊢
      exact ih i hi
    · rw [if_neg c] at hi ⊢
      by_cases hik : i = (siU pl sa w len f0 k).1
      · simp only [upd, hik, if_true]
        rcases hs k (by omega) with h | h
        · exact absurd h c
        · exact h
      · simp only [upd, if_neg hik]
        exact ih i (by simp at hi; omega)
theorem heard_rg {pl sa : Nat → Int32} {l nx : Nat} (hl : l ≤ 25) (hx : nx ≤ 26) (hsa : ∀ i, i < 702 → rg (sa i) 39) : heardF pl sa l nx < 0 ∨ rg (heardF pl sa l nx) 65 := by
  unfold heardF
  split
  · exact Or.inr (rg_nI (by omega) (by decide))
  · split
    · have h := hsa (27 * l + nx) (by omega)
      exact Or.inr ⟨h.1, by have := h.2; omega⟩
    · exact Or.inl (by decide)
theorem soG_rg {pl sa w : Nat → Int32} {len k : Nat} (hw : ∀ i, i < len → rg (w i) 25) (hk : k < len) (hsa : ∀ i, i < 702 → rg (sa i) 39) : soG pl sa w len k < 0 ∨ rg (soG pl sa w len k) 65 := by
  unfold soG
  refine heard_rg (hw k hk).2 ?_ hsa
  split
  · have := (hw (k + 1) (by assumption)).2
    omega
  · omega
def dmn (w v : Int32) : Int32 := if w < v then w else v
/-- the table of least sums -/
def DD (a b put chg : Nat → Int32) : Nat → Nat → Int32
  | 0, 0 => 0
  | i + 1, 0 => DD a b put chg i 0 + put (a i).toNatClampNeg
  | 0, j + 1 => dmn (DD a b put chg 0 j + put (b j).toNatClampNeg) 2147483647
  | i + 1, j + 1 => dmn (DD a b put chg i j + chg (66 * (a i).toNatClampNeg + (b j).toNatClampNeg)) (dmn (DD a b put chg (i + 1) j + put (b j).toNatClampNeg) (DD a b put chg i (j + 1) + put (a i).toNatClampNeg))
theorem DD_00 {a b put chg : Nat → Int32} : DD a b put chg 0 0 = 0 := by unfold DD; rfl
theorem DD_p0 {a b put chg : Nat → Int32} {i : Nat} (hi : 0 < i) : DD a b put chg i 0 = DD a b put chg (i - 1) 0 + put (a (i - 1)).toNatClampNeg := by
  obtain ⟨i, rfl⟩ : ∃ e, i = e + 1 := ⟨i - 1, by omega⟩
  rw [DD]
  rfl
theorem DD_0p {a b put chg : Nat → Int32} {j : Nat} (hj : 0 < j) : DD a b put chg 0 j = dmn (DD a b put chg 0 (j - 1) + put (b (j - 1)).toNatClampNeg) 2147483647 := by
  obtain ⟨j, rfl⟩ : ∃ e, j = e + 1 := ⟨j - 1, by omega⟩
  rw [DD]
  rfl
theorem DD_pp {a b put chg : Nat → Int32} {i j : Nat} (hi : 0 < i) (hj : 0 < j) : DD a b put chg i j = dmn (DD a b put chg (i - 1) (j - 1) + chg (66 * (a (i - 1)).toNatClampNeg + (b (j - 1)).toNatClampNeg)) (dmn (DD a b put chg i (j - 1) + put (b (j - 1)).toNatClampNeg) (DD a b put chg (i - 1) j + put (a (i - 1)).toNatClampNeg)) := by
  obtain ⟨i, rfl⟩ : ∃ e, i = e + 1 := ⟨i - 1, by omega⟩
  obtain ⟨j, rfl⟩ : ∃ e, j = e + 1 := ⟨j - 1, by omega⟩
  rw [DD]
  rfl
/-- the table is filled up to (i, j) -/
def Fl (D : Nat → Nat → Int32) (na nb i j : Nat) (T : Nat → Int32) : Prop := T 0 = 0 ∧ ∀ i' j', i' ≤ na → j' ≤ nb → (i' < i ∨ (i' = i ∧ j' < j)) → T (41 * i' + j') = D i' j'
theorem Fl_up {D : Nat → Nat → Int32} {na nb i j : Nat} {T : Nat → Int32} {v : Int32} (h : Fl D na nb i j T) (hb : nb ≤ 40) (hj : j ≤ nb) (h0 : ¬ (i = 0 ∧ j = 0)) (hv : D i j = v) : Fl D na nb i (j + 1) (upd T (41 * i + j) v) := by
  refine ⟨by simp only [upd]; rw [if_neg (by omega)]; exact h.1, fun i' j' h1 h2 h3 => ?_⟩
  by_cases hc : i' = i ∧ j' = j
  · obtain ⟨rfl, rfl⟩ := hc
    simp [upd, hv]
  · simp only [upd]
    rw [if_neg (by omega)]
    exact h.2 i' j' h1 h2 (by omega)
theorem Fl_skip {D : Nat → Nat → Int32} {na nb : Nat} {T : Nat → Int32} (h : Fl D na nb 0 0 T) (hv : D 0 0 = 0) : Fl D na nb 0 1 T := by
  refine ⟨h.1, fun i' j' h1 h2 h3 => ?_⟩
  have : i' = 0 ∧ j' = 0 := by omega
  obtain ⟨rfl, rfl⟩ := this
  rw [hv]
  exact h.1
theorem Fl_row {D : Nat → Nat → Int32} {na nb i : Nat} {T : Nat → Int32} (h : Fl D na nb i (nb + 1) T) : Fl D na nb (i + 1) 0 T := ⟨h.1, fun i' j' h1 h2 h3 => h.2 i' j' h1 h2 (by omega)⟩
theorem up_self {α : Type} {I : Nat → α} {a : Nat} : va_up I a (I a) = I := by
  funext q
  by_cases h : q = a
  · simp [va_up, h]
  · simp [va_up, h]
/-- how many codes both have -/
def bothU (f : Nat → Int32) (ba : Nat) (hc : Int32 → Bool) : Nat → Nat
  | 0 => 0
  | k + 1 => bothU f ba hc k + (if hc (f (ba + k)) = true then 1 else 0)
theorem bothU_le {f : Nat → Int32} {ba : Nat} {hc : Int32 → Bool} : ∀ k, bothU f ba hc k ≤ k
  | 0 => Nat.le_refl _
  | k + 1 => by
    have := bothU_le (f := f) (ba := ba) (hc := hc) k
    unfold bothU
    split <;> omega
theorem siU_1 {pl sa w f0 f1 : Nat → Int32} {len : Nat} : ∀ k, (siU pl sa w len f0 k).1 = (siU pl sa w len f1 k).1
  | 0 => rfl
  | k + 1 => by
    have := siU_1 (pl := pl) (sa := sa) (w := w) (f0 := f0) (f1 := f1) (len := len) k
    unfold siU
    split
    · exact this
    · show _ + 1 = _ + 1
      rw [this]
theorem siU_2 {pl sa w f0 f1 : Nat → Int32} {len : Nat} : ∀ k i, i < (siU pl sa w len f0 k).1 → (siU pl sa w len f0 k).2 i = (siU pl sa w len f1 k).2 i
  | 0, i, hi => absurd hi (Nat.not_lt_zero _)
  | k + 1, i, hi => by
    have ih := siU_2 (pl := pl) (sa := sa) (w := w) (f0 := f0) (f1 := f1) (len := len) k i
    have h1 := siU_1 (pl := pl) (sa := sa) (w := w) (f0 := f0) (f1 := f1) (len := len) k
    unfold siU at hi ⊢
    by_cases c : soG pl sa w len k < 0
    · rw [if_pos c] at hi ⊢
      rw [if_pos c]
      exact ih hi
    · rw [if_neg c] at hi ⊢
      rw [if_neg c]
      simp only [upd, ← h1]
      by_cases hik : i = (siU pl sa w len f0 k).1
      · rw [if_pos hik, if_pos hik]
      · rw [if_neg hik, if_neg hik]
        exact ih (by simp at hi; omega)
def sndF (pl sa w : Nat → Int32) (len : Nat) : Nat × (Nat → Int32) := siU pl sa w len (fun _ => 0) len
theorem DD_congr {a b a' b' put chg : Nat → Int32} {na nb : Nat} (ha : ∀ i, i < na → a i = a' i) (hb : ∀ j, j < nb → b j = b' j) : ∀ i j, i ≤ na → j ≤ nb → DD a b put chg i j = DD a' b' put chg i j := by
  intro i
  induction i with
  | zero =>
    intro j
    induction j with
    | zero => intro _ _; rw [DD_00, DD_00]
    | succ j ih =>
      intro h1 h2
      rw [DD_0p (a := a) (j := j + 1) (by omega), DD_0p (a := a') (j := j + 1) (by omega)]
      simp only [Nat.add_sub_cancel]
      rw [ih h1 (by omega), hb j (by omega)]
  | succ i ihi =>
    intro j
    induction j with
    | zero =>
      intro h1 h2
      rw [DD_p0 (a := a) (i := i + 1) (by omega), DD_p0 (a := a') (i := i + 1) (by omega)]
      simp only [Nat.add_sub_cancel]
      rw [ihi 0 (by omega) h2, ha i (by omega)]
    | succ j ihj =>
      intro h1 h2
      rw [DD_pp (a := a) (i := i + 1) (j := j + 1) (by omega) (by omega), DD_pp (a := a') (i := i + 1) (j := j + 1) (by omega) (by omega)]
      simp only [Nat.add_sub_cancel]
      rw [ihi j (by omega) (by omega), ihi (j + 1) (by omega) h2, ihj h1 (by omega), ha i (by omega), hb j (by omega)]
/-- COST of two words -/
def cwF (pl sa put chg wa : Nat → Int32) (la : Nat) (wb : Nat → Int32) (lb : Nat) : Int32 := DD (sndF pl sa wa la).2 (sndF pl sa wb lb).2 put chg (sndF pl sa wa la).1 (sndF pl sa wb lb).1
theorem cwF_of {pl sa put chg wa wb f0 f1 : Nat → Int32} {la lb : Nat} : DD (siU pl sa wa la f0 la).2 (siU pl sa wb lb f1 lb).2 put chg (siU pl sa wa la f0 la).1 (siU pl sa wb lb f1 lb).1 = cwF pl sa put chg wa la wb lb := by
  unfold cwF sndF
  rw [DD_congr (siU_2 (f1 := fun _ => 0) la) (siU_2 (f1 := fun _ => 0) lb) _ _ (Nat.le_refl _) (Nat.le_refl _), siU_1 (f0 := f0) (f1 := fun _ => 0), siU_1 (f0 := f1) (f1 := fun _ => 0)]
def mxN (a b : Nat) : Nat := if b < a then a else b
/-- LIKE of two words, of their COST and numbers of sounds -/
def wlF (c : Int32) (na nb : Nat) : Int32 := if mxN na nb = 0 then 1000 else if 1000 - 100 * c / nI (mxN na nb) < 0 then 0 else 1000 - 100 * c / nI (mxN na nb)
/-- LIKE of two pictures -/
def clF (both ca cb : Nat) : Int32 := if mxN ca cb = 0 then 0 else nI (1000 * both) / nI (mxN ca cb)
/-- LIKE of two marks, of their kinds -/
def lkG (ka kb CL WL : Int32) : Int32 := if ka = 1 ∨ kb = 1 then (if (ka = 1 ∨ ka = 2) ∧ (kb = 1 ∨ kb = 2) then CL else 0) else if WL < (if ka = 2 ∧ kb = 2 then CL else 0) then (if ka = 2 ∧ kb = 2 then CL else 0) else WL
/-- .. as the reference holds the marks -/
def sM (I : IM) (j : Nat) : Nat × (Nat → Int32) := sndF (I 36) (I 37) (wM I j) (I 45 j).toNatClampNeg
def cstM (I : IM) (a b : Nat) : Int32 := cwF (I 36) (I 37) (I 39) (I 38) (wM I a) (I 45 a).toNatClampNeg (wM I b) (I 45 b).toNatClampNeg
def wlM (I : IM) (a b : Nat) : Int32 := wlF (cstM I a b) (sM I a).1 (sM I b).1
def clM (I : IM) (a b : Nat) : Int32 := clF (bothU (I 48) (12 * a) (hasCF (I 48) (12 * b) (I 47 b)) (I 47 a).toNatClampNeg) (I 47 a).toNatClampNeg (I 47 b).toNatClampNeg
def lkM (I : IM) (a b : Nat) : Int32 := lkG (I 43 a) (I 43 b) (clM I a b) (wlM I a b)
def alM (I : IM) (a b : Nat) : Bool := !decide (lkM I a b < I 35 8)

