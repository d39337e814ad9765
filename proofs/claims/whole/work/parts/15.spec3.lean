/-! goods that a mark has, in a row, by size -/
def inRU (f : Nat → Int32) (g : Int32) : Nat → Bool
  | 0 => false
  | k + 1 => inRU f g k || decide (f k = g)
def insF (g : Int32) : Nat → (Nat → Int32) → (Nat → Int32)
  | 0, f => upd f 0 g
  | k + 1, f => if g < f k then insF g k (upd f (k + 1) (f k)) else upd f (k + 1) g
theorem insF_p {g : Int32} {k : Nat} {f : Nat → Int32} (h : 0 < k) : insF g k f = if g < f (k - 1) then insF g (k - 1) (upd f k (f (k - 1))) else upd f k g := by
  obtain ⟨k, rfl⟩ : ∃ e, k = e + 1 := ⟨k - 1, by omega⟩
  rfl
def gdC (p : PL) (m t : Int32) (i : Nat) : Bool := decide (p.1 i = 0) && (decide (p.2.1 i = m) && !decide (t < p.2.2.2.1 i))
def giU (p : PL) (m t : Int32) (f0 : Nat → Int32) : Nat → Nat × (Nat → Int32)
  | 0 => (0, f0)
  | i + 1 => if gdC p m t i = true ∧ inRU (giU p m t f0 i).2 (p.2.2.1 i) (giU p m t f0 i).1 = false ∧ ¬ sinceF p m (p.2.2.1 i) t < 0 then ((giU p m t f0 i).1 + 1, insF (p.2.2.1 i) (giU p m t f0 i).1 (giU p m t f0 i).2) else giU p m t f0 i
theorem giU_le {p : PL} {m t : Int32} {f0 : Nat → Int32} : ∀ i, (giU p m t f0 i).1 ≤ i
  | 0 => Nat.le_refl _
  | i + 1 => by
    have := giU_le (p := p) (m := m) (t := t) (f0 := f0) i
    unfold giU
    split
    · show _ + 1 ≤ _
      omega
    · omega
/-! the first place where something holds -/
def fstW (h : Nat → Bool) : Nat → Nat → Option Nat
  | 0, _ => none
  | r + 1, j => if h j = true then some j else fstW h r (j + 1)
theorem fstW_n {h : Nat → Bool} {N j : Nat} (hj : N ≤ j) : fstW h (N - j) j = none := by rw [show N - j = 0 by omega]; rfl
theorem fstW_s {h : Nat → Bool} {N j : Nat} (hj : j < N) : fstW h (N - j) j = if h j = true then some j else fstW h (N - (j + 1)) (j + 1) := by rw [show N - j = (N - (j + 1)) + 1 by omega]; rfl
def fs2 (h : Nat → Nat → Bool) (nb : Nat) : Nat → Nat → Option (Nat × Nat)
  | 0, _ => none
  | r + 1, i => match fstW (h i) nb 0 with
    | some j => some (i, j)
    | none => fs2 h nb r (i + 1)
theorem fs2_n {h : Nat → Nat → Bool} {nb N i : Nat} (hi : N ≤ i) : fs2 h nb (N - i) i = none := by rw [show N - i = 0 by omega]; rfl
theorem fs2_s {h : Nat → Nat → Bool} {nb N i : Nat} (hi : i < N) : fs2 h nb (N - i) i = match fstW (h i) nb 0 with
    | some j => some (i, j)
    | none => fs2 h nb (N - (i + 1)) (i + 1) := by rw [show N - i = (N - (i + 1)) + 1 by omega]; rfl
/-! the least of some rights -/
def crJ (h : Nat → Bool) (r b : Int32) : Nat → Int32
  | 0 => b
  | j + 1 => if (crJ h r b j < 0 ∨ r < crJ h r b j) ∧ h j = true then r else crJ h r b j
def crI (h : Nat → Nat → Bool) (r : Nat → Int32) (nb : Nat) : Nat → Int32
  | 0 => -1
  | i + 1 => crJ (h i) (r i) (crI h r nb i) nb
def nrU (h : Nat → Bool) (r : Nat → Int32) : Nat → Int32
  | 0 => -1
  | i + 1 => if h i = true then (if nrU h r i < 0 ∨ r i < nrU h r i then r i else nrU h r i) else nrU h r i
def anU (h : Nat → Bool) : Nat → Bool
  | 0 => false
  | i + 1 => anU h i || h i
def chF (p : PL) (q : NP) (lv a b c t g h : Int32) : Bool := neF p q lv a g h t && (standsF p a g c t && (standsF p b h c t && ((decide (rightF p a g c t < rightF p b h c t) || (decide (rightF p a g c t = rightF p b h c t) && decide (a < b))) && standsF p a g c (rightF p b h c t))))
def mcF (I : IM) (n a b : Nat) (t : Int32) : Bool := !decide (I 44 a = I 44 b) && (!leF (pM I n) (nI a) (I 44 b) t && alM I a b)
/-- the goods that mark m has by t -/
def gS (p : PL) (m t : Int32) : Nat × (Nat → Int32) := giU p m t (fun _ => 0) p.2.2.2.2
theorem insF_ag {g : Int32} : ∀ (k : Nat) (f f' : Nat → Int32), (∀ i, i < k → f i = f' i) → ∀ i, i ≤ k → insF g k f i = insF g k f' i
  | 0, f, f', _, i, hi => by
    have : i = 0 := by omega
    subst this
    simp [insF, upd]
  | k + 1, f, f', h, i, hi => by
    unfold insF
    rw [h k (by omega)]
    split
    · by_cases hik : i = k + 1
      · have key : ∀ (k : Nat) (f : Nat → Int32) (z : Nat), k < z → insF g k f z = f z := by
          intro k
          induction k with
          | zero => intro f z hz; simp [insF, upd, show ¬ z = 0 by omega]
          | succ k ih =>
            intro f z hz
            unfold insF
            split
            · rw [ih _ z (by omega)]
              simp [upd, show ¬ z = k + 1 by omega]
            · simp [upd, show ¬ z = k + 1 by omega]
        rw [key _ _ i (by omega), key _ _ i (by omega), hik]
        simp [upd]
      · exact insF_ag k _ _ (fun j hj => by simp only [upd]; rw [if_neg (by omega), if_neg (by omega)]; exact h j (by omega)) i (by omega)
    · by_cases hik : i = k + 1
      · simp [upd, hik]
      · simp only [upd, if_neg hik]
        exact h i (by omega)
theorem inRU_ag {g : Int32} : ∀ (k : Nat) (f f' : Nat → Int32), (∀ i, i < k → f i = f' i) → inRU f g k = inRU f' g k
  | 0, _, _, _ => rfl
  | k + 1, f, f', h => by
    unfold inRU
    rw [inRU_ag k f f' (fun i hi => h i (by omega)), h k (by omega)]
theorem giU_ag {p : PL} {m t : Int32} {f0 f1 : Nat → Int32} : ∀ i, (giU p m t f0 i).1 = (giU p m t f1 i).1 ∧ ∀ k, k < (giU p m t f0 i).1 → (giU p m t f0 i).2 k = (giU p m t f1 i).2 k
  | 0 => ⟨rfl, fun k hk => absurd hk (Nat.not_lt_zero _)⟩
  | i + 1 => by
    obtain ⟨h1, h2⟩ := giU_ag (p := p) (m := m) (t := t) (f0 := f0) (f1 := f1) i
    unfold giU
    rw [inRU_ag _ _ _ h2, h1]
    split
    · refine ⟨rfl, fun k hk => ?_⟩
      exact insF_ag _ _ _ (fun j hj => h2 j (by omega)) k (by simp at hk; omega)
    · exact ⟨h1, h2⟩

