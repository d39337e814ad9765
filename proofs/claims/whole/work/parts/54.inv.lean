/-! the log below n alone decides -/
def Pe (p p' : PL) : Prop := p.2.2.2.2 = p'.2.2.2.2 ∧ ∀ j, j < p.2.2.2.2 → p.1 j = p'.1 j ∧ p.2.1 j = p'.2.1 j ∧ p.2.2.1 j = p'.2.2.1 j ∧ p.2.2.2.1 j = p'.2.2.2.1 j
theorem mt_cg {p p' : PL} {k m x t : Int32} {j : Nat} (h : Pe p p') (hj : j < p.2.2.2.2) : mt p k m x t j = mt p' k m x t j := by
  obtain ⟨h1, h2, h3, h4⟩ := h.2 j hj
  unfold mt
  rw [h1, h2, h3, h4]
theorem latU_cg {p p' : PL} {k m x t : Int32} (h : Pe p p') : ∀ i, i ≤ p.2.2.2.2 → latU p k m x t i = latU p' k m x t i
  | 0, _ => rfl
  | i + 1, hi => by
    unfold latU
    rw [mt_cg h (by omega), latU_cg h i (by omega)]
theorem latF_cg {p p' : PL} {k m x t : Int32} (h : Pe p p') : latF p k m x t = latF p' k m x t := by
  unfold latF
  rw [← h.1]
  exact latU_cg h _ (Nat.le_refl _)
theorem dyF_cg {p p' : PL} {x : Int32} (h : Pe p p') (hx : x.toNatClampNeg < p.2.2.2.2) : dyF p x = dyF p' x := (h.2 _ hx).2.2.2
theorem sinceF_cg {p p' : PL} {m g t : Int32} (h : Pe p p') (h4 : p.2.2.2.2 ≤ 400) : sinceF p m g t = sinceF p' m g t := by
  unfold sinceF
  rw [← latF_cg h, ← latF_cg h]
  by_cases c : latF p 0 m g t < 0
  · rw [if_pos (Or.inl c), if_pos (Or.inl c)]
  · rw [← dyF_cg h (latF_lt h4 c)]
    by_cases c2 : latF p 0 m g t < latF p 3 m g t
    · rw [← dyF_cg h (latF_lt h4 (i32_lt c c2))]
    · rw [if_neg (fun q => q.elim c (fun z => c2 z.1)), if_neg (fun q => q.elim c (fun z => c2 z.1))]
theorem giU_cg {p p' : PL} {m t : Int32} {f0 : Nat → Int32} (h : Pe p p') (h4 : p.2.2.2.2 ≤ 400) : ∀ i, i ≤ p.2.2.2.2 → giU p m t f0 i = giU p' m t f0 i
  | 0, _ => rfl
  | i + 1, hi => by
    obtain ⟨h1, h2, h3, h5⟩ := h.2 i (by omega)
    unfold giU
    rw [giU_cg h h4 i (by omega), sinceF_cg h h4, show gdC p m t i = gdC p' m t i by unfold gdC; rw [h1, h2, h5], h3]
theorem gS_cg {p p' : PL} {m t : Int32} (h : Pe p p') (h4 : p.2.2.2.2 ≤ 400) : gS p m t = gS p' m t := by
  unfold gS
  rw [← h.1]
  exact giU_cg h h4 _ (Nat.le_refl _)
theorem Pe_of {I K : IM} {n i : Nat} (hi : i ≤ n) (e1 : ∀ j, j < n → K 49 j = I 49 j) (e2 : ∀ j, j < n → K 50 j = I 50 j) (e3 : ∀ j, j < n → K 51 j = I 51 j) (e4 : ∀ j, j < n → K 52 j = I 52 j) : Pe (pM I i) (pM K i) :=
  ⟨rfl, fun j hj => by
    have hj : j < i := hj
    exact ⟨(e1 j (by omega)).symm, (e2 j (by omega)).symm, (e3 j (by omega)).symm, (e4 j (by omega)).symm⟩⟩
theorem PW_cg {I K : IM} {n i : Nat} (hi : i < n) (h4 : n ≤ 400) (e1 : ∀ j, j < n → K 49 j = I 49 j) (e2 : ∀ j, j < n → K 50 j = I 50 j) (e3 : ∀ j, j < n → K 51 j = I 51 j) (e4 : ∀ j, j < n → K 52 j = I 52 j) (h : PW I i) : PW K i := by
  have hp : Pe (pM I i) (pM K i) := Pe_of (by omega) e1 e2 e3 e4
  have h44 : (pM I i).2.2.2.2 ≤ 400 := by show i ≤ 400; omega
  unfold PW at h ⊢
  rw [e1 i hi, e2 i hi, e3 i hi, e4 i hi, ← gS_cg hp h44, ← latF_cg hp, ← latF_cg hp, ← latF_cg hp]
  exact h
theorem LG_cg {I K : IM} {n : Nat} (h4 : n ≤ 400) (e1 : ∀ j, j < n → K 49 j = I 49 j) (e2 : ∀ j, j < n → K 50 j = I 50 j) (e3 : ∀ j, j < n → K 51 j = I 51 j) (e4 : ∀ j, j < n → K 52 j = I 52 j) (h : LG I n) : LG K n := by
  refine ⟨fun i hi => ?_, fun i j hij hj => ?_, fun i hi => PW_cg hi h4 e1 e2 e3 e4 (h.2.2 i hi)⟩
  · rw [e4 i hi]
    exact h.1 i hi
  · rw [e4 i (by omega), e4 j hj]
    exact h.2.1 i j hij hj
theorem LG_lt {I : IM} {n k : Nat} (hk : k ≤ n) (h : LG I n) : LG I k := ⟨fun i hi => h.1 i (by omega), fun i j hij hj => h.2.1 i j hij (by omega), fun i hi => h.2.2 i (by omega)⟩
/-! rows of numbers -/
theorem upd_rg {f : Nat → Int32} {N hi k : Nat} {v : Int32} (h : ∀ i, i < N → rg (f i) hi) (hv : rg v hi) : ∀ i, i < N → rg (upd f k v i) hi := fun i hi => by
  unfold upd
  split
  · exact hv
  · exact h i hi
theorem zf_rg {f : Nat → Int32} {N hi b : Nat} (h : ∀ i, i < N → rg (f i) hi) : ∀ k, ∀ i, i < N → rg (zf f b k i) hi
  | 0 => h
  | k + 1 => upd_rg (zf_rg h k) (rg_0 _)
theorem upd_cs {f : Nat → Int32} {k i : Nat} {v : Int32} : upd f k v i = if i = k then v else f i := rfl
/-! the invariant -/
def Zr (I : IM) (mm : Nat) : Prop := (∀ q, 40 * mm ≤ q → I 46 q = 0) ∧ ∀ q, 12 * mm ≤ q → I 48 q = 0
def INV (I : IM) (S : SH) (n nq mm : Nat) : Prop := (Fx S ∧ Cp I ∧ Mp I n ∧ Mq I nq ∧ Cq I nq ∧ MIv I ∧ Mm I mm ∧ Mz I S mm) ∧ (LG I n ∧ RX I n ∧ KJ I n ∧ PMm I n mm) ∧ S.length = 58 + 3 * mm ∧ Zr I mm
theorem Mz.cg {I K : IM} {S : SH} {mm : Nat} (h : Mz I S mm) (hr : ∀ a, 58 ≤ a → K a = I a) (e43 : K 43 = I 43) (e44 : K 44 = I 44) (e45 : K 45 = I 45) (e46 : K 46 = I 46) (e47 : K 47 = I 47) (e48 : K 48 = I 48) : Mz K S mm := ⟨h.1, fun j hj => by
  obtain ⟨h1, h2, h3⟩ := h.2 j hj
  have c : clL K j = clL I j := by unfold clL; rw [e43]
  refine ⟨by rw [c]; exact h1, ?_, by rw [c, e47]; exact h3⟩
  unfold Cm1 at h2 ⊢
  rw [hr (58 + 3 * j) (by omega), hr (58 + 3 * j + 1) (by omega), hr (58 + 3 * j + 2) (by omega), e43, e44, e45, e46, e47, e48]
  exact h2⟩
theorem up_hi {I : IM} {a q : Nat} {f : Nat → Int32} (ha : a < 58) (hq : 58 ≤ q) : va_up I a f q = I q := va_up_ne _ _ (by omega)
section IV
variable {I : IM} {S : SH} {n nq mm : Nat}
theorem INV.levels (h : INV I S n nq mm) (a b : Int32) : INV (lvN (va_up I 0 (upd (upd (I 0) 5 a) 6 b)) a b) S n nq mm := by
  obtain ⟨⟨hF, hC, hn, hq, hcq, hM, hm, hz⟩, ⟨hL, hR, hJ, hP⟩, hl, hZ⟩ := h
  refine ⟨⟨hF, ?_, hn, hq, hcq, hM, hm, hz.cg (fun a ha => ?_) rfl rfl rfl rfl rfl rfl⟩, ⟨hL, hR, hJ, hP⟩, hl, hZ⟩
  · exact ⟨hC.c15, hC.c16, hC.c17, hC.c18, hC.f14_4, hC.f0_4, rfl, rfl, hC.c2, hC.c3, hC.c4, hC.c5, hC.f9_3, hC.c12⟩
  · unfold lvN
    rw [up_hi (by decide) ha, up_hi (by decide) ha]
theorem INV.undo (h : INV I S n nq mm) (h0 : ¬ n = 0) : INV (unN (va_up I 14 (upd (I 14) 4 (nI (n - 1)))) n) S (n - 1) nq mm := by
  obtain ⟨⟨hF, hC, hn, hq, hcq, hM, hm, hz⟩, ⟨hL, hR, hJ, hP⟩, hl, hZ⟩ := h
  have hn2 := hn.2
  refine ⟨⟨hF, ?_, ⟨rfl, by omega⟩, hq, hcq, hM, hm, hz.cg (fun a ha => ?_) rfl rfl rfl rfl rfl rfl⟩, ⟨LG_lt (I := I) (Nat.sub_le _ _) hL, fun i hi => hR i (by omega), fun i hi => hJ i (by omega), fun i hi => hP i (by omega)⟩, hl, hZ⟩
  · exact ⟨hC.c15, hC.c16, hC.c17, hC.c18, rfl, hC.f0_4, hC.f0_5, hC.f0_6, hC.c2, hC.c3, hC.c4, hC.c5, hC.f9_3, hC.c12⟩
  · unfold unN
    rw [up_hi (by decide) ha, up_hi (by decide) ha]
def rwC (I : IM) (l n_ : Int32) : IM := va_up (va_up I 2 (upd (I 2) l.toNatClampNeg n_)) 3 (zf (I 3) (27 * l.toNatClampNeg) 27)
theorem INV.row {l n_ : Int32} (h : INV I S n nq mm) (hk : rowK l n_ = true) : INV (rowN (rwC I l n_) l n_) S n nq mm := by
  obtain ⟨⟨hF, hC, hn, hq, hcq, hM, hm, hz⟩, ⟨hL, hR, hJ, hP⟩, hl, hZ⟩ := h
  obtain ⟨m43, m44, m45, m47, m46, m36, m37, m39, m38⟩ := hM
  unfold rowK at hk
  rw [Bool.and_eq_true] at hk
  have hv : n_ = -1 ∨ rg n_ 27 := by
    by_cases q : n_ = -1
    · exact Or.inl q
    · exact Or.inr (inm_rg (hi := 27) (by decide) hk.2 q)
  refine ⟨⟨hF, ?_, hn, hq, hcq, ⟨m43, m44, m45, m47, m46, fun i hi => ?_, zf_rg m37 27, m39, m38⟩, hm, hz.cg (fun a ha => ?_) rfl rfl rfl rfl rfl rfl⟩, ⟨hL, hR, hJ, hP⟩, hl, hZ⟩
  · exact ⟨hC.c15, hC.c16, hC.c17, hC.c18, hC.f14_4, hC.f0_4, hC.f0_5, hC.f0_6, congrArg (fun f => upd f l.toNatClampNeg n_) hC.c2, congrArg (fun f => zf f (27 * l.toNatClampNeg) 27) hC.c3, hC.c4, hC.c5, hC.f9_3, hC.c12⟩
  · show upd (I 36) l.toNatClampNeg n_ i = -1 ∨ rg (upd (I 36) l.toNatClampNeg n_ i) 27
    rw [upd_cs]
    split
    · exact hv
    · exact m36 i hi
  · unfold rowN rwC
    rw [up_hi (by decide) ha, up_hi (by decide) ha, up_hi (by decide) ha, up_hi (by decide) ha]
def sdC (I : IM) (l p s_ : Int32) : IM := va_up I 3 (upd (I 3) (27 * l.toNatClampNeg + p.toNatClampNeg) s_)
theorem INV.sound {l p s_ : Int32} (h : INV I S n nq mm) (hk : soK I l p s_ = true) : INV (soN (sdC I l p s_) l p s_) S n nq mm := by
  obtain ⟨⟨hF, hC, hn, hq, hcq, hM, hm, hz⟩, ⟨hL, hR, hJ, hP⟩, hl, hZ⟩ := h
  obtain ⟨m43, m44, m45, m47, m46, m36, m37, m39, m38⟩ := hM
  unfold soK at hk
  rw [Bool.and_eq_true, Bool.and_eq_true] at hk
  refine ⟨⟨hF, ?_, hn, hq, hcq, ⟨m43, m44, m45, m47, m46, m36, upd_rg m37 (inB_rg (hi := 39) hk.2.2 (by decide)), m39, m38⟩, hm, hz.cg (fun a ha => ?_) rfl rfl rfl rfl rfl rfl⟩, ⟨hL, hR, hJ, hP⟩, hl, hZ⟩
  · exact ⟨hC.c15, hC.c16, hC.c17, hC.c18, hC.f14_4, hC.f0_4, hC.f0_5, hC.f0_6, hC.c2, congrArg (fun f => upd f (27 * l.toNatClampNeg + p.toNatClampNeg) s_) hC.c3, hC.c4, hC.c5, hC.f9_3, hC.c12⟩
  · unfold soN sdC
    rw [up_hi (by decide) ha, up_hi (by decide) ha]
def csC (I : IM) (a b c : Int32) : IM := if b = -1 then va_up I 4 (upd (I 4) a.toNatClampNeg c) else va_up I 5 (upd (upd (I 5) (66 * a.toNatClampNeg + b.toNatClampNeg) c) (66 * b.toNatClampNeg + a.toNatClampNeg) c)
theorem in1_c {c : Int32} (h : inB c 1 100 = true) : rg c 100 := by
  refine inB_rg ?_ (by decide)
  unfold inB at h ⊢
  simp only [Bool.and_eq_true, Bool.not_eq_true', decide_eq_false_iff_not] at h ⊢
  refine ⟨?_, h.2⟩
  have a1 := h.1
  rw [Int32.lt_iff_toInt_lt] at a1 ⊢
  have e1 : (1 : Int32).toInt = 1 := by decide
  rw [e1] at a1
  rw [tI0]
  omega
theorem INV.cost {a b c : Int32} (h : INV I S n nq mm) (hk : ctK a b c = true) : INV (ctN (csC I a b c) a b c) S n nq mm := by
  obtain ⟨⟨hF, hC, hn, hq, hcq, hM, hm, hz⟩, ⟨hL, hR, hJ, hP⟩, hl, hZ⟩ := h
  obtain ⟨m43, m44, m45, m47, m46, m36, m37, m39, m38⟩ := hM
  unfold ctK at hk
  rw [Bool.and_eq_true, Bool.and_eq_true, Bool.and_eq_true] at hk
  have hc := in1_c hk.2.2.2
  by_cases q : b = -1
  · rw [show ctN (csC I a b c) a b c = va_up (va_up I 4 (upd (I 4) a.toNatClampNeg c)) 39 (upd (I 39) a.toNatClampNeg c) by unfold ctN csC; rw [if_pos q, if_pos q]; rfl]
    refine ⟨⟨hF, ?_, hn, hq, hcq, ⟨m43, m44, m45, m47, m46, m36, m37, upd_rg m39 hc, m38⟩, hm, hz.cg (fun a ha => ?_) rfl rfl rfl rfl rfl rfl⟩, ⟨hL, hR, hJ, hP⟩, hl, hZ⟩
    · exact ⟨hC.c15, hC.c16, hC.c17, hC.c18, hC.f14_4, hC.f0_4, hC.f0_5, hC.f0_6, hC.c2, hC.c3, congrArg (fun f => upd f a.toNatClampNeg c) hC.c4, hC.c5, hC.f9_3, hC.c12⟩
    · rw [up_hi (by decide) ha, up_hi (by decide) ha]
  · rw [show ctN (csC I a b c) a b c = va_up (va_up I 5 (upd (upd (I 5) (66 * a.toNatClampNeg + b.toNatClampNeg) c) (66 * b.toNatClampNeg + a.toNatClampNeg) c)) 38 (upd (upd (I 38) (66 * a.toNatClampNeg + b.toNatClampNeg) c) (66 * b.toNatClampNeg + a.toNatClampNeg) c) by unfold ctN csC; rw [if_neg q, if_neg q]; rfl]
    refine ⟨⟨hF, ?_, hn, hq, hcq, ⟨m43, m44, m45, m47, m46, m36, m37, m39, upd_rg (upd_rg m38 hc) hc⟩, hm, hz.cg (fun a ha => ?_) rfl rfl rfl rfl rfl rfl⟩, ⟨hL, hR, hJ, hP⟩, hl, hZ⟩
    · exact ⟨hC.c15, hC.c16, hC.c17, hC.c18, hC.f14_4, hC.f0_4, hC.f0_5, hC.f0_6, hC.c2, hC.c3, hC.c4, congrArg (fun f => upd (upd f (66 * a.toNatClampNeg + b.toNatClampNeg) c) (66 * b.toNatClampNeg + a.toNatClampNeg) c) hC.c5, hC.f9_3, hC.c12⟩
    · rw [up_hi (by decide) ha, up_hi (by decide) ha]
/-! near -/
theorem prU_neg {q : NP} {g h : Int32} : ∀ {i : Nat}, i ≤ 400 → prU q g h i < 0 → ∀ k, k < i → ¬ (q.1 k = lowF g h ∧ q.2.1 k = highF g h)
  | 0, _, _, k, hk => absurd hk (Nat.not_lt_zero _)
  | i + 1, hi, hn, k, hk => by
    unfold prU at hn
    by_cases c : q.1 i = lowF g h ∧ q.2.1 i = highF g h
    · rw [if_pos c] at hn
      exact absurd hn (nI_pos (by omega))
    · rw [if_neg c] at hn
      by_cases e : k = i
      · rw [e]
        exact c
      · exact prU_neg (by omega) hn k (by omega)
theorem prU_k {q : NP} {a b : Int32} {i : Nat} (hi : i ≤ 400) : prU q a b i = -1 ∨ ∃ k, k < i ∧ prU q a b i = nI k := by
  rcases prU_c (q := q) (a := a) (b := b) hi with e | e
  · exact Or.inl e
  · exact Or.inr ⟨_, prU_lt hi e, tn_eq e⟩
theorem INV.near {a b v : Int32} (h : INV I S n nq mm) (hk : neK I nq a b v = true) : ∃ nq', INV (neN (tlN I I nq (prF (qM I nq) a b) a b v) nq a b v) S n nq' mm := by
  have h0 := h
  obtain ⟨⟨hF, hC, hn, hq, hcq, hM, hm, hz⟩, ⟨hL, hR, hJ, hP⟩, hl, hZ⟩ := h
  have hq2 := hq.2
  unfold neK at hk
  rw [Bool.and_eq_true, Bool.and_eq_true, Bool.and_eq_true, Bool.and_eq_true] at hk
  have hk5 := hk.2.2.2.2
  have c12 := hC.c12
  rcases prU_k (q := qM I nq) (a := a) (b := b) (i := nq) (by omega) with e | ⟨k, hkn, e⟩
  · have e' : prF (qM I nq) a b = -1 := e
    have hneg : ∀ k, k < nq → ¬ (I 40 k = lowF a b ∧ I 41 k = highF a b) := prU_neg (q := qM I nq) (by omega) (by rw [e]; decide)
    by_cases c : v = 0
    · refine ⟨nq, ?_⟩
      have e2 : tlN I I nq (prF (qM I nq) a b) a b v = I := by unfold tlN; rw [if_pos c, e', if_pos rfl]
      rw [e2]
      have e3 : neN I nq a b v = I := by unfold neN; rw [e', if_pos (by decide), if_pos c]
      rw [e3]
      exact h0
    · have hlt : nq < 100 := by
        rw [e'] at hk5
        have : ¬ nq = 100 := fun z => by simp [z, c] at hk5
        omega
      refine ⟨nq + 1, ?_⟩
      have e2 : tlN I I nq (prF (qM I nq) a b) a b v = apN I nq a b v := by unfold tlN; rw [if_neg c, e', if_pos rfl, if_pos hlt]
      rw [e2]
      have e3 : neN (apN I nq a b v) nq a b v = va_up (va_up (va_up (va_up (apN I nq a b v) 35 (upd (I 35) 7 (nI (nq + 1)))) 40 (upd (I 40) nq (lowF a b))) 41 (upd (I 41) nq (highF a b))) 42 (upd (I 42) nq v) := by
        unfold neN
        rw [show prF (qM (apN I nq a b v) nq) a b = -1 from e', if_pos (by decide), if_neg c]
        rfl
      rw [e3]
      refine ⟨⟨hF, ?_, hn, ⟨rfl, by omega⟩, ⟨fun k hk => ?_, fun i j hi hj => ?_⟩, hM, hm, hz.cg (fun a ha => ?_) rfl rfl rfl rfl rfl rfl⟩, ⟨hL, hR, hJ, hP⟩, hl, hZ⟩
      · exact ⟨hC.c15, hC.c16, hC.c17, hC.c18, hC.f14_4, hC.f0_4, hC.f0_5, hC.f0_6, hC.c2, hC.c3, hC.c4, hC.c5, rfl, congrArg (fun f => upd f nq v) c12⟩
      · show lowF (upd (I 10) nq a k) (upd (I 11) nq b k) = upd (I 40) nq (lowF a b) k ∧ highF (upd (I 10) nq a k) (upd (I 11) nq b k) = upd (I 41) nq (highF a b) k
        by_cases z : k = nq
        · subst z
          rw [pk_us, pk_us, pk_us, pk_us]
          exact ⟨rfl, rfl⟩
        · simp only [upd_cs, if_neg z]
          exact hcq.1 k (by omega)
      · show upd (I 40) nq (lowF a b) i = upd (I 40) nq (lowF a b) j → upd (I 41) nq (highF a b) i = upd (I 41) nq (highF a b) j → i = j
        simp only [upd_cs]
        by_cases z : i = nq <;> by_cases y : j = nq
        · intro _ _; omega
        · rw [if_pos z, if_neg y, if_pos z, if_neg y]
          exact fun q1 q2 => absurd ⟨q1.symm, q2.symm⟩ (hneg j (by omega))
        · rw [if_neg z, if_pos y, if_neg z, if_pos y]
          exact fun q1 q2 => absurd ⟨q1, q2⟩ (hneg i (by omega))
        · rw [if_neg z, if_neg y, if_neg z, if_neg y]
          exact hcq.2 i j (by omega) (by omega)
      · unfold apN
        simp only [up_hi (I := _) (f := _) (show 42 < 58 by decide) ha, up_hi (show 41 < 58 by decide) ha, up_hi (show 40 < 58 by decide) ha, up_hi (show 35 < 58 by decide) ha, up_hi (show 9 < 58 by decide) ha, up_hi (show 12 < 58 by decide) ha, up_hi (show 11 < 58 by decide) ha, up_hi (show 10 < 58 by decide) ha]
  · have e' : prF (qM I nq) a b = nI k := e
    have hk31 : k < 2 ^ 31 := by omega
    have hcl : (nI k).toNatClampNeg = k := nI_clamp hk31
    have hnn : ¬ nI k < 0 := nI_pos hk31
    have hn1 : ¬ nI k = -1 := fun z => hnn (by rw [z]; decide)
    by_cases c : v = 0
    · refine ⟨nq - 1, ?_⟩
      have e2 : tlN I I nq (prF (qM I nq) a b) a b v = fgN I I nq k := by unfold tlN; rw [if_pos c, e', if_neg hn1, hcl]
      rw [e2]
      have e3 : neN (fgN I I nq k) nq a b v = va_up (va_up (va_up (va_up (fgN I I nq k) 35 (upd (I 35) 7 (nI (nq - 1)))) 40 (upd (I 40) k (I 40 (nq - 1)))) 41 (upd (I 41) k (I 41 (nq - 1)))) 42 (upd (I 42) k (I 42 (nq - 1))) := by
        unfold neN
        rw [show prF (qM (fgN I I nq k) nq) a b = nI k from e', if_neg hnn, if_pos c, hcl]
        rfl
      rw [e3]
      refine ⟨⟨hF, ?_, hn, ⟨rfl, by omega⟩, ⟨fun i hi => ?_, fun i j hi hj => ?_⟩, hM, hm, hz.cg (fun a ha => ?_) rfl rfl rfl rfl rfl rfl⟩, ⟨hL, hR, hJ, hP⟩, hl, hZ⟩
      · exact ⟨hC.c15, hC.c16, hC.c17, hC.c18, hC.f14_4, hC.f0_4, hC.f0_5, hC.f0_6, hC.c2, hC.c3, hC.c4, hC.c5, rfl, congrArg (fun f => upd f k (I 42 (nq - 1))) c12⟩
      · show lowF (upd (I 10) k (I 10 (nq - 1)) i) (upd (I 11) k (I 11 (nq - 1)) i) = upd (I 40) k (I 40 (nq - 1)) i ∧ highF (upd (I 10) k (I 10 (nq - 1)) i) (upd (I 11) k (I 11 (nq - 1)) i) = upd (I 41) k (I 41 (nq - 1)) i
        by_cases z : i = k
        · subst z
          rw [pk_us, pk_us, pk_us, pk_us]
          exact hcq.1 (nq - 1) (by omega)
        · simp only [upd_cs, if_neg z]
          exact hcq.1 i (by omega)
      · show upd (I 40) k (I 40 (nq - 1)) i = upd (I 40) k (I 40 (nq - 1)) j → upd (I 41) k (I 41 (nq - 1)) i = upd (I 41) k (I 41 (nq - 1)) j → i = j
        simp only [upd_cs]
        by_cases z : i = k <;> by_cases y : j = k
        · intro _ _; omega
        · rw [if_pos z, if_neg y, if_pos z, if_neg y]
          intro q1 q2
          have := hcq.2 (nq - 1) j (by omega) (by omega) q1 q2
          omega
        · rw [if_neg z, if_pos y, if_neg z, if_pos y]
          intro q1 q2
          have := hcq.2 i (nq - 1) (by omega) (by omega) q1 q2
          omega
        · rw [if_neg z, if_neg y, if_neg z, if_neg y]
          exact hcq.2 i j (by omega) (by omega)
      · unfold fgN
        simp only [up_hi (show 42 < 58 by decide) ha, up_hi (show 41 < 58 by decide) ha, up_hi (show 40 < 58 by decide) ha, up_hi (show 35 < 58 by decide) ha, up_hi (show 9 < 58 by decide) ha, up_hi (show 12 < 58 by decide) ha, up_hi (show 11 < 58 by decide) ha, up_hi (show 10 < 58 by decide) ha]
    · refine ⟨nq, ?_⟩
      have e2 : tlN I I nq (prF (qM I nq) a b) a b v = va_up I 12 (upd (I 12) k v) := by unfold tlN; rw [if_neg c, e', if_neg hn1, hcl]
      rw [e2]
      have e3 : neN (va_up I 12 (upd (I 12) k v)) nq a b v = va_up (va_up I 12 (upd (I 12) k v)) 42 (upd (I 42) k v) := by
        unfold neN
        rw [show prF (qM (va_up I 12 (upd (I 12) k v)) nq) a b = nI k from e', if_neg hnn, if_neg c, hcl]
        rfl
      rw [e3]
      refine ⟨⟨hF, ?_, hn, hq, hcq, hM, hm, hz.cg (fun a ha => ?_) rfl rfl rfl rfl rfl rfl⟩, ⟨hL, hR, hJ, hP⟩, hl, hZ⟩
      · exact ⟨hC.c15, hC.c16, hC.c17, hC.c18, hC.f14_4, hC.f0_4, hC.f0_5, hC.f0_6, hC.c2, hC.c3, hC.c4, hC.c5, hC.f9_3, congrArg (fun f => upd f k v) c12⟩
      · rw [up_hi (by decide) ha, up_hi (by decide) ha]
/-! paper -/
theorem INV.paper {k m x t : Int32} (h : INV I S n nq mm) (hk : pkB I n k m x t = true) : INV (ppN (paN I n k m x t) n k m x t) S (n + 1) nq mm := by
  obtain ⟨⟨hF, hC, hn, hq, hcq, hM, hm, hz⟩, ⟨hL, hR, hJ, hP⟩, hl, hZ⟩ := h
  have hn2 := hn.2
  unfold pkB at hk
  simp only [Bool.and_eq_true] at hk
  obtain ⟨h1, h2, h3, h4, h5, h6, h7⟩ := hk
  have hn4 : n < 400 := by
    have : ¬ n = 400 := by simpa using h1
    omega
  obtain ⟨hmm, hml⟩ := mk_rg hm.1 hm.2 h3
  have hm2 := hm.2
  have ht := inB_rg (hi := 60000) h5 (by decide)
  have htn : ¬ t < 0 := rg_lt ht (by decide)
  have hx : ¬ x = -1 := by
    unfold isXF at h4
    split at h4
    · exact fun z => rg_lt (inB_rg (hi := 359) h4 (by decide)) (by decide) (by rw [z]; decide)
    · split at h4
      · exact fun z => rg_lt (inB_rg (hi := 15) h4 (by decide)) (by decide) (by rw [z]; decide)
      · split at h4
        · exact fun z => rg_lt (inB_rg (hi := 99) h4 (by decide)) (by decide) (by rw [z]; decide)
        · exact fun z => by rw [z] at h4; exact absurd h4 (by decide)
  have g49 : ppN (paN I n k m x t) n k m x t 49 = upd (I 49) n k := rfl
  have g50 : ppN (paN I n k m x t) n k m x t 50 = upd (I 50) n m := rfl
  have g51 : ppN (paN I n k m x t) n k m x t 51 = upd (I 51) n x := rfl
  have g52 : ppN (paN I n k m x t) n k m x t 52 = upd (I 52) n t := rfl
  have e1 : ∀ j, j < n → ppN (paN I n k m x t) n k m x t 49 j = I 49 j := fun j hj => by rw [g49, upd_cs, if_neg (by omega)]
  have e2 : ∀ j, j < n → ppN (paN I n k m x t) n k m x t 50 j = I 50 j := fun j hj => by rw [g50, upd_cs, if_neg (by omega)]
  have e3 : ∀ j, j < n → ppN (paN I n k m x t) n k m x t 51 j = I 51 j := fun j hj => by rw [g51, upd_cs, if_neg (by omega)]
  have e4 : ∀ j, j < n → ppN (paN I n k m x t) n k m x t 52 j = I 52 j := fun j hj => by rw [g52, upd_cs, if_neg (by omega)]
  have f1 : ppN (paN I n k m x t) n k m x t 49 n = k := by rw [g49, pk_us]
  have f2 : ppN (paN I n k m x t) n k m x t 50 n = m := by rw [g50, pk_us]
  have f3 : ppN (paN I n k m x t) n k m x t 51 n = x := by rw [g51, pk_us]
  have f4 : ppN (paN I n k m x t) n k m x t 52 n = t := by rw [g52, pk_us]
  have g43 : ppN (paN I n k m x t) n k m x t 43 = I 43 := rfl
  have hL0 := LG_cg (K := ppN (paN I n k m x t) n k m x t) (by omega) e1 e2 e3 e4 hL
  have hPW : PW (ppN (paN I n k m x t) n k m x t) n := by
    have hp : Pe (pM I n) (pM (ppN (paN I n k m x t) n k m x t) n) := Pe_of (Nat.le_refl _) e1 e2 e3 e4
    unfold PW
    rw [f1, f2, f3, f4, ← gS_cg hp hn2, ← latF_cg hp, ← latF_cg hp, ← latF_cg hp]
    unfold cbF at h7
    rw [← hmm] at h7
    refine ⟨fun q => ?_, fun q => ?_, fun q => ?_, hx⟩
    · rw [if_pos q, Bool.and_eq_true] at h7
      simpa using h7.2
    · rw [if_neg (by rw [q]; decide), if_pos q, Bool.and_eq_true] at h7
      simpa using h7.1
    · rw [if_neg (by rcases q with q | q <;> (rw [q]; decide)), if_neg (by rcases q with q | q <;> (rw [q]; decide))] at h7
      split at h7
      · cases h7
      · rw [if_neg (by rcases q with q | q <;> (rw [q]; decide))] at h7
        first | (rw [if_pos q] at h7; simpa using h7) | simpa using h7
  refine ⟨⟨hF, ?_, ⟨rfl, by omega⟩, hq, hcq, hM, hm, hz.cg (fun a ha => ?_) rfl rfl rfl rfl rfl rfl⟩, ⟨⟨fun i hi => ?_, fun i j hij hj => ?_, fun i hi => ?_⟩, fun i hi => ?_, fun i hi => ?_, fun i hi => ?_⟩, hl, hZ⟩
  · exact ⟨congrArg (fun f => upd f n k) hC.c15, congrArg (fun f => upd f n m) hC.c16, congrArg (fun f => upd f n x) hC.c17, congrArg (fun f => upd f n t) hC.c18, rfl, hC.f0_4, hC.f0_5, hC.f0_6, hC.c2, hC.c3, hC.c4, hC.c5, hC.f9_3, hC.c12⟩
  · unfold ppN paN
    simp only [up_hi (show 35 < 58 by decide) ha, up_hi (show 52 < 58 by decide) ha, up_hi (show 51 < 58 by decide) ha, up_hi (show 50 < 58 by decide) ha, up_hi (show 49 < 58 by decide) ha, up_hi (show 14 < 58 by decide) ha, up_hi (show 18 < 58 by decide) ha, up_hi (show 17 < 58 by decide) ha, up_hi (show 16 < 58 by decide) ha, up_hi (show 15 < 58 by decide) ha]
  · by_cases z : i = n
    · rw [z, f4]
      exact htn
    · exact hL0.1 i (by omega)
  · by_cases z : j = n
    · rw [z, f4]
      by_cases y : i = n
      · rw [y, f4]
        rw [Int32.lt_iff_toInt_lt]
        omega
      · rw [e4 i (by omega)]
        have a1 : ¬ t < I 52 (n - 1) := by
          simp only [Bool.not_eq_true', Bool.and_eq_false_iff, decide_eq_false_iff_not] at h6
          rcases h6 with h6 | h6
          · omega
          · exact h6
        have a2 := hL.2.1 i (n - 1) (by omega) (by omega)
        rw [Int32.lt_iff_toInt_lt] at *
        omega
    · exact hL0.2.1 i j hij (by omega)
  · by_cases z : i = n
    · rw [z]
      exact hPW
    · exact hL0.2.2 i (by omega)
  · by_cases z : i = n
    · rw [z, f1, f3]
      intro q
      unfold isXF at h4
      rw [if_pos (Or.inl q)] at h4
      exact inB_rg (hi := 359) h4 (by decide)
    · rw [e1 i (by omega), e3 i (by omega)]
      exact hR i (by omega)
  · by_cases z : i = n
    · rw [z, f1, f2, g43]
      intro q
      unfold cbF at h7
      rw [q, if_neg (by decide), if_neg (by decide)] at h7
      split at h7
      · cases h7
      · rw [if_neg (by decide), if_neg (by decide), if_neg (by decide), if_neg (by decide), if_neg (by decide), Bool.and_eq_true] at h7
        simpa using h7.1
    · rw [e1 i (by omega), e2 i (by omega), g43]
      exact hJ i (by omega)
  · by_cases z : i = n
    · rw [z, f2]
      exact ⟨⟨hmm, by omega⟩, hml⟩
    · rw [e2 i (by omega)]
      exact hP i (by omega)
end IV
