/-! the world at the loop's head -/
def LQI (J : IM) (S : SH) : Prop := ∃ (I : IM) (n nq mm : Nat), Ex I J ∧ INV I S n nq mm
/-- class and reference answer alike, one behind the other -/
def LQP (d1 d2 mc ms : Nat) (X M : MI) (av : List Value) (J : IM) (S : SH) : Prop := ∀ g : GP, ∃ r : Int32, Z g d1 mc ms X 0 (enL X (.ref 0 :: av)) [] J S (fun v J1 S1 => v = some (.int r) ∧ S1[35]? = some (7, 0, [some 36, some 37, some 38, some 39, some 40, some 41, some 42, none, none, none, none, some 43, some 44, some 45, some 46, some 47, some 48, none, some 49, some 50, some 51, some 52, some 53, some 54, some 55, some 56, some 57]) ∧ Z g d2 0 0 M 0 (enL M (.ref 35 :: av)) [] J1 S1 (fun v2 J2 S2 => v2 = some (.int r) ∧ LQI J2 S2))
section LPS
variable {J : IM} {S : SH}
theorem lq_about (h : LQI J S) (w : Int32) : LQP 1 0 0 0 mX6_about mX7_about [.int w] J S := by
  obtain ⟨I, n, nq, mm, hE, hI⟩ := h
  obtain ⟨⟨hF, hC, hn, hq, hcq, hM, hm, hz⟩, ⟨hL, hR, hJ, hP⟩, hl, hZ⟩ := id hI
  intro g
  refine ⟨abM I n nq mm w, (cb_about hE w hF hC hn hq hcq hM hm hz).conseq (fun v J1 S1 q => ?_)⟩
  obtain ⟨q1, hE1, q3⟩ := q
  rw [q3]
  exact ⟨q1, fx35 hF, (cp_about hE1 w hF hn hq hM hm).conseq (fun v2 J2 S2 q => ⟨q.1, I, n, nq, mm, q.2.1, by rw [q.2.2]; exact hI⟩)⟩
theorem lq_paperOf (h : LQI J S) (i w : Int32) : LQP 1 1 0 0 mX6_paperOf mX7_paperOf [.int i, .int w] J S := by
  obtain ⟨I, n, nq, mm, hE, hI⟩ := h
  obtain ⟨⟨hF, hC, hn, hq, hcq, hM, hm, hz⟩, ⟨hL, hR, hJ, hP⟩, hl, hZ⟩ := id hI
  intro g
  refine ⟨poM I n i w, (cb_paperOf hE i w hF hC hn hq hcq hM hm hz).conseq (fun v J1 S1 q => ?_)⟩
  obtain ⟨q1, hE1, q3⟩ := q
  rw [q3]
  exact ⟨q1, fx35 hF, (cp_paperOf hE1 i w hF hn hq hM hm).conseq (fun v2 J2 S2 q => ⟨q.1, I, n, nq, mm, q.2.1, by rw [q.2.2]; exact hI⟩)⟩
theorem lq_markOf (h : LQI J S) (m w : Int32) : LQP 3 2 0 0 mX6_markOf mX7_markOf [.int m, .int w] J S := by
  obtain ⟨I, n, nq, mm, hE, hI⟩ := h
  obtain ⟨⟨hF, hC, hn, hq, hcq, hM, hm, hz⟩, ⟨hL, hR, hJ, hP⟩, hl, hZ⟩ := id hI
  intro g
  refine ⟨moM I m w, (cb_markOf hE m w hF hC hn hq hcq hM hm hz).conseq (fun v J1 S1 q => ?_)⟩
  obtain ⟨q1, hE1, q3⟩ := q
  rw [q3]
  exact ⟨q1, fx35 hF, (cp_markOf hE1 m w hF hn hq hM hm).conseq (fun v2 J2 S2 q => ⟨q.1, I, n, nq, mm, q.2.1, by rw [q.2.2]; exact hI⟩)⟩
theorem lq_soundOf (h : LQI J S) (m k : Int32) : LQP 3 2 0 0 mX6_soundOf mX7_soundOf [.int m, .int k] J S := by
  obtain ⟨I, n, nq, mm, hE, hI⟩ := h
  obtain ⟨⟨hF, hC, hn, hq, hcq, hM, hm, hz⟩, ⟨hL, hR, hJ, hP⟩, hl, hZ⟩ := id hI
  intro g
  refine ⟨sdM I m k, (cb_soundOf hE m k hF hC hn hq hcq hM hm hz).conseq (fun v J1 S1 q => ?_)⟩
  obtain ⟨q1, hE1, q3⟩ := q
  rw [q3]
  exact ⟨q1, fx35 hF, (cp_soundOf hE1 m k hF hn hq hM hm).conseq (fun v2 J2 S2 q => ⟨q.1, I, n, nq, mm, q.2.1, by rw [q.2.2]; exact hI⟩)⟩
theorem lq_like (h : LQI J S) (a b w : Int32) : LQP 4 5 0 0 mX6_like mX7_like [.int a, .int b, .int w] J S := by
  obtain ⟨I, n, nq, mm, hE, hI⟩ := h
  obtain ⟨⟨hF, hC, hn, hq, hcq, hM, hm, hz⟩, ⟨hL, hR, hJ, hP⟩, hl, hZ⟩ := id hI
  intro g
  refine ⟨liM I a b w, (cb_like hE a b w hF hC hn hq hcq hM hm hz).conseq (fun v J1 S1 q => ?_)⟩
  obtain ⟨q1, hE1, q3⟩ := q
  rw [q3]
  exact ⟨q1, fx35 hF, (cp_like hE1 a b w hF hn hq hM hm).conseq (fun v2 J2 S2 q => ⟨q.1, I, n, nq, mm, q.2.1, by rw [q.2.2]; exact hI⟩)⟩
theorem lq_right (h : LQI J S) (m g_ c t w : Int32) : LQP 4 5 0 0 mX6_right mX7_right [.int m, .int g_, .int c, .int t, .int w] J S := by
  obtain ⟨I, n, nq, mm, hE, hI⟩ := h
  obtain ⟨⟨hF, hC, hn, hq, hcq, hM, hm, hz⟩, ⟨hL, hR, hJ, hP⟩, hl, hZ⟩ := id hI
  intro g
  refine ⟨riM I n m g_ c t w, (cb_right hE m g_ c t w hF hC hn hq hcq hM hm hz hL).conseq (fun v J1 S1 q => ?_)⟩
  obtain ⟨q1, hE1, q3⟩ := q
  rw [q3]
  exact ⟨q1, fx35 hF, (cp_right hE1 m g_ c t w hF hn hq hM hm).conseq (fun v2 J2 S2 q => ⟨q.1, I, n, nq, mm, q.2.1, by rw [q.2.2]; exact hI⟩)⟩
theorem lq_state (h : LQI J S) (m t w : Int32) : LQP 4 4 0 0 mX6_state mX7_state [.int m, .int t, .int w] J S := by
  obtain ⟨I, n, nq, mm, hE, hI⟩ := h
  obtain ⟨⟨hF, hC, hn, hq, hcq, hM, hm, hz⟩, ⟨hL, hR, hJ, hP⟩, hl, hZ⟩ := id hI
  intro g
  refine ⟨stM I n m t w, (cb_state hE m t w hF hC hn hq hcq hM hm hz hL).conseq (fun v J1 S1 q => ?_)⟩
  obtain ⟨q1, hE1, q3⟩ := q
  rw [q3]
  exact ⟨q1, fx35 hF, (cp_state hE1 m t w hF hn hq hM hm).conseq (fun v2 J2 S2 q => ⟨q.1, I, n, nq, mm, q.2.1, by rw [q.2.2]; exact hI⟩)⟩
theorem lq_clash (h : LQI J S) (a b c t : Int32) : LQP 6 8 0 0 mX6_clash mX7_clash [.int a, .int b, .int c, .int t] J S := by
  obtain ⟨I, n, nq, mm, hE, hI⟩ := h
  obtain ⟨⟨hF, hC, hn, hq, hcq, hM, hm, hz⟩, ⟨hL, hR, hJ, hP⟩, hl, hZ⟩ := id hI
  intro g
  refine ⟨csM I n nq a b c t, (cb_clash hE a b c t hF hC hn hq hcq hM hm hz hL hR).conseq (fun v J1 S1 q => ?_)⟩
  obtain ⟨q1, hE1, q3⟩ := q
  rw [q3]
  exact ⟨q1, fx35 hF, (cp_clash hE1 a b c t hF hn hq hM hm).conseq (fun v2 J2 S2 q => ⟨q.1, I, n, nq, mm, q.2.1, by rw [q.2.2]; exact hI⟩)⟩
theorem lq_first (h : LQI J S) (m c t : Int32) : LQP 6 8 0 0 mX6_first mX7_first [.int m, .int c, .int t] J S := by
  obtain ⟨I, n, nq, mm, hE, hI⟩ := h
  obtain ⟨⟨hF, hC, hn, hq, hcq, hM, hm, hz⟩, ⟨hL, hR, hJ, hP⟩, hl, hZ⟩ := id hI
  intro g
  refine ⟨fsM I n nq mm m c t, (cb_first hE m c t hF hC hn hq hcq hM hm hz hL hR).conseq (fun v J1 S1 q => ?_)⟩
  obtain ⟨q1, hE1, q3⟩ := q
  rw [q3]
  exact ⟨q1, fx35 hF, (cp_first hE1 m c t hF hn hq hM hm).conseq (fun v2 J2 S2 q => ⟨q.1, I, n, nq, mm, q.2.1, by rw [q.2.2]; exact hI⟩)⟩
theorem lq_may (h : LQI J S) (pe sg g_ c t : Int32) : LQP 6 8 0 0 mX6_may mX7_may [.int pe, .int sg, .int g_, .int c, .int t] J S := by
  obtain ⟨I, n, nq, mm, hE, hI⟩ := h
  obtain ⟨⟨hF, hC, hn, hq, hcq, hM, hm, hz⟩, ⟨hL, hR, hJ, hP⟩, hl, hZ⟩ := id hI
  intro g
  refine ⟨myM I n nq mm pe sg g_ c t, (cb_may hE pe sg g_ c t hF hC hn hq hcq hM hm hz hL hR hJ).conseq (fun v J1 S1 q => ?_)⟩
  obtain ⟨q1, hE1, q3⟩ := q
  rw [q3]
  exact ⟨q1, fx35 hF, (cp_may hE1 pe sg g_ c t hF hn hq hM hm).conseq (fun v2 J2 S2 q => ⟨q.1, I, n, nq, mm, q.2.1, by rw [q.2.2]; exact hI⟩)⟩
theorem lq_watch (h : LQI J S) (i : Int32) : LQP 6 7 0 0 mX6_watch mX7_watch [.int i] J S := by
  obtain ⟨I, n, nq, mm, hE, hI⟩ := h
  obtain ⟨⟨hF, hC, hn, hq, hcq, hM, hm, hz⟩, ⟨hL, hR, hJ, hP⟩, hl, hZ⟩ := id hI
  intro g
  refine ⟨waM I n nq mm i, (cb_watch hE i hF hC hn hq hcq hM hm hz hL hR hP).conseq (fun v J1 S1 q => ?_)⟩
  obtain ⟨q1, hE1, q3⟩ := q
  rw [q3]
  exact ⟨q1, fx35 hF, (cp_watch hE1 i hF hn hq hM hm (fun i hi => (hP i hi).1)).conseq (fun v2 J2 S2 q => ⟨q.1, I, n, nq, mm, q.2.1, by rw [q.2.2]; exact hI⟩)⟩
theorem lq_levels (h : LQI J S) (a b : Int32) : LQP 0 1 0 0 mX6_levels mX7_levels [.int a, .int b] J S := by
  obtain ⟨I, n, nq, mm, hE, hI⟩ := h
  obtain ⟨⟨hF, hC, hn, hq, hcq, hM, hm, hz⟩, ⟨hL, hR, hJ, hP⟩, hl, hZ⟩ := id hI
  intro g
  refine ⟨bI (inB a 1 1000 && inB b 1 1000), (cb_levels hE a b hF hC hn hq hcq hM hm hz).conseq (fun v J1 S1 q => ?_)⟩
  obtain ⟨q1, hE1, q3⟩ := q
  rw [q3]
  refine ⟨q1, fx35 hF, ?_⟩
  by_cases hk : (inB a 1 1000 && inB b 1 1000) = true
  · rw [if_pos hk] at hE1
    refine (cp_levels (I := va_up I 0 (upd (upd (I 0) 5 a) 6 b)) (n := n) (nq := nq) (mm := mm) hE1 a b hF hn hq hM hm).conseq (fun v2 J2 S2 q => ?_)
    obtain ⟨q1, hE2, q3⟩ := q
    rw [if_pos hk] at hE2
    rw [q3]
    exact ⟨q1, _, n, nq, mm, hE2, hI.levels a b⟩
  · rw [if_neg hk] at hE1
    refine (cp_levels hE1 a b hF hn hq hM hm).conseq (fun v2 J2 S2 q => ?_)
    obtain ⟨q1, hE2, q3⟩ := q
    rw [if_neg hk] at hE2
    rw [q3]
    exact ⟨q1, I, n, nq, mm, hE2, hI⟩
theorem lq_row (h : LQI J S) (l n_ : Int32) : LQP 1 1 0 0 mX6_row mX7_row [.int l, .int n_] J S := by
  obtain ⟨I, n, nq, mm, hE, hI⟩ := h
  obtain ⟨⟨hF, hC, hn, hq, hcq, hM, hm, hz⟩, ⟨hL, hR, hJ, hP⟩, hl, hZ⟩ := id hI
  intro g
  refine ⟨bI (rowK l n_), (cb_row hE l n_ hF hC hn hq hcq hM hm hz).conseq (fun v J1 S1 q => ?_)⟩
  obtain ⟨q1, hE1, q3⟩ := q
  rw [q3]
  refine ⟨q1, fx35 hF, ?_⟩
  by_cases hk : rowK l n_ = true
  · rw [if_pos hk] at hE1
    refine (cp_row (I := rwC I l n_) (n := n) (nq := nq) (mm := mm) hE1 l n_ hF hn hq hM hm).conseq (fun v2 J2 S2 q => ?_)
    obtain ⟨q1, hE2, q3⟩ := q
    rw [if_pos hk] at hE2
    rw [q3]
    exact ⟨q1, _, n, nq, mm, hE2, hI.row hk⟩
  · rw [if_neg hk] at hE1
    refine (cp_row hE1 l n_ hF hn hq hM hm).conseq (fun v2 J2 S2 q => ?_)
    obtain ⟨q1, hE2, q3⟩ := q
    rw [if_neg hk] at hE2
    rw [q3]
    exact ⟨q1, I, n, nq, mm, hE2, hI⟩
theorem lq_sound (h : LQI J S) (l p s_ : Int32) : LQP 1 1 0 0 mX6_sound mX7_sound [.int l, .int p, .int s_] J S := by
  obtain ⟨I, n, nq, mm, hE, hI⟩ := h
  obtain ⟨⟨hF, hC, hn, hq, hcq, hM, hm, hz⟩, ⟨hL, hR, hJ, hP⟩, hl, hZ⟩ := id hI
  intro g
  refine ⟨bI (soK I l p s_), (cb_sound hE l p s_ hF hC hn hq hcq hM hm hz).conseq (fun v J1 S1 q => ?_)⟩
  obtain ⟨q1, hE1, q3⟩ := q
  rw [q3]
  refine ⟨q1, fx35 hF, ?_⟩
  by_cases hk : soK I l p s_ = true
  · rw [if_pos hk] at hE1
    refine (cp_sound (I := sdC I l p s_) (n := n) (nq := nq) (mm := mm) hE1 l p s_ hF hn hq hM hm).conseq (fun v2 J2 S2 q => ?_)
    obtain ⟨q1, hE2, q3⟩ := q
    rw [show (soK (sdC I l p s_) l p s_) = soK I l p s_ from rfl, if_pos hk] at hE2
    rw [q3]
    exact ⟨q1, _, n, nq, mm, hE2, hI.sound hk⟩
  · rw [if_neg hk] at hE1
    refine (cp_sound hE1 l p s_ hF hn hq hM hm).conseq (fun v2 J2 S2 q => ?_)
    obtain ⟨q1, hE2, q3⟩ := q
    rw [if_neg hk] at hE2
    rw [q3]
    exact ⟨q1, I, n, nq, mm, hE2, hI⟩
theorem csC_lo {I : IM} {a b c : Int32} {q : Nat} (h4 : q ≠ 4) (h5 : q ≠ 5) : csC I a b c q = I q := by
  unfold csC
  split
  · exact va_up_ne _ _ h4
  · exact va_up_ne _ _ h5
theorem lq_cost (h : LQI J S) (a b c : Int32) : LQP 1 1 0 0 mX6_cost mX7_cost [.int a, .int b, .int c] J S := by
  obtain ⟨I, n, nq, mm, hE, hI⟩ := h
  obtain ⟨⟨hF, hC, hn, hq, hcq, hM, hm, hz⟩, ⟨hL, hR, hJ, hP⟩, hl, hZ⟩ := id hI
  intro g
  refine ⟨bI (ctK a b c), (cb_cost hE a b c hF hC hn hq hcq hM hm hz).conseq (fun v J1 S1 q => ?_)⟩
  obtain ⟨q1, hE1, q3⟩ := q
  rw [q3]
  refine ⟨q1, fx35 hF, ?_⟩
  by_cases hk : ctK a b c = true
  · rw [if_pos hk] at hE1
    have r : ∀ q, q ≠ 4 → q ≠ 5 → csC I a b c q = I q := fun q h4 h5 => csC_lo h4 h5
    have r35 := r 35 (by decide) (by decide)
    have hn' : Mp (csC I a b c) n := by unfold Mp; rw [r35]; exact hn
    have hq' : Mq (csC I a b c) nq := by unfold Mq; rw [r35]; exact hq
    have hm' : Mm (csC I a b c) mm := by unfold Mm; rw [r35]; exact hm
    have hM' : MIv (csC I a b c) := by unfold MIv; rw [r 36 (by decide) (by decide), r 37 (by decide) (by decide), r 38 (by decide) (by decide), r 39 (by decide) (by decide), r 43 (by decide) (by decide), r 44 (by decide) (by decide), r 45 (by decide) (by decide), r 46 (by decide) (by decide), r 47 (by decide) (by decide)]; exact hM
    refine (cp_cost (I := csC I a b c) (n := n) (nq := nq) (mm := mm) hE1 a b c hF hn' hq' hM' hm').conseq (fun v2 J2 S2 q => ?_)
    obtain ⟨q1, hE2, q3⟩ := q
    rw [if_pos hk] at hE2
    rw [q3]
    exact ⟨q1, _, n, nq, mm, hE2, hI.cost hk⟩
  · rw [if_neg hk] at hE1
    refine (cp_cost hE1 a b c hF hn hq hM hm).conseq (fun v2 J2 S2 q => ?_)
    obtain ⟨q1, hE2, q3⟩ := q
    rw [if_neg hk] at hE2
    rw [q3]
    exact ⟨q1, I, n, nq, mm, hE2, hI⟩
theorem tlN_hi {I : IM} {nq : Nat} {k a b v : Int32} {q : Nat} (hq : 13 ≤ q) : tlN I I nq k a b v q = I q := by
  unfold tlN fgN apN
  split
  · split
    · rfl
    · rw [va_up_ne _ _ (by omega), va_up_ne _ _ (by omega), va_up_ne _ _ (by omega), va_up_ne _ _ (by omega)]
  · split
    · split
      · rw [va_up_ne _ _ (by omega), va_up_ne _ _ (by omega), va_up_ne _ _ (by omega), va_up_ne _ _ (by omega)]
      · rfl
    · rw [va_up_ne _ _ (by omega)]
theorem lq_near (h : LQI J S) (a b v : Int32) : LQP 2 2 0 0 mX6_near mX7_near [.int a, .int b, .int v] J S := by
  obtain ⟨I, n, nq, mm, hE, hI⟩ := h
  obtain ⟨⟨hF, hC, hn, hq, hcq, hM, hm, hz⟩, ⟨hL, hR, hJ, hP⟩, hl, hZ⟩ := id hI
  intro g
  refine ⟨bI (neK I nq a b v), (cb_near hE a b v hF hC hn hq hcq hM hm hz).conseq (fun v1 J1 S1 q => ?_)⟩
  obtain ⟨q1, hE1, q3⟩ := q
  rw [q3]
  refine ⟨q1, fx35 hF, ?_⟩
  by_cases hk : neK I nq a b v = true
  · rw [if_pos hk] at hE1
    have hinv := hI.near hk
    have r : ∀ q, 13 ≤ q → tlN I I nq (prF (qM I nq) a b) a b v q = I q := fun q h4 => tlN_hi h4
    generalize tlN I I nq (prF (qM I nq) a b) a b v = K at *
    have r35 := r 35 (by decide)
    have hn' : Mp K n := by unfold Mp; rw [r35]; exact hn
    have hq' : Mq K nq := by unfold Mq; rw [r35]; exact hq
    have hm' : Mm K mm := by unfold Mm; rw [r35]; exact hm
    have hM' : MIv K := by unfold MIv; rw [r 36 (by decide), r 37 (by decide), r 38 (by decide), r 39 (by decide), r 43 (by decide), r 44 (by decide), r 45 (by decide), r 46 (by decide), r 47 (by decide)]; exact hM
    have ek : neK K nq a b v = neK I nq a b v := by unfold neK qM; rw [r 40 (by decide), r 41 (by decide), r 42 (by decide)]
    refine (cp_near (I := K) (n := n) (nq := nq) (mm := mm) hE1 a b v hF hn' hq' hM' hm').conseq (fun v2 J2 S2 q => ?_)
    obtain ⟨q1, hE2, q3⟩ := q
    rw [ek, if_pos hk] at hE2
    rw [ek] at q1
    rw [q3]
    obtain ⟨nq', hinv⟩ := hinv
    exact ⟨q1, _, n, nq', mm, hE2, hinv⟩
  · rw [if_neg hk] at hE1
    refine (cp_near hE1 a b v hF hn hq hM hm).conseq (fun v2 J2 S2 q => ?_)
    obtain ⟨q1, hE2, q3⟩ := q
    rw [if_neg hk] at hE2
    rw [q3]
    exact ⟨q1, I, n, nq, mm, hE2, hI⟩
theorem lq_letter (h : LQI J S) (m l : Int32) : LQP 2 2 0 0 mX6_letter mX7_letter [.int m, .int l] J S := by
  obtain ⟨I, n, nq, mm, hE, hI⟩ := h
  obtain ⟨⟨hF, hC, hn, hq, hcq, hM, hm, hz⟩, ⟨hL, hR, hJ, hP⟩, hl, hZ⟩ := id hI
  intro g
  refine ⟨if ltK I n m l = true then nI ((I 45 m.toNatClampNeg).toNatClampNeg + 1) else -1, (cb_letter hE m l hF hC hn hq hcq hM hm hz).conseq (fun v1 J1 S1 q => ?_)⟩
  obtain ⟨q1, hE1, q3⟩ := q
  rw [q3]
  refine ⟨q1, fx35 hF, ?_⟩
  by_cases hk : ltK I n m l = true
  · rw [if_pos hk] at hE1
    have hinv := hI.letter hk
    have r : ∀ q, q < 58 → alN I I m.toNatClampNeg l q = I q := fun q h4 => alN_lo h4
    have ek : ltK (alN I I m.toNatClampNeg l) n m l = ltK I n m l := ltK_al
    generalize alN I I m.toNatClampNeg l = K at *
    have r35 := r 35 (by decide)
    have hn' : Mp K n := by unfold Mp; rw [r35]; exact hn
    have hq' : Mq K nq := by unfold Mq; rw [r35]; exact hq
    have hm' : Mm K mm := by unfold Mm; rw [r35]; exact hm
    have hM' : MIv K := by unfold MIv; rw [r 36 (by decide), r 37 (by decide), r 38 (by decide), r 39 (by decide), r 43 (by decide), r 44 (by decide), r 45 (by decide), r 46 (by decide), r 47 (by decide)]; exact hM
    refine (cp_letter (I := K) (n := n) (nq := nq) (mm := mm) hE1 m l hF hn' hq' hM' hm').conseq (fun v2 J2 S2 q => ?_)
    obtain ⟨q1, hE2, q3⟩ := q
    rw [ek, if_pos hk] at hE2
    rw [ek, r 45 (by decide)] at q1
    rw [q3]
    exact ⟨q1, _, n, nq, mm, hE2, hinv⟩
  · rw [if_neg hk] at hE1
    refine (cp_letter hE1 m l hF hn hq hM hm).conseq (fun v2 J2 S2 q => ?_)
    obtain ⟨q1, hE2, q3⟩ := q
    rw [if_neg hk] at hE2
    rw [q3]
    exact ⟨q1, I, n, nq, mm, hE2, hI⟩
theorem lq_code (h : LQI J S) (m l : Int32) : LQP 2 2 0 0 mX6_code mX7_code [.int m, .int l] J S := by
  obtain ⟨I, n, nq, mm, hE, hI⟩ := h
  obtain ⟨⟨hF, hC, hn, hq, hcq, hM, hm, hz⟩, ⟨hL, hR, hJ, hP⟩, hl, hZ⟩ := id hI
  intro g
  refine ⟨if cdK I n m l = true then nI ((I 47 m.toNatClampNeg).toNatClampNeg + 1) else -1, (cb_code hE m l hF hC hn hq hcq hM hm hz).conseq (fun v1 J1 S1 q => ?_)⟩
  obtain ⟨q1, hE1, q3⟩ := q
  rw [q3]
  refine ⟨q1, fx35 hF, ?_⟩
  by_cases hk : cdK I n m l = true
  · rw [if_pos hk] at hE1
    have hinv := hI.code hk
    have r : ∀ q, q < 58 → acN I I m.toNatClampNeg l q = I q := fun q h4 => acN_lo h4
    have ek : cdK (acN I I m.toNatClampNeg l) n m l = cdK I n m l := cdK_ac
    generalize acN I I m.toNatClampNeg l = K at *
    have r35 := r 35 (by decide)
    have hn' : Mp K n := by unfold Mp; rw [r35]; exact hn
    have hq' : Mq K nq := by unfold Mq; rw [r35]; exact hq
    have hm' : Mm K mm := by unfold Mm; rw [r35]; exact hm
    have hM' : MIv K := by unfold MIv; rw [r 36 (by decide), r 37 (by decide), r 38 (by decide), r 39 (by decide), r 43 (by decide), r 44 (by decide), r 45 (by decide), r 46 (by decide), r 47 (by decide)]; exact hM
    refine (cp_code (I := K) (n := n) (nq := nq) (mm := mm) hE1 m l hF hn' hq' hM' hm').conseq (fun v2 J2 S2 q => ?_)
    obtain ⟨q1, hE2, q3⟩ := q
    rw [ek, if_pos hk] at hE2
    rw [ek, r 47 (by decide)] at q1
    rw [q3]
    exact ⟨q1, _, n, nq, mm, hE2, hinv⟩
  · rw [if_neg hk] at hE1
    refine (cp_code hE1 m l hF hn hq hM hm).conseq (fun v2 J2 S2 q => ?_)
    obtain ⟨q1, hE2, q3⟩ := q
    rw [if_neg hk] at hE2
    rw [q3]
    exact ⟨q1, I, n, nq, mm, hE2, hI⟩
theorem lq_mark (h : LQI J S) (k p : Int32) : LQP 2 2 3 58 mX6_mark mX7_mark [.int k, .int p] J S := by
  obtain ⟨I, n, nq, mm, hE, hI⟩ := h
  obtain ⟨⟨hF, hC, hn, hq, hcq, hM, hm, hz⟩, ⟨hL, hR, hJ, hP⟩, hl, hZ⟩ := id hI
  intro g
  obtain ⟨mr, h13, hml, hmr⟩ := hz.1
  refine ⟨if mrK mm k p = true then nI mm else -1, (cb_mark hE k p hF hC hn hq hcq hM hm hz hl h13 hml).conseq (fun v1 J1 S1 q => ?_)⟩
  rcases q with ⟨hk, q1, hE1, q3⟩ | ⟨hk, q1, hE1, q3⟩
  · have hinv := hI.mark h13 hml hmr hk
    have hm2 := hm.2
    rw [q3]
    refine ⟨by rw [if_pos hk]; exact q1, fx35 hinv.1.1, ?_⟩
    have r : ∀ q, q ≠ 0 → q < 58 → mkN I mm k p q = I q := fun q h0 h4 => mkN_lo h0 (by omega)
    generalize mkN I mm k p = K at *
    have r35 := r 35 (by decide) (by decide)
    have hn' : Mp K n := by unfold Mp; rw [r35]; exact hn
    have hq' : Mq K nq := by unfold Mq; rw [r35]; exact hq
    have hm' : Mm K mm := by unfold Mm; rw [r35]; exact hm
    have hM' : MIv K := by unfold MIv; rw [r 36 (by decide) (by decide), r 37 (by decide) (by decide), r 38 (by decide) (by decide), r 39 (by decide) (by decide), r 43 (by decide) (by decide), r 44 (by decide) (by decide), r 45 (by decide) (by decide), r 46 (by decide) (by decide), r 47 (by decide) (by decide)]; exact hM
    refine (cp_mark (I := K) (n := n) (nq := nq) (mm := mm) hE1 k p hinv.1.1 hn' hq' hM' hm').conseq (fun v2 J2 S2 q => ?_)
    obtain ⟨q1, hE2, q3⟩ := q
    rw [if_pos hk] at hE2
    rw [q3]
    exact ⟨q1, _, n, nq, mm + 1, hE2, hinv⟩
  · have hk' : ¬ mrK mm k p = true := by rw [hk]; decide
    rw [q3]
    refine ⟨by rw [if_neg hk']; exact q1, fx35 hF, ?_⟩
    refine (cp_mark hE1 k p hF hn hq hM hm).conseq (fun v2 J2 S2 q => ?_)
    obtain ⟨q1, hE2, q3⟩ := q
    rw [if_neg hk'] at hE2
    rw [q3]
    exact ⟨q1, I, n, nq, mm, hE2, hI⟩
theorem lq_paper (h : LQI J S) (k m x t : Int32) : LQP 4 4 0 0 mX6_paper mX7_paper [.int k, .int m, .int x, .int t] J S := by
  obtain ⟨I, n, nq, mm, hE, hI⟩ := h
  obtain ⟨⟨hF, hC, hn, hq, hcq, hM, hm, hz⟩, ⟨hL, hR, hJ, hP⟩, hl, hZ⟩ := id hI
  intro g
  refine ⟨if pkB I n k m x t = true then nI n else -1, (cb_paper hE k m x t hF hC hn hq hcq hM hm hz hL).conseq (fun v1 J1 S1 q => ?_)⟩
  obtain ⟨q1, hE1, q3⟩ := q
  rw [q3]
  refine ⟨q1, fx35 hF, ?_⟩
  by_cases hk : pkB I n k m x t = true
  · rw [if_pos hk] at hE1
    have ek : pkB (paN I n k m x t) n k m x t = pkB I n k m x t := rfl
    refine (cp_paper (I := paN I n k m x t) (n := n) (nq := nq) (mm := mm) hE1 k m x t hF hn hq hM hm).conseq (fun v2 J2 S2 q => ?_)
    obtain ⟨q1, hE2, q3⟩ := q
    rw [ek, if_pos hk] at hE2
    rw [ek] at q1
    rw [q3]
    exact ⟨q1, _, n + 1, nq, mm, hE2, hI.paper hk⟩
  · rw [if_neg hk] at hE1
    refine (cp_paper hE1 k m x t hF hn hq hM hm).conseq (fun v2 J2 S2 q => ?_)
    obtain ⟨q1, hE2, q3⟩ := q
    rw [if_neg hk] at hE2
    rw [q3]
    exact ⟨q1, I, n, nq, mm, hE2, hI⟩
theorem opK_pa {I : IM} {n nq : Nat} {k m x t m' b' t' : Int32} : opK (paN I n k m x t) n nq m' b' t' = opK I n nq m' b' t' := rfl
theorem lq_oppose (h : LQI J S) (m b t : Int32) : LQP 6 8 0 0 mX6_oppose mX7_oppose [.int m, .int b, .int t] J S := by
  obtain ⟨I, n, nq, mm, hE, hI⟩ := h
  obtain ⟨⟨hF, hC, hn, hq, hcq, hM, hm, hz⟩, ⟨hL, hR, hJ, hP⟩, hl, hZ⟩ := id hI
  intro g
  refine ⟨if opK I n nq m b t = true then (if pkB I n 4 m 0 t = true then nI n else -1) else -1, (cb_oppose hE m b t hF hC hn hq hcq hM hm hz hL hR).conseq (fun v1 J1 S1 q => ?_)⟩
  obtain ⟨q1, hE1, q3⟩ := q
  rw [q3]
  refine ⟨q1, fx35 hF, ?_⟩
  by_cases ho : opK I n nq m b t = true
  · by_cases hk : pkB I n 4 m 0 t = true
    · rw [if_pos ho, if_pos hk] at hE1
      have ek : pkB (paN I n 4 m 0 t) n 4 m 0 t = pkB I n 4 m 0 t := rfl
      refine (cp_oppose (I := paN I n 4 m 0 t) (n := n) (nq := nq) (mm := mm) hE1 m b t hF hn hq hM hm).conseq (fun v2 J2 S2 q => ?_)
      obtain ⟨q1, hE2, q3⟩ := q
      rw [opK_pa, ek, if_pos ho, if_pos hk] at hE2
      rw [opK_pa, ek] at q1
      rw [q3]
      exact ⟨q1, _, n + 1, nq, mm, hE2, hI.paper hk⟩
    · rw [if_pos ho, if_neg hk] at hE1
      refine (cp_oppose hE1 m b t hF hn hq hM hm).conseq (fun v2 J2 S2 q => ?_)
      obtain ⟨q1, hE2, q3⟩ := q
      rw [if_pos ho, if_neg hk] at hE2
      rw [q3]
      exact ⟨q1, I, n, nq, mm, hE2, hI⟩
  · rw [if_neg ho] at hE1
    refine (cp_oppose hE1 m b t hF hn hq hM hm).conseq (fun v2 J2 S2 q => ?_)
    obtain ⟨q1, hE2, q3⟩ := q
    rw [if_neg ho] at hE2
    rw [q3]
    exact ⟨q1, I, n, nq, mm, hE2, hI⟩
theorem lq_undo (h : LQI J S) : LQP 1 0 0 0 mX6_undo mX7_undo [] J S := by
  obtain ⟨I, n, nq, mm, hE, hI⟩ := h
  obtain ⟨⟨hF, hC, hn, hq, hcq, hM, hm, hz⟩, ⟨hL, hR, hJ, hP⟩, hl, hZ⟩ := id hI
  intro g
  refine ⟨if n = 0 then -1 else nI (n - 1), (cb_undo hE hF hC hn hq hcq hM hm hz).conseq (fun v1 J1 S1 q => ?_)⟩
  obtain ⟨q1, hE1, q3⟩ := q
  rw [q3]
  refine ⟨q1, fx35 hF, ?_⟩
  by_cases hk : n = 0
  · rw [if_pos hk] at hE1
    refine (cp_undo hE1 hF hn hq hM hm).conseq (fun v2 J2 S2 q => ?_)
    obtain ⟨q1, hE2, q3⟩ := q
    rw [if_pos hk] at hE2
    rw [q3]
    exact ⟨q1, I, n, nq, mm, hE2, hI⟩
  · rw [if_neg hk] at hE1
    refine (cp_undo (I := va_up I 14 (upd (I 14) 4 (nI (n - 1)))) (n := n) (nq := nq) (mm := mm) hE1 hF hn hq hM hm).conseq (fun v2 J2 S2 q => ?_)
    obtain ⟨q1, hE2, q3⟩ := q
    rw [if_neg hk] at hE2
    rw [q3]
    exact ⟨q1, _, n - 1, nq, mm, hE2, hI.undo hk⟩
end LPS
