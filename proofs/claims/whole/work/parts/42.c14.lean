/-- goods of papers GOODS are from 0 to 359 -/
def RX (I : IM) (n : Nat) : Prop := ∀ i, i < n → I 49 i = 0 → rg (I 51 i) 359
theorem gS_rg {I : IM} {n : Nat} {m t : Int32} (hR : RX I n) {r : Nat} (hr : r < (gS (pM I n) m t).1) : rg ((gS (pM I n) m t).2 r) 359 := by
  obtain ⟨h1, j, hj, h2, h3⟩ := ((gi_all (p := pM I n) (m := m) (t := t) (f0 := fun _ => 0) n).2 _).mp ⟨r, hr, rfl⟩
  have e : (gS (pM I n) m t).2 r = I 51 j := h3.symm
  rw [e]
  refine hR j hj ?_
  unfold gdC at h2
  simp only [Bool.and_eq_true, decide_eq_true_eq] at h2
  exact h2.1
theorem VB_rg {I : IM} {n : Nat} {m t : Int32} {G Sn Us Gv : Nat → Int32} {K q : Nat} (hn4 : n ≤ 400) (hR : RX I n) (hB : VB I n m t G Sn Us Gv K) (hq : q < K) : rg (G q) 359 := by
  have hp := hB.1 q hq
  obtain ⟨r, hr, e⟩ := (gS_mem (m := m) (t := t) hn4 hp.1).mpr (by rw [← hp.2.1]; exact hp.2.2.1)
  rw [← e]
  exact gS_rg hR hr
theorem pr_nn2 {a b : Int32} (ha : rg a 359) (hb : rg b 359) : ¬ 360 * a + b < 0 := by
  rw [pr_nI ha hb]
  have := ha.2
  have := hb.2
  exact nI_pos (by omega)
theorem ch_sa {p : PL} {q : NP} {lv a b c t g h : Int32} (e : chF p q lv a b c t g h = true) : standsF p a g c t = true ∧ standsF p b h c t = true := by
  unfold chF at e
  simp only [Bool.and_eq_true] at e
  exact ⟨e.2.1, e.2.2.1⟩
theorem mn_emp {Q : Int32 → Prop} {x : Int32} (h : isMn Q x) (he : ∀ y, ¬ Q y) : x = -1 := h.elim (fun h => h.1) (fun h => absurd h.1 (he x))
theorem co_is {I : IM} {n nq a b : Nat} {c t : Int32} (hR : RX I n) (hmc : mcF I n a b t = true) : isMn (fun y => ∃ i j, i < (gS (pM I n) (nI a) t).1 ∧ j < (gS (pM I n) (nI b) t).1 ∧ chF (pM I n) (qM I nq) (I 35 9) (nI a) (nI b) c t ((gS (pM I n) (nI a) t).2 i) ((gS (pM I n) (nI b) t).2 j) = true ∧ 360 * (gS (pM I n) (nI a) t).2 i + (gS (pM I n) (nI b) t).2 j = y) (coF I n nq a b c t) := by
  unfold coF
  rw [if_pos hmc]
  exact co_mn gS_srt gS_srt (fun i hi => gS_rg hR hi) (fun i hi => gS_rg hR hi)
theorem cr_is {I : IM} {n nq a b : Nat} {c t : Int32} (hD : Dn I n) (hn4 : n ≤ 400) (hmc : mcF I n a b t = true) : isMn (fun y => ∃ i j, i < (gS (pM I n) (nI a) t).1 ∧ j < (gS (pM I n) (nI b) t).1 ∧ chF (pM I n) (qM I nq) (I 35 9) (nI a) (nI b) c t ((gS (pM I n) (nI a) t).2 i) ((gS (pM I n) (nI b) t).2 j) = true ∧ rightF (pM I n) (nI a) ((gS (pM I n) (nI a) t).2 i) c t = y) (crF I n nq a b c t) := by
  unfold crF
  rw [if_pos hmc]
  exact crI_mn (h := fun i j => chF (pM I n) (qM I nq) (I 35 9) (nI a) (nI b) c t ((gS (pM I n) (nI a) t).2 i) ((gS (pM I n) (nI b) t).2 j)) (r := fun i => rightF (pM I n) (nI a) ((gS (pM I n) (nI a) t).2 i) c t) _ (fun i j _ _ e => stands_r hD hn4 (ch_sa e).1)
theorem fc_no {I : IM} {n nq a b : Nat} {c t : Int32} (hmc : mcF I n a b t = false) : coF I n nq a b c t = -1 ∧ crF I n nq a b c t = -1 := by
  unfold coF crF
  rw [hmc]
  exact ⟨rfl, rfl⟩
theorem fc_emp {I : IM} {n nq a b : Nat} {c t : Int32} (hR : RX I n) (hD : Dn I n) (hn4 : n ≤ 400) (he : (∀ i, i < (gS (pM I n) (nI a) t).1 → standsF (pM I n) (nI a) ((gS (pM I n) (nI a) t).2 i) c t = false) ∨ (∀ j, j < (gS (pM I n) (nI b) t).1 → standsF (pM I n) (nI b) ((gS (pM I n) (nI b) t).2 j) c t = false)) : coF I n nq a b c t = -1 ∧ crF I n nq a b c t = -1 := by
  have no : ∀ i j, i < (gS (pM I n) (nI a) t).1 → j < (gS (pM I n) (nI b) t).1 → ¬ chF (pM I n) (qM I nq) (I 35 9) (nI a) (nI b) c t ((gS (pM I n) (nI a) t).2 i) ((gS (pM I n) (nI b) t).2 j) = true := fun i j hi hj e => by
    rcases he with z | z
    · have := (ch_sa e).1
      rw [z i hi] at this
      cases this
    · have := (ch_sa e).2
      rw [z j hj] at this
      cases this
  rcases Bool.eq_false_or_eq_true (mcF I n a b t) with hm | hm
  · exact ⟨mn_emp (co_is hR hm) (fun y ⟨i, j, h1, h2, h3, _⟩ => no i j h1 h2 h3), mn_emp (cr_is hD hn4 hm) (fun y ⟨i, j, h1, h2, h3, _⟩ => no i j h1 h2 h3)⟩
  · exact fc_no hm
theorem an_none {I : IM} {n : Nat} {m c t : Int32} {G Sn Us Gv : Nat → Int32} {K : Nat} (hn4 : n ≤ 400) (hx : ∀ j, j < n → ¬ I 51 j = -1) (hB : VB I n m t G Sn Us Gv K) (h : anU (fun q => standsF (pM I n) m (G q) c t) K = false) : ∀ i, i < (gS (pM I n) m t).1 → standsF (pM I n) m ((gS (pM I n) m t).2 i) c t = false := fun i hi => by
  rcases Bool.eq_false_or_eq_true (standsF (pM I n) m ((gS (pM I n) m t).2 i) c t) with z | z
  · have := anU_iff.mpr ((vw_ex hn4 hx hB (fun g => standsF (pM I n) m g c t = true)).mpr ⟨i, hi, z⟩)
    rw [h] at this
    cases this
  · exact z
theorem fc_fin {I : IM} {n nq a b : Nat} {c t : Int32} {G Sn Us Gv G2 Sn2 Us2 Gv2 : Nat → Int32} {KE KY : Nat} {f : Nat → Int32} (hR : RX I n) (hD : Dn I n) (hn4 : n ≤ 400) (hx : ∀ j, j < n → ¬ I 51 j = -1) (hB : VB I n (nI a) t G Sn Us Gv KE) (hB2 : VB I n (nI b) t G2 Sn2 Us2 Gv2 KY) (hmc : mcF I n a b t = true) (hcm : CM (fun r q => chF (pM I n) (qM I nq) (I 35 9) (nI a) (nI b) c t (G q) (G2 r)) (fun r q => 360 * G q + G2 r) (fun r q => rightF (pM I n) (nI a) (G q) c t) KE KY 0 f) : f 0 = coF I n nq a b c t ∧ f 1 = crF I n nq a b c t := by
  have key : ∀ (w : Int32 → Int32 → Int32) (y : Int32), hS (fun r q => chF (pM I n) (qM I nq) (I 35 9) (nI a) (nI b) c t (G q) (G2 r)) (fun r q => w (G q) (G2 r)) KE KY 0 y ↔ ∃ i j, i < (gS (pM I n) (nI a) t).1 ∧ j < (gS (pM I n) (nI b) t).1 ∧ chF (pM I n) (qM I nq) (I 35 9) (nI a) (nI b) c t ((gS (pM I n) (nI a) t).2 i) ((gS (pM I n) (nI b) t).2 j) = true ∧ w ((gS (pM I n) (nI a) t).2 i) ((gS (pM I n) (nI b) t).2 j) = y := fun w y => by
    constructor
    · rintro ⟨r, q, e, h1, h2⟩
      obtain ⟨i, hi, j, hj, z⟩ := (vw_ex hn4 hx hB (fun g => ∃ j, j < (gS (pM I n) (nI b) t).1 ∧ chF (pM I n) (qM I nq) (I 35 9) (nI a) (nI b) c t g ((gS (pM I n) (nI b) t).2 j) = true ∧ w g ((gS (pM I n) (nI b) t).2 j) = y)).mp ⟨q, by omega, (vw_ex hn4 hx hB2 (fun h => chF (pM I n) (qM I nq) (I 35 9) (nI a) (nI b) c t (G q) h = true ∧ w (G q) h = y)).mp ⟨r, by omega, h1, h2⟩⟩
      exact ⟨i, j, hi, hj, z⟩
    · rintro ⟨i, j, hi, hj, z⟩
      obtain ⟨q, hq, r, hr, z⟩ := (vw_ex hn4 hx hB (fun g => ∃ r, r < KY ∧ chF (pM I n) (qM I nq) (I 35 9) (nI a) (nI b) c t g (G2 r) = true ∧ w g (G2 r) = y)).mpr ⟨i, hi, (vw_ex hn4 hx hB2 (fun h => chF (pM I n) (qM I nq) (I 35 9) (nI a) (nI b) c t ((gS (pM I n) (nI a) t).2 i) h = true ∧ w ((gS (pM I n) (nI a) t).2 i) h = y)).mpr ⟨j, hj, z⟩⟩
      exact ⟨r, q, by omega, z.1, z.2⟩
  exact ⟨mn_uniq (mn_iff (key (fun g h => 360 * g + h)) hcm.1) (co_is hR hmc), mn_uniq (mn_iff (key (fun g _ => rightF (pM I n) (nI a) g c t)) hcm.2) (cr_is hD hn4 hmc)⟩
theorem AX.ex {I J J' : IM} (h : AX J J') (hE : Ex I J) : Ex I J' := fun a ha => by
  rw [h a, hE a ha]
  refine Decidable.byContradiction (fun z => ?_)
  have : a = 29 ∨ a = 30 ∨ a = 31 ∨ a = 32 ∨ a = 33 ∨ a = 34 := by omega
  rcases this with q | q | q | q | q | q <;> (rw [q] at ha; revert ha; decide)
def CLQ (I : IM) (S : SH) (n nq a b : Nat) (c t : Int32) : ZQ := fun v J' T => v = none ∧ Ex I J' ∧ J' 34 0 = coF I n nq a b c t ∧ J' 34 1 = crF I n nq a b c t ∧ T = S
theorem mc_f1 {I : IM} {n a b : Nat} {t : Int32} (h : decide (I 44 a = I 44 b) = true) : mcF I n a b t = false := by
  unfold mcF; rw [h]; rfl
theorem mc_f2 {I : IM} {n a b : Nat} {t : Int32} (h : (!decide (latF (pM I n) 5 (nI a) (I 44 b) t < 0)) = true) : mcF I n a b t = false := by
  unfold mcF leF; rw [h]; cases decide (I 44 a = I 44 b) <;> rfl
theorem mc_f3 {I : IM} {n a b : Nat} {t : Int32} (h : alM I a b = false) : mcF I n a b t = false := by
  unfold mcF; rw [h]; cases decide (I 44 a = I 44 b) <;> cases leF (pM I n) (nI a) (I 44 b) t <;> rfl
theorem mc_t {I : IM} {n a b : Nat} {t : Int32} (h1 : decide (I 44 a = I 44 b) = false) (h2 : (!decide (latF (pM I n) 5 (nI a) (I 44 b) t < 0)) = false) (h3 : alM I a b = true) : mcF I n a b t = true := by
  unfold mcF leF; rw [h1, h2, h3]; rfl
set_option maxHeartbeats 4000000 in
set_option maxRecDepth 100000 in
theorem lc_fc {g : GP} {I : IM} {S : SH} (hF : Fx S) (hC : Cp I) {n : Nat} (hn : Mp I n) {nq : Nat} (hq : Mq I nq) (hcq : Cq I nq) (hM : MIv I) {mm : Nat} (hm : Mm I mm) (hz : Mz I S mm) (hL : LG I n) (hR : RX I n) {JB : IM} {a b KE KY : Nat} {c t : Int32} (ha : a < mm) (hb : b < mm) (hc : ¬ c = -1) (hAB : VA I n (nI a) c t (JB 19) KE) (hBB : VB I n (nI a) t (JB 20) (JB 21) (JB 22) (JB 23) KE) (hAyB : VA I n (nI b) c t (JB 24) KY) (hByB : VB I n (nI b) t (JB 25) (JB 26) (JB 27) (JB 28) KY) (hnp : ∀ r q, r < KY → q < KE → (fun r q => chF (pM I n) (qM I nq) (I 35 9) (nI a) (nI b) c t (JB 20 q) (JB 25 r)) r q = true → ¬ (fun r q => 360 * JB 20 q + JB 25 r) r q < 0) (hnr : ∀ r q, r < KY → q < KE → (fun r q => chF (pM I n) (qM I nq) (I 35 9) (nI a) (nI b) c t (JB 20 q) (JB 25 r)) r q = true → ¬ (fun r q => rightF (pM I n) (nI a) (JB 20 q) c t) r q < 0) (hEB : Ex I JB) (hmc : mcF I n a b t = true) : ∀ r, r ≤ KY → ∀ J, AX JB J → CM (fun r q => chF (pM I n) (qM I nq) (I 35 9) (nI a) (nI b) c t (JB 20 q) (JB 25 r)) (fun r q => 360 * JB 20 q + JB 25 r) (fun r q => rightF (pM I n) (nI a) (JB 20 q) c t) KE r 0 (J 34) → Z g 5 0 0 mX6_findClash 112 [.ref 0, .int (nI a), .int (nI b), .int c, .int t, .ref (58 + 3 * b), .int (nI r)] [] J S (CLQ I S n nq a b c t) := by
  have hn2 := hn.2
  have hq2 := hq.2
  have hm2 := hm.2
  have hD := hL.1
  have hso := hL.2.1
  have hKE := hAB.2.2.2.2.2.2.2.2.2
  have hKY := hAyB.2.2.2.2.2.2.2.2.2
  refine upZ KY (fun r hi ih J hx hcm => ?_)
  have hE := AX.ex hx hEB
  have hA : VA I n (nI a) c t (J 19) KE := by rw [hx 19 (by omega)]; exact hAB
  have hB : VB I n (nI a) t (J 20) (J 21) (J 22) (J 23) KE := by rw [hx 20 (by omega), hx 21 (by omega), hx 22 (by omega), hx 23 (by omega)]; exact hBB
  have hAy : VA I n (nI b) c t (J 24) KY := by rw [hx 24 (by omega)]; exact hAyB
  have hBy : VB I n (nI b) t (J 25) (J 26) (J 27) (J 28) KY := by rw [hx 25 (by omega), hx 26 (by omega), hx 27 (by omega), hx 28 (by omega)]; exact hByB
  refine Z.iload dX6_findClash_112 rfl ?_
  refine Z.aload_n dX6_findClash_114 rfl ?_
  refine Z.getR (r := 24) dX6_findClash_115 cl6 flX6_53 (by decide) (fx0 hF) rfl ?_
  refine Z.getIv (v := nI KY) dX6_findClash_118 cl5 flX6_215 (by decide) (fx24 hF) (hAy.2.2.2.2.2.2.2.2.1) ?_
  refine Z.icmp_geN (a := r) (b := KY) (by omega) (by omega) (tgt := 151) dX6_findClash_121 (by decide) (fun h1 => ?_) (fun h1 => ?_)
  · exact Z.vret dX6_findClash_151 rfl (by rw [show r = KY by omega] at hcm; have e := fc_fin hR hD hn2 (fun j hj => (hL.2.2 j hj).2.2.2) hBB hByB hmc hcm; exact ⟨rfl, hE, e.1, e.2, rfl⟩)
  · refine Z.aload_n dX6_findClash_124 rfl ?_
    refine Z.getR (r := 24) dX6_findClash_125 cl6 flX6_53 (by decide) (fx0 hF) rfl ?_
    refine Z.iload dX6_findClash_128 rfl ?_
    refine Z.callVp (M := mX6_findClash) (pc := 130) (st := []) (N := mX5_standsAt) (n := 1) (r := .int (bI (standsF (pM I n) (nI b) (JB 25 r) c t))) dX6_findClash_130 mlX6_202 mkX5_standsAt imX5_standsAt seX5_standsAt (fx24 hF) cl5 rfl (d1 := 3) (by decide) (As := [.int (nI r)]) rfl ⟨rfl, Nat.le_of_ble_eq_true rfl⟩ ⟨rfl, Nat.le_of_ble_eq_true rfl⟩ (by have e := cq_standsAtT24 (g := g) (J := J) hE hF hC hn2 hD hAy hBy (by omega) hc; rw [show J 25 r = JB 25 r from (congrFun (hx 25 (by omega)) r)] at e; exact e) rfl ?_
    refine Z.if_eqB (tgt := 145) dX6_findClash_133 (by decide) (fun h2 => ?_) (fun h2 => ?_)
    · refine Z.iinc (v := nI (r + 1)) (L' := [.ref 0, .int (nI a), .int (nI b), .int c, .int t, .ref (58 + 3 * b), .int (nI (r + 1))]) dX6_findClash_145 rfl (nI_1 _) rfl ?_
      refine Z.goto (tgt := 112) dX6_findClash_148 (by decide) ?_
      exact ih (by omega) _ hx (CM_sk (fun q => by show (fun r q => chF (pM I n) (qM I nq) (I 35 9) (nI a) (nI b) c t (JB 20 q) (JB 25 r)) r q = false; simp [chF, h2]) hcm)
    · refine Z.aload_n dX6_findClash_136 rfl ?_
      refine Z.iload dX6_findClash_137 rfl ?_
      refine Z.iload_n dX6_findClash_139 rfl ?_
      refine Z.iload_n dX6_findClash_140 rfl ?_
      refine Z.iload_n dX6_findClash_141 rfl ?_
      refine Z.callVg (M := mX6_findClash) (pc := 142) (st := []) (N := mX6_findClashOver) (n := 4) dX6_findClash_142 mlX6_294 mkX6_findClashOver imX6_findClashOver seX6_findClashOver (fx0 hF) cl6 rfl (d1 := 4) (by decide) (As := [.int (nI r), .int (nI a), .int (nI b), .int c]) rfl ⟨rfl, Nat.le_of_ble_eq_true rfl⟩ ⟨rfl, Nat.le_of_ble_eq_true rfl⟩ (cc_fco hE hF hC hn hq hcq hM hm hz hL ha hb hc hAB hBB hAyB hByB hnp hnr (by omega) h2 hx hcm) rfl (fun v_ J1 S_ h_ => ?_)
      obtain ⟨rfl, hx2, hcm2, rfl⟩ := h_
      refine Z.iinc (v := nI (r + 1)) (L' := [.ref 0, .int (nI a), .int (nI b), .int c, .int t, .ref (58 + 3 * b), .int (nI (r + 1))]) dX6_findClash_145 rfl (nI_1 _) rfl ?_
      refine Z.goto (tgt := 112) dX6_findClash_148 (by decide) ?_
      exact ih (by omega) _ hx2 hcm2

set_option maxHeartbeats 4000000 in
set_option maxRecDepth 100000 in
theorem cc_findClash {g : GP} {I J : IM} {S : SH} (hE : Ex I J) (a b : Nat) (c t : Int32) (hF : Fx S) (hC : Cp I) {n : Nat} (hn : Mp I n) {nq : Nat} (hq : Mq I nq) (hcq : Cq I nq) (hM : MIv I) {mm : Nat} (hm : Mm I mm) (hz : Mz I S mm) (hL : LG I n) (hR : RX I n) (ha : a < mm) (hb : b < mm) (hc : ¬ c = -1) : Z g 5 0 0 mX6_findClash 0 (enL mX6_findClash [.ref 0, .int (nI a), .int (nI b), .int c, .int t]) [] J S (CLQ I S n nq a b c t) := by
  show Z g 5 0 0 mX6_findClash 0 [.ref 0, .int (nI a), .int (nI b), .int c, .int t, .retAddr 0, .retAddr 0] [] J S _
  have hn2 := hn.2
  have hq2 := hq.2
  have hm2 := hm.2
  have hD := hL.1
  have hso := hL.2.1
  refine Z.aload_n dX6_findClash_0 rfl ?_
  refine Z.getR (r := 34) dX6_findClash_1 cl6 flX6_62 (by decide) (fx0 hF) rfl ?_
  refine Z.callVg (M := mX6_findClash) (pc := 4) (st := []) (N := mX0_clear) (n := 0) dX6_findClash_4 mlX6_288 mkX0_clear imX0_clear seX0_clear (fx34 hF) cl0 rfl (d1 := 0) (by decide) (As := []) rfl ⟨rfl, Nat.le_of_ble_eq_true rfl⟩ ⟨rfl, Nat.le_of_ble_eq_true rfl⟩ (cc_clear0 hE hF) rfl (fun v_ J1 S_ h_ => ?_)
  obtain ⟨rfl, rfl, rfl⟩ := h_
  refine Z.aload_n dX6_findClash_7 rfl ?_
  refine Z.iload_n dX6_findClash_8 rfl ?_
  have l_b : b < mm := by omega
  have h_b : b < 120 := by omega
  have ho_b := hz.2 _ l_b
  have hl_b := hM.2.2.1 _ h_b
  have hc_b := hM.2.2.2.1 _ h_b
  have hl2_b := hl_b.2
  have hc2_b := hc_b.2
  have hcl_b := ho_b.2.2
  have h12_b := clL_le (I := I) (j := b)
  refine Z.callVp (M := mX6_findClash) (pc := 9) (st := []) (N := mX6_markAt) (n := 1) (r := .ref (58 + 3 * b)) dX6_findClash_9 mlX6_94 mkX6_markAt imX6_markAt seX6_markAt (fx0 hF) cl6 rfl (d1 := 1) (by decide) (As := [.int (nI b)]) rfl ⟨rfl, Nat.le_of_ble_eq_true rfl⟩ ⟨rfl, Nat.le_of_ble_eq_true rfl⟩ (cc_markAtN (hE.up (a := 34) rfl) b hF hC hm hz (by omega)) rfl ?_
  refine Z.astore (L' := [.ref 0, .int (nI a), .int (nI b), .int c, .int t, .ref (58 + 3 * b), .retAddr 0]) dX6_findClash_12 (Nat.le_of_ble_eq_true rfl) rfl ?_
  refine Z.aload dX6_findClash_14 rfl ?_
  refine Z.ifnull dX6_findClash_16 ?_
  refine Z.aload_n dX6_findClash_19 rfl ?_
  refine Z.iload_n dX6_findClash_20 rfl ?_
  refine Z.iload_n dX6_findClash_21 rfl ?_
  refine Z.callVp (M := mX6_findClash) (pc := 22) (st := []) (N := mX6_haveOneOwner) (n := 2) (r := .int (bI (decide (I 44 a = I 44 b)))) dX6_findClash_22 mlX6_238 mkX6_haveOneOwner imX6_haveOneOwner seX6_haveOneOwner (fx0 hF) cl6 rfl (d1 := 2) (by decide) (As := [.int (nI a), .int (nI b)]) rfl ⟨rfl, Nat.le_of_ble_eq_true rfl⟩ ⟨rfl, Nat.le_of_ble_eq_true rfl⟩ (cc_haveOneOwnerN (hE.up (a := 34) rfl) a b hF hC hn hq hcq hM hm hz (by omega) (by omega)) rfl ?_
  refine Z.if_eqB (tgt := 29) dX6_findClash_25 (by decide) (fun h1 => ?_) (fun h1 => ?_)
  · refine Z.aload_n dX6_findClash_29 rfl ?_
    refine Z.getR (r := 19) dX6_findClash_30 cl6 flX6_49 (by decide) (fx0 hF) rfl ?_
    refine Z.aload_n dX6_findClash_33 rfl ?_
    refine Z.getR (r := 14) dX6_findClash_34 cl6 flX6_32 (by decide) (fx0 hF) rfl ?_
    refine Z.iload_n dX6_findClash_37 rfl ?_
    refine Z.iload_n dX6_findClash_38 rfl ?_
    refine Z.iload dX6_findClash_39 rfl ?_
    refine Z.callVg (M := mX6_findClash) (pc := 41) (st := []) (N := mX5_read) (n := 4) dX6_findClash_41 mlX6_118 mkX5_read imX5_read seX5_read (fx19 hF) cl5 rfl (d1 := 3) (by decide) (As := [.ref 14, .int (nI a), .int c, .int t]) rfl ⟨rfl, Nat.le_of_ble_eq_true rfl⟩ ⟨rfl, Nat.le_of_ble_eq_true rfl⟩ (cv_read19 (hE.up (a := 34) rfl) (nI a) c t hF hC hn hL) rfl (fun v_ J2 S_ h_ => ?_)
    obtain ⟨rfl, hw2, ⟨K19_2, hA19_2, hB19_2⟩, rfl⟩ := h_
    have hE := AW19.ex hw2 (hE.up (a := 34) rfl)
    have hK19_2 := hA19_2.2.2.2.2.2.2.2.2.2
    refine Z.aload_n dX6_findClash_44 rfl ?_
    refine Z.getR (r := 19) dX6_findClash_45 cl6 flX6_49 (by decide) (fx0 hF) rfl ?_
    refine Z.callVp (M := mX6_findClash) (pc := 48) (st := []) (N := mX5_standsForAny) (n := 0) (r := .int (bI (anU (fun q => standsF (pM I n) (nI a) (J2 20 q) c t) K19_2))) dX6_findClash_48 mlX6_291 mkX5_standsForAny imX5_standsForAny seX5_standsForAny (fx19 hF) cl5 rfl (d1 := 4) (by decide) (As := []) rfl ⟨rfl, Nat.le_of_ble_eq_true rfl⟩ ⟨rfl, Nat.le_of_ble_eq_true rfl⟩ (cq_standsForAny19 hE hF hC hn2 hD hA19_2 hB19_2 hc) rfl ?_
    refine Z.if_neB (tgt := 55) dX6_findClash_51 (by decide) (fun h3 => ?_) (fun h3 => ?_)
    · refine Z.aload_n dX6_findClash_55 rfl ?_
      refine Z.getR (r := 24) dX6_findClash_56 cl6 flX6_53 (by decide) (fx0 hF) rfl ?_
      refine Z.aload_n dX6_findClash_59 rfl ?_
      refine Z.getR (r := 14) dX6_findClash_60 cl6 flX6_32 (by decide) (fx0 hF) rfl ?_
      refine Z.iload_n dX6_findClash_63 rfl ?_
      refine Z.iload_n dX6_findClash_64 rfl ?_
      refine Z.iload dX6_findClash_65 rfl ?_
      refine Z.callVg (M := mX6_findClash) (pc := 67) (st := []) (N := mX5_read) (n := 4) dX6_findClash_67 mlX6_118 mkX5_read imX5_read seX5_read (fx24 hF) cl5 rfl (d1 := 3) (by decide) (As := [.ref 14, .int (nI b), .int c, .int t]) rfl ⟨rfl, Nat.le_of_ble_eq_true rfl⟩ ⟨rfl, Nat.le_of_ble_eq_true rfl⟩ (cv_read24 hE (nI b) c t hF hC hn hL) rfl (fun v_ J3 S_ h_ => ?_)
      obtain ⟨rfl, hw4, ⟨K24_4, hA24_4, hB24_4⟩, rfl⟩ := h_
      have hE := AW24.ex hw4 hE
      have hK24_4 := hA24_4.2.2.2.2.2.2.2.2.2
      have hA19_5 : VA I n (nI a) c t (J3 19) K19_2 := by rw [hw4 19 (by omega)]; exact hA19_2
      have hB19_5 : VB I n (nI a) t (J3 20) (J3 21) (J3 22) (J3 23) K19_2 := by rw [hw4 20 (by omega), hw4 21 (by omega), hw4 22 (by omega), hw4 23 (by omega)]; exact hB19_2
      refine Z.aload_n dX6_findClash_70 rfl ?_
      refine Z.getR (r := 24) dX6_findClash_71 cl6 flX6_53 (by decide) (fx0 hF) rfl ?_
      refine Z.callVp (M := mX6_findClash) (pc := 74) (st := []) (N := mX5_standsForAny) (n := 0) (r := .int (bI (anU (fun q => standsF (pM I n) (nI b) (J3 25 q) c t) K24_4))) dX6_findClash_74 mlX6_291 mkX5_standsForAny imX5_standsForAny seX5_standsForAny (fx24 hF) cl5 rfl (d1 := 4) (by decide) (As := []) rfl ⟨rfl, Nat.le_of_ble_eq_true rfl⟩ ⟨rfl, Nat.le_of_ble_eq_true rfl⟩ (cq_standsForAny24 hE hF hC hn2 hD hA24_4 hB24_4 hc) rfl ?_
      refine Z.if_eqB (tgt := 108) dX6_findClash_77 (by decide) (fun h6 => ?_) (fun h6 => ?_)
      · exact Z.vret dX6_findClash_108 rfl (by have e := fc_emp (nq := nq) (a := a) (b := b) hR hD hn2 (Or.inr (an_none hn2 (fun j hj => (hL.2.2 j hj).2.2.2) hB24_4 h6)); exact ⟨rfl, hE, by rw [e.1]; exact (by rw [hw4 34 (by omega), hw2 34 (by omega)] <;> rfl), by rw [e.2]; exact (by rw [hw4 34 (by omega), hw2 34 (by omega)] <;> rfl), rfl⟩)
      · refine Z.aload_n dX6_findClash_80 rfl ?_
        refine Z.getR (r := 14) dX6_findClash_81 cl6 flX6_32 (by decide) (fx0 hF) rfl ?_
        refine Z.iconst (v := 5) dX6_findClash_84 (by decide) ?_
        refine Z.iload_n dX6_findClash_85 rfl ?_
        refine Z.aload dX6_findClash_86 rfl ?_
        refine Z.getIv (v := I 44 b) dX6_findClash_88 cl1 flX6_169 (by decide) ho_b.1.1 ((hE.at (58 + 3 * b) 1 (scr58_0 b)).trans ho_b.2.1.2.1) ?_
        refine Z.iload dX6_findClash_91 rfl ?_
        refine Z.callVp (M := mX6_findClash) (pc := 93) (st := []) (N := mX3_tell) (n := 4) (r := .int (bI (!decide (latF (pM I n) 5 (nI a) (I 44 b) t < 0)))) dX6_findClash_93 mlX6_255 mkX3_tell imX3_tell seX3_tell (fx14 hF) cl3 rfl (d1 := 0) (by decide) (As := [.int 5, .int (nI a), .int (I 44 b), .int t]) rfl ⟨rfl, Nat.le_of_ble_eq_true rfl⟩ ⟨rfl, Nat.le_of_ble_eq_true rfl⟩ (cc_tell3 hE 5 (nI a) (I 44 b) t hF hC hn hso (fun z => rg_lt (hM.2.1 b (by omega)) (by decide) (by rw [z]; decide))) rfl ?_
        refine Z.if_neB (tgt := 108) dX6_findClash_96 (by decide) (fun h7 => ?_) (fun h7 => ?_)
        · exact Z.vret dX6_findClash_108 rfl (by have e := fc_no (nq := nq) (c := c) (mc_f2 h7); exact ⟨rfl, hE, by rw [e.1]; exact (by rw [hw4 34 (by omega), hw2 34 (by omega)] <;> rfl), by rw [e.2]; exact (by rw [hw4 34 (by omega), hw2 34 (by omega)] <;> rfl), rfl⟩)
        · refine Z.aload_n dX6_findClash_99 rfl ?_
          refine Z.iload_n dX6_findClash_100 rfl ?_
          refine Z.iload_n dX6_findClash_101 rfl ?_
          refine Z.callVg (M := mX6_findClash) (pc := 102) (st := []) (N := mX6_areAlike) (n := 2) dX6_findClash_102 mlX6_228 mkX6_areAlike imX6_areAlike seX6_areAlike (fx0 hF) cl6 rfl (d1 := 4) (by decide) (As := [.int (nI a), .int (nI b)]) rfl ⟨rfl, Nat.le_of_ble_eq_true rfl⟩ ⟨rfl, Nat.le_of_ble_eq_true rfl⟩ (cc_areAlikeN hE a b hF hC hn hq hcq hM hm hz (by omega) (by omega)) rfl (fun v_ J4 S_ h_ => ?_)
          obtain ⟨rfl, hw6, rfl⟩ := h_
          have hE := hw6.ex hE
          have hA19_8 : VA I n (nI a) c t (J4 19) K19_2 := by rw [hw6 19 (by omega)]; exact hA19_5
          have hB19_8 : VB I n (nI a) t (J4 20) (J4 21) (J4 22) (J4 23) K19_2 := by rw [hw6 20 (by omega), hw6 21 (by omega), hw6 22 (by omega), hw6 23 (by omega)]; exact hB19_5
          have hA24_9 : VA I n (nI b) c t (J4 24) K24_4 := by rw [hw6 24 (by omega)]; exact hA24_4
          have hB24_9 : VB I n (nI b) t (J4 25) (J4 26) (J4 27) (J4 28) K24_4 := by rw [hw6 25 (by omega), hw6 26 (by omega), hw6 27 (by omega), hw6 28 (by omega)]; exact hB24_4
          refine Z.if_neB (tgt := 109) dX6_findClash_105 (by decide) (fun h10 => ?_) (fun h10 => ?_)
          · refine Z.iconst (v := 0) dX6_findClash_109 (by decide) ?_
            refine Z.istore (L' := [.ref 0, .int (nI a), .int (nI b), .int c, .int t, .ref (58 + 3 * b), .int 0]) dX6_findClash_110 (Nat.le_of_ble_eq_true rfl) rfl ?_
            exact lc_fc (JB := J4) hF hC hn hq hcq hM hm hz hL hR ha hb hc hA19_8 hB19_8 hA24_9 hB24_9 (fun r q hr hq e => pr_nn2 (VB_rg hn2 hR hB19_8 hq) (VB_rg hn2 hR hB24_9 hr)) (fun r q hr hq e => stands_r hD hn2 (ch_sa e).1) hE (mc_t h1 h7 h10) 0 (Nat.zero_le _) _ (fun x _ => rfl) (CM_0 (by rw [hw6 34 (by omega), hw4 34 (by omega), hw2 34 (by omega)] <;> rfl) (by rw [hw6 34 (by omega), hw4 34 (by omega), hw2 34 (by omega)] <;> rfl))
          · exact Z.vret dX6_findClash_108 rfl (by have e := fc_no (nq := nq) (c := c) (mc_f3 (n := n) (t := t) h10); exact ⟨rfl, hE, by rw [e.1]; exact (by rw [hw6 34 (by omega), hw4 34 (by omega), hw2 34 (by omega)] <;> rfl), by rw [e.2]; exact (by rw [hw6 34 (by omega), hw4 34 (by omega), hw2 34 (by omega)] <;> rfl), rfl⟩)
    · exact Z.vret dX6_findClash_54 rfl (by have e := fc_emp (nq := nq) (a := a) (b := b) hR hD hn2 (Or.inl (an_none hn2 (fun j hj => (hL.2.2 j hj).2.2.2) hB19_2 h3)); exact ⟨rfl, hE, by rw [e.1]; exact (by rw [hw2 34 (by omega)] <;> rfl), by rw [e.2]; exact (by rw [hw2 34 (by omega)] <;> rfl), rfl⟩)
  · exact Z.vret dX6_findClash_28 rfl (by have e := fc_no (nq := nq) (c := c) (mc_f1 (n := n) (t := t) h1); exact ⟨rfl, (hE.up (a := 34) rfl), by rw [e.1]; exact rfl, by rw [e.2]; exact rfl, rfl⟩)

