theorem co_cr {I : IM} {n nq a b : Nat} {c t : Int32} (hR : RX I n) (hD : Dn I n) (hn4 : n ≤ 400) : coF I n nq a b c t = -1 ↔ crF I n nq a b c t < 0 := by
  rcases Bool.eq_false_or_eq_true (mcF I n a b t) with hm | hm
  · have h1 := co_is (nq := nq) (c := c) hR hm
    have h2 := cr_is (nq := nq) (c := c) hD hn4 hm
    have n1 : ∀ y, (∃ i j, i < (gS (pM I n) (nI a) t).1 ∧ j < (gS (pM I n) (nI b) t).1 ∧ chF (pM I n) (qM I nq) (I 35 9) (nI a) (nI b) c t ((gS (pM I n) (nI a) t).2 i) ((gS (pM I n) (nI b) t).2 j) = true ∧ 360 * (gS (pM I n) (nI a) t).2 i + (gS (pM I n) (nI b) t).2 j = y) → ¬ y < 0 := fun y ⟨i, j, hi, hj, _, e⟩ => e ▸ pr_nn2 (gS_rg hR hi) (gS_rg hR hj)
    have n2 : ∀ y, (∃ i j, i < (gS (pM I n) (nI a) t).1 ∧ j < (gS (pM I n) (nI b) t).1 ∧ chF (pM I n) (qM I nq) (I 35 9) (nI a) (nI b) c t ((gS (pM I n) (nI a) t).2 i) ((gS (pM I n) (nI b) t).2 j) = true ∧ rightF (pM I n) (nI a) ((gS (pM I n) (nI a) t).2 i) c t = y) → ¬ y < 0 := fun y ⟨i, j, _, _, e1, e⟩ => e ▸ stands_r hD hn4 (ch_sa e1).1
    rw [← mn_neg h2 n2]
    constructor
    · intro e
      rcases h1 with ⟨_, z⟩ | ⟨z, _⟩
      · exact mn_emp h2 (fun y ⟨i, j, a1, a2, a3, _⟩ => z _ ⟨i, j, a1, a2, a3, rfl⟩)
      · exact absurd (show coF I n nq a b c t < 0 by rw [e]; decide) (n1 _ z)
    · intro e
      rcases h2 with ⟨_, z⟩ | ⟨z, _⟩
      · exact mn_emp h1 (fun y ⟨i, j, a1, a2, a3, _⟩ => z _ ⟨i, j, a1, a2, a3, rfl⟩)
      · exact absurd (show crF I n nq a b c t < 0 by rw [e]; decide) (n2 _ z)
  · have e := fc_no (nq := nq) (c := c) hm
    rw [e.1, e.2]
    exact ⟨fun _ => by decide, fun _ => rfl⟩
theorem co_ng {I : IM} {n nq a b : Nat} {c t : Int32} (hR : RX I n) : coF I n nq a b c t = -1 ↔ coF I n nq a b c t < 0 := by
  rcases Bool.eq_false_or_eq_true (mcF I n a b t) with hm | hm
  · exact mn_neg (co_is (nq := nq) (c := c) hR hm) (fun y ⟨i, j, hi, hj, _, e⟩ => e ▸ pr_nn2 (gS_rg hR hi) (gS_rg hR hj))
  · rw [(fc_no (nq := nq) (c := c) hm).1]
    exact ⟨fun _ => by decide, fun _ => rfl⟩
theorem fi_1 {r : Nat → Int32} : ∀ {a : Nat}, a ≤ 400 → ((fiU r a).1 = -1 ↔ (fiU r a).1 < 0)
  | 0, _ => ⟨fun _ => by unfold fiU; decide, fun _ => by unfold fiU; rfl⟩
  | a + 1, h => by
    unfold fiU
    by_cases c : ¬ r a < 0 ∧ ((fiU r a).1 < 0 ∨ r a < (fiU r a).2)
    · rw [if_pos c]
      exact ⟨fun e => absurd e (nI_nm1 (by omega)), fun e => absurd e (nI_pos (by omega))⟩
    · rw [if_neg c]
      exact fi_1 (by omega)
set_option maxHeartbeats 4000000 in
set_option maxRecDepth 100000 in
theorem cb_clash {g : GP} {I J : IM} {S : SH} (hE : Ex I J) (a b c t : Int32) (hF : Fx S) (hC : Cp I) {n : Nat} (hn : Mp I n) {nq : Nat} (hq : Mq I nq) (hcq : Cq I nq) (hM : MIv I) {mm : Nat} (hm : Mm I mm) (hz : Mz I S mm) (hL : LG I n) (hR : RX I n) : Z g 6 0 0 mX6_clash 0 (enL mX6_clash [.ref 0, .int a, .int b, .int c, .int t]) [] J S (NQ (.int (csM I n nq a b c t)) I S) := by
  show Z g 6 0 0 mX6_clash 0 [.ref 0, .int a, .int b, .int c, .int t] [] J S _
  have hn2 := hn.2
  have hq2 := hq.2
  have hm2 := hm.2
  have hD := hL.1
  have hso := hL.2.1
  refine Z.aload_n dX6_clash_0 rfl ?_
  refine Z.iload_n dX6_clash_1 rfl ?_
  rcases Bool.eq_false_or_eq_true (inB a 0 (I 35 10 - 1)) with h1 | h1
  · have l_a : a.toNatClampNeg < mm := (mk_rg hm.1 hm.2 h1).2
    have h_a : a.toNatClampNeg < 120 := by omega
    have ho_a := hz.2 _ l_a
    have hl_a := hM.2.2.1 _ h_a
    have hc_a := hM.2.2.2.1 _ h_a
    have hl2_a := hl_a.2
    have hc2_a := hc_a.2
    have hcl_a := ho_a.2.2
    have h12_a := clL_le (I := I) (j := a.toNatClampNeg)
    refine Z.callVp (M := mX6_clash) (pc := 2) (st := []) (N := mX6_markAt) (n := 1) (r := .ref (58 + 3 * a.toNatClampNeg)) dX6_clash_2 mlX6_94 mkX6_markAt imX6_markAt seX6_markAt (fx0 hF) cl6 rfl (d1 := 1) (by decide) (As := [.int a]) rfl ⟨rfl, Nat.le_of_ble_eq_true rfl⟩ ⟨rfl, Nat.le_of_ble_eq_true rfl⟩ (cc_markAtT hE a hF hC hm hz h1) rfl ?_
    refine Z.ifnull dX6_clash_5 ?_
    refine Z.aload_n dX6_clash_8 rfl ?_
    refine Z.iload_n dX6_clash_9 rfl ?_
    rcases Bool.eq_false_or_eq_true (inB b 0 (I 35 10 - 1)) with h2 | h2
    · have l_b : b.toNatClampNeg < mm := (mk_rg hm.1 hm.2 h2).2
      have h_b : b.toNatClampNeg < 120 := by omega
      have ho_b := hz.2 _ l_b
      have hl_b := hM.2.2.1 _ h_b
      have hc_b := hM.2.2.2.1 _ h_b
      have hl2_b := hl_b.2
      have hc2_b := hc_b.2
      have hcl_b := ho_b.2.2
      have h12_b := clL_le (I := I) (j := b.toNatClampNeg)
      refine Z.callVp (M := mX6_clash) (pc := 10) (st := []) (N := mX6_markAt) (n := 1) (r := .ref (58 + 3 * b.toNatClampNeg)) dX6_clash_10 mlX6_94 mkX6_markAt imX6_markAt seX6_markAt (fx0 hF) cl6 rfl (d1 := 1) (by decide) (As := [.int b]) rfl ⟨rfl, Nat.le_of_ble_eq_true rfl⟩ ⟨rfl, Nat.le_of_ble_eq_true rfl⟩ (cc_markAtT hE b hF hC hm hz h2) rfl ?_
      refine Z.ifnull dX6_clash_13 ?_
      refine Z.iload_n dX6_clash_16 rfl ?_
      refine Z.bipush (v := 16) dX6_clash_17 (by decide) ?_
      refine Z.callSp (M := mX6_clash) (pc := 19) (st := []) (N := mX6_below) (n := 2) (r := .int (bI (inB c 0 15))) dX6_clash_19 mlX6_66 mkX6_below stX6_below (d1 := 0) (by decide) (As := [.int c, .int 16]) rfl ⟨rfl, Nat.le_of_ble_eq_true rfl⟩ ⟨rfl, Nat.le_of_ble_eq_true rfl⟩ (cc_below16 hE c) rfl ?_
      refine Z.if_eqB (tgt := 33) dX6_clash_22 (by decide) (fun h3 => ?_) (fun h3 => ?_)
      · refine Z.iconst (v := (-1)) dX6_clash_33 (by decide) ?_
        exact Z.iret dX6_clash_34 rfl ⟨by simp [csM, h1, h2, h3], hE, rfl⟩
      · refine Z.iload dX6_clash_25 rfl ?_
        refine Z.callSp (M := mX6_clash) (pc := 27) (st := []) (N := mX6_isDay) (n := 1) (r := .int (bI (inB t 0 60000))) dX6_clash_27 mlX6_112 mkX6_isDay stX6_isDay (d1 := 0) (by decide) (As := [.int t]) rfl ⟨rfl, Nat.le_of_ble_eq_true rfl⟩ ⟨rfl, Nat.le_of_ble_eq_true rfl⟩ (cc_isDay hE t) rfl ?_
        refine Z.if_neB (tgt := 35) dX6_clash_30 (by decide) (fun h4 => ?_) (fun h4 => ?_)
        · have e_a := (mk_rg hm.1 hm.2 h1).1
          refine Z.eqLs (L' := [.ref 0, .int (nI (a.toNatClampNeg)), .int b, .int c, .int t]) (st' := []) (by rw [← e_a]) (by first | rfl | rw [← e_a]) ?_
          have e_b := (mk_rg hm.1 hm.2 h2).1
          refine Z.eqLs (L' := [.ref 0, .int (nI (a.toNatClampNeg)), .int (nI (b.toNatClampNeg)), .int c, .int t]) (st' := []) (by rw [← e_b]) (by first | rfl | rw [← e_b]) ?_
          refine Z.aload_n dX6_clash_35 rfl ?_
          refine Z.iload_n dX6_clash_36 rfl ?_
          refine Z.iload_n dX6_clash_37 rfl ?_
          refine Z.iload_n dX6_clash_38 rfl ?_
          refine Z.iload dX6_clash_39 rfl ?_
          refine Z.callVg (M := mX6_clash) (pc := 41) (st := []) (N := mX6_findClash) (n := 4) dX6_clash_41 mlX6_137 mkX6_findClash imX6_findClash seX6_findClash (fx0 hF) cl6 rfl (d1 := 5) (by decide) (As := [.int (nI (a.toNatClampNeg)), .int (nI (b.toNatClampNeg)), .int c, .int t]) rfl ⟨rfl, Nat.le_of_ble_eq_true rfl⟩ ⟨rfl, Nat.le_of_ble_eq_true rfl⟩ (cc_findClash hE a.toNatClampNeg b.toNatClampNeg c t hF hC hn hq hcq hM hm hz hL hR (by omega) (by omega) (in_nm h3)) rfl (fun v_ J1 S_ h_ => ?_)
          obtain ⟨rfl, hE, hp5, hr5, rfl⟩ := h_
          refine Z.aload_n dX6_clash_44 rfl ?_
          refine Z.getR (r := 34) dX6_clash_45 cl6 flX6_62 (by decide) (fx0 hF) rfl ?_
          refine Z.getIv (v := coF I n nq a.toNatClampNeg b.toNatClampNeg c t) dX6_clash_48 cl0 flX6_219 (by decide) (fx34 hF) hp5 ?_
          exact Z.iret dX6_clash_51 rfl ⟨by simp [csM, h1, h2, h3, h4], hE, rfl⟩
        · refine Z.iconst (v := (-1)) dX6_clash_33 (by decide) ?_
          exact Z.iret dX6_clash_34 rfl ⟨by simp [csM, h1, h2, h3, h4], hE, rfl⟩
    · refine Z.callVp (M := mX6_clash) (pc := 10) (st := []) (N := mX6_markAt) (n := 1) (r := .null) dX6_clash_10 mlX6_94 mkX6_markAt imX6_markAt seX6_markAt (fx0 hF) cl6 rfl (d1 := 1) (by decide) (As := [.int b]) rfl ⟨rfl, Nat.le_of_ble_eq_true rfl⟩ ⟨rfl, Nat.le_of_ble_eq_true rfl⟩ (cc_markAtF hE b hF hC hm hz h2) rfl ?_
      refine Z.ifnullN (tgt := 33) dX6_clash_13 (by decide) ?_
      refine Z.iconst (v := (-1)) dX6_clash_33 (by decide) ?_
      exact Z.iret dX6_clash_34 rfl ⟨by simp [csM, h1, h2], hE, rfl⟩
  · refine Z.callVp (M := mX6_clash) (pc := 2) (st := []) (N := mX6_markAt) (n := 1) (r := .null) dX6_clash_2 mlX6_94 mkX6_markAt imX6_markAt seX6_markAt (fx0 hF) cl6 rfl (d1 := 1) (by decide) (As := [.int a]) rfl ⟨rfl, Nat.le_of_ble_eq_true rfl⟩ ⟨rfl, Nat.le_of_ble_eq_true rfl⟩ (cc_markAtF hE a hF hC hm hz h1) rfl ?_
    refine Z.ifnullN (tgt := 33) dX6_clash_5 (by decide) ?_
    refine Z.iconst (v := (-1)) dX6_clash_33 (by decide) ?_
    exact Z.iret dX6_clash_34 rfl ⟨by simp [csM, h1], hE, rfl⟩

set_option maxHeartbeats 4000000 in
set_option maxRecDepth 100000 in
theorem lc_first {g : GP} {I : IM} {S : SH} (m c t : Int32) (hF : Fx S) (hC : Cp I) {n : Nat} (hn : Mp I n) {nq : Nat} (hq : Mq I nq) (hcq : Cq I nq) (hM : MIv I) {mm : Nat} (hm : Mm I mm) (hz : Mz I S mm) (hL : LG I n) (hR : RX I n) (hmm : m.toNatClampNeg < mm) (hc : ¬ c = -1) (hok : (inB m 0 (I 35 10 - 1) && (inB c 0 15 && inB t 0 60000)) = true) : ∀ a, a ≤ mm → ∀ J, Ex I J → ∀ e5, ((fiU (fsR I n nq m c t) a).1 = -1 ∨ e5 = (fiU (fsR I n nq m c t) a).2) → Z g 6 0 0 mX6_first 35 [.ref 0, .int (nI (m.toNatClampNeg)), .int c, .int t, .int ((fiU (fsR I n nq m c t) a).1), .int e5, .int (nI a)] [] J S (NQ (.int (fsM I n nq mm m c t)) I S) := by
  have hn2 := hn.2
  have hq2 := hq.2
  have hm2 := hm.2
  have hD := hL.1
  have hso := hL.2.1
  refine upZ mm (fun a hi ih J hE e5 he => ?_)
  refine Z.iload dX6_first_35 rfl ?_
  refine Z.aload_n dX6_first_37 rfl ?_
  refine Z.getIv (v := nI mm) dX6_first_38 cl6 flX6_36 (by decide) (fx0 hF) (((hE.at 0 4 rfl).trans hC.f0_4).trans hm.1) ?_
  refine Z.icmp_geN (a := a) (b := mm) (by omega) (by omega) (tgt := 100) dX6_first_41 (by decide) (fun h1 => ?_) (fun h1 => ?_)
  · refine Z.iload dX6_first_100 rfl ?_
    exact Z.iret dX6_first_102 rfl ⟨by rw [fsM, if_pos hok, show a = mm by omega], hE, rfl⟩
  · refine Z.aload_n dX6_first_44 rfl ?_
    refine Z.iload dX6_first_45 rfl ?_
    refine Z.iload_n dX6_first_47 rfl ?_
    refine Z.iload_n dX6_first_48 rfl ?_
    refine Z.iload_n dX6_first_49 rfl ?_
    refine Z.callVg (M := mX6_first) (pc := 50) (st := []) (N := mX6_findClash) (n := 4) dX6_first_50 mlX6_137 mkX6_findClash imX6_findClash seX6_findClash (fx0 hF) cl6 rfl (d1 := 5) (by decide) (As := [.int (nI a), .int (nI (m.toNatClampNeg)), .int c, .int t]) rfl ⟨rfl, Nat.le_of_ble_eq_true rfl⟩ ⟨rfl, Nat.le_of_ble_eq_true rfl⟩ (cc_findClash hE a m.toNatClampNeg c t hF hC hn hq hcq hM hm hz hL hR (by omega) (by omega) hc) rfl (fun v_ J1 S_ h_ => ?_)
    obtain ⟨rfl, hE, hp2, hr2, rfl⟩ := h_
    refine Z.aload_n dX6_first_53 rfl ?_
    refine Z.getR (r := 34) dX6_first_54 cl6 flX6_62 (by decide) (fx0 hF) rfl ?_
    refine Z.callVp (M := mX6_first) (pc := 57) (st := []) (N := mX0_isThere) (n := 0) (r := .int (bI (!decide (coF I n nq a m.toNatClampNeg c t = -1)))) dX6_first_57 mlX6_141 mkX0_isThere imX0_isThere seX0_isThere (fx34 hF) cl0 rfl (d1 := 0) (by decide) (As := []) rfl ⟨rfl, Nat.le_of_ble_eq_true rfl⟩ ⟨rfl, Nat.le_of_ble_eq_true rfl⟩ (by have e := cc_isThere (g := g) (J := J1) hE hF; rw [hp2] at e; exact e) rfl ?_
    refine Z.if_eqB (tgt := 94) dX6_first_60 (by decide) (fun h3 => ?_) (fun h3 => ?_)
    · refine Z.iinc (v := nI (a + 1)) (L' := [.ref 0, .int (nI (m.toNatClampNeg)), .int c, .int t, .int ((fiU (fsR I n nq m c t) a).1), .int e5, .int (nI (a + 1))]) dX6_first_94 rfl (nI_1 _) rfl ?_
      refine Z.goto (tgt := 35) dX6_first_97 (by decide) ?_
      have hcc := co_cr (nq := nq) (a := a) (b := m.toNatClampNeg) (c := c) (t := t) hR hD hn2
      have hf1 := fi_1 (r := (fsR I n nq m c t)) (a := a) (by omega)
      have hs : (fiU (fsR I n nq m c t) (a + 1)) = (fiU (fsR I n nq m c t) a) := if_neg (fun z => z.1 (hcc.mp (by simpa using h3)))
      have e := ih (by omega) J1 hE e5 (by rw [hs]; exact he)
      rw [hs] at e
      exact e
    · refine Z.iload dX6_first_63 rfl ?_
      refine Z.iconst (v := (-1)) dX6_first_65 (by decide) ?_
      refine Z.icmp_eq (tgt := 81) dX6_first_66 (by decide) (fun h4 => ?_) (fun h4 => ?_)
      · refine Z.iload dX6_first_81 rfl ?_
        refine Z.istore (L' := [.ref 0, .int (nI (m.toNatClampNeg)), .int c, .int t, .int (nI a), .int e5, .int (nI a)]) dX6_first_83 (Nat.le_of_ble_eq_true rfl) rfl ?_
        refine Z.aload_n dX6_first_85 rfl ?_
        refine Z.getR (r := 34) dX6_first_86 cl6 flX6_62 (by decide) (fx0 hF) rfl ?_
        refine Z.getIv (v := crF I n nq a m.toNatClampNeg c t) dX6_first_89 cl0 flX6_222 (by decide) (fx34 hF) hr2 ?_
        refine Z.istore (L' := [.ref 0, .int (nI (m.toNatClampNeg)), .int c, .int t, .int (nI a), .int (crF I n nq a m.toNatClampNeg c t), .int (nI a)]) dX6_first_92 (Nat.le_of_ble_eq_true rfl) rfl ?_
        refine Z.iinc (v := nI (a + 1)) (L' := [.ref 0, .int (nI (m.toNatClampNeg)), .int c, .int t, .int (nI a), .int (crF I n nq a m.toNatClampNeg c t), .int (nI (a + 1))]) dX6_first_94 rfl (nI_1 _) rfl ?_
        refine Z.goto (tgt := 35) dX6_first_97 (by decide) ?_
        have hcc := co_cr (nq := nq) (a := a) (b := m.toNatClampNeg) (c := c) (t := t) hR hD hn2
        have hf1 := fi_1 (r := (fsR I n nq m c t)) (a := a) (by omega)
        have hs : (fiU (fsR I n nq m c t) (a + 1)) = (nI a, crF I n nq a m.toNatClampNeg c t) := by unfold fiU; exact if_pos ⟨fun z => (by simpa using h3 : ¬ coF I n nq a m.toNatClampNeg c t = -1) (hcc.mpr z), Or.inl (hf1.mp h4)⟩
        have e := ih (by omega) J1 hE (crF I n nq a m.toNatClampNeg c t) (Or.inr (by rw [hs]))
        rw [hs] at e
        exact e
      · refine Z.aload_n dX6_first_69 rfl ?_
        refine Z.getR (r := 34) dX6_first_70 cl6 flX6_62 (by decide) (fx0 hF) rfl ?_
        refine Z.getIv (v := crF I n nq a m.toNatClampNeg c t) dX6_first_73 cl0 flX6_222 (by decide) (fx34 hF) hr2 ?_
        refine Z.iload dX6_first_76 rfl ?_
        refine Z.icmp_ge (tgt := 94) dX6_first_78 (by decide) (fun h5 => ?_) (fun h5 => ?_)
        · refine Z.iinc (v := nI (a + 1)) (L' := [.ref 0, .int (nI (m.toNatClampNeg)), .int c, .int t, .int ((fiU (fsR I n nq m c t) a).1), .int e5, .int (nI (a + 1))]) dX6_first_94 rfl (nI_1 _) rfl ?_
          refine Z.goto (tgt := 35) dX6_first_97 (by decide) ?_
          have hcc := co_cr (nq := nq) (a := a) (b := m.toNatClampNeg) (c := c) (t := t) hR hD hn2
          have hf1 := fi_1 (r := (fsR I n nq m c t)) (a := a) (by omega)
          have hs : (fiU (fsR I n nq m c t) (a + 1)) = (fiU (fsR I n nq m c t) a) := if_neg (fun z => z.2.elim (fun y => h4 (hf1.mpr y)) (fun y => h5 (by rw [he.resolve_left h4]; exact y)))
          have e := ih (by omega) J1 hE e5 (by rw [hs]; exact he)
          rw [hs] at e
          exact e
        · refine Z.iload dX6_first_81 rfl ?_
          refine Z.istore (L' := [.ref 0, .int (nI (m.toNatClampNeg)), .int c, .int t, .int (nI a), .int e5, .int (nI a)]) dX6_first_83 (Nat.le_of_ble_eq_true rfl) rfl ?_
          refine Z.aload_n dX6_first_85 rfl ?_
          refine Z.getR (r := 34) dX6_first_86 cl6 flX6_62 (by decide) (fx0 hF) rfl ?_
          refine Z.getIv (v := crF I n nq a m.toNatClampNeg c t) dX6_first_89 cl0 flX6_222 (by decide) (fx34 hF) hr2 ?_
          refine Z.istore (L' := [.ref 0, .int (nI (m.toNatClampNeg)), .int c, .int t, .int (nI a), .int (crF I n nq a m.toNatClampNeg c t), .int (nI a)]) dX6_first_92 (Nat.le_of_ble_eq_true rfl) rfl ?_
          refine Z.iinc (v := nI (a + 1)) (L' := [.ref 0, .int (nI (m.toNatClampNeg)), .int c, .int t, .int (nI a), .int (crF I n nq a m.toNatClampNeg c t), .int (nI (a + 1))]) dX6_first_94 rfl (nI_1 _) rfl ?_
          refine Z.goto (tgt := 35) dX6_first_97 (by decide) ?_
          have hcc := co_cr (nq := nq) (a := a) (b := m.toNatClampNeg) (c := c) (t := t) hR hD hn2
          have hf1 := fi_1 (r := (fsR I n nq m c t)) (a := a) (by omega)
          have hs : (fiU (fsR I n nq m c t) (a + 1)) = (nI a, crF I n nq a m.toNatClampNeg c t) := by unfold fiU; exact if_pos ⟨fun z => (by simpa using h3 : ¬ coF I n nq a m.toNatClampNeg c t = -1) (hcc.mpr z), Or.inr (by rw [← he.resolve_left h4]; exact h5)⟩
          have e := ih (by omega) J1 hE (crF I n nq a m.toNatClampNeg c t) (Or.inr (by rw [hs]))
          rw [hs] at e
          exact e

set_option maxHeartbeats 4000000 in
set_option maxRecDepth 100000 in
theorem cb_first {g : GP} {I J : IM} {S : SH} (hE : Ex I J) (m c t : Int32) (hF : Fx S) (hC : Cp I) {n : Nat} (hn : Mp I n) {nq : Nat} (hq : Mq I nq) (hcq : Cq I nq) (hM : MIv I) {mm : Nat} (hm : Mm I mm) (hz : Mz I S mm) (hL : LG I n) (hR : RX I n) : Z g 6 0 0 mX6_first 0 (enL mX6_first [.ref 0, .int m, .int c, .int t]) [] J S (NQ (.int (fsM I n nq mm m c t)) I S) := by
  show Z g 6 0 0 mX6_first 0 [.ref 0, .int m, .int c, .int t, .retAddr 0, .retAddr 0, .retAddr 0] [] J S _
  have hn2 := hn.2
  have hq2 := hq.2
  have hm2 := hm.2
  have hD := hL.1
  have hso := hL.2.1
  refine Z.aload_n dX6_first_0 rfl ?_
  refine Z.iload_n dX6_first_1 rfl ?_
  rcases Bool.eq_false_or_eq_true (inB m 0 (I 35 10 - 1)) with h1 | h1
  · have l_m : m.toNatClampNeg < mm := (mk_rg hm.1 hm.2 h1).2
    have h_m : m.toNatClampNeg < 120 := by omega
    have ho_m := hz.2 _ l_m
    have hl_m := hM.2.2.1 _ h_m
    have hc_m := hM.2.2.2.1 _ h_m
    have hl2_m := hl_m.2
    have hc2_m := hc_m.2
    have hcl_m := ho_m.2.2
    have h12_m := clL_le (I := I) (j := m.toNatClampNeg)
    refine Z.callVp (M := mX6_first) (pc := 2) (st := []) (N := mX6_markAt) (n := 1) (r := .ref (58 + 3 * m.toNatClampNeg)) dX6_first_2 mlX6_94 mkX6_markAt imX6_markAt seX6_markAt (fx0 hF) cl6 rfl (d1 := 1) (by decide) (As := [.int m]) rfl ⟨rfl, Nat.le_of_ble_eq_true rfl⟩ ⟨rfl, Nat.le_of_ble_eq_true rfl⟩ (cc_markAtT hE m hF hC hm hz h1) rfl ?_
    refine Z.ifnull dX6_first_5 ?_
    refine Z.iload_n dX6_first_8 rfl ?_
    refine Z.bipush (v := 16) dX6_first_9 (by decide) ?_
    refine Z.callSp (M := mX6_first) (pc := 11) (st := []) (N := mX6_below) (n := 2) (r := .int (bI (inB c 0 15))) dX6_first_11 mlX6_66 mkX6_below stX6_below (d1 := 0) (by decide) (As := [.int c, .int 16]) rfl ⟨rfl, Nat.le_of_ble_eq_true rfl⟩ ⟨rfl, Nat.le_of_ble_eq_true rfl⟩ (cc_below16 hE c) rfl ?_
    refine Z.if_eqB (tgt := 24) dX6_first_14 (by decide) (fun h2 => ?_) (fun h2 => ?_)
    · refine Z.iconst (v := (-1)) dX6_first_24 (by decide) ?_
      exact Z.iret dX6_first_25 rfl ⟨by simp [fsM, h1, h2], hE, rfl⟩
    · refine Z.iload_n dX6_first_17 rfl ?_
      refine Z.callSp (M := mX6_first) (pc := 18) (st := []) (N := mX6_isDay) (n := 1) (r := .int (bI (inB t 0 60000))) dX6_first_18 mlX6_112 mkX6_isDay stX6_isDay (d1 := 0) (by decide) (As := [.int t]) rfl ⟨rfl, Nat.le_of_ble_eq_true rfl⟩ ⟨rfl, Nat.le_of_ble_eq_true rfl⟩ (cc_isDay hE t) rfl ?_
      refine Z.if_neB (tgt := 26) dX6_first_21 (by decide) (fun h3 => ?_) (fun h3 => ?_)
      · have e_m := (mk_rg hm.1 hm.2 h1).1
        refine Z.eqLs (L' := [.ref 0, .int (nI (m.toNatClampNeg)), .int c, .int t, .retAddr 0, .retAddr 0, .retAddr 0]) (st' := []) (by rw [← e_m]) (by first | rfl | rw [← e_m]) ?_
        refine Z.iconst (v := (-1)) dX6_first_26 (by decide) ?_
        refine Z.istore (L' := [.ref 0, .int (nI (m.toNatClampNeg)), .int c, .int t, .int ((-1)), .retAddr 0, .retAddr 0]) dX6_first_27 (Nat.le_of_ble_eq_true rfl) rfl ?_
        refine Z.iconst (v := (-1)) dX6_first_29 (by decide) ?_
        refine Z.istore (L' := [.ref 0, .int (nI (m.toNatClampNeg)), .int c, .int t, .int ((-1)), .int ((-1)), .retAddr 0]) dX6_first_30 (Nat.le_of_ble_eq_true rfl) rfl ?_
        refine Z.iconst (v := 0) dX6_first_32 (by decide) ?_
        refine Z.istore (L' := [.ref 0, .int (nI (m.toNatClampNeg)), .int c, .int t, .int ((-1)), .int ((-1)), .int 0]) dX6_first_33 (Nat.le_of_ble_eq_true rfl) rfl ?_
        exact lc_first m c t hF hC hn hq hcq hM hm hz hL hR l_m (in_nm h2) (by simp [h1, h2, h3]) 0 (Nat.zero_le _) _ hE _ (Or.inl rfl)
      · refine Z.iconst (v := (-1)) dX6_first_24 (by decide) ?_
        exact Z.iret dX6_first_25 rfl ⟨by simp [fsM, h1, h2, h3], hE, rfl⟩
  · refine Z.callVp (M := mX6_first) (pc := 2) (st := []) (N := mX6_markAt) (n := 1) (r := .null) dX6_first_2 mlX6_94 mkX6_markAt imX6_markAt seX6_markAt (fx0 hF) cl6 rfl (d1 := 1) (by decide) (As := [.int m]) rfl ⟨rfl, Nat.le_of_ble_eq_true rfl⟩ ⟨rfl, Nat.le_of_ble_eq_true rfl⟩ (cc_markAtF hE m hF hC hm hz h1) rfl ?_
    refine Z.ifnullN (tgt := 24) dX6_first_5 (by decide) ?_
    refine Z.iconst (v := (-1)) dX6_first_24 (by decide) ?_
    exact Z.iret dX6_first_25 rfl ⟨by simp [fsM, h1], hE, rfl⟩

