/-- the class's marks: the row of them, and each -/
def Mz (I : IM) (S : SH) (mm : Nat) : Prop := (∃ mr, S[13]? = some (10, 120, mr) ∧ mr.length = 120 ∧ ∀ j, j < mm → mr[j]? = some (some (58 + 3 * j))) ∧ ∀ j, j < mm → Mo I S j
theorem inB_of {v lo hi : Int32} (h1 : ¬ v < lo) (h2 : ¬ hi < v) : inB v lo hi = true := by simp [inB, h1, h2]
theorem inB_lo {v lo hi : Int32} (h1 : v < lo) : inB v lo hi = false := by simp [inB, h1]
theorem inB_hi {v lo hi : Int32} (h2 : hi < v) : inB v lo hi = false := by simp [inB, h2]
theorem inB_m1 {v hi : Int32} (h : ¬ v = -1) : inB v (-1) hi = inB v 0 hi := by
  have : decide (v < -1) = decide (v < 0) := by
    have e1 : (-1 : Int32).toInt = -1 := by decide
    have : ¬ v.toInt = -1 := fun q => h (Int32.toInt_inj.mp (by rw [q, e1]))
    apply decide_eq_decide.mpr
    rw [Int32.lt_iff_toInt_lt, Int32.lt_iff_toInt_lt, e1, tI0]
    omega
  simp [inB, this]
theorem cc_belowM {g : GP} {I J : IM} {S : SH} (hE : Ex I J) (v : Int32) {mm : Nat} (hm : Mm I mm) : Z g 0 0 0 mX6_below 0 (enL mX6_below [.int v, .int (I 35 10)]) [] J S (PQ (.int (bI (inB v 0 (I 35 10 - 1)))) J S) := by
  have e : (I 35 10).toInt = (I 35 10 - 1).toInt + 1 := by rw [hm.1]; exact nI_m1i (by have := hm.2; omega)
  rw [← belB_in (x := I 35 10) e]
  exact cc_below hE v (I 35 10)
set_option maxHeartbeats 4000000 in
set_option maxRecDepth 100000 in
theorem cc_markAtT {g : GP} {I J : IM} {S : SH} (hE : Ex I J) (v : Int32) (hF : Fx S) (hC : Cp I) {mm : Nat} (hm : Mm I mm) (hz : Mz I S mm) (hv : inB v 0 (I 35 10 - 1) = true) : Z g 1 0 0 mX6_markAt 0 (enL mX6_markAt [.ref 0, .int v]) [] J S (PQ (.ref (58 + 3 * v.toNatClampNeg)) J S) := by
  show Z g 1 0 0 mX6_markAt 0 [.ref 0, .int v] [] J S _
  have hm2 := hm.2
  refine Z.iload_n dX6_markAt_0 rfl ?_
  refine Z.aload_n dX6_markAt_1 rfl ?_
  refine Z.getIv (v := I 35 10) dX6_markAt_2 cl6 flX6_36 (by decide) (fx0 hF) ((hE.at 0 4 rfl).trans hC.f0_4) ?_
  refine Z.callSp (M := mX6_markAt) (pc := 5) (st := []) (N := mX6_below) (n := 2) (r := .int (bI (inB v 0 (I 35 10 - 1)))) dX6_markAt_5 mlX6_66 mkX6_below stX6_below (d1 := 0) (by decide) (As := [.int v, .int (I 35 10)]) rfl ⟨rfl, Nat.le_of_ble_eq_true rfl⟩ ⟨rfl, Nat.le_of_ble_eq_true rfl⟩ (cc_belowM hE v hm) rfl ?_
  refine Z.if_eqB (tgt := 20) dX6_markAt_8 (by decide) (fun h1 => absurd h1 (by rw [hv] at h1; cases h1)) (fun h1 => ?_)
  obtain ⟨mr, hs13, hlen, hmr⟩ := hz.1
  have e_v := (mk_rg hm.1 hm.2 hv).1
  have l_v := (mk_rg hm.1 hm.2 hv).2
  refine Z.eqLs (L' := [.ref 0, .int (nI (v.toNatClampNeg))]) (st' := []) (by rw [← e_v]) (by first | rfl | rw [← e_v]) ?_
  refine Z.aload_n dX6_markAt_11 rfl ?_
  refine Z.getR (r := 13) dX6_markAt_12 cl6 flX6_25 (by decide) (fx0 hF) rfl ?_
  refine Z.iload_n dX6_markAt_15 rfl ?_
  refine Z.aald (j := v.toNatClampNeg) (r := 58 + 3 * v.toNatClampNeg) dX6_markAt_16 hs13 rfl (by omega) (by decide) (hmr _ (by omega)) ?_
  refine Z.goto (tgt := 21) dX6_markAt_17 (by decide) ?_
  exact Z.aret (v := .ref (58 + 3 * v.toNatClampNeg)) dX6_markAt_21 rfl (Or.inr ⟨_, rfl⟩) ⟨rfl, rfl, rfl⟩

set_option maxHeartbeats 4000000 in
set_option maxRecDepth 100000 in
theorem cc_markAtF {g : GP} {I J : IM} {S : SH} (hE : Ex I J) (v : Int32) (hF : Fx S) (hC : Cp I) {mm : Nat} (hm : Mm I mm) (hz : Mz I S mm) (hv : inB v 0 (I 35 10 - 1) = false) : Z g 1 0 0 mX6_markAt 0 (enL mX6_markAt [.ref 0, .int v]) [] J S (PQ (.null) J S) := by
  show Z g 1 0 0 mX6_markAt 0 [.ref 0, .int v] [] J S _
  have hm2 := hm.2
  refine Z.iload_n dX6_markAt_0 rfl ?_
  refine Z.aload_n dX6_markAt_1 rfl ?_
  refine Z.getIv (v := I 35 10) dX6_markAt_2 cl6 flX6_36 (by decide) (fx0 hF) ((hE.at 0 4 rfl).trans hC.f0_4) ?_
  refine Z.callSp (M := mX6_markAt) (pc := 5) (st := []) (N := mX6_below) (n := 2) (r := .int (bI (inB v 0 (I 35 10 - 1)))) dX6_markAt_5 mlX6_66 mkX6_below stX6_below (d1 := 0) (by decide) (As := [.int v, .int (I 35 10)]) rfl ⟨rfl, Nat.le_of_ble_eq_true rfl⟩ ⟨rfl, Nat.le_of_ble_eq_true rfl⟩ (cc_belowM hE v hm) rfl ?_
  refine Z.if_eqB (tgt := 20) dX6_markAt_8 (by decide) (fun h1 => ?_) (fun h1 => absurd h1 (by rw [hv] at h1; cases h1))
  refine Z.null dX6_markAt_20 ?_
  exact Z.aret (v := .null) dX6_markAt_21 rfl (Or.inl rfl) ⟨rfl, rfl, rfl⟩

theorem cc_markAtN {g : GP} {I J : IM} {S : SH} (hE : Ex I J) (j : Nat) (hF : Fx S) (hC : Cp I) {mm : Nat} (hm : Mm I mm) (hz : Mz I S mm) (hj : j < mm) : Z g 1 0 0 mX6_markAt 0 (enL mX6_markAt [.ref 0, .int (nI j)]) [] J S (PQ (.ref (58 + 3 * j)) J S) := by
  have h2 := hm.2
  have e := cc_markAtT (g := g) hE (nI j) hF hC hm hz (by rw [hm.1]; cases mm with | zero => omega | succ k => rw [nI_pred]; exact rg_inB (rg_nI (by omega) (by omega)) (by omega))
  rw [nI_clamp (by omega)] at e
  exact e
set_option maxHeartbeats 4000000 in
set_option maxRecDepth 100000 in
theorem cc_isOfKind {g : GP} {I J : IM} {S : SH} (hE : Ex I J) (m k : Int32) (hF : Fx S) (hC : Cp I) {n : Nat} (hn : Mp I n) {nq : Nat} (hq : Mq I nq) (hcq : Cq I nq) (hM : MIv I) {mm : Nat} (hm : Mm I mm) (hz : Mz I S mm) : Z g 2 0 0 mX6_isOfKind 0 (enL mX6_isOfKind [.ref 0, .int m, .int k]) [] J S (PQ (.int (bI (inB m 0 (I 35 10 - 1) && decide (I 43 m.toNatClampNeg = k)))) J S) := by
  show Z g 2 0 0 mX6_isOfKind 0 [.ref 0, .int m, .int k, .retAddr 0] [] J S _
  have hn2 := hn.2
  have hq2 := hq.2
  have hm2 := hm.2
  refine Z.aload_n dX6_isOfKind_0 rfl ?_
  refine Z.iload_n dX6_isOfKind_1 rfl ?_
  rcases Bool.eq_false_or_eq_true (inB m 0 (I 35 10 - 1)) with h1 | h1
  · have l_m : m.toNatClampNeg < mm := (mk_rg hm.1 hm.2 h1).2
    have h_m : m.toNatClampNeg < 120 := by omega
    have ho_m := hz.2 _ l_m
    have hl_m := hM.2.2.1 _ h_m
    have hc_m := hM.2.2.2.1 _ h_m
    have hl2_m := hl_m.2
    have hc2_m := hc_m.2
    have hcl_m := ho_m.2.2
    have h12_m := clL_le (I := I) (j := m.toNatClampNeg)
    refine Z.callVp (M := mX6_isOfKind) (pc := 2) (st := []) (N := mX6_markAt) (n := 1) (r := .ref (58 + 3 * m.toNatClampNeg)) dX6_isOfKind_2 mlX6_94 mkX6_markAt imX6_markAt seX6_markAt (fx0 hF) cl6 rfl (d1 := 1) (by decide) (As := [.int m]) rfl ⟨rfl, Nat.le_of_ble_eq_true rfl⟩ ⟨rfl, Nat.le_of_ble_eq_true rfl⟩ (cc_markAtT hE m hF hC hm hz h1) rfl ?_
    refine Z.astore_n (L' := [.ref 0, .int m, .int k, .ref (58 + 3 * m.toNatClampNeg)]) dX6_isOfKind_5 (Nat.le_of_ble_eq_true rfl) rfl ?_
    refine Z.aload_n dX6_isOfKind_6 rfl ?_
    refine Z.ifnull dX6_isOfKind_7 ?_
    refine Z.aload_n dX6_isOfKind_10 rfl ?_
    refine Z.getIv (v := I 43 m.toNatClampNeg) dX6_isOfKind_11 cl1 flX6_166 (by decide) ho_m.1.1 ((hE.at (58 + 3 * m.toNatClampNeg) 0 (scr58_0 m.toNatClampNeg)).trans ho_m.2.1.1) ?_
    refine Z.iload_n dX6_isOfKind_14 rfl ?_
    refine Z.icmp_ne (tgt := 22) dX6_isOfKind_15 (by decide) (fun h2 => ?_) (fun h2 => ?_)
    · refine Z.iconst (v := 0) dX6_isOfKind_22 (by decide) ?_
      exact Z.zret dX6_isOfKind_23 rfl (by decide) ⟨by simp [bI, h1, h2], rfl, rfl⟩
    · refine Z.iconst (v := 1) dX6_isOfKind_18 (by decide) ?_
      refine Z.goto (tgt := 23) dX6_isOfKind_19 (by decide) ?_
      exact Z.zret dX6_isOfKind_23 rfl (by decide) ⟨by simp [bI, h1, eq_true h2], rfl, rfl⟩
  · refine Z.callVp (M := mX6_isOfKind) (pc := 2) (st := []) (N := mX6_markAt) (n := 1) (r := .null) dX6_isOfKind_2 mlX6_94 mkX6_markAt imX6_markAt seX6_markAt (fx0 hF) cl6 rfl (d1 := 1) (by decide) (As := [.int m]) rfl ⟨rfl, Nat.le_of_ble_eq_true rfl⟩ ⟨rfl, Nat.le_of_ble_eq_true rfl⟩ (cc_markAtF hE m hF hC hm hz h1) rfl ?_
    refine Z.astore_nN (L' := [.ref 0, .int m, .int k, .null]) dX6_isOfKind_5 (Nat.le_of_ble_eq_true rfl) rfl ?_
    refine Z.aload_nN dX6_isOfKind_6 rfl ?_
    refine Z.ifnullN (tgt := 22) dX6_isOfKind_7 (by decide) ?_
    refine Z.iconst (v := 0) dX6_isOfKind_22 (by decide) ?_
    exact Z.zret dX6_isOfKind_23 rfl (by decide) ⟨by simp [bI, h1], rfl, rfl⟩

set_option maxHeartbeats 4000000 in
set_option maxRecDepth 100000 in
theorem cc_haveOneOwner {g : GP} {I J : IM} {S : SH} (hE : Ex I J) (a b : Int32) (hF : Fx S) (hC : Cp I) {n : Nat} (hn : Mp I n) {nq : Nat} (hq : Mq I nq) (hcq : Cq I nq) (hM : MIv I) {mm : Nat} (hm : Mm I mm) (hz : Mz I S mm) : Z g 2 0 0 mX6_haveOneOwner 0 (enL mX6_haveOneOwner [.ref 0, .int a, .int b]) [] J S (PQ (.int (bI (inB a 0 (I 35 10 - 1) && (inB b 0 (I 35 10 - 1) && decide (I 44 a.toNatClampNeg = I 44 b.toNatClampNeg))))) J S) := by
  show Z g 2 0 0 mX6_haveOneOwner 0 [.ref 0, .int a, .int b, .retAddr 0, .retAddr 0] [] J S _
  have hn2 := hn.2
  have hq2 := hq.2
  have hm2 := hm.2
  refine Z.aload_n dX6_haveOneOwner_0 rfl ?_
  refine Z.iload_n dX6_haveOneOwner_1 rfl ?_
  rcases Bool.eq_false_or_eq_true (inB a 0 (I 35 10 - 1)) with h1 | h1
  · have l_a : a.toNatClampNeg < mm := (mk_rg hm.1 hm.2 h1).2
    have h_a : a.toNatClampNeg < 120 := by omega
    have ho_a := hz.2 _ l_a
    have hl_a := hM.2.2.1 _ h_a
    have hc_a := hM.2.2.2.1 _ h_a
    have hl2_a := hl_a.2
    have hc2_a := hc_a.2
    have hcl_a := ho_a.2.2
    have h12_a := clL_le (I := I) (j := a.toNatClampNeg)
    refine Z.callVp (M := mX6_haveOneOwner) (pc := 2) (st := []) (N := mX6_markAt) (n := 1) (r := .ref (58 + 3 * a.toNatClampNeg)) dX6_haveOneOwner_2 mlX6_94 mkX6_markAt imX6_markAt seX6_markAt (fx0 hF) cl6 rfl (d1 := 1) (by decide) (As := [.int a]) rfl ⟨rfl, Nat.le_of_ble_eq_true rfl⟩ ⟨rfl, Nat.le_of_ble_eq_true rfl⟩ (cc_markAtT hE a hF hC hm hz h1) rfl ?_
    refine Z.astore_n (L' := [.ref 0, .int a, .int b, .ref (58 + 3 * a.toNatClampNeg), .retAddr 0]) dX6_haveOneOwner_5 (Nat.le_of_ble_eq_true rfl) rfl ?_
    refine Z.aload_n dX6_haveOneOwner_6 rfl ?_
    refine Z.iload_n dX6_haveOneOwner_7 rfl ?_
    rcases Bool.eq_false_or_eq_true (inB b 0 (I 35 10 - 1)) with h2 | h2
    · have l_b : b.toNatClampNeg < mm := (mk_rg hm.1 hm.2 h2).2
      have h_b : b.toNatClampNeg < 120 := by omega
      have ho_b := hz.2 _ l_b
      have hl_b := hM.2.2.1 _ h_b
      have hc_b := hM.2.2.2.1 _ h_b
      have hl2_b := hl_b.2
      have hc2_b := hc_b.2
      have hcl_b := ho_b.2.2
      have h12_b := clL_le (I := I) (j := b.toNatClampNeg)
      refine Z.callVp (M := mX6_haveOneOwner) (pc := 8) (st := []) (N := mX6_markAt) (n := 1) (r := .ref (58 + 3 * b.toNatClampNeg)) dX6_haveOneOwner_8 mlX6_94 mkX6_markAt imX6_markAt seX6_markAt (fx0 hF) cl6 rfl (d1 := 1) (by decide) (As := [.int b]) rfl ⟨rfl, Nat.le_of_ble_eq_true rfl⟩ ⟨rfl, Nat.le_of_ble_eq_true rfl⟩ (cc_markAtT hE b hF hC hm hz h2) rfl ?_
      refine Z.astore (L' := [.ref 0, .int a, .int b, .ref (58 + 3 * a.toNatClampNeg), .ref (58 + 3 * b.toNatClampNeg)]) dX6_haveOneOwner_11 (Nat.le_of_ble_eq_true rfl) rfl ?_
      refine Z.aload_n dX6_haveOneOwner_13 rfl ?_
      refine Z.ifnull dX6_haveOneOwner_14 ?_
      refine Z.aload dX6_haveOneOwner_17 rfl ?_
      refine Z.ifnull dX6_haveOneOwner_19 ?_
      refine Z.aload_n dX6_haveOneOwner_22 rfl ?_
      refine Z.getIv (v := I 44 a.toNatClampNeg) dX6_haveOneOwner_23 cl1 flX6_169 (by decide) ho_a.1.1 ((hE.at (58 + 3 * a.toNatClampNeg) 1 (scr58_0 a.toNatClampNeg)).trans ho_a.2.1.2.1) ?_
      refine Z.aload dX6_haveOneOwner_26 rfl ?_
      refine Z.getIv (v := I 44 b.toNatClampNeg) dX6_haveOneOwner_28 cl1 flX6_169 (by decide) ho_b.1.1 ((hE.at (58 + 3 * b.toNatClampNeg) 1 (scr58_0 b.toNatClampNeg)).trans ho_b.2.1.2.1) ?_
      refine Z.icmp_ne (tgt := 38) dX6_haveOneOwner_31 (by decide) (fun h3 => ?_) (fun h3 => ?_)
      · refine Z.iconst (v := 0) dX6_haveOneOwner_38 (by decide) ?_
        exact Z.zret dX6_haveOneOwner_39 rfl (by decide) ⟨by simp [bI, h1, h2, h3], rfl, rfl⟩
      · refine Z.iconst (v := 1) dX6_haveOneOwner_34 (by decide) ?_
        refine Z.goto (tgt := 39) dX6_haveOneOwner_35 (by decide) ?_
        exact Z.zret dX6_haveOneOwner_39 rfl (by decide) ⟨by simp [bI, h1, h2, eq_true h3], rfl, rfl⟩
    · refine Z.callVp (M := mX6_haveOneOwner) (pc := 8) (st := []) (N := mX6_markAt) (n := 1) (r := .null) dX6_haveOneOwner_8 mlX6_94 mkX6_markAt imX6_markAt seX6_markAt (fx0 hF) cl6 rfl (d1 := 1) (by decide) (As := [.int b]) rfl ⟨rfl, Nat.le_of_ble_eq_true rfl⟩ ⟨rfl, Nat.le_of_ble_eq_true rfl⟩ (cc_markAtF hE b hF hC hm hz h2) rfl ?_
      refine Z.astoreN (L' := [.ref 0, .int a, .int b, .ref (58 + 3 * a.toNatClampNeg), .null]) dX6_haveOneOwner_11 (Nat.le_of_ble_eq_true rfl) rfl ?_
      refine Z.aload_n dX6_haveOneOwner_13 rfl ?_
      refine Z.ifnull dX6_haveOneOwner_14 ?_
      refine Z.aloadN dX6_haveOneOwner_17 rfl ?_
      refine Z.ifnullN (tgt := 38) dX6_haveOneOwner_19 (by decide) ?_
      refine Z.iconst (v := 0) dX6_haveOneOwner_38 (by decide) ?_
      exact Z.zret dX6_haveOneOwner_39 rfl (by decide) ⟨by simp [bI, h1, h2], rfl, rfl⟩
  · refine Z.callVp (M := mX6_haveOneOwner) (pc := 2) (st := []) (N := mX6_markAt) (n := 1) (r := .null) dX6_haveOneOwner_2 mlX6_94 mkX6_markAt imX6_markAt seX6_markAt (fx0 hF) cl6 rfl (d1 := 1) (by decide) (As := [.int a]) rfl ⟨rfl, Nat.le_of_ble_eq_true rfl⟩ ⟨rfl, Nat.le_of_ble_eq_true rfl⟩ (cc_markAtF hE a hF hC hm hz h1) rfl ?_
    refine Z.astore_nN (L' := [.ref 0, .int a, .int b, .null, .retAddr 0]) dX6_haveOneOwner_5 (Nat.le_of_ble_eq_true rfl) rfl ?_
    refine Z.aload_n dX6_haveOneOwner_6 rfl ?_
    refine Z.iload_n dX6_haveOneOwner_7 rfl ?_
    rcases Bool.eq_false_or_eq_true (inB b 0 (I 35 10 - 1)) with h4 | h4
    · have l_b : b.toNatClampNeg < mm := (mk_rg hm.1 hm.2 h4).2
      have h_b : b.toNatClampNeg < 120 := by omega
      have ho_b := hz.2 _ l_b
      have hl_b := hM.2.2.1 _ h_b
      have hc_b := hM.2.2.2.1 _ h_b
      have hl2_b := hl_b.2
      have hc2_b := hc_b.2
      have hcl_b := ho_b.2.2
      have h12_b := clL_le (I := I) (j := b.toNatClampNeg)
      refine Z.callVp (M := mX6_haveOneOwner) (pc := 8) (st := []) (N := mX6_markAt) (n := 1) (r := .ref (58 + 3 * b.toNatClampNeg)) dX6_haveOneOwner_8 mlX6_94 mkX6_markAt imX6_markAt seX6_markAt (fx0 hF) cl6 rfl (d1 := 1) (by decide) (As := [.int b]) rfl ⟨rfl, Nat.le_of_ble_eq_true rfl⟩ ⟨rfl, Nat.le_of_ble_eq_true rfl⟩ (cc_markAtT hE b hF hC hm hz h4) rfl ?_
      refine Z.astore (L' := [.ref 0, .int a, .int b, .null, .ref (58 + 3 * b.toNatClampNeg)]) dX6_haveOneOwner_11 (Nat.le_of_ble_eq_true rfl) rfl ?_
      refine Z.aload_nN dX6_haveOneOwner_13 rfl ?_
      refine Z.ifnullN (tgt := 38) dX6_haveOneOwner_14 (by decide) ?_
      refine Z.iconst (v := 0) dX6_haveOneOwner_38 (by decide) ?_
      exact Z.zret dX6_haveOneOwner_39 rfl (by decide) ⟨by simp [bI, h1, h4], rfl, rfl⟩
    · refine Z.callVp (M := mX6_haveOneOwner) (pc := 8) (st := []) (N := mX6_markAt) (n := 1) (r := .null) dX6_haveOneOwner_8 mlX6_94 mkX6_markAt imX6_markAt seX6_markAt (fx0 hF) cl6 rfl (d1 := 1) (by decide) (As := [.int b]) rfl ⟨rfl, Nat.le_of_ble_eq_true rfl⟩ ⟨rfl, Nat.le_of_ble_eq_true rfl⟩ (cc_markAtF hE b hF hC hm hz h4) rfl ?_
      refine Z.astoreN (L' := [.ref 0, .int a, .int b, .null, .null]) dX6_haveOneOwner_11 (Nat.le_of_ble_eq_true rfl) rfl ?_
      refine Z.aload_nN dX6_haveOneOwner_13 rfl ?_
      refine Z.ifnullN (tgt := 38) dX6_haveOneOwner_14 (by decide) ?_
      refine Z.iconst (v := 0) dX6_haveOneOwner_38 (by decide) ?_
      exact Z.zret dX6_haveOneOwner_39 rfl (by decide) ⟨by simp [bI, h1, h4], rfl, rfl⟩

set_option maxHeartbeats 4000000 in
set_option maxRecDepth 100000 in
theorem cc_haveOneOwnerN {g : GP} {I J : IM} {S : SH} (hE : Ex I J) (a b : Nat) (hF : Fx S) (hC : Cp I) {n : Nat} (hn : Mp I n) {nq : Nat} (hq : Mq I nq) (hcq : Cq I nq) (hM : MIv I) {mm : Nat} (hm : Mm I mm) (hz : Mz I S mm) (ha : a < mm) (hb : b < mm) : Z g 2 0 0 mX6_haveOneOwner 0 (enL mX6_haveOneOwner [.ref 0, .int (nI a), .int (nI b)]) [] J S (PQ (.int (bI (decide (I 44 a = I 44 b)))) J S) := by
  show Z g 2 0 0 mX6_haveOneOwner 0 [.ref 0, .int (nI a), .int (nI b), .retAddr 0, .retAddr 0] [] J S _
  have hn2 := hn.2
  have hq2 := hq.2
  have hm2 := hm.2
  refine Z.aload_n dX6_haveOneOwner_0 rfl ?_
  refine Z.iload_n dX6_haveOneOwner_1 rfl ?_
  have l_a : a < mm := by omega
  have h_a : a < 120 := by omega
  have ho_a := hz.2 _ l_a
  have hl_a := hM.2.2.1 _ h_a
  have hc_a := hM.2.2.2.1 _ h_a
  have hl2_a := hl_a.2
  have hc2_a := hc_a.2
  have hcl_a := ho_a.2.2
  have h12_a := clL_le (I := I) (j := a)
  refine Z.callVp (M := mX6_haveOneOwner) (pc := 2) (st := []) (N := mX6_markAt) (n := 1) (r := .ref (58 + 3 * a)) dX6_haveOneOwner_2 mlX6_94 mkX6_markAt imX6_markAt seX6_markAt (fx0 hF) cl6 rfl (d1 := 1) (by decide) (As := [.int (nI a)]) rfl ⟨rfl, Nat.le_of_ble_eq_true rfl⟩ ⟨rfl, Nat.le_of_ble_eq_true rfl⟩ (cc_markAtN hE a hF hC hm hz (by omega)) rfl ?_
  refine Z.astore_n (L' := [.ref 0, .int (nI a), .int (nI b), .ref (58 + 3 * a), .retAddr 0]) dX6_haveOneOwner_5 (Nat.le_of_ble_eq_true rfl) rfl ?_
  refine Z.aload_n dX6_haveOneOwner_6 rfl ?_
  refine Z.iload_n dX6_haveOneOwner_7 rfl ?_
  have l_b : b < mm := by omega
  have h_b : b < 120 := by omega
  have ho_b := hz.2 _ l_b
  have hl_b := hM.2.2.1 _ h_b
  have hc_b := hM.2.2.2.1 _ h_b
  have hl2_b := hl_b.2
  have hc2_b := hc_b.2
  have hcl_b := ho_b.2.2
  have h12_b := clL_le (I := I) (j := b)
  refine Z.callVp (M := mX6_haveOneOwner) (pc := 8) (st := []) (N := mX6_markAt) (n := 1) (r := .ref (58 + 3 * b)) dX6_haveOneOwner_8 mlX6_94 mkX6_markAt imX6_markAt seX6_markAt (fx0 hF) cl6 rfl (d1 := 1) (by decide) (As := [.int (nI b)]) rfl ⟨rfl, Nat.le_of_ble_eq_true rfl⟩ ⟨rfl, Nat.le_of_ble_eq_true rfl⟩ (cc_markAtN hE b hF hC hm hz (by omega)) rfl ?_
  refine Z.astore (L' := [.ref 0, .int (nI a), .int (nI b), .ref (58 + 3 * a), .ref (58 + 3 * b)]) dX6_haveOneOwner_11 (Nat.le_of_ble_eq_true rfl) rfl ?_
  refine Z.aload_n dX6_haveOneOwner_13 rfl ?_
  refine Z.ifnull dX6_haveOneOwner_14 ?_
  refine Z.aload dX6_haveOneOwner_17 rfl ?_
  refine Z.ifnull dX6_haveOneOwner_19 ?_
  refine Z.aload_n dX6_haveOneOwner_22 rfl ?_
  refine Z.getIv (v := I 44 a) dX6_haveOneOwner_23 cl1 flX6_169 (by decide) ho_a.1.1 ((hE.at (58 + 3 * a) 1 (scr58_0 a)).trans ho_a.2.1.2.1) ?_
  refine Z.aload dX6_haveOneOwner_26 rfl ?_
  refine Z.getIv (v := I 44 b) dX6_haveOneOwner_28 cl1 flX6_169 (by decide) ho_b.1.1 ((hE.at (58 + 3 * b) 1 (scr58_0 b)).trans ho_b.2.1.2.1) ?_
  refine Z.icmp_ne (tgt := 38) dX6_haveOneOwner_31 (by decide) (fun h1 => ?_) (fun h1 => ?_)
  · refine Z.iconst (v := 0) dX6_haveOneOwner_38 (by decide) ?_
    exact Z.zret dX6_haveOneOwner_39 rfl (by decide) ⟨by simp [bI, h1], rfl, rfl⟩
  · refine Z.iconst (v := 1) dX6_haveOneOwner_34 (by decide) ?_
    refine Z.goto (tgt := 39) dX6_haveOneOwner_35 (by decide) ?_
    exact Z.zret dX6_haveOneOwner_39 rfl (by decide) ⟨by simp [bI, eq_true h1], rfl, rfl⟩

theorem lk_pp {ka kb CL WL : Int32} (ha : ka = 1 ∨ ka = 2) (hb : kb = 1 ∨ kb = 2) (h : ¬ (ka = 2 ∧ kb = 2)) : lkG ka kb CL WL = CL := by
  unfold lkG
  rw [if_pos (by rcases ha with h1 | h1 <;> rcases hb with h2 | h2 <;> first | exact Or.inl h1 | exact Or.inr h2 | exact absurd ⟨h1, h2⟩ h), if_pos ⟨ha, hb⟩]
theorem lk_mm {ka kb CL WL : Int32} (ha : ka = 2) (hb : kb = 2) : lkG ka kb CL WL = (if CL < WL then WL else CL) := by
  unfold lkG
  subst ha; subst hb
  rw [if_neg (by decide)]
  simp only [and_self, if_true]
  have := dmn_comm CL WL
  by_cases h1 : WL < CL
  · have : ¬ CL < WL := by rw [Int32.lt_iff_toInt_lt] at *; omega
    rw [if_pos h1, if_neg this]
  · rw [if_neg h1]
    by_cases h2 : CL < WL
    · rw [if_pos h2]
    · rw [if_neg h2]
      rw [Int32.lt_iff_toInt_lt] at *
      exact Int32.toInt_inj.mp (by omega)
theorem lk_d0 {ka kb CL WL : Int32} (h : ka = 1 ∨ kb = 1) (hn : ¬ ((ka = 1 ∨ ka = 2) ∧ (kb = 1 ∨ kb = 2))) : lkG ka kb CL WL = 0 := by
  unfold lkG
  rw [if_pos h, if_neg hn]
theorem lk_w {ka kb CL WL : Int32} (h1 : ¬ ka = 1) (h2 : ¬ kb = 1) (hn : ¬ ((ka = 1 ∨ ka = 2) ∧ (kb = 1 ∨ kb = 2))) (hw : ¬ WL < 0) : lkG ka kb CL WL = WL := by
  unfold lkG
  rw [if_neg (by rintro (h | h); exact h1 h; exact h2 h), if_neg (show ¬ (ka = 2 ∧ kb = 2) from fun q => hn ⟨Or.inr q.1, Or.inr q.2⟩), if_neg hw]
theorem wl_nn {c : Int32} {na nb : Nat} : ¬ wlF c na nb < 0 := by
  unfold wlF
  split
  · decide
  · split
    · decide
    · assumption
theorem or_t {a : Int32} (h : (decide (a = 1) || decide (a = 2)) = true) : a = 1 ∨ a = 2 := by simpa using h
theorem or_f {a c : Int32} (h : (decide (a = 1) || decide (a = 2)) = false) : ¬ ((a = 1 ∨ a = 2) ∧ (c = 1 ∨ c = 2)) := fun q => by simp at h; exact q.1.elim h.1 h.2
theorem or_f2 {a c : Int32} (h : (decide (a = 1) || decide (a = 2)) = false) : ¬ ((c = 1 ∨ c = 2) ∧ (a = 1 ∨ a = 2)) := fun q => by simp at h; exact q.2.elim h.1 h.2
set_option maxHeartbeats 4000000 in
set_option maxRecDepth 100000 in
theorem cc_likeOf {g : GP} {I J : IM} {S : SH} (hE : Ex I J)  (hF : Fx S) (hC : Cp I) (hM : MIv I) {a : Nat} (h_a : a < 120) (ho_a : Mo I S a) {b : Nat} (h_b : b < 120) (ho_b : Mo I S b) : Z g 3 0 0 mX6_likeOf 0 (enL mX6_likeOf [.ref 0, .ref (58 + 3 * a), .ref (58 + 3 * b)]) [] J S (N6 (.int (lkM I a b)) J S) := by
  show Z g 3 0 0 mX6_likeOf 0 [.ref 0, .ref (58 + 3 * a), .ref (58 + 3 * b), .retAddr 0, .retAddr 0] [] J S _
  have hl_a := hM.2.2.1 _ h_a
  have hc_a := hM.2.2.2.1 _ h_a
  have hl2_a := hl_a.2
  have hc2_a := hc_a.2
  have hcl_a := ho_a.2.2
  have h12_a := clL_le (I := I) (j := a)
  have hl_b := hM.2.2.1 _ h_b
  have hc_b := hM.2.2.2.1 _ h_b
  have hl2_b := hl_b.2
  have hc2_b := hc_b.2
  have hcl_b := ho_b.2.2
  have h12_b := clL_le (I := I) (j := b)
  refine Z.aload_n dX6_likeOf_0 rfl ?_
  refine Z.callVp (M := mX6_likeOf) (pc := 1) (st := []) (N := mX1_hasPicture) (n := 0) (r := .int (bI (decide (I 43 a = 1) || decide (I 43 a = 2)))) dX6_likeOf_1 mlX6_266 mkX1_hasPicture imX1_hasPicture seX1_hasPicture ho_a.1.1 cl1 rfl (d1 := 0) (by decide) (As := []) rfl ⟨rfl, Nat.le_of_ble_eq_true rfl⟩ ⟨rfl, Nat.le_of_ble_eq_true rfl⟩ (cc_hasPicture hE hF hC hM h_a ho_a) rfl ?_
  refine Z.if_eqB (tgt := 66) dX6_likeOf_4 (by decide) (fun h1 => ?_) (fun h1 => ?_)
  · refine Z.aload_n dX6_likeOf_66 rfl ?_
    refine Z.getIv (v := I 43 a) dX6_likeOf_67 cl1 flX6_166 (by decide) ho_a.1.1 ((hE.at (58 + 3 * a) 0 (scr58_0 a)).trans ho_a.2.1.1) ?_
    refine Z.iconst (v := 1) dX6_likeOf_70 (by decide) ?_
    refine Z.icmp_eq (tgt := 82) dX6_likeOf_71 (by decide) (fun h2 => ?_) (fun h2 => ?_)
    · refine Z.iconst (v := 0) dX6_likeOf_82 (by decide) ?_
      refine Z.goto (tgt := 95) dX6_likeOf_83 (by decide) ?_
      exact Z.iret dX6_likeOf_95 rfl ⟨by rw [lkM, lk_d0 (Or.inl h2) (or_f h1)], (fun a ha => rfl), rfl⟩
    · refine Z.aload_n dX6_likeOf_74 rfl ?_
      refine Z.getIv (v := I 43 b) dX6_likeOf_75 cl1 flX6_166 (by decide) ho_b.1.1 ((hE.at (58 + 3 * b) 0 (scr58_0 b)).trans ho_b.2.1.1) ?_
      refine Z.iconst (v := 1) dX6_likeOf_78 (by decide) ?_
      refine Z.icmp_ne (tgt := 86) dX6_likeOf_79 (by decide) (fun h3 => ?_) (fun h3 => ?_)
      · refine Z.aload_n dX6_likeOf_86 rfl ?_
        refine Z.getR (r := 1) dX6_likeOf_87 cl6 flX6_10 (by decide) (fx0 hF) rfl ?_
        refine Z.aload_n dX6_likeOf_90 rfl ?_
        refine Z.aload_n dX6_likeOf_91 rfl ?_
        refine Z.callVg (M := mX6_likeOf) (pc := 92) (st := []) (N := mX4_likeOf) (n := 2) dX6_likeOf_92 mlX6_272 mkX4_likeOf imX4_likeOf seX4_likeOf (fx1 hF) cl4 rfl (d1 := 2) (by decide) (As := [.ref (58 + 3 * a), .ref (58 + 3 * b)]) rfl ⟨rfl, Nat.le_of_ble_eq_true rfl⟩ ⟨rfl, Nat.le_of_ble_eq_true rfl⟩ (cc_likeOf4 hE hF hC hM h_a ho_a h_b ho_b) rfl (fun v_ J1 S_ h_ => ?_)
        obtain ⟨rfl, hw6, rfl⟩ := h_
        have hE := hw6.ex hE
        exact Z.iret dX6_likeOf_95 rfl ⟨by rw [lkM, lk_w h2 h3 (or_f h1) (show ¬ wlM I a b < 0 from wl_nn)], hw6, rfl⟩
      · refine Z.iconst (v := 0) dX6_likeOf_82 (by decide) ?_
        refine Z.goto (tgt := 95) dX6_likeOf_83 (by decide) ?_
        exact Z.iret dX6_likeOf_95 rfl ⟨by rw [lkM, lk_d0 (Or.inr h3) (or_f h1)], (fun a ha => rfl), rfl⟩
  · refine Z.aload_n dX6_likeOf_7 rfl ?_
    refine Z.callVp (M := mX6_likeOf) (pc := 8) (st := []) (N := mX1_hasPicture) (n := 0) (r := .int (bI (decide (I 43 b = 1) || decide (I 43 b = 2)))) dX6_likeOf_8 mlX6_266 mkX1_hasPicture imX1_hasPicture seX1_hasPicture ho_b.1.1 cl1 rfl (d1 := 0) (by decide) (As := []) rfl ⟨rfl, Nat.le_of_ble_eq_true rfl⟩ ⟨rfl, Nat.le_of_ble_eq_true rfl⟩ (cc_hasPicture hE hF hC hM h_b ho_b) rfl ?_
    refine Z.if_eqB (tgt := 66) dX6_likeOf_11 (by decide) (fun h4 => ?_) (fun h4 => ?_)
    · refine Z.aload_n dX6_likeOf_66 rfl ?_
      refine Z.getIv (v := I 43 a) dX6_likeOf_67 cl1 flX6_166 (by decide) ho_a.1.1 ((hE.at (58 + 3 * a) 0 (scr58_0 a)).trans ho_a.2.1.1) ?_
      refine Z.iconst (v := 1) dX6_likeOf_70 (by decide) ?_
      refine Z.icmp_eq (tgt := 82) dX6_likeOf_71 (by decide) (fun h5 => ?_) (fun h5 => ?_)
      · refine Z.iconst (v := 0) dX6_likeOf_82 (by decide) ?_
        refine Z.goto (tgt := 95) dX6_likeOf_83 (by decide) ?_
        exact Z.iret dX6_likeOf_95 rfl ⟨by rw [lkM, lk_d0 (Or.inl h5) (or_f2 h4)], (fun a ha => rfl), rfl⟩
      · refine Z.aload_n dX6_likeOf_74 rfl ?_
        refine Z.getIv (v := I 43 b) dX6_likeOf_75 cl1 flX6_166 (by decide) ho_b.1.1 ((hE.at (58 + 3 * b) 0 (scr58_0 b)).trans ho_b.2.1.1) ?_
        refine Z.iconst (v := 1) dX6_likeOf_78 (by decide) ?_
        refine Z.icmp_ne (tgt := 86) dX6_likeOf_79 (by decide) (fun h6 => ?_) (fun h6 => ?_)
        · refine Z.aload_n dX6_likeOf_86 rfl ?_
          refine Z.getR (r := 1) dX6_likeOf_87 cl6 flX6_10 (by decide) (fx0 hF) rfl ?_
          refine Z.aload_n dX6_likeOf_90 rfl ?_
          refine Z.aload_n dX6_likeOf_91 rfl ?_
          refine Z.callVg (M := mX6_likeOf) (pc := 92) (st := []) (N := mX4_likeOf) (n := 2) dX6_likeOf_92 mlX6_272 mkX4_likeOf imX4_likeOf seX4_likeOf (fx1 hF) cl4 rfl (d1 := 2) (by decide) (As := [.ref (58 + 3 * a), .ref (58 + 3 * b)]) rfl ⟨rfl, Nat.le_of_ble_eq_true rfl⟩ ⟨rfl, Nat.le_of_ble_eq_true rfl⟩ (cc_likeOf4 hE hF hC hM h_a ho_a h_b ho_b) rfl (fun v_ J2 S_ h_ => ?_)
          obtain ⟨rfl, hw6, rfl⟩ := h_
          have hE := hw6.ex hE
          exact Z.iret dX6_likeOf_95 rfl ⟨by rw [lkM, lk_w h5 h6 (or_f2 h4) (show ¬ wlM I a b < 0 from wl_nn)], hw6, rfl⟩
        · refine Z.iconst (v := 0) dX6_likeOf_82 (by decide) ?_
          refine Z.goto (tgt := 95) dX6_likeOf_83 (by decide) ?_
          exact Z.iret dX6_likeOf_95 rfl ⟨by rw [lkM, lk_d0 (Or.inr h6) (or_f2 h4)], (fun a ha => rfl), rfl⟩
    · refine Z.aload_n dX6_likeOf_14 rfl ?_
      refine Z.aload_n dX6_likeOf_15 rfl ?_
      refine Z.callVp (M := mX6_likeOf) (pc := 16) (st := []) (N := mX1_likeOfPictures) (n := 1) (r := .int (clM I a b)) dX6_likeOf_16 mlX6_269 mkX1_likeOfPictures imX1_likeOfPictures seX1_likeOfPictures ho_a.1.1 cl1 rfl (d1 := 1) (by decide) (As := [.ref (58 + 3 * b)]) rfl ⟨rfl, Nat.le_of_ble_eq_true rfl⟩ ⟨rfl, Nat.le_of_ble_eq_true rfl⟩ (cc_lop hE hF hC hM h_a ho_a h_b ho_b) rfl ?_
      refine Z.istore_n (L' := [.ref 0, .ref (58 + 3 * a), .ref (58 + 3 * b), .int (clM I a b), .retAddr 0]) dX6_likeOf_19 (Nat.le_of_ble_eq_true rfl) rfl ?_
      refine Z.aload_n dX6_likeOf_20 rfl ?_
      refine Z.getIv (v := I 43 a) dX6_likeOf_21 cl1 flX6_166 (by decide) ho_a.1.1 ((hE.at (58 + 3 * a) 0 (scr58_0 a)).trans ho_a.2.1.1) ?_
      refine Z.iconst (v := 2) dX6_likeOf_24 (by decide) ?_
      refine Z.icmp_ne (tgt := 40) dX6_likeOf_25 (by decide) (fun h7 => ?_) (fun h7 => ?_)
      · refine Z.iconst (v := 0) dX6_likeOf_40 (by decide) ?_
        refine Z.istore (L' := [.ref 0, .ref (58 + 3 * a), .ref (58 + 3 * b), .int (clM I a b), .int 0]) dX6_likeOf_41 (Nat.le_of_ble_eq_true rfl) rfl ?_
        refine Z.iload dX6_likeOf_43 rfl ?_
        refine Z.if_eq (tgt := 64) dX6_likeOf_45 (by decide) (fun h8 => ?_) (fun h8 => absurd h8 (by decide))
        refine Z.iload_n dX6_likeOf_64 rfl ?_
        exact Z.iret dX6_likeOf_65 rfl ⟨by rw [lkM, lk_pp (or_t h1) (or_t h4) (fun q => h7 q.1)], (fun a ha => rfl), rfl⟩
      · refine Z.aload_n dX6_likeOf_28 rfl ?_
        refine Z.getIv (v := I 43 b) dX6_likeOf_29 cl1 flX6_166 (by decide) ho_b.1.1 ((hE.at (58 + 3 * b) 0 (scr58_0 b)).trans ho_b.2.1.1) ?_
        refine Z.iconst (v := 2) dX6_likeOf_32 (by decide) ?_
        refine Z.icmp_ne (tgt := 40) dX6_likeOf_33 (by decide) (fun h9 => ?_) (fun h9 => ?_)
        · refine Z.iconst (v := 0) dX6_likeOf_40 (by decide) ?_
          refine Z.istore (L' := [.ref 0, .ref (58 + 3 * a), .ref (58 + 3 * b), .int (clM I a b), .int 0]) dX6_likeOf_41 (Nat.le_of_ble_eq_true rfl) rfl ?_
          refine Z.iload dX6_likeOf_43 rfl ?_
          refine Z.if_eq (tgt := 64) dX6_likeOf_45 (by decide) (fun h10 => ?_) (fun h10 => absurd h10 (by decide))
          refine Z.iload_n dX6_likeOf_64 rfl ?_
          exact Z.iret dX6_likeOf_65 rfl ⟨by rw [lkM, lk_pp (or_t h1) (or_t h4) (fun q => h9 q.2)], (fun a ha => rfl), rfl⟩
        · refine Z.iconst (v := 1) dX6_likeOf_36 (by decide) ?_
          refine Z.goto (tgt := 41) dX6_likeOf_37 (by decide) ?_
          refine Z.istore (L' := [.ref 0, .ref (58 + 3 * a), .ref (58 + 3 * b), .int (clM I a b), .int 1]) dX6_likeOf_41 (Nat.le_of_ble_eq_true rfl) rfl ?_
          refine Z.iload dX6_likeOf_43 rfl ?_
          refine Z.if_eq (tgt := 64) dX6_likeOf_45 (by decide) (fun h11 => absurd h11 (by decide)) (fun h11 => ?_)
          refine Z.iload_n dX6_likeOf_48 rfl ?_
          refine Z.aload_n dX6_likeOf_49 rfl ?_
          refine Z.getR (r := 1) dX6_likeOf_50 cl6 flX6_10 (by decide) (fx0 hF) rfl ?_
          refine Z.aload_n dX6_likeOf_53 rfl ?_
          refine Z.aload_n dX6_likeOf_54 rfl ?_
          refine Z.callVg (M := mX6_likeOf) (pc := 55) (st := [.int (clM I a b)]) (N := mX4_likeOf) (n := 2) dX6_likeOf_55 mlX6_272 mkX4_likeOf imX4_likeOf seX4_likeOf (fx1 hF) cl4 rfl (d1 := 2) (by decide) (As := [.ref (58 + 3 * a), .ref (58 + 3 * b)]) rfl ⟨rfl, Nat.le_of_ble_eq_true rfl⟩ ⟨rfl, Nat.le_of_ble_eq_true rfl⟩ (cc_likeOf4 hE hF hC hM h_a ho_a h_b ho_b) rfl (fun v_ J3 S_ h_ => ?_)
          obtain ⟨rfl, hw6, rfl⟩ := h_
          have hE := hw6.ex hE
          refine Z.mmax dX6_likeOf_58 mlX6_273 (by decide) ⟨rfl, Nat.le_of_ble_eq_true rfl⟩ ?_
          refine Z.goto (tgt := 65) dX6_likeOf_61 (by decide) ?_
          exact Z.iret dX6_likeOf_65 rfl ⟨by rw [lkM, lk_mm h7 h9], hw6, rfl⟩

set_option maxHeartbeats 4000000 in
set_option maxRecDepth 100000 in
theorem cc_areAlike {g : GP} {I J : IM} {S : SH} (hE : Ex I J) (a b : Int32) (hF : Fx S) (hC : Cp I) {n : Nat} (hn : Mp I n) {nq : Nat} (hq : Mq I nq) (hcq : Cq I nq) (hM : MIv I) {mm : Nat} (hm : Mm I mm) (hz : Mz I S mm) : Z g 4 0 0 mX6_areAlike 0 (enL mX6_areAlike [.ref 0, .int a, .int b]) [] J S (N6 (.int (bI (inB a 0 (I 35 10 - 1) && (inB b 0 (I 35 10 - 1) && alM I a.toNatClampNeg b.toNatClampNeg)))) J S) := by
  show Z g 4 0 0 mX6_areAlike 0 [.ref 0, .int a, .int b, .retAddr 0, .retAddr 0] [] J S _
  have hn2 := hn.2
  have hq2 := hq.2
  have hm2 := hm.2
  refine Z.aload_n dX6_areAlike_0 rfl ?_
  refine Z.iload_n dX6_areAlike_1 rfl ?_
  rcases Bool.eq_false_or_eq_true (inB a 0 (I 35 10 - 1)) with h1 | h1
  · have l_a : a.toNatClampNeg < mm := (mk_rg hm.1 hm.2 h1).2
    have h_a : a.toNatClampNeg < 120 := by omega
    have ho_a := hz.2 _ l_a
    have hl_a := hM.2.2.1 _ h_a
    have hc_a := hM.2.2.2.1 _ h_a
    have hl2_a := hl_a.2
    have hc2_a := hc_a.2
    have hcl_a := ho_a.2.2
    have h12_a := clL_le (I := I) (j := a.toNatClampNeg)
    refine Z.callVp (M := mX6_areAlike) (pc := 2) (st := []) (N := mX6_markAt) (n := 1) (r := .ref (58 + 3 * a.toNatClampNeg)) dX6_areAlike_2 mlX6_94 mkX6_markAt imX6_markAt seX6_markAt (fx0 hF) cl6 rfl (d1 := 1) (by decide) (As := [.int a]) rfl ⟨rfl, Nat.le_of_ble_eq_true rfl⟩ ⟨rfl, Nat.le_of_ble_eq_true rfl⟩ (cc_markAtT hE a hF hC hm hz h1) rfl ?_
    refine Z.astore_n (L' := [.ref 0, .int a, .int b, .ref (58 + 3 * a.toNatClampNeg), .retAddr 0]) dX6_areAlike_5 (Nat.le_of_ble_eq_true rfl) rfl ?_
    refine Z.aload_n dX6_areAlike_6 rfl ?_
    refine Z.iload_n dX6_areAlike_7 rfl ?_
    rcases Bool.eq_false_or_eq_true (inB b 0 (I 35 10 - 1)) with h2 | h2
    · have l_b : b.toNatClampNeg < mm := (mk_rg hm.1 hm.2 h2).2
      have h_b : b.toNatClampNeg < 120 := by omega
      have ho_b := hz.2 _ l_b
      have hl_b := hM.2.2.1 _ h_b
      have hc_b := hM.2.2.2.1 _ h_b
      have hl2_b := hl_b.2
      have hc2_b := hc_b.2
      have hcl_b := ho_b.2.2
      have h12_b := clL_le (I := I) (j := b.toNatClampNeg)
      refine Z.callVp (M := mX6_areAlike) (pc := 8) (st := []) (N := mX6_markAt) (n := 1) (r := .ref (58 + 3 * b.toNatClampNeg)) dX6_areAlike_8 mlX6_94 mkX6_markAt imX6_markAt seX6_markAt (fx0 hF) cl6 rfl (d1 := 1) (by decide) (As := [.int b]) rfl ⟨rfl, Nat.le_of_ble_eq_true rfl⟩ ⟨rfl, Nat.le_of_ble_eq_true rfl⟩ (cc_markAtT hE b hF hC hm hz h2) rfl ?_
      refine Z.astore (L' := [.ref 0, .int a, .int b, .ref (58 + 3 * a.toNatClampNeg), .ref (58 + 3 * b.toNatClampNeg)]) dX6_areAlike_11 (Nat.le_of_ble_eq_true rfl) rfl ?_
      refine Z.aload_n dX6_areAlike_13 rfl ?_
      refine Z.ifnull dX6_areAlike_14 ?_
      refine Z.aload dX6_areAlike_17 rfl ?_
      refine Z.ifnull dX6_areAlike_19 ?_
      refine Z.aload_n dX6_areAlike_22 rfl ?_
      refine Z.aload_n dX6_areAlike_23 rfl ?_
      refine Z.aload dX6_areAlike_24 rfl ?_
      refine Z.callVg (M := mX6_areAlike) (pc := 26) (st := []) (N := mX6_likeOf) (n := 2) dX6_areAlike_26 mlX6_186 mkX6_likeOf imX6_likeOf seX6_likeOf (fx0 hF) cl6 rfl (d1 := 3) (by decide) (As := [.ref (58 + 3 * a.toNatClampNeg), .ref (58 + 3 * b.toNatClampNeg)]) rfl ⟨rfl, Nat.le_of_ble_eq_true rfl⟩ ⟨rfl, Nat.le_of_ble_eq_true rfl⟩ (cc_likeOf hE hF hC hM h_a ho_a h_b ho_b) rfl (fun v_ J1 S_ h_ => ?_)
      obtain ⟨rfl, hw6, rfl⟩ := h_
      have hE := hw6.ex hE
      refine Z.aload_n dX6_areAlike_29 rfl ?_
      refine Z.getIv (v := I 35 8) dX6_areAlike_30 cl6 flX6_40 (by decide) (fx0 hF) ((hE.at 0 5 rfl).trans hC.f0_5) ?_
      refine Z.icmp_lt (tgt := 40) dX6_areAlike_33 (by decide) (fun h3 => ?_) (fun h3 => ?_)
      · refine Z.iconst (v := 0) dX6_areAlike_40 (by decide) ?_
        exact Z.zret dX6_areAlike_41 rfl (by decide) ⟨by simp [bI, alM, h1, h2, h3], hw6, rfl⟩
      · refine Z.iconst (v := 1) dX6_areAlike_36 (by decide) ?_
        refine Z.goto (tgt := 41) dX6_areAlike_37 (by decide) ?_
        exact Z.zret dX6_areAlike_41 rfl (by decide) ⟨by simp [bI, alM, h1, h2, h3], hw6, rfl⟩
    · refine Z.callVp (M := mX6_areAlike) (pc := 8) (st := []) (N := mX6_markAt) (n := 1) (r := .null) dX6_areAlike_8 mlX6_94 mkX6_markAt imX6_markAt seX6_markAt (fx0 hF) cl6 rfl (d1 := 1) (by decide) (As := [.int b]) rfl ⟨rfl, Nat.le_of_ble_eq_true rfl⟩ ⟨rfl, Nat.le_of_ble_eq_true rfl⟩ (cc_markAtF hE b hF hC hm hz h2) rfl ?_
      refine Z.astoreN (L' := [.ref 0, .int a, .int b, .ref (58 + 3 * a.toNatClampNeg), .null]) dX6_areAlike_11 (Nat.le_of_ble_eq_true rfl) rfl ?_
      refine Z.aload_n dX6_areAlike_13 rfl ?_
      refine Z.ifnull dX6_areAlike_14 ?_
      refine Z.aloadN dX6_areAlike_17 rfl ?_
      refine Z.ifnullN (tgt := 40) dX6_areAlike_19 (by decide) ?_
      refine Z.iconst (v := 0) dX6_areAlike_40 (by decide) ?_
      exact Z.zret dX6_areAlike_41 rfl (by decide) ⟨by simp [bI, alM, h1, h2], (fun a ha => rfl), rfl⟩
  · refine Z.callVp (M := mX6_areAlike) (pc := 2) (st := []) (N := mX6_markAt) (n := 1) (r := .null) dX6_areAlike_2 mlX6_94 mkX6_markAt imX6_markAt seX6_markAt (fx0 hF) cl6 rfl (d1 := 1) (by decide) (As := [.int a]) rfl ⟨rfl, Nat.le_of_ble_eq_true rfl⟩ ⟨rfl, Nat.le_of_ble_eq_true rfl⟩ (cc_markAtF hE a hF hC hm hz h1) rfl ?_
    refine Z.astore_nN (L' := [.ref 0, .int a, .int b, .null, .retAddr 0]) dX6_areAlike_5 (Nat.le_of_ble_eq_true rfl) rfl ?_
    refine Z.aload_n dX6_areAlike_6 rfl ?_
    refine Z.iload_n dX6_areAlike_7 rfl ?_
    rcases Bool.eq_false_or_eq_true (inB b 0 (I 35 10 - 1)) with h4 | h4
    · have l_b : b.toNatClampNeg < mm := (mk_rg hm.1 hm.2 h4).2
      have h_b : b.toNatClampNeg < 120 := by omega
      have ho_b := hz.2 _ l_b
      have hl_b := hM.2.2.1 _ h_b
      have hc_b := hM.2.2.2.1 _ h_b
      have hl2_b := hl_b.2
      have hc2_b := hc_b.2
      have hcl_b := ho_b.2.2
      have h12_b := clL_le (I := I) (j := b.toNatClampNeg)
      refine Z.callVp (M := mX6_areAlike) (pc := 8) (st := []) (N := mX6_markAt) (n := 1) (r := .ref (58 + 3 * b.toNatClampNeg)) dX6_areAlike_8 mlX6_94 mkX6_markAt imX6_markAt seX6_markAt (fx0 hF) cl6 rfl (d1 := 1) (by decide) (As := [.int b]) rfl ⟨rfl, Nat.le_of_ble_eq_true rfl⟩ ⟨rfl, Nat.le_of_ble_eq_true rfl⟩ (cc_markAtT hE b hF hC hm hz h4) rfl ?_
      refine Z.astore (L' := [.ref 0, .int a, .int b, .null, .ref (58 + 3 * b.toNatClampNeg)]) dX6_areAlike_11 (Nat.le_of_ble_eq_true rfl) rfl ?_
      refine Z.aload_nN dX6_areAlike_13 rfl ?_
      refine Z.ifnullN (tgt := 40) dX6_areAlike_14 (by decide) ?_
      refine Z.iconst (v := 0) dX6_areAlike_40 (by decide) ?_
      exact Z.zret dX6_areAlike_41 rfl (by decide) ⟨by simp [bI, alM, h1, h4], (fun a ha => rfl), rfl⟩
    · refine Z.callVp (M := mX6_areAlike) (pc := 8) (st := []) (N := mX6_markAt) (n := 1) (r := .null) dX6_areAlike_8 mlX6_94 mkX6_markAt imX6_markAt seX6_markAt (fx0 hF) cl6 rfl (d1 := 1) (by decide) (As := [.int b]) rfl ⟨rfl, Nat.le_of_ble_eq_true rfl⟩ ⟨rfl, Nat.le_of_ble_eq_true rfl⟩ (cc_markAtF hE b hF hC hm hz h4) rfl ?_
      refine Z.astoreN (L' := [.ref 0, .int a, .int b, .null, .null]) dX6_areAlike_11 (Nat.le_of_ble_eq_true rfl) rfl ?_
      refine Z.aload_nN dX6_areAlike_13 rfl ?_
      refine Z.ifnullN (tgt := 40) dX6_areAlike_14 (by decide) ?_
      refine Z.iconst (v := 0) dX6_areAlike_40 (by decide) ?_
      exact Z.zret dX6_areAlike_41 rfl (by decide) ⟨by simp [bI, alM, h1, h4], (fun a ha => rfl), rfl⟩

set_option maxHeartbeats 4000000 in
set_option maxRecDepth 100000 in
theorem cc_areAlikeN {g : GP} {I J : IM} {S : SH} (hE : Ex I J) (a b : Nat) (hF : Fx S) (hC : Cp I) {n : Nat} (hn : Mp I n) {nq : Nat} (hq : Mq I nq) (hcq : Cq I nq) (hM : MIv I) {mm : Nat} (hm : Mm I mm) (hz : Mz I S mm) (ha : a < mm) (hb : b < mm) : Z g 4 0 0 mX6_areAlike 0 (enL mX6_areAlike [.ref 0, .int (nI a), .int (nI b)]) [] J S (N6 (.int (bI (alM I a b))) J S) := by
  show Z g 4 0 0 mX6_areAlike 0 [.ref 0, .int (nI a), .int (nI b), .retAddr 0, .retAddr 0] [] J S _
  have hn2 := hn.2
  have hq2 := hq.2
  have hm2 := hm.2
  refine Z.aload_n dX6_areAlike_0 rfl ?_
  refine Z.iload_n dX6_areAlike_1 rfl ?_
  have l_a : a < mm := by omega
  have h_a : a < 120 := by omega
  have ho_a := hz.2 _ l_a
  have hl_a := hM.2.2.1 _ h_a
  have hc_a := hM.2.2.2.1 _ h_a
  have hl2_a := hl_a.2
  have hc2_a := hc_a.2
  have hcl_a := ho_a.2.2
  have h12_a := clL_le (I := I) (j := a)
  refine Z.callVp (M := mX6_areAlike) (pc := 2) (st := []) (N := mX6_markAt) (n := 1) (r := .ref (58 + 3 * a)) dX6_areAlike_2 mlX6_94 mkX6_markAt imX6_markAt seX6_markAt (fx0 hF) cl6 rfl (d1 := 1) (by decide) (As := [.int (nI a)]) rfl ⟨rfl, Nat.le_of_ble_eq_true rfl⟩ ⟨rfl, Nat.le_of_ble_eq_true rfl⟩ (cc_markAtN hE a hF hC hm hz (by omega)) rfl ?_
  refine Z.astore_n (L' := [.ref 0, .int (nI a), .int (nI b), .ref (58 + 3 * a), .retAddr 0]) dX6_areAlike_5 (Nat.le_of_ble_eq_true rfl) rfl ?_
  refine Z.aload_n dX6_areAlike_6 rfl ?_
  refine Z.iload_n dX6_areAlike_7 rfl ?_
  have l_b : b < mm := by omega
  have h_b : b < 120 := by omega
  have ho_b := hz.2 _ l_b
  have hl_b := hM.2.2.1 _ h_b
  have hc_b := hM.2.2.2.1 _ h_b
  have hl2_b := hl_b.2
  have hc2_b := hc_b.2
  have hcl_b := ho_b.2.2
  have h12_b := clL_le (I := I) (j := b)
  refine Z.callVp (M := mX6_areAlike) (pc := 8) (st := []) (N := mX6_markAt) (n := 1) (r := .ref (58 + 3 * b)) dX6_areAlike_8 mlX6_94 mkX6_markAt imX6_markAt seX6_markAt (fx0 hF) cl6 rfl (d1 := 1) (by decide) (As := [.int (nI b)]) rfl ⟨rfl, Nat.le_of_ble_eq_true rfl⟩ ⟨rfl, Nat.le_of_ble_eq_true rfl⟩ (cc_markAtN hE b hF hC hm hz (by omega)) rfl ?_
  refine Z.astore (L' := [.ref 0, .int (nI a), .int (nI b), .ref (58 + 3 * a), .ref (58 + 3 * b)]) dX6_areAlike_11 (Nat.le_of_ble_eq_true rfl) rfl ?_
  refine Z.aload_n dX6_areAlike_13 rfl ?_
  refine Z.ifnull dX6_areAlike_14 ?_
  refine Z.aload dX6_areAlike_17 rfl ?_
  refine Z.ifnull dX6_areAlike_19 ?_
  refine Z.aload_n dX6_areAlike_22 rfl ?_
  refine Z.aload_n dX6_areAlike_23 rfl ?_
  refine Z.aload dX6_areAlike_24 rfl ?_
  refine Z.callVg (M := mX6_areAlike) (pc := 26) (st := []) (N := mX6_likeOf) (n := 2) dX6_areAlike_26 mlX6_186 mkX6_likeOf imX6_likeOf seX6_likeOf (fx0 hF) cl6 rfl (d1 := 3) (by decide) (As := [.ref (58 + 3 * a), .ref (58 + 3 * b)]) rfl ⟨rfl, Nat.le_of_ble_eq_true rfl⟩ ⟨rfl, Nat.le_of_ble_eq_true rfl⟩ (cc_likeOf hE hF hC hM h_a ho_a h_b ho_b) rfl (fun v_ J1 S_ h_ => ?_)
  obtain ⟨rfl, hw6, rfl⟩ := h_
  have hE := hw6.ex hE
  refine Z.aload_n dX6_areAlike_29 rfl ?_
  refine Z.getIv (v := I 35 8) dX6_areAlike_30 cl6 flX6_40 (by decide) (fx0 hF) ((hE.at 0 5 rfl).trans hC.f0_5) ?_
  refine Z.icmp_lt (tgt := 40) dX6_areAlike_33 (by decide) (fun h1 => ?_) (fun h1 => ?_)
  · refine Z.iconst (v := 0) dX6_areAlike_40 (by decide) ?_
    exact Z.zret dX6_areAlike_41 rfl (by decide) ⟨by simp [bI, alM, h1], hw6, rfl⟩
  · refine Z.iconst (v := 1) dX6_areAlike_36 (by decide) ?_
    refine Z.goto (tgt := 41) dX6_areAlike_37 (by decide) ?_
    exact Z.zret dX6_areAlike_41 rfl (by decide) ⟨by simp [bI, alM, h1], hw6, rfl⟩

