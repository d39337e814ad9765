set_option maxHeartbeats 4000000 in
set_option maxRecDepth 100000 in
theorem cq_isEntered19 {g : GP} {I J : IM} {S : SH} (hE : Ex I J)  (hF : Fx S) (hC : Cp I) {n K : Nat} {m c t : Int32} (hn2 : n ≤ 400) (hD : Dn I n) (hA : VA I n m c t (J 19) K) (hB : VB I n m t (J 20) (J 21) (J 22) (J 23) K) : Z g 0 0 0 mX5_isEntered 0 (enL mX5_isEntered [.ref 19]) [] J S (PQ (.int (bI (!decide (firF (pM I n) m t = -1)))) J S) := by
  show Z g 0 0 0 mX5_isEntered 0 [.ref 19] [] J S _
  have hK := hA.2.2.2.2.2.2.2.2.2
  have hcn2 := cntU_le (p := pM I n) (k := 2) (m := m) (t := t) n
  refine Z.aload_n dX5_isEntered_0 rfl ?_
  refine Z.getIv (v := firF (pM I n) m t) dX5_isEntered_1 cl5 flX5_51 (by decide) (fx19 hF) hA.2.1 ?_
  refine Z.iconst (v := (-1)) dX5_isEntered_4 (by decide) ?_
  refine Z.icmp_eq (tgt := 12) dX5_isEntered_5 (by decide) (fun h1 => ?_) (fun h1 => ?_)
  · refine Z.iconst (v := 0) dX5_isEntered_12 (by decide) ?_
    exact Z.zret dX5_isEntered_13 rfl (by decide) ⟨by simp [bI, eq_true h1], rfl, rfl⟩
  · refine Z.iconst (v := 1) dX5_isEntered_8 (by decide) ?_
    refine Z.goto (tgt := 13) dX5_isEntered_9 (by decide) ?_
    exact Z.zret dX5_isEntered_13 rfl (by decide) ⟨by simp [bI, h1], rfl, rfl⟩

set_option maxHeartbeats 4000000 in
set_option maxRecDepth 100000 in
theorem cq_termEnd19 {g : GP} {I J : IM} {S : SH} (hE : Ex I J)  (hF : Fx S) (hC : Cp I) {n K : Nat} {m c t : Int32} (hn2 : n ≤ 400) (hD : Dn I n) (hA : VA I n m c t (J 19) K) (hB : VB I n m t (J 20) (J 21) (J 22) (J 23) K) : Z g 1 0 0 mX5_termEnd 0 (enL mX5_termEnd [.ref 19]) [] J S (PQ (.int (if firF (pM I n) m t = -1 then -1 else termF (pM I n) m t)) J S) := by
  show Z g 1 0 0 mX5_termEnd 0 [.ref 19] [] J S _
  have hK := hA.2.2.2.2.2.2.2.2.2
  have hcn2 := cntU_le (p := pM I n) (k := 2) (m := m) (t := t) n
  refine Z.aload_n dX5_termEnd_0 rfl ?_
  refine Z.callVp (M := mX5_termEnd) (pc := 1) (st := []) (N := mX5_isEntered) (n := 0) (r := .int (bI (!decide (firF (pM I n) m t = -1)))) dX5_termEnd_1 mlX5_54 mkX5_isEntered imX5_isEntered seX5_isEntered (fx19 hF) cl5 rfl (d1 := 0) (by decide) (As := []) rfl ⟨rfl, Nat.le_of_ble_eq_true rfl⟩ ⟨rfl, Nat.le_of_ble_eq_true rfl⟩ (cq_isEntered19 hE hF hC hn2 hD hA hB) rfl ?_
  refine Z.if_eqB (tgt := 25) dX5_termEnd_4 (by decide) (fun h1 => ?_) (fun h1 => ?_)
  · refine Z.iconst (v := (-1)) dX5_termEnd_25 (by decide) ?_
    exact Z.iret dX5_termEnd_26 rfl ⟨by rw [if_pos (by simpa using h1)], rfl, rfl⟩
  · refine Z.aload_n dX5_termEnd_7 rfl ?_
    refine Z.getIv (v := firF (pM I n) m t) dX5_termEnd_8 cl5 flX5_51 (by decide) (fx19 hF) hA.2.1 ?_
    refine Z.sipush (v := 3650) dX5_termEnd_11 (by decide) ?_
    refine Z.iconst (v := 1) dX5_termEnd_14 (by decide) ?_
    refine Z.aload_n dX5_termEnd_15 rfl ?_
    refine Z.getIv (v := nI (cntF (pM I n) 2 m t)) dX5_termEnd_16 cl5 flX5_58 (by decide) (fx19 hF) hA.2.2.2.2.1 ?_
    refine Z.iaddN (a := 1) (b := cntF (pM I n) 2 m t) dX5_termEnd_19 ?_
    refine Z.imulN (a := 3650) (b := 1 + (cntF (pM I n) 2 m t)) dX5_termEnd_20 ?_
    refine Z.iadd dX5_termEnd_21 ?_
    refine Z.goto (tgt := 26) dX5_termEnd_22 (by decide) ?_
    exact Z.iret dX5_termEnd_26 rfl ⟨by rw [if_neg (by simpa using h1)]; rfl, rfl, rfl⟩

theorem cq_termEndT19 {g : GP} {I J : IM} {S : SH} (hE : Ex I J) (hF : Fx S) (hC : Cp I) {n K : Nat} {m c t : Int32} (hn2 : n ≤ 400) (hD : Dn I n) (hA : VA I n m c t (J 19) K) (hB : VB I n m t (J 20) (J 21) (J 22) (J 23) K) (hne : ¬ firF (pM I n) m t = -1) : Z g 1 0 0 mX5_termEnd 0 (enL mX5_termEnd [.ref 19]) [] J S (PQ (.int (termF (pM I n) m t)) J S) := by
  have e := cq_termEnd19 (g := g) hE hF hC hn2 hD hA hB
  rw [if_neg hne] at e
  exact e
set_option maxHeartbeats 4000000 in
set_option maxRecDepth 100000 in
theorem cq_isLapsed19 {g : GP} {I J : IM} {S : SH} (hE : Ex I J)  (hF : Fx S) (hC : Cp I) {n K : Nat} {m c t : Int32} (hn2 : n ≤ 400) (hD : Dn I n) (hA : VA I n m c t (J 19) K) (hB : VB I n m t (J 20) (J 21) (J 22) (J 23) K) : Z g 2 0 0 mX5_isLapsed 0 (enL mX5_isLapsed [.ref 19]) [] J S (PQ (.int (bI (!decide (firF (pM I n) m t = -1) && lapF (pM I n) m t))) J S) := by
  show Z g 2 0 0 mX5_isLapsed 0 [.ref 19] [] J S _
  have hK := hA.2.2.2.2.2.2.2.2.2
  have hcn2 := cntU_le (p := pM I n) (k := 2) (m := m) (t := t) n
  refine Z.aload_n dX5_isLapsed_0 rfl ?_
  refine Z.callVp (M := mX5_isLapsed) (pc := 1) (st := []) (N := mX5_isEntered) (n := 0) (r := .int (bI (!decide (firF (pM I n) m t = -1)))) dX5_isLapsed_1 mlX5_54 mkX5_isEntered imX5_isEntered seX5_isEntered (fx19 hF) cl5 rfl (d1 := 0) (by decide) (As := []) rfl ⟨rfl, Nat.le_of_ble_eq_true rfl⟩ ⟨rfl, Nat.le_of_ble_eq_true rfl⟩ (cq_isEntered19 hE hF hC hn2 hD hA hB) rfl ?_
  refine Z.if_eqB (tgt := 26) dX5_isLapsed_4 (by decide) (fun h1 => ?_) (fun h1 => ?_)
  · refine Z.iconst (v := 0) dX5_isLapsed_26 (by decide) ?_
    exact Z.zret dX5_isLapsed_27 rfl (by decide) ⟨by simp [bI, lapF, h1], rfl, rfl⟩
  · refine Z.aload_n dX5_isLapsed_7 rfl ?_
    refine Z.getIv (v := t) dX5_isLapsed_8 cl5 flX5_61 (by decide) (fx19 hF) hA.1 ?_
    refine Z.aload_n dX5_isLapsed_11 rfl ?_
    refine Z.callVp (M := mX5_isLapsed) (pc := 12) (st := [.int t]) (N := mX5_termEnd) (n := 0) (r := .int (termF (pM I n) m t)) dX5_isLapsed_12 mlX5_64 mkX5_termEnd imX5_termEnd seX5_termEnd (fx19 hF) cl5 rfl (d1 := 1) (by decide) (As := []) rfl ⟨rfl, Nat.le_of_ble_eq_true rfl⟩ ⟨rfl, Nat.le_of_ble_eq_true rfl⟩ (cq_termEndT19 hE hF hC hn2 hD hA hB (by simpa using h1)) rfl ?_
    refine Z.sipush (v := 180) dX5_isLapsed_15 (by decide) ?_
    refine Z.iadd dX5_isLapsed_18 ?_
    refine Z.icmp_le (tgt := 26) dX5_isLapsed_19 (by decide) (fun h2 => ?_) (fun h2 => ?_)
    · refine Z.iconst (v := 0) dX5_isLapsed_26 (by decide) ?_
      exact Z.zret dX5_isLapsed_27 rfl (by decide) ⟨by simp [bI, lapF, h1, h2], rfl, rfl⟩
    · refine Z.iconst (v := 1) dX5_isLapsed_22 (by decide) ?_
      refine Z.goto (tgt := 27) dX5_isLapsed_23 (by decide) ?_
      exact Z.zret dX5_isLapsed_27 rfl (by decide) ⟨by simp [bI, lapF, h1, h2], rfl, rfl⟩

set_option maxHeartbeats 4000000 in
set_option maxRecDepth 100000 in
theorem cq_isTimeToRenew19 {g : GP} {I J : IM} {S : SH} (hE : Ex I J)  (hF : Fx S) (hC : Cp I) {n K : Nat} {m c t : Int32} (hn2 : n ≤ 400) (hD : Dn I n) (hA : VA I n m c t (J 19) K) (hB : VB I n m t (J 20) (J 21) (J 22) (J 23) K) (hne : ¬ firF (pM I n) m t = -1) : Z g 2 0 0 mX5_isTimeToRenew 0 (enL mX5_isTimeToRenew [.ref 19]) [] J S (PQ (.int (bI (!decide (t < termF (pM I n) m t - 365) && !decide (termF (pM I n) m t + 180 < t)))) J S) := by
  show Z g 2 0 0 mX5_isTimeToRenew 0 [.ref 19] [] J S _
  have hK := hA.2.2.2.2.2.2.2.2.2
  have hcn2 := cntU_le (p := pM I n) (k := 2) (m := m) (t := t) n
  refine Z.aload_n dX5_isTimeToRenew_0 rfl ?_
  refine Z.getIv (v := t) dX5_isTimeToRenew_1 cl5 flX5_61 (by decide) (fx19 hF) hA.1 ?_
  refine Z.aload_n dX5_isTimeToRenew_4 rfl ?_
  refine Z.callVp (M := mX5_isTimeToRenew) (pc := 5) (st := [.int t]) (N := mX5_termEnd) (n := 0) (r := .int (termF (pM I n) m t)) dX5_isTimeToRenew_5 mlX5_64 mkX5_termEnd imX5_termEnd seX5_termEnd (fx19 hF) cl5 rfl (d1 := 1) (by decide) (As := []) rfl ⟨rfl, Nat.le_of_ble_eq_true rfl⟩ ⟨rfl, Nat.le_of_ble_eq_true rfl⟩ (cq_termEndT19 hE hF hC hn2 hD hA hB hne) rfl ?_
  refine Z.sipush (v := 365) dX5_isTimeToRenew_8 (by decide) ?_
  refine Z.isub dX5_isTimeToRenew_11 ?_
  refine Z.icmp_lt (tgt := 34) dX5_isTimeToRenew_12 (by decide) (fun h1 => ?_) (fun h1 => ?_)
  · refine Z.iconst (v := 0) dX5_isTimeToRenew_34 (by decide) ?_
    exact Z.zret dX5_isTimeToRenew_35 rfl (by decide) ⟨by simp [bI, h1], rfl, rfl⟩
  · refine Z.aload_n dX5_isTimeToRenew_15 rfl ?_
    refine Z.getIv (v := t) dX5_isTimeToRenew_16 cl5 flX5_61 (by decide) (fx19 hF) hA.1 ?_
    refine Z.aload_n dX5_isTimeToRenew_19 rfl ?_
    refine Z.callVp (M := mX5_isTimeToRenew) (pc := 20) (st := [.int t]) (N := mX5_termEnd) (n := 0) (r := .int (termF (pM I n) m t)) dX5_isTimeToRenew_20 mlX5_64 mkX5_termEnd imX5_termEnd seX5_termEnd (fx19 hF) cl5 rfl (d1 := 1) (by decide) (As := []) rfl ⟨rfl, Nat.le_of_ble_eq_true rfl⟩ ⟨rfl, Nat.le_of_ble_eq_true rfl⟩ (cq_termEndT19 hE hF hC hn2 hD hA hB hne) rfl ?_
    refine Z.sipush (v := 180) dX5_isTimeToRenew_23 (by decide) ?_
    refine Z.iadd dX5_isTimeToRenew_26 ?_
    refine Z.icmp_gt (tgt := 34) dX5_isTimeToRenew_27 (by decide) (fun h2 => ?_) (fun h2 => ?_)
    · refine Z.iconst (v := 0) dX5_isTimeToRenew_34 (by decide) ?_
      exact Z.zret dX5_isTimeToRenew_35 rfl (by decide) ⟨by simp [bI, h1, h2], rfl, rfl⟩
    · refine Z.iconst (v := 1) dX5_isTimeToRenew_30 (by decide) ?_
      refine Z.goto (tgt := 35) dX5_isTimeToRenew_31 (by decide) ?_
      exact Z.zret dX5_isTimeToRenew_35 rfl (by decide) ⟨by simp [bI, h1, h2], rfl, rfl⟩

set_option maxHeartbeats 4000000 in
set_option maxRecDepth 100000 in
theorem cq_keeps19 {g : GP} {I J : IM} {S : SH} (hE : Ex I J) (g_ : Int32) (hF : Fx S) (hC : Cp I) {n K : Nat} {m c t : Int32} (hn2 : n ≤ 400) (hD : Dn I n) (hA : VA I n m c t (J 19) K) (hB : VB I n m t (J 20) (J 21) (J 22) (J 23) K) (hg : ¬ g_ = -1) : Z g 1 0 0 mX5_keeps 0 (enL mX5_keeps [.ref 19, .int g_]) [] J S (PQ (.int (bI (decide (latF (pM I n) 3 m g_ t < latF (pM I n) 0 m g_ t)))) J S) := by
  show Z g 1 0 0 mX5_keeps 0 [.ref 19, .int g_, .retAddr 0] [] J S _
  have hK := hA.2.2.2.2.2.2.2.2.2
  have hcn2 := cntU_le (p := pM I n) (k := 2) (m := m) (t := t) n
  refine Z.aload_n dX5_keeps_0 rfl ?_
  refine Z.iload_n dX5_keeps_1 rfl ?_
  refine Z.callVg (M := mX5_keeps) (pc := 2) (st := []) (N := mX5_find) (n := 1) dX5_keeps_2 mlX5_69 mkX5_find imX5_find seX5_find (fx19 hF) cl5 rfl (d1 := 0) (by decide) (As := [.int g_]) rfl ⟨rfl, Nat.le_of_ble_eq_true rfl⟩ ⟨rfl, Nat.le_of_ble_eq_true rfl⟩ (cv_find19 (J := J) hE g_ hF (hA.2.2.2.2.2.2.2.2.1) (hA.2.2.2.2.2.2.2.2.2)) rfl (fun v_ J1 S_ h_ => ?_)
  obtain ⟨⟨k_, rfl, hk_⟩, rfl, rfl⟩ := h_
  rcases hk_ with ⟨rfl, hno1⟩ | ⟨q1, hq1, rfl, hg1⟩
  · refine Z.istore_n (L' := [.ref 19, .int g_, .int ((-1))]) dX5_keeps_5 (Nat.le_of_ble_eq_true rfl) rfl ?_
    refine Z.iload_n dX5_keeps_6 rfl ?_
    refine Z.iconst (v := (-1)) dX5_keeps_7 (by decide) ?_
    refine Z.icmp_eq (tgt := 24) dX5_keeps_8 (by decide) (fun h2 => ?_) (fun h2 => absurd h2 (by decide))
    refine Z.iconst (v := 0) dX5_keeps_24 (by decide) ?_
    exact Z.zret dX5_keeps_25 rfl (by decide) ⟨by rw [keep_no hD hn2 (VB_none hB hg hno1)]; rfl, rfl, rfl⟩
  · refine Z.istore_n (L' := [.ref 19, .int g_, .int (nI q1)]) dX5_keeps_5 (Nat.le_of_ble_eq_true rfl) rfl ?_
    refine Z.iload_n dX5_keeps_6 rfl ?_
    refine Z.iconst (v := (-1)) dX5_keeps_7 (by decide) ?_
    refine Z.icmp_eq (tgt := 24) dX5_keeps_8 (by decide) (fun h3 => absurd h3 (nI_nm1 (by omega))) (fun h3 => ?_)
    refine Z.aload_n dX5_keeps_11 rfl ?_
    refine Z.getR (r := 23) dX5_keeps_12 cl5 flX5_21 (by decide) (fx19 hF) rfl ?_
    refine Z.iload_n dX5_keeps_15 rfl ?_
    refine Z.zaldv (j := q1) (v := J 23 q1) dX5_keeps_16 (fx23 hF) rfl (by omega) (by decide) rfl ?_
    refine Z.if_ne (tgt := 24) dX5_keeps_17 (by decide) (fun h4 => ?_) (fun h4 => ?_)
    · refine Z.iconst (v := 0) dX5_keeps_24 (by decide) ?_
      exact Z.zret dX5_keeps_25 rfl (by decide) ⟨by rw [(hB.1 q1 hq1).2.2.2.2] at h4; rw [← hg1, ← keep_of hD hn2 (by rw [← (hB.1 q1 hq1).2.1]; exact (hB.1 q1 hq1).2.2.1)]; rw [bI_n0] at h4; rw [h4]; rfl, rfl, rfl⟩
    · refine Z.iconst (v := 1) dX5_keeps_20 (by decide) ?_
      refine Z.goto (tgt := 25) dX5_keeps_21 (by decide) ?_
      exact Z.zret dX5_keeps_25 rfl (by decide) ⟨by rw [(hB.1 q1 hq1).2.2.2.2] at h4; rw [← hg1, ← keep_of hD hn2 (by rw [← (hB.1 q1 hq1).2.1]; exact (hB.1 q1 hq1).2.2.1)]; rw [bI_0] at h4; rw [h4]; rfl, rfl, rfl⟩

set_option maxHeartbeats 4000000 in
set_option maxRecDepth 100000 in
theorem cq_sinceAtT19 {g : GP} {I J : IM} {S : SH} (hE : Ex I J)  (hF : Fx S) (hC : Cp I) {n K : Nat} {m c t : Int32} (hn2 : n ≤ 400) (hD : Dn I n) (hA : VA I n m c t (J 19) K) (hB : VB I n m t (J 20) (J 21) (J 22) (J 23) K) {q : Nat} (hq : q < K) : Z g 1 0 0 mX5_sinceAt 0 (enL mX5_sinceAt [.ref 19, .int (nI q)]) [] J S (PQ (.int (sinceF (pM I n) m (J 20 q) t)) J S) := by
  show Z g 1 0 0 mX5_sinceAt 0 [.ref 19, .int (nI q)] [] J S _
  have hK := hA.2.2.2.2.2.2.2.2.2
  have hcn2 := cntU_le (p := pM I n) (k := 2) (m := m) (t := t) n
  refine Z.iload_n dX5_sinceAt_0 rfl ?_
  refine Z.aload_n dX5_sinceAt_1 rfl ?_
  refine Z.getIv (v := nI K) dX5_sinceAt_2 cl5 flX5_68 (by decide) (fx19 hF) hA.2.2.2.2.2.2.2.2.1 ?_
  refine Z.callSNp (M := mX5_sinceAt) (pc := 5) (st := []) (N := mX6_below) (n := 2) (r := .int (bI (inB (nI q) 0 (nI K - 1)))) dX5_sinceAt_5 (by decide) mkX6_below stX6_below (d1 := 0) (by decide) (As := [.int (nI q), .int (nI K)]) rfl ⟨rfl, Nat.le_of_ble_eq_true rfl⟩ ⟨rfl, Nat.le_of_ble_eq_true rfl⟩ (cc_belowN hE (nI q) K (by omega)) rfl ?_
  refine Z.if_eqB (tgt := 20) dX5_sinceAt_8 (by decide) (fun h1 => absurd h1 (by rw [inB_nK hq (by omega)] at h1; cases h1)) (fun h1 => ?_)
  refine Z.aload_n dX5_sinceAt_11 rfl ?_
  refine Z.getR (r := 21) dX5_sinceAt_12 cl5 flX5_15 (by decide) (fx19 hF) rfl ?_
  refine Z.iload_n dX5_sinceAt_15 rfl ?_
  refine Z.ialdv (j := q) (v := sinceF (pM I n) m (J 20 q) t) dX5_sinceAt_16 (fx21 hF) rfl (by omega) (by decide) (hB.1 q hq).2.1 ?_
  refine Z.goto (tgt := 21) dX5_sinceAt_17 (by decide) ?_
  exact Z.iret dX5_sinceAt_21 rfl ⟨rfl, rfl, rfl⟩

set_option maxHeartbeats 4000000 in
set_option maxRecDepth 100000 in
theorem cq_sinceAtN19 {g : GP} {I J : IM} {S : SH} (hE : Ex I J)  (hF : Fx S) (hC : Cp I) {n K : Nat} {m c t : Int32} (hn2 : n ≤ 400) (hD : Dn I n) (hA : VA I n m c t (J 19) K) (hB : VB I n m t (J 20) (J 21) (J 22) (J 23) K) : Z g 1 0 0 mX5_sinceAt 0 (enL mX5_sinceAt [.ref 19, .int ((-1))]) [] J S (PQ (.int ((-1))) J S) := by
  show Z g 1 0 0 mX5_sinceAt 0 [.ref 19, .int ((-1))] [] J S _
  have hK := hA.2.2.2.2.2.2.2.2.2
  have hcn2 := cntU_le (p := pM I n) (k := 2) (m := m) (t := t) n
  refine Z.iload_n dX5_sinceAt_0 rfl ?_
  refine Z.aload_n dX5_sinceAt_1 rfl ?_
  refine Z.getIv (v := nI K) dX5_sinceAt_2 cl5 flX5_68 (by decide) (fx19 hF) hA.2.2.2.2.2.2.2.2.1 ?_
  refine Z.callSNp (M := mX5_sinceAt) (pc := 5) (st := []) (N := mX6_below) (n := 2) (r := .int (bI (inB (-1) 0 (nI K - 1)))) dX5_sinceAt_5 (by decide) mkX6_below stX6_below (d1 := 0) (by decide) (As := [.int ((-1)), .int (nI K)]) rfl ⟨rfl, Nat.le_of_ble_eq_true rfl⟩ ⟨rfl, Nat.le_of_ble_eq_true rfl⟩ (cc_belowN hE (-1) K (by omega)) rfl ?_
  refine Z.if_eqB (tgt := 20) dX5_sinceAt_8 (by decide) (fun h1 => ?_) (fun h1 => absurd h1 (by rw [inB_n1] at h1; cases h1))
  refine Z.iconst (v := (-1)) dX5_sinceAt_20 (by decide) ?_
  exact Z.iret dX5_sinceAt_21 rfl ⟨rfl, rfl, rfl⟩

set_option maxHeartbeats 4000000 in
set_option maxRecDepth 100000 in
theorem cq_rightAtT19 {g : GP} {I J : IM} {S : SH} (hE : Ex I J)  (hF : Fx S) (hC : Cp I) {n K : Nat} {m c t : Int32} (hn2 : n ≤ 400) (hD : Dn I n) (hA : VA I n m c t (J 19) K) (hB : VB I n m t (J 20) (J 21) (J 22) (J 23) K) {q : Nat} (hq : q < K) (hc : ¬ c = -1) : Z g 1 0 0 mX5_rightAt 0 (enL mX5_rightAt [.ref 19, .int (nI q)]) [] J S (PQ (.int (rightF (pM I n) m (J 20 q) c t)) J S) := by
  show Z g 1 0 0 mX5_rightAt 0 [.ref 19, .int (nI q), .retAddr 0] [] J S _
  have hK := hA.2.2.2.2.2.2.2.2.2
  have hcn2 := cntU_le (p := pM I n) (k := 2) (m := m) (t := t) n
  have hsn : ¬ sinceF (pM I n) m (J 20 q) t < 0 := by rw [← (hB.1 q hq).2.1]; exact (hB.1 q hq).2.2.1
  refine Z.iload_n dX5_rightAt_0 rfl ?_
  refine Z.aload_n dX5_rightAt_1 rfl ?_
  refine Z.getIv (v := nI K) dX5_rightAt_2 cl5 flX5_68 (by decide) (fx19 hF) hA.2.2.2.2.2.2.2.2.1 ?_
  refine Z.callSNp (M := mX5_rightAt) (pc := 5) (st := []) (N := mX6_below) (n := 2) (r := .int (bI (inB (nI q) 0 (nI K - 1)))) dX5_rightAt_5 (by decide) mkX6_below stX6_below (d1 := 0) (by decide) (As := [.int (nI q), .int (nI K)]) rfl ⟨rfl, Nat.le_of_ble_eq_true rfl⟩ ⟨rfl, Nat.le_of_ble_eq_true rfl⟩ (cc_belowN hE (nI q) K (by omega)) rfl ?_
  refine Z.if_eqB (tgt := 19) dX5_rightAt_8 (by decide) (fun h1 => absurd h1 (by rw [inB_nK hq (by omega)] at h1; cases h1)) (fun h1 => ?_)
  refine Z.aload_n dX5_rightAt_11 rfl ?_
  refine Z.getIv (v := enF (pM I n) m c t) dX5_rightAt_12 cl5 flX5_77 (by decide) (fx19 hF) (hA.2.2.1 hc) ?_
  refine Z.iconst (v := (-1)) dX5_rightAt_15 (by decide) ?_
  refine Z.icmp_ne (tgt := 21) dX5_rightAt_16 (by decide) (fun h2 => ?_) (fun h2 => ?_)
  · refine Z.aload_n dX5_rightAt_21 rfl ?_
    refine Z.getIv (v := enF (pM I n) m c t) dX5_rightAt_22 cl5 flX5_77 (by decide) (fx19 hF) (hA.2.2.1 hc) ?_
    refine Z.aload_n dX5_rightAt_25 rfl ?_
    refine Z.getIv (v := firF (pM I n) m t) dX5_rightAt_26 cl5 flX5_51 (by decide) (fx19 hF) hA.2.1 ?_
    refine Z.isub dX5_rightAt_29 ?_
    refine Z.sipush (v := 182) dX5_rightAt_30 (by decide) ?_
    refine Z.icmp_gt (tgt := 53) dX5_rightAt_33 (by decide) (fun h3 => ?_) (fun h3 => ?_)
    · refine Z.iconst (v := 0) dX5_rightAt_53 (by decide) ?_
      refine Z.istore_n (L' := [.ref 19, .int (nI q), .int 0]) dX5_rightAt_54 (Nat.le_of_ble_eq_true rfl) rfl ?_
      refine Z.iload_n dX5_rightAt_55 rfl ?_
      refine Z.if_eq (tgt := 66) dX5_rightAt_56 (by decide) (fun h4 => ?_) (fun h4 => absurd h4 (by decide))
      refine Z.aload_n dX5_rightAt_66 rfl ?_
      refine Z.getIv (v := enF (pM I n) m c t) dX5_rightAt_67 cl5 flX5_77 (by decide) (fx19 hF) (hA.2.2.1 hc) ?_
      refine Z.aload_n dX5_rightAt_70 rfl ?_
      refine Z.getR (r := 21) dX5_rightAt_71 cl5 flX5_15 (by decide) (fx19 hF) rfl ?_
      refine Z.iload_n dX5_rightAt_74 rfl ?_
      refine Z.ialdv (j := q) (v := sinceF (pM I n) m (J 20 q) t) dX5_rightAt_75 (fx21 hF) rfl (by omega) (by decide) (hB.1 q hq).2.1 ?_
      refine Z.mmax dX5_rightAt_76 mlX5_80 (by decide) ⟨rfl, Nat.le_of_ble_eq_true rfl⟩ ?_
      exact Z.iret dX5_rightAt_79 rfl ⟨by rw [right_of hD hn2 hsn h2, mxI, rtB]; simp [h3], rfl, rfl⟩
    · refine Z.aload_n dX5_rightAt_36 rfl ?_
      refine Z.getR (r := 21) dX5_rightAt_37 cl5 flX5_15 (by decide) (fx19 hF) rfl ?_
      refine Z.iload_n dX5_rightAt_40 rfl ?_
      refine Z.ialdv (j := q) (v := sinceF (pM I n) m (J 20 q) t) dX5_rightAt_41 (fx21 hF) rfl (by omega) (by decide) (hB.1 q hq).2.1 ?_
      refine Z.aload_n dX5_rightAt_42 rfl ?_
      refine Z.getIv (v := firF (pM I n) m t) dX5_rightAt_43 cl5 flX5_51 (by decide) (fx19 hF) hA.2.1 ?_
      refine Z.icmp_gt (tgt := 53) dX5_rightAt_46 (by decide) (fun h5 => ?_) (fun h5 => ?_)
      · refine Z.iconst (v := 0) dX5_rightAt_53 (by decide) ?_
        refine Z.istore_n (L' := [.ref 19, .int (nI q), .int 0]) dX5_rightAt_54 (Nat.le_of_ble_eq_true rfl) rfl ?_
        refine Z.iload_n dX5_rightAt_55 rfl ?_
        refine Z.if_eq (tgt := 66) dX5_rightAt_56 (by decide) (fun h6 => ?_) (fun h6 => absurd h6 (by decide))
        refine Z.aload_n dX5_rightAt_66 rfl ?_
        refine Z.getIv (v := enF (pM I n) m c t) dX5_rightAt_67 cl5 flX5_77 (by decide) (fx19 hF) (hA.2.2.1 hc) ?_
        refine Z.aload_n dX5_rightAt_70 rfl ?_
        refine Z.getR (r := 21) dX5_rightAt_71 cl5 flX5_15 (by decide) (fx19 hF) rfl ?_
        refine Z.iload_n dX5_rightAt_74 rfl ?_
        refine Z.ialdv (j := q) (v := sinceF (pM I n) m (J 20 q) t) dX5_rightAt_75 (fx21 hF) rfl (by omega) (by decide) (hB.1 q hq).2.1 ?_
        refine Z.mmax dX5_rightAt_76 mlX5_80 (by decide) ⟨rfl, Nat.le_of_ble_eq_true rfl⟩ ?_
        exact Z.iret dX5_rightAt_79 rfl ⟨by rw [right_of hD hn2 hsn h2, mxI, rtB]; simp [h3, h5], rfl, rfl⟩
      · refine Z.iconst (v := 1) dX5_rightAt_49 (by decide) ?_
        refine Z.goto (tgt := 54) dX5_rightAt_50 (by decide) ?_
        refine Z.istore_n (L' := [.ref 19, .int (nI q), .int 1]) dX5_rightAt_54 (Nat.le_of_ble_eq_true rfl) rfl ?_
        refine Z.iload_n dX5_rightAt_55 rfl ?_
        refine Z.if_eq (tgt := 66) dX5_rightAt_56 (by decide) (fun h7 => absurd h7 (by decide)) (fun h7 => ?_)
        refine Z.aload_n dX5_rightAt_59 rfl ?_
        refine Z.getIv (v := firF (pM I n) m t) dX5_rightAt_60 cl5 flX5_51 (by decide) (fx19 hF) hA.2.1 ?_
        refine Z.goto (tgt := 70) dX5_rightAt_63 (by decide) ?_
        refine Z.aload_n dX5_rightAt_70 rfl ?_
        refine Z.getR (r := 21) dX5_rightAt_71 cl5 flX5_15 (by decide) (fx19 hF) rfl ?_
        refine Z.iload_n dX5_rightAt_74 rfl ?_
        refine Z.ialdv (j := q) (v := sinceF (pM I n) m (J 20 q) t) dX5_rightAt_75 (fx21 hF) rfl (by omega) (by decide) (hB.1 q hq).2.1 ?_
        refine Z.mmax dX5_rightAt_76 mlX5_80 (by decide) ⟨rfl, Nat.le_of_ble_eq_true rfl⟩ ?_
        exact Z.iret dX5_rightAt_79 rfl ⟨by rw [right_of hD hn2 hsn h2, mxI, rtB]; simp [h3, h5], rfl, rfl⟩
  · refine Z.iconst (v := (-1)) dX5_rightAt_19 (by decide) ?_
    exact Z.iret dX5_rightAt_20 rfl ⟨by rw [right_no hD hn2 h2], rfl, rfl⟩

set_option maxHeartbeats 4000000 in
set_option maxRecDepth 100000 in
theorem cq_rightAtN19 {g : GP} {I J : IM} {S : SH} (hE : Ex I J)  (hF : Fx S) (hC : Cp I) {n K : Nat} {m c t : Int32} (hn2 : n ≤ 400) (hD : Dn I n) (hA : VA I n m c t (J 19) K) (hB : VB I n m t (J 20) (J 21) (J 22) (J 23) K) : Z g 1 0 0 mX5_rightAt 0 (enL mX5_rightAt [.ref 19, .int ((-1))]) [] J S (PQ (.int ((-1))) J S) := by
  show Z g 1 0 0 mX5_rightAt 0 [.ref 19, .int ((-1)), .retAddr 0] [] J S _
  have hK := hA.2.2.2.2.2.2.2.2.2
  have hcn2 := cntU_le (p := pM I n) (k := 2) (m := m) (t := t) n
  refine Z.iload_n dX5_rightAt_0 rfl ?_
  refine Z.aload_n dX5_rightAt_1 rfl ?_
  refine Z.getIv (v := nI K) dX5_rightAt_2 cl5 flX5_68 (by decide) (fx19 hF) hA.2.2.2.2.2.2.2.2.1 ?_
  refine Z.callSNp (M := mX5_rightAt) (pc := 5) (st := []) (N := mX6_below) (n := 2) (r := .int (bI (inB (-1) 0 (nI K - 1)))) dX5_rightAt_5 (by decide) mkX6_below stX6_below (d1 := 0) (by decide) (As := [.int ((-1)), .int (nI K)]) rfl ⟨rfl, Nat.le_of_ble_eq_true rfl⟩ ⟨rfl, Nat.le_of_ble_eq_true rfl⟩ (cc_belowN hE (-1) K (by omega)) rfl ?_
  refine Z.if_eqB (tgt := 19) dX5_rightAt_8 (by decide) (fun h1 => ?_) (fun h1 => absurd h1 (by rw [inB_n1] at h1; cases h1))
  refine Z.iconst (v := (-1)) dX5_rightAt_19 (by decide) ?_
  exact Z.iret dX5_rightAt_20 rfl ⟨rfl, rfl, rfl⟩

set_option maxHeartbeats 4000000 in
set_option maxRecDepth 100000 in
theorem cq_standsAtT19 {g : GP} {I J : IM} {S : SH} (hE : Ex I J)  (hF : Fx S) (hC : Cp I) {n K : Nat} {m c t : Int32} (hn2 : n ≤ 400) (hD : Dn I n) (hA : VA I n m c t (J 19) K) (hB : VB I n m t (J 20) (J 21) (J 22) (J 23) K) {q : Nat} (hq : q < K) (hc : ¬ c = -1) : Z g 3 0 0 mX5_standsAt 0 (enL mX5_standsAt [.ref 19, .int (nI q)]) [] J S (PQ (.int (bI (standsF (pM I n) m (J 20 q) c t))) J S) := by
  show Z g 3 0 0 mX5_standsAt 0 [.ref 19, .int (nI q), .retAddr 0] [] J S _
  have hK := hA.2.2.2.2.2.2.2.2.2
  have hcn2 := cntU_le (p := pM I n) (k := 2) (m := m) (t := t) n
  have huo := (hB.1 q hq).2.2.2.1
  rw [(hB.1 q hq).2.1] at huo
  refine Z.aload_n dX5_standsAt_0 rfl ?_
  refine Z.iload_n dX5_standsAt_1 rfl ?_
  refine Z.callVp (M := mX5_standsAt) (pc := 2) (st := []) (N := mX5_rightAt) (n := 1) (r := .int (rightF (pM I n) m (J 20 q) c t)) dX5_standsAt_2 mlX5_86 mkX5_rightAt imX5_rightAt seX5_rightAt (fx19 hF) cl5 rfl (d1 := 1) (by decide) (As := [.int (nI q)]) rfl ⟨rfl, Nat.le_of_ble_eq_true rfl⟩ ⟨rfl, Nat.le_of_ble_eq_true rfl⟩ (cq_rightAtT19 hE hF hC hn2 hD hA hB hq hc) rfl ?_
  refine Z.istore_n (L' := [.ref 19, .int (nI q), .int (rightF (pM I n) m (J 20 q) c t)]) dX5_standsAt_5 (Nat.le_of_ble_eq_true rfl) rfl ?_
  refine Z.iload_n dX5_standsAt_6 rfl ?_
  refine Z.iconst (v := (-1)) dX5_standsAt_7 (by decide) ?_
  refine Z.icmp_eq (tgt := 25) dX5_standsAt_8 (by decide) (fun h1 => ?_) (fun h1 => ?_)
  · refine Z.iconst (v := 0) dX5_standsAt_25 (by decide) ?_
    exact Z.zret dX5_standsAt_26 rfl (by decide) ⟨by rw [stands_no h1]; rfl, rfl, rfl⟩
  · refine Z.aload_n dX5_standsAt_11 rfl ?_
    refine Z.getIv (v := bI (strF (pM I n) m t)) dX5_standsAt_12 cl5 flX5_89 (by decide) (fx19 hF) hA.2.2.2.2.2.1 ?_
    refine Z.if_neB (tgt := 25) dX5_standsAt_15 (by decide) (fun h2 => ?_) (fun h2 => ?_)
    · refine Z.iconst (v := 0) dX5_standsAt_25 (by decide) ?_
      exact Z.zret dX5_standsAt_26 rfl (by decide) ⟨by rw [stands_of hD hn2 h1]; simp [bI, h2], rfl, rfl⟩
    · refine Z.aload_n dX5_standsAt_18 rfl ?_
      refine Z.callVp (M := mX5_standsAt) (pc := 19) (st := []) (N := mX5_isLapsed) (n := 0) (r := .int (bI (!decide (firF (pM I n) m t = -1) && lapF (pM I n) m t))) dX5_standsAt_19 mlX5_93 mkX5_isLapsed imX5_isLapsed seX5_isLapsed (fx19 hF) cl5 rfl (d1 := 2) (by decide) (As := []) rfl ⟨rfl, Nat.le_of_ble_eq_true rfl⟩ ⟨rfl, Nat.le_of_ble_eq_true rfl⟩ (cq_isLapsed19 hE hF hC hn2 hD hA hB) rfl ?_
      refine Z.if_eqB (tgt := 27) dX5_standsAt_22 (by decide) (fun h3 => ?_) (fun h3 => ?_)
      · have hlap : lapF (pM I n) m t = false := by rw [show (!decide (firF (pM I n) m t = -1)) = true from by rw [decide_eq_false (en_fi hD hn2 ((right_c hD hn2).resolve_left h1).2.2.2.2)]; rfl, Bool.true_and] at h3; exact h3
        refine Z.aload_n dX5_standsAt_27 rfl ?_
        refine Z.getIv (v := t) dX5_standsAt_28 cl5 flX5_61 (by decide) (fx19 hF) hA.1 ?_
        refine Z.iload_n dX5_standsAt_31 rfl ?_
        refine Z.aload_n dX5_standsAt_32 rfl ?_
        refine Z.getR (r := 22) dX5_standsAt_33 cl5 flX5_18 (by decide) (fx19 hF) rfl ?_
        refine Z.iload_n dX5_standsAt_36 rfl ?_
        refine Z.ialdv (j := q) (v := J 22 q) dX5_standsAt_37 (fx22 hF) rfl (by omega) (by decide) rfl ?_
        refine Z.mmax dX5_standsAt_38 mlX5_80 (by decide) ⟨rfl, Nat.le_of_ble_eq_true rfl⟩ ?_
        refine Z.isub dX5_standsAt_41 ?_
        refine Z.sipush (v := 1825) dX5_standsAt_42 (by decide) ?_
        refine Z.icmp_gt (tgt := 52) dX5_standsAt_45 (by decide) (fun h4 => ?_) (fun h4 => ?_)
        · refine Z.iconst (v := 0) dX5_standsAt_52 (by decide) ?_
          exact Z.zret dX5_standsAt_53 rfl (by decide) ⟨by rw [stands_of hD hn2 h1, ← last_of hD hn2 huo h1, mxI]; simp [bI, h2, hlap, eq_true h4], rfl, rfl⟩
        · refine Z.iconst (v := 1) dX5_standsAt_48 (by decide) ?_
          refine Z.goto (tgt := 53) dX5_standsAt_49 (by decide) ?_
          exact Z.zret dX5_standsAt_53 rfl (by decide) ⟨by rw [stands_of hD hn2 h1, ← last_of hD hn2 huo h1, mxI]; simp [bI, h2, hlap, h4], rfl, rfl⟩
      · have hlap : lapF (pM I n) m t = true := by rw [show (!decide (firF (pM I n) m t = -1)) = true from by rw [decide_eq_false (en_fi hD hn2 ((right_c hD hn2).resolve_left h1).2.2.2.2)]; rfl, Bool.true_and] at h3; exact h3
        refine Z.iconst (v := 0) dX5_standsAt_25 (by decide) ?_
        exact Z.zret dX5_standsAt_26 rfl (by decide) ⟨by rw [stands_of hD hn2 h1]; simp [bI, h2, hlap], rfl, rfl⟩

set_option maxHeartbeats 4000000 in
set_option maxRecDepth 100000 in
theorem cq_standsAtN19 {g : GP} {I J : IM} {S : SH} (hE : Ex I J)  (hF : Fx S) (hC : Cp I) {n K : Nat} {m c t : Int32} (hn2 : n ≤ 400) (hD : Dn I n) (hA : VA I n m c t (J 19) K) (hB : VB I n m t (J 20) (J 21) (J 22) (J 23) K) : Z g 3 0 0 mX5_standsAt 0 (enL mX5_standsAt [.ref 19, .int ((-1))]) [] J S (PQ (.int (bI (false))) J S) := by
  show Z g 3 0 0 mX5_standsAt 0 [.ref 19, .int ((-1)), .retAddr 0] [] J S _
  have hK := hA.2.2.2.2.2.2.2.2.2
  have hcn2 := cntU_le (p := pM I n) (k := 2) (m := m) (t := t) n
  refine Z.aload_n dX5_standsAt_0 rfl ?_
  refine Z.iload_n dX5_standsAt_1 rfl ?_
  refine Z.callVp (M := mX5_standsAt) (pc := 2) (st := []) (N := mX5_rightAt) (n := 1) (r := .int ((-1))) dX5_standsAt_2 mlX5_86 mkX5_rightAt imX5_rightAt seX5_rightAt (fx19 hF) cl5 rfl (d1 := 1) (by decide) (As := [.int ((-1))]) rfl ⟨rfl, Nat.le_of_ble_eq_true rfl⟩ ⟨rfl, Nat.le_of_ble_eq_true rfl⟩ (cq_rightAtN19 hE hF hC hn2 hD hA hB) rfl ?_
  refine Z.istore_n (L' := [.ref 19, .int ((-1)), .int ((-1))]) dX5_standsAt_5 (Nat.le_of_ble_eq_true rfl) rfl ?_
  refine Z.iload_n dX5_standsAt_6 rfl ?_
  refine Z.iconst (v := (-1)) dX5_standsAt_7 (by decide) ?_
  refine Z.icmp_eq (tgt := 25) dX5_standsAt_8 (by decide) (fun h1 => ?_) (fun h1 => absurd h1 (by decide))
  refine Z.iconst (v := 0) dX5_standsAt_25 (by decide) ?_
  exact Z.zret dX5_standsAt_26 rfl (by decide) ⟨rfl, rfl, rfl⟩

set_option maxHeartbeats 4000000 in
set_option maxRecDepth 100000 in
theorem lq_standsForAny19 {g : GP} {I J : IM} {S : SH} (hE : Ex I J)  (hF : Fx S) (hC : Cp I) {n K : Nat} {m c t : Int32} (hn2 : n ≤ 400) (hD : Dn I n) (hA : VA I n m c t (J 19) K) (hB : VB I n m t (J 20) (J 21) (J 22) (J 23) K) (hc : ¬ c = -1) : ∀ q, q ≤ K → anU (fun q => standsF (pM I n) m (J 20 q) c t) q = false → Z g 4 0 0 mX5_standsForAny 2 [.ref 19, .int (nI q)] [] J S (PQ (.int (bI (anU (fun q => standsF (pM I n) m (J 20 q) c t) K))) J S) := by
  refine upZ K (fun q hi ih hno => ?_)
  have hK := hA.2.2.2.2.2.2.2.2.2
  have hcn2 := cntU_le (p := pM I n) (k := 2) (m := m) (t := t) n
  refine Z.iload_n dX5_standsForAny_2 rfl ?_
  refine Z.aload_n dX5_standsForAny_3 rfl ?_
  refine Z.getIv (v := nI K) dX5_standsForAny_4 cl5 flX5_68 (by decide) (fx19 hF) hA.2.2.2.2.2.2.2.2.1 ?_
  refine Z.icmp_geN (a := q) (b := K) (by omega) (by omega) (tgt := 26) dX5_standsForAny_7 (by decide) (fun h1 => ?_) (fun h1 => ?_)
  · refine Z.iconst (v := 0) dX5_standsForAny_26 (by decide) ?_
    exact Z.zret dX5_standsForAny_27 rfl (by decide) ⟨by rw [show q = K by omega] at hno; rw [hno]; rfl, rfl, rfl⟩
  · refine Z.aload_n dX5_standsForAny_10 rfl ?_
    refine Z.iload_n dX5_standsForAny_11 rfl ?_
    refine Z.callVp (M := mX5_standsForAny) (pc := 12) (st := []) (N := mX5_standsAt) (n := 1) (r := .int (bI (standsF (pM I n) m (J 20 q) c t))) dX5_standsForAny_12 mlX5_96 mkX5_standsAt imX5_standsAt seX5_standsAt (fx19 hF) cl5 rfl (d1 := 3) (by decide) (As := [.int (nI q)]) rfl ⟨rfl, Nat.le_of_ble_eq_true rfl⟩ ⟨rfl, Nat.le_of_ble_eq_true rfl⟩ (cq_standsAtT19 hE hF hC hn2 hD hA hB (by omega) hc) rfl ?_
    refine Z.if_eqB (tgt := 20) dX5_standsForAny_15 (by decide) (fun h2 => ?_) (fun h2 => ?_)
    · refine Z.iinc (v := nI (q + 1)) (L' := [.ref 19, .int (nI (q + 1))]) dX5_standsForAny_20 rfl (nI_1 _) rfl ?_
      refine Z.goto (tgt := 2) dX5_standsForAny_23 (by decide) ?_
      exact ih (by omega) (by simp [anU, hno, h2])
    · refine Z.iconst (v := 1) dX5_standsForAny_18 (by decide) ?_
      exact Z.zret dX5_standsForAny_19 rfl (by decide) ⟨by rw [anU_mono (k := q + 1) (by simp [anU, h2]) (by omega)]; rfl, rfl, rfl⟩

set_option maxHeartbeats 4000000 in
set_option maxRecDepth 100000 in
theorem cq_standsForAny19 {g : GP} {I J : IM} {S : SH} (hE : Ex I J)  (hF : Fx S) (hC : Cp I) {n K : Nat} {m c t : Int32} (hn2 : n ≤ 400) (hD : Dn I n) (hA : VA I n m c t (J 19) K) (hB : VB I n m t (J 20) (J 21) (J 22) (J 23) K) (hc : ¬ c = -1) : Z g 4 0 0 mX5_standsForAny 0 (enL mX5_standsForAny [.ref 19]) [] J S (PQ (.int (bI (anU (fun q => standsF (pM I n) m (J 20 q) c t) K))) J S) := by
  show Z g 4 0 0 mX5_standsForAny 0 [.ref 19, .retAddr 0] [] J S _
  refine Z.iconst (v := 0) dX5_standsForAny_0 (by decide) ?_
  refine Z.istore_n (L' := [.ref 19, .int 0]) dX5_standsForAny_1 (Nat.le_of_ble_eq_true rfl) rfl ?_
  exact lq_standsForAny19 hE hF hC hn2 hD hA hB hc 0 (Nat.zero_le _) rfl

set_option maxHeartbeats 4000000 in
set_option maxRecDepth 100000 in
theorem cq_isEntered24 {g : GP} {I J : IM} {S : SH} (hE : Ex I J)  (hF : Fx S) (hC : Cp I) {n K : Nat} {m c t : Int32} (hn2 : n ≤ 400) (hD : Dn I n) (hA : VA I n m c t (J 24) K) (hB : VB I n m t (J 25) (J 26) (J 27) (J 28) K) : Z g 0 0 0 mX5_isEntered 0 (enL mX5_isEntered [.ref 24]) [] J S (PQ (.int (bI (!decide (firF (pM I n) m t = -1)))) J S) := by
  show Z g 0 0 0 mX5_isEntered 0 [.ref 24] [] J S _
  have hK := hA.2.2.2.2.2.2.2.2.2
  have hcn2 := cntU_le (p := pM I n) (k := 2) (m := m) (t := t) n
  refine Z.aload_n dX5_isEntered_0 rfl ?_
  refine Z.getIv (v := firF (pM I n) m t) dX5_isEntered_1 cl5 flX5_51 (by decide) (fx24 hF) hA.2.1 ?_
  refine Z.iconst (v := (-1)) dX5_isEntered_4 (by decide) ?_
  refine Z.icmp_eq (tgt := 12) dX5_isEntered_5 (by decide) (fun h1 => ?_) (fun h1 => ?_)
  · refine Z.iconst (v := 0) dX5_isEntered_12 (by decide) ?_
    exact Z.zret dX5_isEntered_13 rfl (by decide) ⟨by simp [bI, eq_true h1], rfl, rfl⟩
  · refine Z.iconst (v := 1) dX5_isEntered_8 (by decide) ?_
    refine Z.goto (tgt := 13) dX5_isEntered_9 (by decide) ?_
    exact Z.zret dX5_isEntered_13 rfl (by decide) ⟨by simp [bI, h1], rfl, rfl⟩

set_option maxHeartbeats 4000000 in
set_option maxRecDepth 100000 in
theorem cq_termEnd24 {g : GP} {I J : IM} {S : SH} (hE : Ex I J)  (hF : Fx S) (hC : Cp I) {n K : Nat} {m c t : Int32} (hn2 : n ≤ 400) (hD : Dn I n) (hA : VA I n m c t (J 24) K) (hB : VB I n m t (J 25) (J 26) (J 27) (J 28) K) : Z g 1 0 0 mX5_termEnd 0 (enL mX5_termEnd [.ref 24]) [] J S (PQ (.int (if firF (pM I n) m t = -1 then -1 else termF (pM I n) m t)) J S) := by
  show Z g 1 0 0 mX5_termEnd 0 [.ref 24] [] J S _
  have hK := hA.2.2.2.2.2.2.2.2.2
  have hcn2 := cntU_le (p := pM I n) (k := 2) (m := m) (t := t) n
  refine Z.aload_n dX5_termEnd_0 rfl ?_
  refine Z.callVp (M := mX5_termEnd) (pc := 1) (st := []) (N := mX5_isEntered) (n := 0) (r := .int (bI (!decide (firF (pM I n) m t = -1)))) dX5_termEnd_1 mlX5_54 mkX5_isEntered imX5_isEntered seX5_isEntered (fx24 hF) cl5 rfl (d1 := 0) (by decide) (As := []) rfl ⟨rfl, Nat.le_of_ble_eq_true rfl⟩ ⟨rfl, Nat.le_of_ble_eq_true rfl⟩ (cq_isEntered24 hE hF hC hn2 hD hA hB) rfl ?_
  refine Z.if_eqB (tgt := 25) dX5_termEnd_4 (by decide) (fun h1 => ?_) (fun h1 => ?_)
  · refine Z.iconst (v := (-1)) dX5_termEnd_25 (by decide) ?_
    exact Z.iret dX5_termEnd_26 rfl ⟨by rw [if_pos (by simpa using h1)], rfl, rfl⟩
  · refine Z.aload_n dX5_termEnd_7 rfl ?_
    refine Z.getIv (v := firF (pM I n) m t) dX5_termEnd_8 cl5 flX5_51 (by decide) (fx24 hF) hA.2.1 ?_
    refine Z.sipush (v := 3650) dX5_termEnd_11 (by decide) ?_
    refine Z.iconst (v := 1) dX5_termEnd_14 (by decide) ?_
    refine Z.aload_n dX5_termEnd_15 rfl ?_
    refine Z.getIv (v := nI (cntF (pM I n) 2 m t)) dX5_termEnd_16 cl5 flX5_58 (by decide) (fx24 hF) hA.2.2.2.2.1 ?_
    refine Z.iaddN (a := 1) (b := cntF (pM I n) 2 m t) dX5_termEnd_19 ?_
    refine Z.imulN (a := 3650) (b := 1 + (cntF (pM I n) 2 m t)) dX5_termEnd_20 ?_
    refine Z.iadd dX5_termEnd_21 ?_
    refine Z.goto (tgt := 26) dX5_termEnd_22 (by decide) ?_
    exact Z.iret dX5_termEnd_26 rfl ⟨by rw [if_neg (by simpa using h1)]; rfl, rfl, rfl⟩

theorem cq_termEndT24 {g : GP} {I J : IM} {S : SH} (hE : Ex I J) (hF : Fx S) (hC : Cp I) {n K : Nat} {m c t : Int32} (hn2 : n ≤ 400) (hD : Dn I n) (hA : VA I n m c t (J 24) K) (hB : VB I n m t (J 25) (J 26) (J 27) (J 28) K) (hne : ¬ firF (pM I n) m t = -1) : Z g 1 0 0 mX5_termEnd 0 (enL mX5_termEnd [.ref 24]) [] J S (PQ (.int (termF (pM I n) m t)) J S) := by
  have e := cq_termEnd24 (g := g) hE hF hC hn2 hD hA hB
  rw [if_neg hne] at e
  exact e
set_option maxHeartbeats 4000000 in
set_option maxRecDepth 100000 in
theorem cq_isLapsed24 {g : GP} {I J : IM} {S : SH} (hE : Ex I J)  (hF : Fx S) (hC : Cp I) {n K : Nat} {m c t : Int32} (hn2 : n ≤ 400) (hD : Dn I n) (hA : VA I n m c t (J 24) K) (hB : VB I n m t (J 25) (J 26) (J 27) (J 28) K) : Z g 2 0 0 mX5_isLapsed 0 (enL mX5_isLapsed [.ref 24]) [] J S (PQ (.int (bI (!decide (firF (pM I n) m t = -1) && lapF (pM I n) m t))) J S) := by
  show Z g 2 0 0 mX5_isLapsed 0 [.ref 24] [] J S _
  have hK := hA.2.2.2.2.2.2.2.2.2
  have hcn2 := cntU_le (p := pM I n) (k := 2) (m := m) (t := t) n
  refine Z.aload_n dX5_isLapsed_0 rfl ?_
  refine Z.callVp (M := mX5_isLapsed) (pc := 1) (st := []) (N := mX5_isEntered) (n := 0) (r := .int (bI (!decide (firF (pM I n) m t = -1)))) dX5_isLapsed_1 mlX5_54 mkX5_isEntered imX5_isEntered seX5_isEntered (fx24 hF) cl5 rfl (d1 := 0) (by decide) (As := []) rfl ⟨rfl, Nat.le_of_ble_eq_true rfl⟩ ⟨rfl, Nat.le_of_ble_eq_true rfl⟩ (cq_isEntered24 hE hF hC hn2 hD hA hB) rfl ?_
  refine Z.if_eqB (tgt := 26) dX5_isLapsed_4 (by decide) (fun h1 => ?_) (fun h1 => ?_)
  · refine Z.iconst (v := 0) dX5_isLapsed_26 (by decide) ?_
    exact Z.zret dX5_isLapsed_27 rfl (by decide) ⟨by simp [bI, lapF, h1], rfl, rfl⟩
  · refine Z.aload_n dX5_isLapsed_7 rfl ?_
    refine Z.getIv (v := t) dX5_isLapsed_8 cl5 flX5_61 (by decide) (fx24 hF) hA.1 ?_
    refine Z.aload_n dX5_isLapsed_11 rfl ?_
    refine Z.callVp (M := mX5_isLapsed) (pc := 12) (st := [.int t]) (N := mX5_termEnd) (n := 0) (r := .int (termF (pM I n) m t)) dX5_isLapsed_12 mlX5_64 mkX5_termEnd imX5_termEnd seX5_termEnd (fx24 hF) cl5 rfl (d1 := 1) (by decide) (As := []) rfl ⟨rfl, Nat.le_of_ble_eq_true rfl⟩ ⟨rfl, Nat.le_of_ble_eq_true rfl⟩ (cq_termEndT24 hE hF hC hn2 hD hA hB (by simpa using h1)) rfl ?_
    refine Z.sipush (v := 180) dX5_isLapsed_15 (by decide) ?_
    refine Z.iadd dX5_isLapsed_18 ?_
    refine Z.icmp_le (tgt := 26) dX5_isLapsed_19 (by decide) (fun h2 => ?_) (fun h2 => ?_)
    · refine Z.iconst (v := 0) dX5_isLapsed_26 (by decide) ?_
      exact Z.zret dX5_isLapsed_27 rfl (by decide) ⟨by simp [bI, lapF, h1, h2], rfl, rfl⟩
    · refine Z.iconst (v := 1) dX5_isLapsed_22 (by decide) ?_
      refine Z.goto (tgt := 27) dX5_isLapsed_23 (by decide) ?_
      exact Z.zret dX5_isLapsed_27 rfl (by decide) ⟨by simp [bI, lapF, h1, h2], rfl, rfl⟩

set_option maxHeartbeats 4000000 in
set_option maxRecDepth 100000 in
theorem cq_isTimeToRenew24 {g : GP} {I J : IM} {S : SH} (hE : Ex I J)  (hF : Fx S) (hC : Cp I) {n K : Nat} {m c t : Int32} (hn2 : n ≤ 400) (hD : Dn I n) (hA : VA I n m c t (J 24) K) (hB : VB I n m t (J 25) (J 26) (J 27) (J 28) K) (hne : ¬ firF (pM I n) m t = -1) : Z g 2 0 0 mX5_isTimeToRenew 0 (enL mX5_isTimeToRenew [.ref 24]) [] J S (PQ (.int (bI (!decide (t < termF (pM I n) m t - 365) && !decide (termF (pM I n) m t + 180 < t)))) J S) := by
  show Z g 2 0 0 mX5_isTimeToRenew 0 [.ref 24] [] J S _
  have hK := hA.2.2.2.2.2.2.2.2.2
  have hcn2 := cntU_le (p := pM I n) (k := 2) (m := m) (t := t) n
  refine Z.aload_n dX5_isTimeToRenew_0 rfl ?_
  refine Z.getIv (v := t) dX5_isTimeToRenew_1 cl5 flX5_61 (by decide) (fx24 hF) hA.1 ?_
  refine Z.aload_n dX5_isTimeToRenew_4 rfl ?_
  refine Z.callVp (M := mX5_isTimeToRenew) (pc := 5) (st := [.int t]) (N := mX5_termEnd) (n := 0) (r := .int (termF (pM I n) m t)) dX5_isTimeToRenew_5 mlX5_64 mkX5_termEnd imX5_termEnd seX5_termEnd (fx24 hF) cl5 rfl (d1 := 1) (by decide) (As := []) rfl ⟨rfl, Nat.le_of_ble_eq_true rfl⟩ ⟨rfl, Nat.le_of_ble_eq_true rfl⟩ (cq_termEndT24 hE hF hC hn2 hD hA hB hne) rfl ?_
  refine Z.sipush (v := 365) dX5_isTimeToRenew_8 (by decide) ?_
  refine Z.isub dX5_isTimeToRenew_11 ?_
  refine Z.icmp_lt (tgt := 34) dX5_isTimeToRenew_12 (by decide) (fun h1 => ?_) (fun h1 => ?_)
  · refine Z.iconst (v := 0) dX5_isTimeToRenew_34 (by decide) ?_
    exact Z.zret dX5_isTimeToRenew_35 rfl (by decide) ⟨by simp [bI, h1], rfl, rfl⟩
  · refine Z.aload_n dX5_isTimeToRenew_15 rfl ?_
    refine Z.getIv (v := t) dX5_isTimeToRenew_16 cl5 flX5_61 (by decide) (fx24 hF) hA.1 ?_
    refine Z.aload_n dX5_isTimeToRenew_19 rfl ?_
    refine Z.callVp (M := mX5_isTimeToRenew) (pc := 20) (st := [.int t]) (N := mX5_termEnd) (n := 0) (r := .int (termF (pM I n) m t)) dX5_isTimeToRenew_20 mlX5_64 mkX5_termEnd imX5_termEnd seX5_termEnd (fx24 hF) cl5 rfl (d1 := 1) (by decide) (As := []) rfl ⟨rfl, Nat.le_of_ble_eq_true rfl⟩ ⟨rfl, Nat.le_of_ble_eq_true rfl⟩ (cq_termEndT24 hE hF hC hn2 hD hA hB hne) rfl ?_
    refine Z.sipush (v := 180) dX5_isTimeToRenew_23 (by decide) ?_
    refine Z.iadd dX5_isTimeToRenew_26 ?_
    refine Z.icmp_gt (tgt := 34) dX5_isTimeToRenew_27 (by decide) (fun h2 => ?_) (fun h2 => ?_)
    · refine Z.iconst (v := 0) dX5_isTimeToRenew_34 (by decide) ?_
      exact Z.zret dX5_isTimeToRenew_35 rfl (by decide) ⟨by simp [bI, h1, h2], rfl, rfl⟩
    · refine Z.iconst (v := 1) dX5_isTimeToRenew_30 (by decide) ?_
      refine Z.goto (tgt := 35) dX5_isTimeToRenew_31 (by decide) ?_
      exact Z.zret dX5_isTimeToRenew_35 rfl (by decide) ⟨by simp [bI, h1, h2], rfl, rfl⟩

set_option maxHeartbeats 4000000 in
set_option maxRecDepth 100000 in
theorem cq_keeps24 {g : GP} {I J : IM} {S : SH} (hE : Ex I J) (g_ : Int32) (hF : Fx S) (hC : Cp I) {n K : Nat} {m c t : Int32} (hn2 : n ≤ 400) (hD : Dn I n) (hA : VA I n m c t (J 24) K) (hB : VB I n m t (J 25) (J 26) (J 27) (J 28) K) (hg : ¬ g_ = -1) : Z g 1 0 0 mX5_keeps 0 (enL mX5_keeps [.ref 24, .int g_]) [] J S (PQ (.int (bI (decide (latF (pM I n) 3 m g_ t < latF (pM I n) 0 m g_ t)))) J S) := by
  show Z g 1 0 0 mX5_keeps 0 [.ref 24, .int g_, .retAddr 0] [] J S _
  have hK := hA.2.2.2.2.2.2.2.2.2
  have hcn2 := cntU_le (p := pM I n) (k := 2) (m := m) (t := t) n
  refine Z.aload_n dX5_keeps_0 rfl ?_
  refine Z.iload_n dX5_keeps_1 rfl ?_
  refine Z.callVg (M := mX5_keeps) (pc := 2) (st := []) (N := mX5_find) (n := 1) dX5_keeps_2 mlX5_69 mkX5_find imX5_find seX5_find (fx24 hF) cl5 rfl (d1 := 0) (by decide) (As := [.int g_]) rfl ⟨rfl, Nat.le_of_ble_eq_true rfl⟩ ⟨rfl, Nat.le_of_ble_eq_true rfl⟩ (cv_find24 (J := J) hE g_ hF (hA.2.2.2.2.2.2.2.2.1) (hA.2.2.2.2.2.2.2.2.2)) rfl (fun v_ J1 S_ h_ => ?_)
  obtain ⟨⟨k_, rfl, hk_⟩, rfl, rfl⟩ := h_
  rcases hk_ with ⟨rfl, hno1⟩ | ⟨q1, hq1, rfl, hg1⟩
  · refine Z.istore_n (L' := [.ref 24, .int g_, .int ((-1))]) dX5_keeps_5 (Nat.le_of_ble_eq_true rfl) rfl ?_
    refine Z.iload_n dX5_keeps_6 rfl ?_
    refine Z.iconst (v := (-1)) dX5_keeps_7 (by decide) ?_
    refine Z.icmp_eq (tgt := 24) dX5_keeps_8 (by decide) (fun h2 => ?_) (fun h2 => absurd h2 (by decide))
    refine Z.iconst (v := 0) dX5_keeps_24 (by decide) ?_
    exact Z.zret dX5_keeps_25 rfl (by decide) ⟨by rw [keep_no hD hn2 (VB_none hB hg hno1)]; rfl, rfl, rfl⟩
  · refine Z.istore_n (L' := [.ref 24, .int g_, .int (nI q1)]) dX5_keeps_5 (Nat.le_of_ble_eq_true rfl) rfl ?_
    refine Z.iload_n dX5_keeps_6 rfl ?_
    refine Z.iconst (v := (-1)) dX5_keeps_7 (by decide) ?_
    refine Z.icmp_eq (tgt := 24) dX5_keeps_8 (by decide) (fun h3 => absurd h3 (nI_nm1 (by omega))) (fun h3 => ?_)
    refine Z.aload_n dX5_keeps_11 rfl ?_
    refine Z.getR (r := 28) dX5_keeps_12 cl5 flX5_21 (by decide) (fx24 hF) rfl ?_
    refine Z.iload_n dX5_keeps_15 rfl ?_
    refine Z.zaldv (j := q1) (v := J 28 q1) dX5_keeps_16 (fx28 hF) rfl (by omega) (by decide) rfl ?_
    refine Z.if_ne (tgt := 24) dX5_keeps_17 (by decide) (fun h4 => ?_) (fun h4 => ?_)
    · refine Z.iconst (v := 0) dX5_keeps_24 (by decide) ?_
      exact Z.zret dX5_keeps_25 rfl (by decide) ⟨by rw [(hB.1 q1 hq1).2.2.2.2] at h4; rw [← hg1, ← keep_of hD hn2 (by rw [← (hB.1 q1 hq1).2.1]; exact (hB.1 q1 hq1).2.2.1)]; rw [bI_n0] at h4; rw [h4]; rfl, rfl, rfl⟩
    · refine Z.iconst (v := 1) dX5_keeps_20 (by decide) ?_
      refine Z.goto (tgt := 25) dX5_keeps_21 (by decide) ?_
      exact Z.zret dX5_keeps_25 rfl (by decide) ⟨by rw [(hB.1 q1 hq1).2.2.2.2] at h4; rw [← hg1, ← keep_of hD hn2 (by rw [← (hB.1 q1 hq1).2.1]; exact (hB.1 q1 hq1).2.2.1)]; rw [bI_0] at h4; rw [h4]; rfl, rfl, rfl⟩

set_option maxHeartbeats 4000000 in
set_option maxRecDepth 100000 in
theorem cq_sinceAtT24 {g : GP} {I J : IM} {S : SH} (hE : Ex I J)  (hF : Fx S) (hC : Cp I) {n K : Nat} {m c t : Int32} (hn2 : n ≤ 400) (hD : Dn I n) (hA : VA I n m c t (J 24) K) (hB : VB I n m t (J 25) (J 26) (J 27) (J 28) K) {q : Nat} (hq : q < K) : Z g 1 0 0 mX5_sinceAt 0 (enL mX5_sinceAt [.ref 24, .int (nI q)]) [] J S (PQ (.int (sinceF (pM I n) m (J 25 q) t)) J S) := by
  show Z g 1 0 0 mX5_sinceAt 0 [.ref 24, .int (nI q)] [] J S _
  have hK := hA.2.2.2.2.2.2.2.2.2
  have hcn2 := cntU_le (p := pM I n) (k := 2) (m := m) (t := t) n
  refine Z.iload_n dX5_sinceAt_0 rfl ?_
  refine Z.aload_n dX5_sinceAt_1 rfl ?_
  refine Z.getIv (v := nI K) dX5_sinceAt_2 cl5 flX5_68 (by decide) (fx24 hF) hA.2.2.2.2.2.2.2.2.1 ?_
  refine Z.callSNp (M := mX5_sinceAt) (pc := 5) (st := []) (N := mX6_below) (n := 2) (r := .int (bI (inB (nI q) 0 (nI K - 1)))) dX5_sinceAt_5 (by decide) mkX6_below stX6_below (d1 := 0) (by decide) (As := [.int (nI q), .int (nI K)]) rfl ⟨rfl, Nat.le_of_ble_eq_true rfl⟩ ⟨rfl, Nat.le_of_ble_eq_true rfl⟩ (cc_belowN hE (nI q) K (by omega)) rfl ?_
  refine Z.if_eqB (tgt := 20) dX5_sinceAt_8 (by decide) (fun h1 => absurd h1 (by rw [inB_nK hq (by omega)] at h1; cases h1)) (fun h1 => ?_)
  refine Z.aload_n dX5_sinceAt_11 rfl ?_
  refine Z.getR (r := 26) dX5_sinceAt_12 cl5 flX5_15 (by decide) (fx24 hF) rfl ?_
  refine Z.iload_n dX5_sinceAt_15 rfl ?_
  refine Z.ialdv (j := q) (v := sinceF (pM I n) m (J 25 q) t) dX5_sinceAt_16 (fx26 hF) rfl (by omega) (by decide) (hB.1 q hq).2.1 ?_
  refine Z.goto (tgt := 21) dX5_sinceAt_17 (by decide) ?_
  exact Z.iret dX5_sinceAt_21 rfl ⟨rfl, rfl, rfl⟩

set_option maxHeartbeats 4000000 in
set_option maxRecDepth 100000 in
theorem cq_sinceAtN24 {g : GP} {I J : IM} {S : SH} (hE : Ex I J)  (hF : Fx S) (hC : Cp I) {n K : Nat} {m c t : Int32} (hn2 : n ≤ 400) (hD : Dn I n) (hA : VA I n m c t (J 24) K) (hB : VB I n m t (J 25) (J 26) (J 27) (J 28) K) : Z g 1 0 0 mX5_sinceAt 0 (enL mX5_sinceAt [.ref 24, .int ((-1))]) [] J S (PQ (.int ((-1))) J S) := by
  show Z g 1 0 0 mX5_sinceAt 0 [.ref 24, .int ((-1))] [] J S _
  have hK := hA.2.2.2.2.2.2.2.2.2
  have hcn2 := cntU_le (p := pM I n) (k := 2) (m := m) (t := t) n
  refine Z.iload_n dX5_sinceAt_0 rfl ?_
  refine Z.aload_n dX5_sinceAt_1 rfl ?_
  refine Z.getIv (v := nI K) dX5_sinceAt_2 cl5 flX5_68 (by decide) (fx24 hF) hA.2.2.2.2.2.2.2.2.1 ?_
  refine Z.callSNp (M := mX5_sinceAt) (pc := 5) (st := []) (N := mX6_below) (n := 2) (r := .int (bI (inB (-1) 0 (nI K - 1)))) dX5_sinceAt_5 (by decide) mkX6_below stX6_below (d1 := 0) (by decide) (As := [.int ((-1)), .int (nI K)]) rfl ⟨rfl, Nat.le_of_ble_eq_true rfl⟩ ⟨rfl, Nat.le_of_ble_eq_true rfl⟩ (cc_belowN hE (-1) K (by omega)) rfl ?_
  refine Z.if_eqB (tgt := 20) dX5_sinceAt_8 (by decide) (fun h1 => ?_) (fun h1 => absurd h1 (by rw [inB_n1] at h1; cases h1))
  refine Z.iconst (v := (-1)) dX5_sinceAt_20 (by decide) ?_
  exact Z.iret dX5_sinceAt_21 rfl ⟨rfl, rfl, rfl⟩

set_option maxHeartbeats 4000000 in
set_option maxRecDepth 100000 in
theorem cq_rightAtT24 {g : GP} {I J : IM} {S : SH} (hE : Ex I J)  (hF : Fx S) (hC : Cp I) {n K : Nat} {m c t : Int32} (hn2 : n ≤ 400) (hD : Dn I n) (hA : VA I n m c t (J 24) K) (hB : VB I n m t (J 25) (J 26) (J 27) (J 28) K) {q : Nat} (hq : q < K) (hc : ¬ c = -1) : Z g 1 0 0 mX5_rightAt 0 (enL mX5_rightAt [.ref 24, .int (nI q)]) [] J S (PQ (.int (rightF (pM I n) m (J 25 q) c t)) J S) := by
  show Z g 1 0 0 mX5_rightAt 0 [.ref 24, .int (nI q), .retAddr 0] [] J S _
  have hK := hA.2.2.2.2.2.2.2.2.2
  have hcn2 := cntU_le (p := pM I n) (k := 2) (m := m) (t := t) n
  have hsn : ¬ sinceF (pM I n) m (J 25 q) t < 0 := by rw [← (hB.1 q hq).2.1]; exact (hB.1 q hq).2.2.1
  refine Z.iload_n dX5_rightAt_0 rfl ?_
  refine Z.aload_n dX5_rightAt_1 rfl ?_
  refine Z.getIv (v := nI K) dX5_rightAt_2 cl5 flX5_68 (by decide) (fx24 hF) hA.2.2.2.2.2.2.2.2.1 ?_
  refine Z.callSNp (M := mX5_rightAt) (pc := 5) (st := []) (N := mX6_below) (n := 2) (r := .int (bI (inB (nI q) 0 (nI K - 1)))) dX5_rightAt_5 (by decide) mkX6_below stX6_below (d1 := 0) (by decide) (As := [.int (nI q), .int (nI K)]) rfl ⟨rfl, Nat.le_of_ble_eq_true rfl⟩ ⟨rfl, Nat.le_of_ble_eq_true rfl⟩ (cc_belowN hE (nI q) K (by omega)) rfl ?_
  refine Z.if_eqB (tgt := 19) dX5_rightAt_8 (by decide) (fun h1 => absurd h1 (by rw [inB_nK hq (by omega)] at h1; cases h1)) (fun h1 => ?_)
  refine Z.aload_n dX5_rightAt_11 rfl ?_
  refine Z.getIv (v := enF (pM I n) m c t) dX5_rightAt_12 cl5 flX5_77 (by decide) (fx24 hF) (hA.2.2.1 hc) ?_
  refine Z.iconst (v := (-1)) dX5_rightAt_15 (by decide) ?_
  refine Z.icmp_ne (tgt := 21) dX5_rightAt_16 (by decide) (fun h2 => ?_) (fun h2 => ?_)
  · refine Z.aload_n dX5_rightAt_21 rfl ?_
    refine Z.getIv (v := enF (pM I n) m c t) dX5_rightAt_22 cl5 flX5_77 (by decide) (fx24 hF) (hA.2.2.1 hc) ?_
    refine Z.aload_n dX5_rightAt_25 rfl ?_
    refine Z.getIv (v := firF (pM I n) m t) dX5_rightAt_26 cl5 flX5_51 (by decide) (fx24 hF) hA.2.1 ?_
    refine Z.isub dX5_rightAt_29 ?_
    refine Z.sipush (v := 182) dX5_rightAt_30 (by decide) ?_
    refine Z.icmp_gt (tgt := 53) dX5_rightAt_33 (by decide) (fun h3 => ?_) (fun h3 => ?_)
    · refine Z.iconst (v := 0) dX5_rightAt_53 (by decide) ?_
      refine Z.istore_n (L' := [.ref 24, .int (nI q), .int 0]) dX5_rightAt_54 (Nat.le_of_ble_eq_true rfl) rfl ?_
      refine Z.iload_n dX5_rightAt_55 rfl ?_
      refine Z.if_eq (tgt := 66) dX5_rightAt_56 (by decide) (fun h4 => ?_) (fun h4 => absurd h4 (by decide))
      refine Z.aload_n dX5_rightAt_66 rfl ?_
      refine Z.getIv (v := enF (pM I n) m c t) dX5_rightAt_67 cl5 flX5_77 (by decide) (fx24 hF) (hA.2.2.1 hc) ?_
      refine Z.aload_n dX5_rightAt_70 rfl ?_
      refine Z.getR (r := 26) dX5_rightAt_71 cl5 flX5_15 (by decide) (fx24 hF) rfl ?_
      refine Z.iload_n dX5_rightAt_74 rfl ?_
      refine Z.ialdv (j := q) (v := sinceF (pM I n) m (J 25 q) t) dX5_rightAt_75 (fx26 hF) rfl (by omega) (by decide) (hB.1 q hq).2.1 ?_
      refine Z.mmax dX5_rightAt_76 mlX5_80 (by decide) ⟨rfl, Nat.le_of_ble_eq_true rfl⟩ ?_
      exact Z.iret dX5_rightAt_79 rfl ⟨by rw [right_of hD hn2 hsn h2, mxI, rtB]; simp [h3], rfl, rfl⟩
    · refine Z.aload_n dX5_rightAt_36 rfl ?_
      refine Z.getR (r := 26) dX5_rightAt_37 cl5 flX5_15 (by decide) (fx24 hF) rfl ?_
      refine Z.iload_n dX5_rightAt_40 rfl ?_
      refine Z.ialdv (j := q) (v := sinceF (pM I n) m (J 25 q) t) dX5_rightAt_41 (fx26 hF) rfl (by omega) (by decide) (hB.1 q hq).2.1 ?_
      refine Z.aload_n dX5_rightAt_42 rfl ?_
      refine Z.getIv (v := firF (pM I n) m t) dX5_rightAt_43 cl5 flX5_51 (by decide) (fx24 hF) hA.2.1 ?_
      refine Z.icmp_gt (tgt := 53) dX5_rightAt_46 (by decide) (fun h5 => ?_) (fun h5 => ?_)
      · refine Z.iconst (v := 0) dX5_rightAt_53 (by decide) ?_
        refine Z.istore_n (L' := [.ref 24, .int (nI q), .int 0]) dX5_rightAt_54 (Nat.le_of_ble_eq_true rfl) rfl ?_
        refine Z.iload_n dX5_rightAt_55 rfl ?_
        refine Z.if_eq (tgt := 66) dX5_rightAt_56 (by decide) (fun h6 => ?_) (fun h6 => absurd h6 (by decide))
        refine Z.aload_n dX5_rightAt_66 rfl ?_
        refine Z.getIv (v := enF (pM I n) m c t) dX5_rightAt_67 cl5 flX5_77 (by decide) (fx24 hF) (hA.2.2.1 hc) ?_
        refine Z.aload_n dX5_rightAt_70 rfl ?_
        refine Z.getR (r := 26) dX5_rightAt_71 cl5 flX5_15 (by decide) (fx24 hF) rfl ?_
        refine Z.iload_n dX5_rightAt_74 rfl ?_
        refine Z.ialdv (j := q) (v := sinceF (pM I n) m (J 25 q) t) dX5_rightAt_75 (fx26 hF) rfl (by omega) (by decide) (hB.1 q hq).2.1 ?_
        refine Z.mmax dX5_rightAt_76 mlX5_80 (by decide) ⟨rfl, Nat.le_of_ble_eq_true rfl⟩ ?_
        exact Z.iret dX5_rightAt_79 rfl ⟨by rw [right_of hD hn2 hsn h2, mxI, rtB]; simp [h3, h5], rfl, rfl⟩
      · refine Z.iconst (v := 1) dX5_rightAt_49 (by decide) ?_
        refine Z.goto (tgt := 54) dX5_rightAt_50 (by decide) ?_
        refine Z.istore_n (L' := [.ref 24, .int (nI q), .int 1]) dX5_rightAt_54 (Nat.le_of_ble_eq_true rfl) rfl ?_
        refine Z.iload_n dX5_rightAt_55 rfl ?_
        refine Z.if_eq (tgt := 66) dX5_rightAt_56 (by decide) (fun h7 => absurd h7 (by decide)) (fun h7 => ?_)
        refine Z.aload_n dX5_rightAt_59 rfl ?_
        refine Z.getIv (v := firF (pM I n) m t) dX5_rightAt_60 cl5 flX5_51 (by decide) (fx24 hF) hA.2.1 ?_
        refine Z.goto (tgt := 70) dX5_rightAt_63 (by decide) ?_
        refine Z.aload_n dX5_rightAt_70 rfl ?_
        refine Z.getR (r := 26) dX5_rightAt_71 cl5 flX5_15 (by decide) (fx24 hF) rfl ?_
        refine Z.iload_n dX5_rightAt_74 rfl ?_
        refine Z.ialdv (j := q) (v := sinceF (pM I n) m (J 25 q) t) dX5_rightAt_75 (fx26 hF) rfl (by omega) (by decide) (hB.1 q hq).2.1 ?_
        refine Z.mmax dX5_rightAt_76 mlX5_80 (by decide) ⟨rfl, Nat.le_of_ble_eq_true rfl⟩ ?_
        exact Z.iret dX5_rightAt_79 rfl ⟨by rw [right_of hD hn2 hsn h2, mxI, rtB]; simp [h3, h5], rfl, rfl⟩
  · refine Z.iconst (v := (-1)) dX5_rightAt_19 (by decide) ?_
    exact Z.iret dX5_rightAt_20 rfl ⟨by rw [right_no hD hn2 h2], rfl, rfl⟩

set_option maxHeartbeats 4000000 in
set_option maxRecDepth 100000 in
theorem cq_rightAtN24 {g : GP} {I J : IM} {S : SH} (hE : Ex I J)  (hF : Fx S) (hC : Cp I) {n K : Nat} {m c t : Int32} (hn2 : n ≤ 400) (hD : Dn I n) (hA : VA I n m c t (J 24) K) (hB : VB I n m t (J 25) (J 26) (J 27) (J 28) K) : Z g 1 0 0 mX5_rightAt 0 (enL mX5_rightAt [.ref 24, .int ((-1))]) [] J S (PQ (.int ((-1))) J S) := by
  show Z g 1 0 0 mX5_rightAt 0 [.ref 24, .int ((-1)), .retAddr 0] [] J S _
  have hK := hA.2.2.2.2.2.2.2.2.2
  have hcn2 := cntU_le (p := pM I n) (k := 2) (m := m) (t := t) n
  refine Z.iload_n dX5_rightAt_0 rfl ?_
  refine Z.aload_n dX5_rightAt_1 rfl ?_
  refine Z.getIv (v := nI K) dX5_rightAt_2 cl5 flX5_68 (by decide) (fx24 hF) hA.2.2.2.2.2.2.2.2.1 ?_
  refine Z.callSNp (M := mX5_rightAt) (pc := 5) (st := []) (N := mX6_below) (n := 2) (r := .int (bI (inB (-1) 0 (nI K - 1)))) dX5_rightAt_5 (by decide) mkX6_below stX6_below (d1 := 0) (by decide) (As := [.int ((-1)), .int (nI K)]) rfl ⟨rfl, Nat.le_of_ble_eq_true rfl⟩ ⟨rfl, Nat.le_of_ble_eq_true rfl⟩ (cc_belowN hE (-1) K (by omega)) rfl ?_
  refine Z.if_eqB (tgt := 19) dX5_rightAt_8 (by decide) (fun h1 => ?_) (fun h1 => absurd h1 (by rw [inB_n1] at h1; cases h1))
  refine Z.iconst (v := (-1)) dX5_rightAt_19 (by decide) ?_
  exact Z.iret dX5_rightAt_20 rfl ⟨rfl, rfl, rfl⟩

set_option maxHeartbeats 4000000 in
set_option maxRecDepth 100000 in
theorem cq_standsAtT24 {g : GP} {I J : IM} {S : SH} (hE : Ex I J)  (hF : Fx S) (hC : Cp I) {n K : Nat} {m c t : Int32} (hn2 : n ≤ 400) (hD : Dn I n) (hA : VA I n m c t (J 24) K) (hB : VB I n m t (J 25) (J 26) (J 27) (J 28) K) {q : Nat} (hq : q < K) (hc : ¬ c = -1) : Z g 3 0 0 mX5_standsAt 0 (enL mX5_standsAt [.ref 24, .int (nI q)]) [] J S (PQ (.int (bI (standsF (pM I n) m (J 25 q) c t))) J S) := by
  show Z g 3 0 0 mX5_standsAt 0 [.ref 24, .int (nI q), .retAddr 0] [] J S _
  have hK := hA.2.2.2.2.2.2.2.2.2
  have hcn2 := cntU_le (p := pM I n) (k := 2) (m := m) (t := t) n
  have huo := (hB.1 q hq).2.2.2.1
  rw [(hB.1 q hq).2.1] at huo
  refine Z.aload_n dX5_standsAt_0 rfl ?_
  refine Z.iload_n dX5_standsAt_1 rfl ?_
  refine Z.callVp (M := mX5_standsAt) (pc := 2) (st := []) (N := mX5_rightAt) (n := 1) (r := .int (rightF (pM I n) m (J 25 q) c t)) dX5_standsAt_2 mlX5_86 mkX5_rightAt imX5_rightAt seX5_rightAt (fx24 hF) cl5 rfl (d1 := 1) (by decide) (As := [.int (nI q)]) rfl ⟨rfl, Nat.le_of_ble_eq_true rfl⟩ ⟨rfl, Nat.le_of_ble_eq_true rfl⟩ (cq_rightAtT24 hE hF hC hn2 hD hA hB hq hc) rfl ?_
  refine Z.istore_n (L' := [.ref 24, .int (nI q), .int (rightF (pM I n) m (J 25 q) c t)]) dX5_standsAt_5 (Nat.le_of_ble_eq_true rfl) rfl ?_
  refine Z.iload_n dX5_standsAt_6 rfl ?_
  refine Z.iconst (v := (-1)) dX5_standsAt_7 (by decide) ?_
  refine Z.icmp_eq (tgt := 25) dX5_standsAt_8 (by decide) (fun h1 => ?_) (fun h1 => ?_)
  · refine Z.iconst (v := 0) dX5_standsAt_25 (by decide) ?_
    exact Z.zret dX5_standsAt_26 rfl (by decide) ⟨by rw [stands_no h1]; rfl, rfl, rfl⟩
  · refine Z.aload_n dX5_standsAt_11 rfl ?_
    refine Z.getIv (v := bI (strF (pM I n) m t)) dX5_standsAt_12 cl5 flX5_89 (by decide) (fx24 hF) hA.2.2.2.2.2.1 ?_
    refine Z.if_neB (tgt := 25) dX5_standsAt_15 (by decide) (fun h2 => ?_) (fun h2 => ?_)
    · refine Z.iconst (v := 0) dX5_standsAt_25 (by decide) ?_
      exact Z.zret dX5_standsAt_26 rfl (by decide) ⟨by rw [stands_of hD hn2 h1]; simp [bI, h2], rfl, rfl⟩
    · refine Z.aload_n dX5_standsAt_18 rfl ?_
      refine Z.callVp (M := mX5_standsAt) (pc := 19) (st := []) (N := mX5_isLapsed) (n := 0) (r := .int (bI (!decide (firF (pM I n) m t = -1) && lapF (pM I n) m t))) dX5_standsAt_19 mlX5_93 mkX5_isLapsed imX5_isLapsed seX5_isLapsed (fx24 hF) cl5 rfl (d1 := 2) (by decide) (As := []) rfl ⟨rfl, Nat.le_of_ble_eq_true rfl⟩ ⟨rfl, Nat.le_of_ble_eq_true rfl⟩ (cq_isLapsed24 hE hF hC hn2 hD hA hB) rfl ?_
      refine Z.if_eqB (tgt := 27) dX5_standsAt_22 (by decide) (fun h3 => ?_) (fun h3 => ?_)
      · have hlap : lapF (pM I n) m t = false := by rw [show (!decide (firF (pM I n) m t = -1)) = true from by rw [decide_eq_false (en_fi hD hn2 ((right_c hD hn2).resolve_left h1).2.2.2.2)]; rfl, Bool.true_and] at h3; exact h3
        refine Z.aload_n dX5_standsAt_27 rfl ?_
        refine Z.getIv (v := t) dX5_standsAt_28 cl5 flX5_61 (by decide) (fx24 hF) hA.1 ?_
        refine Z.iload_n dX5_standsAt_31 rfl ?_
        refine Z.aload_n dX5_standsAt_32 rfl ?_
        refine Z.getR (r := 27) dX5_standsAt_33 cl5 flX5_18 (by decide) (fx24 hF) rfl ?_
        refine Z.iload_n dX5_standsAt_36 rfl ?_
        refine Z.ialdv (j := q) (v := J 27 q) dX5_standsAt_37 (fx27 hF) rfl (by omega) (by decide) rfl ?_
        refine Z.mmax dX5_standsAt_38 mlX5_80 (by decide) ⟨rfl, Nat.le_of_ble_eq_true rfl⟩ ?_
        refine Z.isub dX5_standsAt_41 ?_
        refine Z.sipush (v := 1825) dX5_standsAt_42 (by decide) ?_
        refine Z.icmp_gt (tgt := 52) dX5_standsAt_45 (by decide) (fun h4 => ?_) (fun h4 => ?_)
        · refine Z.iconst (v := 0) dX5_standsAt_52 (by decide) ?_
          exact Z.zret dX5_standsAt_53 rfl (by decide) ⟨by rw [stands_of hD hn2 h1, ← last_of hD hn2 huo h1, mxI]; simp [bI, h2, hlap, eq_true h4], rfl, rfl⟩
        · refine Z.iconst (v := 1) dX5_standsAt_48 (by decide) ?_
          refine Z.goto (tgt := 53) dX5_standsAt_49 (by decide) ?_
          exact Z.zret dX5_standsAt_53 rfl (by decide) ⟨by rw [stands_of hD hn2 h1, ← last_of hD hn2 huo h1, mxI]; simp [bI, h2, hlap, h4], rfl, rfl⟩
      · have hlap : lapF (pM I n) m t = true := by rw [show (!decide (firF (pM I n) m t = -1)) = true from by rw [decide_eq_false (en_fi hD hn2 ((right_c hD hn2).resolve_left h1).2.2.2.2)]; rfl, Bool.true_and] at h3; exact h3
        refine Z.iconst (v := 0) dX5_standsAt_25 (by decide) ?_
        exact Z.zret dX5_standsAt_26 rfl (by decide) ⟨by rw [stands_of hD hn2 h1]; simp [bI, h2, hlap], rfl, rfl⟩

set_option maxHeartbeats 4000000 in
set_option maxRecDepth 100000 in
theorem cq_standsAtN24 {g : GP} {I J : IM} {S : SH} (hE : Ex I J)  (hF : Fx S) (hC : Cp I) {n K : Nat} {m c t : Int32} (hn2 : n ≤ 400) (hD : Dn I n) (hA : VA I n m c t (J 24) K) (hB : VB I n m t (J 25) (J 26) (J 27) (J 28) K) : Z g 3 0 0 mX5_standsAt 0 (enL mX5_standsAt [.ref 24, .int ((-1))]) [] J S (PQ (.int (bI (false))) J S) := by
  show Z g 3 0 0 mX5_standsAt 0 [.ref 24, .int ((-1)), .retAddr 0] [] J S _
  have hK := hA.2.2.2.2.2.2.2.2.2
  have hcn2 := cntU_le (p := pM I n) (k := 2) (m := m) (t := t) n
  refine Z.aload_n dX5_standsAt_0 rfl ?_
  refine Z.iload_n dX5_standsAt_1 rfl ?_
  refine Z.callVp (M := mX5_standsAt) (pc := 2) (st := []) (N := mX5_rightAt) (n := 1) (r := .int ((-1))) dX5_standsAt_2 mlX5_86 mkX5_rightAt imX5_rightAt seX5_rightAt (fx24 hF) cl5 rfl (d1 := 1) (by decide) (As := [.int ((-1))]) rfl ⟨rfl, Nat.le_of_ble_eq_true rfl⟩ ⟨rfl, Nat.le_of_ble_eq_true rfl⟩ (cq_rightAtN24 hE hF hC hn2 hD hA hB) rfl ?_
  refine Z.istore_n (L' := [.ref 24, .int ((-1)), .int ((-1))]) dX5_standsAt_5 (Nat.le_of_ble_eq_true rfl) rfl ?_
  refine Z.iload_n dX5_standsAt_6 rfl ?_
  refine Z.iconst (v := (-1)) dX5_standsAt_7 (by decide) ?_
  refine Z.icmp_eq (tgt := 25) dX5_standsAt_8 (by decide) (fun h1 => ?_) (fun h1 => absurd h1 (by decide))
  refine Z.iconst (v := 0) dX5_standsAt_25 (by decide) ?_
  exact Z.zret dX5_standsAt_26 rfl (by decide) ⟨rfl, rfl, rfl⟩

set_option maxHeartbeats 4000000 in
set_option maxRecDepth 100000 in
theorem lq_standsForAny24 {g : GP} {I J : IM} {S : SH} (hE : Ex I J)  (hF : Fx S) (hC : Cp I) {n K : Nat} {m c t : Int32} (hn2 : n ≤ 400) (hD : Dn I n) (hA : VA I n m c t (J 24) K) (hB : VB I n m t (J 25) (J 26) (J 27) (J 28) K) (hc : ¬ c = -1) : ∀ q, q ≤ K → anU (fun q => standsF (pM I n) m (J 25 q) c t) q = false → Z g 4 0 0 mX5_standsForAny 2 [.ref 24, .int (nI q)] [] J S (PQ (.int (bI (anU (fun q => standsF (pM I n) m (J 25 q) c t) K))) J S) := by
  refine upZ K (fun q hi ih hno => ?_)
  have hK := hA.2.2.2.2.2.2.2.2.2
  have hcn2 := cntU_le (p := pM I n) (k := 2) (m := m) (t := t) n
  refine Z.iload_n dX5_standsForAny_2 rfl ?_
  refine Z.aload_n dX5_standsForAny_3 rfl ?_
  refine Z.getIv (v := nI K) dX5_standsForAny_4 cl5 flX5_68 (by decide) (fx24 hF) hA.2.2.2.2.2.2.2.2.1 ?_
  refine Z.icmp_geN (a := q) (b := K) (by omega) (by omega) (tgt := 26) dX5_standsForAny_7 (by decide) (fun h1 => ?_) (fun h1 => ?_)
  · refine Z.iconst (v := 0) dX5_standsForAny_26 (by decide) ?_
    exact Z.zret dX5_standsForAny_27 rfl (by decide) ⟨by rw [show q = K by omega] at hno; rw [hno]; rfl, rfl, rfl⟩
  · refine Z.aload_n dX5_standsForAny_10 rfl ?_
    refine Z.iload_n dX5_standsForAny_11 rfl ?_
    refine Z.callVp (M := mX5_standsForAny) (pc := 12) (st := []) (N := mX5_standsAt) (n := 1) (r := .int (bI (standsF (pM I n) m (J 25 q) c t))) dX5_standsForAny_12 mlX5_96 mkX5_standsAt imX5_standsAt seX5_standsAt (fx24 hF) cl5 rfl (d1 := 3) (by decide) (As := [.int (nI q)]) rfl ⟨rfl, Nat.le_of_ble_eq_true rfl⟩ ⟨rfl, Nat.le_of_ble_eq_true rfl⟩ (cq_standsAtT24 hE hF hC hn2 hD hA hB (by omega) hc) rfl ?_
    refine Z.if_eqB (tgt := 20) dX5_standsForAny_15 (by decide) (fun h2 => ?_) (fun h2 => ?_)
    · refine Z.iinc (v := nI (q + 1)) (L' := [.ref 24, .int (nI (q + 1))]) dX5_standsForAny_20 rfl (nI_1 _) rfl ?_
      refine Z.goto (tgt := 2) dX5_standsForAny_23 (by decide) ?_
      exact ih (by omega) (by simp [anU, hno, h2])
    · refine Z.iconst (v := 1) dX5_standsForAny_18 (by decide) ?_
      exact Z.zret dX5_standsForAny_19 rfl (by decide) ⟨by rw [anU_mono (k := q + 1) (by simp [anU, h2]) (by omega)]; rfl, rfl, rfl⟩

set_option maxHeartbeats 4000000 in
set_option maxRecDepth 100000 in
theorem cq_standsForAny24 {g : GP} {I J : IM} {S : SH} (hE : Ex I J)  (hF : Fx S) (hC : Cp I) {n K : Nat} {m c t : Int32} (hn2 : n ≤ 400) (hD : Dn I n) (hA : VA I n m c t (J 24) K) (hB : VB I n m t (J 25) (J 26) (J 27) (J 28) K) (hc : ¬ c = -1) : Z g 4 0 0 mX5_standsForAny 0 (enL mX5_standsForAny [.ref 24]) [] J S (PQ (.int (bI (anU (fun q => standsF (pM I n) m (J 25 q) c t) K))) J S) := by
  show Z g 4 0 0 mX5_standsForAny 0 [.ref 24, .retAddr 0] [] J S _
  refine Z.iconst (v := 0) dX5_standsForAny_0 (by decide) ?_
  refine Z.istore_n (L' := [.ref 24, .int 0]) dX5_standsForAny_1 (Nat.le_of_ble_eq_true rfl) rfl ?_
  exact lq_standsForAny24 hE hF hC hn2 hD hA hB hc 0 (Nat.zero_le _) rfl

set_option maxHeartbeats 4000000 in
set_option maxRecDepth 100000 in
theorem cq_isEntered29 {g : GP} {I J : IM} {S : SH} (hE : Ex I J)  (hF : Fx S) (hC : Cp I) {n K : Nat} {m c t : Int32} (hn2 : n ≤ 400) (hD : Dn I n) (hA : VA I n m c t (J 29) K) (hB : VB I n m t (J 30) (J 31) (J 32) (J 33) K) : Z g 0 0 0 mX5_isEntered 0 (enL mX5_isEntered [.ref 29]) [] J S (PQ (.int (bI (!decide (firF (pM I n) m t = -1)))) J S) := by
  show Z g 0 0 0 mX5_isEntered 0 [.ref 29] [] J S _
  have hK := hA.2.2.2.2.2.2.2.2.2
  have hcn2 := cntU_le (p := pM I n) (k := 2) (m := m) (t := t) n
  refine Z.aload_n dX5_isEntered_0 rfl ?_
  refine Z.getIv (v := firF (pM I n) m t) dX5_isEntered_1 cl5 flX5_51 (by decide) (fx29 hF) hA.2.1 ?_
  refine Z.iconst (v := (-1)) dX5_isEntered_4 (by decide) ?_
  refine Z.icmp_eq (tgt := 12) dX5_isEntered_5 (by decide) (fun h1 => ?_) (fun h1 => ?_)
  · refine Z.iconst (v := 0) dX5_isEntered_12 (by decide) ?_
    exact Z.zret dX5_isEntered_13 rfl (by decide) ⟨by simp [bI, eq_true h1], rfl, rfl⟩
  · refine Z.iconst (v := 1) dX5_isEntered_8 (by decide) ?_
    refine Z.goto (tgt := 13) dX5_isEntered_9 (by decide) ?_
    exact Z.zret dX5_isEntered_13 rfl (by decide) ⟨by simp [bI, h1], rfl, rfl⟩

set_option maxHeartbeats 4000000 in
set_option maxRecDepth 100000 in
theorem cq_termEnd29 {g : GP} {I J : IM} {S : SH} (hE : Ex I J)  (hF : Fx S) (hC : Cp I) {n K : Nat} {m c t : Int32} (hn2 : n ≤ 400) (hD : Dn I n) (hA : VA I n m c t (J 29) K) (hB : VB I n m t (J 30) (J 31) (J 32) (J 33) K) : Z g 1 0 0 mX5_termEnd 0 (enL mX5_termEnd [.ref 29]) [] J S (PQ (.int (if firF (pM I n) m t = -1 then -1 else termF (pM I n) m t)) J S) := by
  show Z g 1 0 0 mX5_termEnd 0 [.ref 29] [] J S _
  have hK := hA.2.2.2.2.2.2.2.2.2
  have hcn2 := cntU_le (p := pM I n) (k := 2) (m := m) (t := t) n
  refine Z.aload_n dX5_termEnd_0 rfl ?_
  refine Z.callVp (M := mX5_termEnd) (pc := 1) (st := []) (N := mX5_isEntered) (n := 0) (r := .int (bI (!decide (firF (pM I n) m t = -1)))) dX5_termEnd_1 mlX5_54 mkX5_isEntered imX5_isEntered seX5_isEntered (fx29 hF) cl5 rfl (d1 := 0) (by decide) (As := []) rfl ⟨rfl, Nat.le_of_ble_eq_true rfl⟩ ⟨rfl, Nat.le_of_ble_eq_true rfl⟩ (cq_isEntered29 hE hF hC hn2 hD hA hB) rfl ?_
  refine Z.if_eqB (tgt := 25) dX5_termEnd_4 (by decide) (fun h1 => ?_) (fun h1 => ?_)
  · refine Z.iconst (v := (-1)) dX5_termEnd_25 (by decide) ?_
    exact Z.iret dX5_termEnd_26 rfl ⟨by rw [if_pos (by simpa using h1)], rfl, rfl⟩
  · refine Z.aload_n dX5_termEnd_7 rfl ?_
    refine Z.getIv (v := firF (pM I n) m t) dX5_termEnd_8 cl5 flX5_51 (by decide) (fx29 hF) hA.2.1 ?_
    refine Z.sipush (v := 3650) dX5_termEnd_11 (by decide) ?_
    refine Z.iconst (v := 1) dX5_termEnd_14 (by decide) ?_
    refine Z.aload_n dX5_termEnd_15 rfl ?_
    refine Z.getIv (v := nI (cntF (pM I n) 2 m t)) dX5_termEnd_16 cl5 flX5_58 (by decide) (fx29 hF) hA.2.2.2.2.1 ?_
    refine Z.iaddN (a := 1) (b := cntF (pM I n) 2 m t) dX5_termEnd_19 ?_
    refine Z.imulN (a := 3650) (b := 1 + (cntF (pM I n) 2 m t)) dX5_termEnd_20 ?_
    refine Z.iadd dX5_termEnd_21 ?_
    refine Z.goto (tgt := 26) dX5_termEnd_22 (by decide) ?_
    exact Z.iret dX5_termEnd_26 rfl ⟨by rw [if_neg (by simpa using h1)]; rfl, rfl, rfl⟩

theorem cq_termEndT29 {g : GP} {I J : IM} {S : SH} (hE : Ex I J) (hF : Fx S) (hC : Cp I) {n K : Nat} {m c t : Int32} (hn2 : n ≤ 400) (hD : Dn I n) (hA : VA I n m c t (J 29) K) (hB : VB I n m t (J 30) (J 31) (J 32) (J 33) K) (hne : ¬ firF (pM I n) m t = -1) : Z g 1 0 0 mX5_termEnd 0 (enL mX5_termEnd [.ref 29]) [] J S (PQ (.int (termF (pM I n) m t)) J S) := by
  have e := cq_termEnd29 (g := g) hE hF hC hn2 hD hA hB
  rw [if_neg hne] at e
  exact e
set_option maxHeartbeats 4000000 in
set_option maxRecDepth 100000 in
theorem cq_isLapsed29 {g : GP} {I J : IM} {S : SH} (hE : Ex I J)  (hF : Fx S) (hC : Cp I) {n K : Nat} {m c t : Int32} (hn2 : n ≤ 400) (hD : Dn I n) (hA : VA I n m c t (J 29) K) (hB : VB I n m t (J 30) (J 31) (J 32) (J 33) K) : Z g 2 0 0 mX5_isLapsed 0 (enL mX5_isLapsed [.ref 29]) [] J S (PQ (.int (bI (!decide (firF (pM I n) m t = -1) && lapF (pM I n) m t))) J S) := by
  show Z g 2 0 0 mX5_isLapsed 0 [.ref 29] [] J S _
  have hK := hA.2.2.2.2.2.2.2.2.2
  have hcn2 := cntU_le (p := pM I n) (k := 2) (m := m) (t := t) n
  refine Z.aload_n dX5_isLapsed_0 rfl ?_
  refine Z.callVp (M := mX5_isLapsed) (pc := 1) (st := []) (N := mX5_isEntered) (n := 0) (r := .int (bI (!decide (firF (pM I n) m t = -1)))) dX5_isLapsed_1 mlX5_54 mkX5_isEntered imX5_isEntered seX5_isEntered (fx29 hF) cl5 rfl (d1 := 0) (by decide) (As := []) rfl ⟨rfl, Nat.le_of_ble_eq_true rfl⟩ ⟨rfl, Nat.le_of_ble_eq_true rfl⟩ (cq_isEntered29 hE hF hC hn2 hD hA hB) rfl ?_
  refine Z.if_eqB (tgt := 26) dX5_isLapsed_4 (by decide) (fun h1 => ?_) (fun h1 => ?_)
  · refine Z.iconst (v := 0) dX5_isLapsed_26 (by decide) ?_
    exact Z.zret dX5_isLapsed_27 rfl (by decide) ⟨by simp [bI, lapF, h1], rfl, rfl⟩
  · refine Z.aload_n dX5_isLapsed_7 rfl ?_
    refine Z.getIv (v := t) dX5_isLapsed_8 cl5 flX5_61 (by decide) (fx29 hF) hA.1 ?_
    refine Z.aload_n dX5_isLapsed_11 rfl ?_
    refine Z.callVp (M := mX5_isLapsed) (pc := 12) (st := [.int t]) (N := mX5_termEnd) (n := 0) (r := .int (termF (pM I n) m t)) dX5_isLapsed_12 mlX5_64 mkX5_termEnd imX5_termEnd seX5_termEnd (fx29 hF) cl5 rfl (d1 := 1) (by decide) (As := []) rfl ⟨rfl, Nat.le_of_ble_eq_true rfl⟩ ⟨rfl, Nat.le_of_ble_eq_true rfl⟩ (cq_termEndT29 hE hF hC hn2 hD hA hB (by simpa using h1)) rfl ?_
    refine Z.sipush (v := 180) dX5_isLapsed_15 (by decide) ?_
    refine Z.iadd dX5_isLapsed_18 ?_
    refine Z.icmp_le (tgt := 26) dX5_isLapsed_19 (by decide) (fun h2 => ?_) (fun h2 => ?_)
    · refine Z.iconst (v := 0) dX5_isLapsed_26 (by decide) ?_
      exact Z.zret dX5_isLapsed_27 rfl (by decide) ⟨by simp [bI, lapF, h1, h2], rfl, rfl⟩
    · refine Z.iconst (v := 1) dX5_isLapsed_22 (by decide) ?_
      refine Z.goto (tgt := 27) dX5_isLapsed_23 (by decide) ?_
      exact Z.zret dX5_isLapsed_27 rfl (by decide) ⟨by simp [bI, lapF, h1, h2], rfl, rfl⟩

set_option maxHeartbeats 4000000 in
set_option maxRecDepth 100000 in
theorem cq_isTimeToRenew29 {g : GP} {I J : IM} {S : SH} (hE : Ex I J)  (hF : Fx S) (hC : Cp I) {n K : Nat} {m c t : Int32} (hn2 : n ≤ 400) (hD : Dn I n) (hA : VA I n m c t (J 29) K) (hB : VB I n m t (J 30) (J 31) (J 32) (J 33) K) (hne : ¬ firF (pM I n) m t = -1) : Z g 2 0 0 mX5_isTimeToRenew 0 (enL mX5_isTimeToRenew [.ref 29]) [] J S (PQ (.int (bI (!decide (t < termF (pM I n) m t - 365) && !decide (termF (pM I n) m t + 180 < t)))) J S) := by
  show Z g 2 0 0 mX5_isTimeToRenew 0 [.ref 29] [] J S _
  have hK := hA.2.2.2.2.2.2.2.2.2
  have hcn2 := cntU_le (p := pM I n) (k := 2) (m := m) (t := t) n
  refine Z.aload_n dX5_isTimeToRenew_0 rfl ?_
  refine Z.getIv (v := t) dX5_isTimeToRenew_1 cl5 flX5_61 (by decide) (fx29 hF) hA.1 ?_
  refine Z.aload_n dX5_isTimeToRenew_4 rfl ?_
  refine Z.callVp (M := mX5_isTimeToRenew) (pc := 5) (st := [.int t]) (N := mX5_termEnd) (n := 0) (r := .int (termF (pM I n) m t)) dX5_isTimeToRenew_5 mlX5_64 mkX5_termEnd imX5_termEnd seX5_termEnd (fx29 hF) cl5 rfl (d1 := 1) (by decide) (As := []) rfl ⟨rfl, Nat.le_of_ble_eq_true rfl⟩ ⟨rfl, Nat.le_of_ble_eq_true rfl⟩ (cq_termEndT29 hE hF hC hn2 hD hA hB hne) rfl ?_
  refine Z.sipush (v := 365) dX5_isTimeToRenew_8 (by decide) ?_
  refine Z.isub dX5_isTimeToRenew_11 ?_
  refine Z.icmp_lt (tgt := 34) dX5_isTimeToRenew_12 (by decide) (fun h1 => ?_) (fun h1 => ?_)
  · refine Z.iconst (v := 0) dX5_isTimeToRenew_34 (by decide) ?_
    exact Z.zret dX5_isTimeToRenew_35 rfl (by decide) ⟨by simp [bI, h1], rfl, rfl⟩
  · refine Z.aload_n dX5_isTimeToRenew_15 rfl ?_
    refine Z.getIv (v := t) dX5_isTimeToRenew_16 cl5 flX5_61 (by decide) (fx29 hF) hA.1 ?_
    refine Z.aload_n dX5_isTimeToRenew_19 rfl ?_
    refine Z.callVp (M := mX5_isTimeToRenew) (pc := 20) (st := [.int t]) (N := mX5_termEnd) (n := 0) (r := .int (termF (pM I n) m t)) dX5_isTimeToRenew_20 mlX5_64 mkX5_termEnd imX5_termEnd seX5_termEnd (fx29 hF) cl5 rfl (d1 := 1) (by decide) (As := []) rfl ⟨rfl, Nat.le_of_ble_eq_true rfl⟩ ⟨rfl, Nat.le_of_ble_eq_true rfl⟩ (cq_termEndT29 hE hF hC hn2 hD hA hB hne) rfl ?_
    refine Z.sipush (v := 180) dX5_isTimeToRenew_23 (by decide) ?_
    refine Z.iadd dX5_isTimeToRenew_26 ?_
    refine Z.icmp_gt (tgt := 34) dX5_isTimeToRenew_27 (by decide) (fun h2 => ?_) (fun h2 => ?_)
    · refine Z.iconst (v := 0) dX5_isTimeToRenew_34 (by decide) ?_
      exact Z.zret dX5_isTimeToRenew_35 rfl (by decide) ⟨by simp [bI, h1, h2], rfl, rfl⟩
    · refine Z.iconst (v := 1) dX5_isTimeToRenew_30 (by decide) ?_
      refine Z.goto (tgt := 35) dX5_isTimeToRenew_31 (by decide) ?_
      exact Z.zret dX5_isTimeToRenew_35 rfl (by decide) ⟨by simp [bI, h1, h2], rfl, rfl⟩

set_option maxHeartbeats 4000000 in
set_option maxRecDepth 100000 in
theorem cq_keeps29 {g : GP} {I J : IM} {S : SH} (hE : Ex I J) (g_ : Int32) (hF : Fx S) (hC : Cp I) {n K : Nat} {m c t : Int32} (hn2 : n ≤ 400) (hD : Dn I n) (hA : VA I n m c t (J 29) K) (hB : VB I n m t (J 30) (J 31) (J 32) (J 33) K) (hg : ¬ g_ = -1) : Z g 1 0 0 mX5_keeps 0 (enL mX5_keeps [.ref 29, .int g_]) [] J S (PQ (.int (bI (decide (latF (pM I n) 3 m g_ t < latF (pM I n) 0 m g_ t)))) J S) := by
  show Z g 1 0 0 mX5_keeps 0 [.ref 29, .int g_, .retAddr 0] [] J S _
  have hK := hA.2.2.2.2.2.2.2.2.2
  have hcn2 := cntU_le (p := pM I n) (k := 2) (m := m) (t := t) n
  refine Z.aload_n dX5_keeps_0 rfl ?_
  refine Z.iload_n dX5_keeps_1 rfl ?_
  refine Z.callVg (M := mX5_keeps) (pc := 2) (st := []) (N := mX5_find) (n := 1) dX5_keeps_2 mlX5_69 mkX5_find imX5_find seX5_find (fx29 hF) cl5 rfl (d1 := 0) (by decide) (As := [.int g_]) rfl ⟨rfl, Nat.le_of_ble_eq_true rfl⟩ ⟨rfl, Nat.le_of_ble_eq_true rfl⟩ (cv_find29 (J := J) hE g_ hF (hA.2.2.2.2.2.2.2.2.1) (hA.2.2.2.2.2.2.2.2.2)) rfl (fun v_ J1 S_ h_ => ?_)
  obtain ⟨⟨k_, rfl, hk_⟩, rfl, rfl⟩ := h_
  rcases hk_ with ⟨rfl, hno1⟩ | ⟨q1, hq1, rfl, hg1⟩
  · refine Z.istore_n (L' := [.ref 29, .int g_, .int ((-1))]) dX5_keeps_5 (Nat.le_of_ble_eq_true rfl) rfl ?_
    refine Z.iload_n dX5_keeps_6 rfl ?_
    refine Z.iconst (v := (-1)) dX5_keeps_7 (by decide) ?_
    refine Z.icmp_eq (tgt := 24) dX5_keeps_8 (by decide) (fun h2 => ?_) (fun h2 => absurd h2 (by decide))
    refine Z.iconst (v := 0) dX5_keeps_24 (by decide) ?_
    exact Z.zret dX5_keeps_25 rfl (by decide) ⟨by rw [keep_no hD hn2 (VB_none hB hg hno1)]; rfl, rfl, rfl⟩
  · refine Z.istore_n (L' := [.ref 29, .int g_, .int (nI q1)]) dX5_keeps_5 (Nat.le_of_ble_eq_true rfl) rfl ?_
    refine Z.iload_n dX5_keeps_6 rfl ?_
    refine Z.iconst (v := (-1)) dX5_keeps_7 (by decide) ?_
    refine Z.icmp_eq (tgt := 24) dX5_keeps_8 (by decide) (fun h3 => absurd h3 (nI_nm1 (by omega))) (fun h3 => ?_)
    refine Z.aload_n dX5_keeps_11 rfl ?_
    refine Z.getR (r := 33) dX5_keeps_12 cl5 flX5_21 (by decide) (fx29 hF) rfl ?_
    refine Z.iload_n dX5_keeps_15 rfl ?_
    refine Z.zaldv (j := q1) (v := J 33 q1) dX5_keeps_16 (fx33 hF) rfl (by omega) (by decide) rfl ?_
    refine Z.if_ne (tgt := 24) dX5_keeps_17 (by decide) (fun h4 => ?_) (fun h4 => ?_)
    · refine Z.iconst (v := 0) dX5_keeps_24 (by decide) ?_
      exact Z.zret dX5_keeps_25 rfl (by decide) ⟨by rw [(hB.1 q1 hq1).2.2.2.2] at h4; rw [← hg1, ← keep_of hD hn2 (by rw [← (hB.1 q1 hq1).2.1]; exact (hB.1 q1 hq1).2.2.1)]; rw [bI_n0] at h4; rw [h4]; rfl, rfl, rfl⟩
    · refine Z.iconst (v := 1) dX5_keeps_20 (by decide) ?_
      refine Z.goto (tgt := 25) dX5_keeps_21 (by decide) ?_
      exact Z.zret dX5_keeps_25 rfl (by decide) ⟨by rw [(hB.1 q1 hq1).2.2.2.2] at h4; rw [← hg1, ← keep_of hD hn2 (by rw [← (hB.1 q1 hq1).2.1]; exact (hB.1 q1 hq1).2.2.1)]; rw [bI_0] at h4; rw [h4]; rfl, rfl, rfl⟩

set_option maxHeartbeats 4000000 in
set_option maxRecDepth 100000 in
theorem cq_sinceAtT29 {g : GP} {I J : IM} {S : SH} (hE : Ex I J)  (hF : Fx S) (hC : Cp I) {n K : Nat} {m c t : Int32} (hn2 : n ≤ 400) (hD : Dn I n) (hA : VA I n m c t (J 29) K) (hB : VB I n m t (J 30) (J 31) (J 32) (J 33) K) {q : Nat} (hq : q < K) : Z g 1 0 0 mX5_sinceAt 0 (enL mX5_sinceAt [.ref 29, .int (nI q)]) [] J S (PQ (.int (sinceF (pM I n) m (J 30 q) t)) J S) := by
  show Z g 1 0 0 mX5_sinceAt 0 [.ref 29, .int (nI q)] [] J S _
  have hK := hA.2.2.2.2.2.2.2.2.2
  have hcn2 := cntU_le (p := pM I n) (k := 2) (m := m) (t := t) n
  refine Z.iload_n dX5_sinceAt_0 rfl ?_
  refine Z.aload_n dX5_sinceAt_1 rfl ?_
  refine Z.getIv (v := nI K) dX5_sinceAt_2 cl5 flX5_68 (by decide) (fx29 hF) hA.2.2.2.2.2.2.2.2.1 ?_
  refine Z.callSNp (M := mX5_sinceAt) (pc := 5) (st := []) (N := mX6_below) (n := 2) (r := .int (bI (inB (nI q) 0 (nI K - 1)))) dX5_sinceAt_5 (by decide) mkX6_below stX6_below (d1 := 0) (by decide) (As := [.int (nI q), .int (nI K)]) rfl ⟨rfl, Nat.le_of_ble_eq_true rfl⟩ ⟨rfl, Nat.le_of_ble_eq_true rfl⟩ (cc_belowN hE (nI q) K (by omega)) rfl ?_
  refine Z.if_eqB (tgt := 20) dX5_sinceAt_8 (by decide) (fun h1 => absurd h1 (by rw [inB_nK hq (by omega)] at h1; cases h1)) (fun h1 => ?_)
  refine Z.aload_n dX5_sinceAt_11 rfl ?_
  refine Z.getR (r := 31) dX5_sinceAt_12 cl5 flX5_15 (by decide) (fx29 hF) rfl ?_
  refine Z.iload_n dX5_sinceAt_15 rfl ?_
  refine Z.ialdv (j := q) (v := sinceF (pM I n) m (J 30 q) t) dX5_sinceAt_16 (fx31 hF) rfl (by omega) (by decide) (hB.1 q hq).2.1 ?_
  refine Z.goto (tgt := 21) dX5_sinceAt_17 (by decide) ?_
  exact Z.iret dX5_sinceAt_21 rfl ⟨rfl, rfl, rfl⟩

set_option maxHeartbeats 4000000 in
set_option maxRecDepth 100000 in
theorem cq_sinceAtN29 {g : GP} {I J : IM} {S : SH} (hE : Ex I J)  (hF : Fx S) (hC : Cp I) {n K : Nat} {m c t : Int32} (hn2 : n ≤ 400) (hD : Dn I n) (hA : VA I n m c t (J 29) K) (hB : VB I n m t (J 30) (J 31) (J 32) (J 33) K) : Z g 1 0 0 mX5_sinceAt 0 (enL mX5_sinceAt [.ref 29, .int ((-1))]) [] J S (PQ (.int ((-1))) J S) := by
  show Z g 1 0 0 mX5_sinceAt 0 [.ref 29, .int ((-1))] [] J S _
  have hK := hA.2.2.2.2.2.2.2.2.2
  have hcn2 := cntU_le (p := pM I n) (k := 2) (m := m) (t := t) n
  refine Z.iload_n dX5_sinceAt_0 rfl ?_
  refine Z.aload_n dX5_sinceAt_1 rfl ?_
  refine Z.getIv (v := nI K) dX5_sinceAt_2 cl5 flX5_68 (by decide) (fx29 hF) hA.2.2.2.2.2.2.2.2.1 ?_
  refine Z.callSNp (M := mX5_sinceAt) (pc := 5) (st := []) (N := mX6_below) (n := 2) (r := .int (bI (inB (-1) 0 (nI K - 1)))) dX5_sinceAt_5 (by decide) mkX6_below stX6_below (d1 := 0) (by decide) (As := [.int ((-1)), .int (nI K)]) rfl ⟨rfl, Nat.le_of_ble_eq_true rfl⟩ ⟨rfl, Nat.le_of_ble_eq_true rfl⟩ (cc_belowN hE (-1) K (by omega)) rfl ?_
  refine Z.if_eqB (tgt := 20) dX5_sinceAt_8 (by decide) (fun h1 => ?_) (fun h1 => absurd h1 (by rw [inB_n1] at h1; cases h1))
  refine Z.iconst (v := (-1)) dX5_sinceAt_20 (by decide) ?_
  exact Z.iret dX5_sinceAt_21 rfl ⟨rfl, rfl, rfl⟩

set_option maxHeartbeats 4000000 in
set_option maxRecDepth 100000 in
theorem cq_rightAtT29 {g : GP} {I J : IM} {S : SH} (hE : Ex I J)  (hF : Fx S) (hC : Cp I) {n K : Nat} {m c t : Int32} (hn2 : n ≤ 400) (hD : Dn I n) (hA : VA I n m c t (J 29) K) (hB : VB I n m t (J 30) (J 31) (J 32) (J 33) K) {q : Nat} (hq : q < K) (hc : ¬ c = -1) : Z g 1 0 0 mX5_rightAt 0 (enL mX5_rightAt [.ref 29, .int (nI q)]) [] J S (PQ (.int (rightF (pM I n) m (J 30 q) c t)) J S) := by
  show Z g 1 0 0 mX5_rightAt 0 [.ref 29, .int (nI q), .retAddr 0] [] J S _
  have hK := hA.2.2.2.2.2.2.2.2.2
  have hcn2 := cntU_le (p := pM I n) (k := 2) (m := m) (t := t) n
  have hsn : ¬ sinceF (pM I n) m (J 30 q) t < 0 := by rw [← (hB.1 q hq).2.1]; exact (hB.1 q hq).2.2.1
  refine Z.iload_n dX5_rightAt_0 rfl ?_
  refine Z.aload_n dX5_rightAt_1 rfl ?_
  refine Z.getIv (v := nI K) dX5_rightAt_2 cl5 flX5_68 (by decide) (fx29 hF) hA.2.2.2.2.2.2.2.2.1 ?_
  refine Z.callSNp (M := mX5_rightAt) (pc := 5) (st := []) (N := mX6_below) (n := 2) (r := .int (bI (inB (nI q) 0 (nI K - 1)))) dX5_rightAt_5 (by decide) mkX6_below stX6_below (d1 := 0) (by decide) (As := [.int (nI q), .int (nI K)]) rfl ⟨rfl, Nat.le_of_ble_eq_true rfl⟩ ⟨rfl, Nat.le_of_ble_eq_true rfl⟩ (cc_belowN hE (nI q) K (by omega)) rfl ?_
  refine Z.if_eqB (tgt := 19) dX5_rightAt_8 (by decide) (fun h1 => absurd h1 (by rw [inB_nK hq (by omega)] at h1; cases h1)) (fun h1 => ?_)
  refine Z.aload_n dX5_rightAt_11 rfl ?_
  refine Z.getIv (v := enF (pM I n) m c t) dX5_rightAt_12 cl5 flX5_77 (by decide) (fx29 hF) (hA.2.2.1 hc) ?_
  refine Z.iconst (v := (-1)) dX5_rightAt_15 (by decide) ?_
  refine Z.icmp_ne (tgt := 21) dX5_rightAt_16 (by decide) (fun h2 => ?_) (fun h2 => ?_)
  · refine Z.aload_n dX5_rightAt_21 rfl ?_
    refine Z.getIv (v := enF (pM I n) m c t) dX5_rightAt_22 cl5 flX5_77 (by decide) (fx29 hF) (hA.2.2.1 hc) ?_
    refine Z.aload_n dX5_rightAt_25 rfl ?_
    refine Z.getIv (v := firF (pM I n) m t) dX5_rightAt_26 cl5 flX5_51 (by decide) (fx29 hF) hA.2.1 ?_
    refine Z.isub dX5_rightAt_29 ?_
    refine Z.sipush (v := 182) dX5_rightAt_30 (by decide) ?_
    refine Z.icmp_gt (tgt := 53) dX5_rightAt_33 (by decide) (fun h3 => ?_) (fun h3 => ?_)
    · refine Z.iconst (v := 0) dX5_rightAt_53 (by decide) ?_
      refine Z.istore_n (L' := [.ref 29, .int (nI q), .int 0]) dX5_rightAt_54 (Nat.le_of_ble_eq_true rfl) rfl ?_
      refine Z.iload_n dX5_rightAt_55 rfl ?_
      refine Z.if_eq (tgt := 66) dX5_rightAt_56 (by decide) (fun h4 => ?_) (fun h4 => absurd h4 (by decide))
      refine Z.aload_n dX5_rightAt_66 rfl ?_
      refine Z.getIv (v := enF (pM I n) m c t) dX5_rightAt_67 cl5 flX5_77 (by decide) (fx29 hF) (hA.2.2.1 hc) ?_
      refine Z.aload_n dX5_rightAt_70 rfl ?_
      refine Z.getR (r := 31) dX5_rightAt_71 cl5 flX5_15 (by decide) (fx29 hF) rfl ?_
      refine Z.iload_n dX5_rightAt_74 rfl ?_
      refine Z.ialdv (j := q) (v := sinceF (pM I n) m (J 30 q) t) dX5_rightAt_75 (fx31 hF) rfl (by omega) (by decide) (hB.1 q hq).2.1 ?_
      refine Z.mmax dX5_rightAt_76 mlX5_80 (by decide) ⟨rfl, Nat.le_of_ble_eq_true rfl⟩ ?_
      exact Z.iret dX5_rightAt_79 rfl ⟨by rw [right_of hD hn2 hsn h2, mxI, rtB]; simp [h3], rfl, rfl⟩
    · refine Z.aload_n dX5_rightAt_36 rfl ?_
      refine Z.getR (r := 31) dX5_rightAt_37 cl5 flX5_15 (by decide) (fx29 hF) rfl ?_
      refine Z.iload_n dX5_rightAt_40 rfl ?_
      refine Z.ialdv (j := q) (v := sinceF (pM I n) m (J 30 q) t) dX5_rightAt_41 (fx31 hF) rfl (by omega) (by decide) (hB.1 q hq).2.1 ?_
      refine Z.aload_n dX5_rightAt_42 rfl ?_
      refine Z.getIv (v := firF (pM I n) m t) dX5_rightAt_43 cl5 flX5_51 (by decide) (fx29 hF) hA.2.1 ?_
      refine Z.icmp_gt (tgt := 53) dX5_rightAt_46 (by decide) (fun h5 => ?_) (fun h5 => ?_)
      · refine Z.iconst (v := 0) dX5_rightAt_53 (by decide) ?_
        refine Z.istore_n (L' := [.ref 29, .int (nI q), .int 0]) dX5_rightAt_54 (Nat.le_of_ble_eq_true rfl) rfl ?_
        refine Z.iload_n dX5_rightAt_55 rfl ?_
        refine Z.if_eq (tgt := 66) dX5_rightAt_56 (by decide) (fun h6 => ?_) (fun h6 => absurd h6 (by decide))
        refine Z.aload_n dX5_rightAt_66 rfl ?_
        refine Z.getIv (v := enF (pM I n) m c t) dX5_rightAt_67 cl5 flX5_77 (by decide) (fx29 hF) (hA.2.2.1 hc) ?_
        refine Z.aload_n dX5_rightAt_70 rfl ?_
        refine Z.getR (r := 31) dX5_rightAt_71 cl5 flX5_15 (by decide) (fx29 hF) rfl ?_
        refine Z.iload_n dX5_rightAt_74 rfl ?_
        refine Z.ialdv (j := q) (v := sinceF (pM I n) m (J 30 q) t) dX5_rightAt_75 (fx31 hF) rfl (by omega) (by decide) (hB.1 q hq).2.1 ?_
        refine Z.mmax dX5_rightAt_76 mlX5_80 (by decide) ⟨rfl, Nat.le_of_ble_eq_true rfl⟩ ?_
        exact Z.iret dX5_rightAt_79 rfl ⟨by rw [right_of hD hn2 hsn h2, mxI, rtB]; simp [h3, h5], rfl, rfl⟩
      · refine Z.iconst (v := 1) dX5_rightAt_49 (by decide) ?_
        refine Z.goto (tgt := 54) dX5_rightAt_50 (by decide) ?_
        refine Z.istore_n (L' := [.ref 29, .int (nI q), .int 1]) dX5_rightAt_54 (Nat.le_of_ble_eq_true rfl) rfl ?_
        refine Z.iload_n dX5_rightAt_55 rfl ?_
        refine Z.if_eq (tgt := 66) dX5_rightAt_56 (by decide) (fun h7 => absurd h7 (by decide)) (fun h7 => ?_)
        refine Z.aload_n dX5_rightAt_59 rfl ?_
        refine Z.getIv (v := firF (pM I n) m t) dX5_rightAt_60 cl5 flX5_51 (by decide) (fx29 hF) hA.2.1 ?_
        refine Z.goto (tgt := 70) dX5_rightAt_63 (by decide) ?_
        refine Z.aload_n dX5_rightAt_70 rfl ?_
        refine Z.getR (r := 31) dX5_rightAt_71 cl5 flX5_15 (by decide) (fx29 hF) rfl ?_
        refine Z.iload_n dX5_rightAt_74 rfl ?_
        refine Z.ialdv (j := q) (v := sinceF (pM I n) m (J 30 q) t) dX5_rightAt_75 (fx31 hF) rfl (by omega) (by decide) (hB.1 q hq).2.1 ?_
        refine Z.mmax dX5_rightAt_76 mlX5_80 (by decide) ⟨rfl, Nat.le_of_ble_eq_true rfl⟩ ?_
        exact Z.iret dX5_rightAt_79 rfl ⟨by rw [right_of hD hn2 hsn h2, mxI, rtB]; simp [h3, h5], rfl, rfl⟩
  · refine Z.iconst (v := (-1)) dX5_rightAt_19 (by decide) ?_
    exact Z.iret dX5_rightAt_20 rfl ⟨by rw [right_no hD hn2 h2], rfl, rfl⟩

set_option maxHeartbeats 4000000 in
set_option maxRecDepth 100000 in
theorem cq_rightAtN29 {g : GP} {I J : IM} {S : SH} (hE : Ex I J)  (hF : Fx S) (hC : Cp I) {n K : Nat} {m c t : Int32} (hn2 : n ≤ 400) (hD : Dn I n) (hA : VA I n m c t (J 29) K) (hB : VB I n m t (J 30) (J 31) (J 32) (J 33) K) : Z g 1 0 0 mX5_rightAt 0 (enL mX5_rightAt [.ref 29, .int ((-1))]) [] J S (PQ (.int ((-1))) J S) := by
  show Z g 1 0 0 mX5_rightAt 0 [.ref 29, .int ((-1)), .retAddr 0] [] J S _
  have hK := hA.2.2.2.2.2.2.2.2.2
  have hcn2 := cntU_le (p := pM I n) (k := 2) (m := m) (t := t) n
  refine Z.iload_n dX5_rightAt_0 rfl ?_
  refine Z.aload_n dX5_rightAt_1 rfl ?_
  refine Z.getIv (v := nI K) dX5_rightAt_2 cl5 flX5_68 (by decide) (fx29 hF) hA.2.2.2.2.2.2.2.2.1 ?_
  refine Z.callSNp (M := mX5_rightAt) (pc := 5) (st := []) (N := mX6_below) (n := 2) (r := .int (bI (inB (-1) 0 (nI K - 1)))) dX5_rightAt_5 (by decide) mkX6_below stX6_below (d1 := 0) (by decide) (As := [.int ((-1)), .int (nI K)]) rfl ⟨rfl, Nat.le_of_ble_eq_true rfl⟩ ⟨rfl, Nat.le_of_ble_eq_true rfl⟩ (cc_belowN hE (-1) K (by omega)) rfl ?_
  refine Z.if_eqB (tgt := 19) dX5_rightAt_8 (by decide) (fun h1 => ?_) (fun h1 => absurd h1 (by rw [inB_n1] at h1; cases h1))
  refine Z.iconst (v := (-1)) dX5_rightAt_19 (by decide) ?_
  exact Z.iret dX5_rightAt_20 rfl ⟨rfl, rfl, rfl⟩

set_option maxHeartbeats 4000000 in
set_option maxRecDepth 100000 in
theorem cq_standsAtT29 {g : GP} {I J : IM} {S : SH} (hE : Ex I J)  (hF : Fx S) (hC : Cp I) {n K : Nat} {m c t : Int32} (hn2 : n ≤ 400) (hD : Dn I n) (hA : VA I n m c t (J 29) K) (hB : VB I n m t (J 30) (J 31) (J 32) (J 33) K) {q : Nat} (hq : q < K) (hc : ¬ c = -1) : Z g 3 0 0 mX5_standsAt 0 (enL mX5_standsAt [.ref 29, .int (nI q)]) [] J S (PQ (.int (bI (standsF (pM I n) m (J 30 q) c t))) J S) := by
  show Z g 3 0 0 mX5_standsAt 0 [.ref 29, .int (nI q), .retAddr 0] [] J S _
  have hK := hA.2.2.2.2.2.2.2.2.2
  have hcn2 := cntU_le (p := pM I n) (k := 2) (m := m) (t := t) n
  have huo := (hB.1 q hq).2.2.2.1
  rw [(hB.1 q hq).2.1] at huo
  refine Z.aload_n dX5_standsAt_0 rfl ?_
  refine Z.iload_n dX5_standsAt_1 rfl ?_
  refine Z.callVp (M := mX5_standsAt) (pc := 2) (st := []) (N := mX5_rightAt) (n := 1) (r := .int (rightF (pM I n) m (J 30 q) c t)) dX5_standsAt_2 mlX5_86 mkX5_rightAt imX5_rightAt seX5_rightAt (fx29 hF) cl5 rfl (d1 := 1) (by decide) (As := [.int (nI q)]) rfl ⟨rfl, Nat.le_of_ble_eq_true rfl⟩ ⟨rfl, Nat.le_of_ble_eq_true rfl⟩ (cq_rightAtT29 hE hF hC hn2 hD hA hB hq hc) rfl ?_
  refine Z.istore_n (L' := [.ref 29, .int (nI q), .int (rightF (pM I n) m (J 30 q) c t)]) dX5_standsAt_5 (Nat.le_of_ble_eq_true rfl) rfl ?_
  refine Z.iload_n dX5_standsAt_6 rfl ?_
  refine Z.iconst (v := (-1)) dX5_standsAt_7 (by decide) ?_
  refine Z.icmp_eq (tgt := 25) dX5_standsAt_8 (by decide) (fun h1 => ?_) (fun h1 => ?_)
  · refine Z.iconst (v := 0) dX5_standsAt_25 (by decide) ?_
    exact Z.zret dX5_standsAt_26 rfl (by decide) ⟨by rw [stands_no h1]; rfl, rfl, rfl⟩
  · refine Z.aload_n dX5_standsAt_11 rfl ?_
    refine Z.getIv (v := bI (strF (pM I n) m t)) dX5_standsAt_12 cl5 flX5_89 (by decide) (fx29 hF) hA.2.2.2.2.2.1 ?_
    refine Z.if_neB (tgt := 25) dX5_standsAt_15 (by decide) (fun h2 => ?_) (fun h2 => ?_)
    · refine Z.iconst (v := 0) dX5_standsAt_25 (by decide) ?_
      exact Z.zret dX5_standsAt_26 rfl (by decide) ⟨by rw [stands_of hD hn2 h1]; simp [bI, h2], rfl, rfl⟩
    · refine Z.aload_n dX5_standsAt_18 rfl ?_
      refine Z.callVp (M := mX5_standsAt) (pc := 19) (st := []) (N := mX5_isLapsed) (n := 0) (r := .int (bI (!decide (firF (pM I n) m t = -1) && lapF (pM I n) m t))) dX5_standsAt_19 mlX5_93 mkX5_isLapsed imX5_isLapsed seX5_isLapsed (fx29 hF) cl5 rfl (d1 := 2) (by decide) (As := []) rfl ⟨rfl, Nat.le_of_ble_eq_true rfl⟩ ⟨rfl, Nat.le_of_ble_eq_true rfl⟩ (cq_isLapsed29 hE hF hC hn2 hD hA hB) rfl ?_
      refine Z.if_eqB (tgt := 27) dX5_standsAt_22 (by decide) (fun h3 => ?_) (fun h3 => ?_)
      · have hlap : lapF (pM I n) m t = false := by rw [show (!decide (firF (pM I n) m t = -1)) = true from by rw [decide_eq_false (en_fi hD hn2 ((right_c hD hn2).resolve_left h1).2.2.2.2)]; rfl, Bool.true_and] at h3; exact h3
        refine Z.aload_n dX5_standsAt_27 rfl ?_
        refine Z.getIv (v := t) dX5_standsAt_28 cl5 flX5_61 (by decide) (fx29 hF) hA.1 ?_
        refine Z.iload_n dX5_standsAt_31 rfl ?_
        refine Z.aload_n dX5_standsAt_32 rfl ?_
        refine Z.getR (r := 32) dX5_standsAt_33 cl5 flX5_18 (by decide) (fx29 hF) rfl ?_
        refine Z.iload_n dX5_standsAt_36 rfl ?_
        refine Z.ialdv (j := q) (v := J 32 q) dX5_standsAt_37 (fx32 hF) rfl (by omega) (by decide) rfl ?_
        refine Z.mmax dX5_standsAt_38 mlX5_80 (by decide) ⟨rfl, Nat.le_of_ble_eq_true rfl⟩ ?_
        refine Z.isub dX5_standsAt_41 ?_
        refine Z.sipush (v := 1825) dX5_standsAt_42 (by decide) ?_
        refine Z.icmp_gt (tgt := 52) dX5_standsAt_45 (by decide) (fun h4 => ?_) (fun h4 => ?_)
        · refine Z.iconst (v := 0) dX5_standsAt_52 (by decide) ?_
          exact Z.zret dX5_standsAt_53 rfl (by decide) ⟨by rw [stands_of hD hn2 h1, ← last_of hD hn2 huo h1, mxI]; simp [bI, h2, hlap, eq_true h4], rfl, rfl⟩
        · refine Z.iconst (v := 1) dX5_standsAt_48 (by decide) ?_
          refine Z.goto (tgt := 53) dX5_standsAt_49 (by decide) ?_
          exact Z.zret dX5_standsAt_53 rfl (by decide) ⟨by rw [stands_of hD hn2 h1, ← last_of hD hn2 huo h1, mxI]; simp [bI, h2, hlap, h4], rfl, rfl⟩
      · have hlap : lapF (pM I n) m t = true := by rw [show (!decide (firF (pM I n) m t = -1)) = true from by rw [decide_eq_false (en_fi hD hn2 ((right_c hD hn2).resolve_left h1).2.2.2.2)]; rfl, Bool.true_and] at h3; exact h3
        refine Z.iconst (v := 0) dX5_standsAt_25 (by decide) ?_
        exact Z.zret dX5_standsAt_26 rfl (by decide) ⟨by rw [stands_of hD hn2 h1]; simp [bI, h2, hlap], rfl, rfl⟩

set_option maxHeartbeats 4000000 in
set_option maxRecDepth 100000 in
theorem cq_standsAtN29 {g : GP} {I J : IM} {S : SH} (hE : Ex I J)  (hF : Fx S) (hC : Cp I) {n K : Nat} {m c t : Int32} (hn2 : n ≤ 400) (hD : Dn I n) (hA : VA I n m c t (J 29) K) (hB : VB I n m t (J 30) (J 31) (J 32) (J 33) K) : Z g 3 0 0 mX5_standsAt 0 (enL mX5_standsAt [.ref 29, .int ((-1))]) [] J S (PQ (.int (bI (false))) J S) := by
  show Z g 3 0 0 mX5_standsAt 0 [.ref 29, .int ((-1)), .retAddr 0] [] J S _
  have hK := hA.2.2.2.2.2.2.2.2.2
  have hcn2 := cntU_le (p := pM I n) (k := 2) (m := m) (t := t) n
  refine Z.aload_n dX5_standsAt_0 rfl ?_
  refine Z.iload_n dX5_standsAt_1 rfl ?_
  refine Z.callVp (M := mX5_standsAt) (pc := 2) (st := []) (N := mX5_rightAt) (n := 1) (r := .int ((-1))) dX5_standsAt_2 mlX5_86 mkX5_rightAt imX5_rightAt seX5_rightAt (fx29 hF) cl5 rfl (d1 := 1) (by decide) (As := [.int ((-1))]) rfl ⟨rfl, Nat.le_of_ble_eq_true rfl⟩ ⟨rfl, Nat.le_of_ble_eq_true rfl⟩ (cq_rightAtN29 hE hF hC hn2 hD hA hB) rfl ?_
  refine Z.istore_n (L' := [.ref 29, .int ((-1)), .int ((-1))]) dX5_standsAt_5 (Nat.le_of_ble_eq_true rfl) rfl ?_
  refine Z.iload_n dX5_standsAt_6 rfl ?_
  refine Z.iconst (v := (-1)) dX5_standsAt_7 (by decide) ?_
  refine Z.icmp_eq (tgt := 25) dX5_standsAt_8 (by decide) (fun h1 => ?_) (fun h1 => absurd h1 (by decide))
  refine Z.iconst (v := 0) dX5_standsAt_25 (by decide) ?_
  exact Z.zret dX5_standsAt_26 rfl (by decide) ⟨rfl, rfl, rfl⟩

set_option maxHeartbeats 4000000 in
set_option maxRecDepth 100000 in
theorem lq_standsForAny29 {g : GP} {I J : IM} {S : SH} (hE : Ex I J)  (hF : Fx S) (hC : Cp I) {n K : Nat} {m c t : Int32} (hn2 : n ≤ 400) (hD : Dn I n) (hA : VA I n m c t (J 29) K) (hB : VB I n m t (J 30) (J 31) (J 32) (J 33) K) (hc : ¬ c = -1) : ∀ q, q ≤ K → anU (fun q => standsF (pM I n) m (J 30 q) c t) q = false → Z g 4 0 0 mX5_standsForAny 2 [.ref 29, .int (nI q)] [] J S (PQ (.int (bI (anU (fun q => standsF (pM I n) m (J 30 q) c t) K))) J S) := by
  refine upZ K (fun q hi ih hno => ?_)
  have hK := hA.2.2.2.2.2.2.2.2.2
  have hcn2 := cntU_le (p := pM I n) (k := 2) (m := m) (t := t) n
  refine Z.iload_n dX5_standsForAny_2 rfl ?_
  refine Z.aload_n dX5_standsForAny_3 rfl ?_
  refine Z.getIv (v := nI K) dX5_standsForAny_4 cl5 flX5_68 (by decide) (fx29 hF) hA.2.2.2.2.2.2.2.2.1 ?_
  refine Z.icmp_geN (a := q) (b := K) (by omega) (by omega) (tgt := 26) dX5_standsForAny_7 (by decide) (fun h1 => ?_) (fun h1 => ?_)
  · refine Z.iconst (v := 0) dX5_standsForAny_26 (by decide) ?_
    exact Z.zret dX5_standsForAny_27 rfl (by decide) ⟨by rw [show q = K by omega] at hno; rw [hno]; rfl, rfl, rfl⟩
  · refine Z.aload_n dX5_standsForAny_10 rfl ?_
    refine Z.iload_n dX5_standsForAny_11 rfl ?_
    refine Z.callVp (M := mX5_standsForAny) (pc := 12) (st := []) (N := mX5_standsAt) (n := 1) (r := .int (bI (standsF (pM I n) m (J 30 q) c t))) dX5_standsForAny_12 mlX5_96 mkX5_standsAt imX5_standsAt seX5_standsAt (fx29 hF) cl5 rfl (d1 := 3) (by decide) (As := [.int (nI q)]) rfl ⟨rfl, Nat.le_of_ble_eq_true rfl⟩ ⟨rfl, Nat.le_of_ble_eq_true rfl⟩ (cq_standsAtT29 hE hF hC hn2 hD hA hB (by omega) hc) rfl ?_
    refine Z.if_eqB (tgt := 20) dX5_standsForAny_15 (by decide) (fun h2 => ?_) (fun h2 => ?_)
    · refine Z.iinc (v := nI (q + 1)) (L' := [.ref 29, .int (nI (q + 1))]) dX5_standsForAny_20 rfl (nI_1 _) rfl ?_
      refine Z.goto (tgt := 2) dX5_standsForAny_23 (by decide) ?_
      exact ih (by omega) (by simp [anU, hno, h2])
    · refine Z.iconst (v := 1) dX5_standsForAny_18 (by decide) ?_
      exact Z.zret dX5_standsForAny_19 rfl (by decide) ⟨by rw [anU_mono (k := q + 1) (by simp [anU, h2]) (by omega)]; rfl, rfl, rfl⟩

set_option maxHeartbeats 4000000 in
set_option maxRecDepth 100000 in
theorem cq_standsForAny29 {g : GP} {I J : IM} {S : SH} (hE : Ex I J)  (hF : Fx S) (hC : Cp I) {n K : Nat} {m c t : Int32} (hn2 : n ≤ 400) (hD : Dn I n) (hA : VA I n m c t (J 29) K) (hB : VB I n m t (J 30) (J 31) (J 32) (J 33) K) (hc : ¬ c = -1) : Z g 4 0 0 mX5_standsForAny 0 (enL mX5_standsForAny [.ref 29]) [] J S (PQ (.int (bI (anU (fun q => standsF (pM I n) m (J 30 q) c t) K))) J S) := by
  show Z g 4 0 0 mX5_standsForAny 0 [.ref 29, .retAddr 0] [] J S _
  refine Z.iconst (v := 0) dX5_standsForAny_0 (by decide) ?_
  refine Z.istore_n (L' := [.ref 29, .int 0]) dX5_standsForAny_1 (Nat.le_of_ble_eq_true rfl) rfl ?_
  exact lq_standsForAny29 hE hF hC hn2 hD hA hB hc 0 (Nat.zero_le _) rfl

