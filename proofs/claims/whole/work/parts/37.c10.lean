theorem in_nm {x hi : Int32} (h : inB x 0 hi = true) : ¬ x = -1 := fun q => by
  rw [q, inB_n1] at h
  cases h
theorem keep_pos {I : IM} {n : Nat} {m g t : Int32} (hn4 : n ≤ 400) (h : latF (pM I n) 3 m g t < latF (pM I n) 0 m g t) : ¬ latF (pM I n) 0 m g t < 0 := fun z => by
  rcases lat_c (I := I) (i := n) (k := 0) (m := m) (x := g) (t := t) hn4 with e | ⟨j, hj, e⟩
  · rw [e] at h
    rcases lat_c (I := I) (i := n) (k := 3) (m := m) (x := g) (t := t) hn4 with e3 | ⟨j, hj, e3⟩
    · rw [e3] at h; exact absurd h (by decide)
    · rw [e3] at h
      exact nI_pos (n := j) (by omega) (lt_tr h (by decide))
  · rw [e] at z
    exact nI_pos (n := j) (by omega) z
theorem cb_go {I : IM} {n : Nat} {m g t : Int32} (hn4 : n ≤ 400) : (!decide (latF (pM I n) 0 m g t < 0) && decide (latF (pM I n) 3 m g t < latF (pM I n) 0 m g t)) = decide (latF (pM I n) 3 m g t < latF (pM I n) 0 m g t) := by
  by_cases q : latF (pM I n) 3 m g t < latF (pM I n) 0 m g t
  · rw [decide_eq_true q, decide_eq_false (keep_pos hn4 q)]
    rfl
  · rw [decide_eq_false q, Bool.and_false]
theorem fi_ng {I : IM} {n : Nat} {m t : Int32} (hD : Dn I n) (hn4 : n ≤ 400) : decide (firF (pM I n) m t < 0) = decide (firF (pM I n) m t = -1) := by
  by_cases q : firF (pM I n) m t = -1
  · rw [q]; decide
  · rw [decide_eq_false q, decide_eq_false (fi_le hD hn4 q).2]
set_option maxHeartbeats 4000000 in
set_option maxRecDepth 100000 in
theorem cc_isOfKindN {g : GP} {I J : IM} {S : SH} (hE : Ex I J) (j : Nat) (k : Int32) (hF : Fx S) (hC : Cp I) {n : Nat} (hn : Mp I n) {nq : Nat} (hq : Mq I nq) (hcq : Cq I nq) (hM : MIv I) {mm : Nat} (hm : Mm I mm) (hz : Mz I S mm) (hj : j < mm) : Z g 2 0 0 mX6_isOfKind 0 (enL mX6_isOfKind [.ref 0, .int (nI j), .int k]) [] J S (PQ (.int (bI (decide (I 43 j = k)))) J S) := by
  show Z g 2 0 0 mX6_isOfKind 0 [.ref 0, .int (nI j), .int k, .retAddr 0] [] J S _
  have hn2 := hn.2
  have hq2 := hq.2
  have hm2 := hm.2
  refine Z.aload_n dX6_isOfKind_0 rfl ?_
  refine Z.iload_n dX6_isOfKind_1 rfl ?_
  have l_j : j < mm := by omega
  have h_j : j < 120 := by omega
  have ho_j := hz.2 _ l_j
  have hl_j := hM.2.2.1 _ h_j
  have hc_j := hM.2.2.2.1 _ h_j
  have hl2_j := hl_j.2
  have hc2_j := hc_j.2
  have hcl_j := ho_j.2.2
  have h12_j := clL_le (I := I) (j := j)
  refine Z.callVp (M := mX6_isOfKind) (pc := 2) (st := []) (N := mX6_markAt) (n := 1) (r := .ref (58 + 3 * j)) dX6_isOfKind_2 mlX6_94 mkX6_markAt imX6_markAt seX6_markAt (fx0 hF) cl6 rfl (d1 := 1) (by decide) (As := [.int (nI j)]) rfl ⟨rfl, Nat.le_of_ble_eq_true rfl⟩ ⟨rfl, Nat.le_of_ble_eq_true rfl⟩ (cc_markAtN hE j hF hC hm hz (by omega)) rfl ?_
  refine Z.astore_n (L' := [.ref 0, .int (nI j), .int k, .ref (58 + 3 * j)]) dX6_isOfKind_5 (Nat.le_of_ble_eq_true rfl) rfl ?_
  refine Z.aload_n dX6_isOfKind_6 rfl ?_
  refine Z.ifnull dX6_isOfKind_7 ?_
  refine Z.aload_n dX6_isOfKind_10 rfl ?_
  refine Z.getIv (v := I 43 j) dX6_isOfKind_11 cl1 flX6_166 (by decide) ho_j.1.1 ((hE.at (58 + 3 * j) 0 (scr58_0 j)).trans ho_j.2.1.1) ?_
  refine Z.iload_n dX6_isOfKind_14 rfl ?_
  refine Z.icmp_ne (tgt := 22) dX6_isOfKind_15 (by decide) (fun h1 => ?_) (fun h1 => ?_)
  · refine Z.iconst (v := 0) dX6_isOfKind_22 (by decide) ?_
    exact Z.zret dX6_isOfKind_23 rfl (by decide) ⟨by simp [bI, h1], rfl, rfl⟩
  · refine Z.iconst (v := 1) dX6_isOfKind_18 (by decide) ?_
    refine Z.goto (tgt := 23) dX6_isOfKind_19 (by decide) ?_
    exact Z.zret dX6_isOfKind_23 rfl (by decide) ⟨by simp [bI, eq_true h1], rfl, rfl⟩

theorem sw08_n {k : Int32} (h : inB k 0 8 = true) : ¬ (k.toInt < 0 ∨ 8 < k.toInt) := by
  unfold inB at h
  simp only [Bool.and_eq_true, Bool.not_eq_true', decide_eq_false_iff_not] at h
  have a := h.1
  have b := h.2
  have e : (8 : Int32).toInt = 8 := by decide
  rw [Int32.lt_iff_toInt_lt] at a b
  rw [tI0] at a
  rw [e] at b
  omega
theorem cb_0 {I : IM} {n j : Nat} {x t : Int32} (hn4 : n ≤ 400) : cbF I n 0 j x t = (decide ((gS (pM I n) (nI j) t).1 < 20) && !decide (latF (pM I n) 3 (nI j) x t < latF (pM I n) 0 (nI j) x t)) := by
  unfold cbF
  rw [if_pos rfl, cb_go hn4, Bool.and_comm]
theorem cb_1 {I : IM} {n j : Nat} {x t : Int32} (hn4 : n ≤ 400) : cbF I n 1 j x t = (!decide (latF (pM I n) 0 (nI j) (-1) t < 0) && !(!decide (latF (pM I n) 1 (nI j) x t < 0))) := by
  unfold cbF
  rw [if_neg (by decide), if_pos rfl, Bool.not_not, Bool.and_comm]
theorem cb_2 {I : IM} {n j : Nat} {x t : Int32} (hn4 : n ≤ 400) (hD : Dn I n) (hne : (!decide (firF (pM I n) (nI j) t = -1)) = true) : cbF I n 2 j x t = (!decide (t < termF (pM I n) (nI j) t - 365) && !decide (termF (pM I n) (nI j) t + 180 < t)) := by
  have hf : ¬ firF (pM I n) (nI j) t < 0 := (fi_le hD hn4 (by simpa using hne)).2
  unfold cbF
  rw [if_neg (by decide), if_neg (by decide), if_neg hf]
  rw [if_pos rfl]
theorem cb_3 {I : IM} {n j : Nat} {x t : Int32} (hn4 : n ≤ 400) (hD : Dn I n) (hne : (!decide (firF (pM I n) (nI j) t = -1)) = true) : cbF I n 3 j x t = (decide (latF (pM I n) 3 (nI j) x t < latF (pM I n) 0 (nI j) x t)) := by
  have hf : ¬ firF (pM I n) (nI j) t < 0 := (fi_le hD hn4 (by simpa using hne)).2
  unfold cbF
  rw [if_neg (by decide), if_neg (by decide), if_neg hf]
  rw [if_neg (by decide), if_pos (by decide)]
theorem cb_4 {I : IM} {n j : Nat} {x t : Int32} (hn4 : n ≤ 400) (hD : Dn I n) (hne : (!decide (firF (pM I n) (nI j) t = -1)) = true) : cbF I n 4 j x t = (!strF (pM I n) (nI j) t) := by
  have hf : ¬ firF (pM I n) (nI j) t < 0 := (fi_le hD hn4 (by simpa using hne)).2
  unfold cbF
  rw [if_neg (by decide), if_neg (by decide), if_neg hf]
  rw [if_neg (by decide), if_neg (by decide), if_pos rfl]
theorem cb_5 {I : IM} {n j : Nat} {x t : Int32} (hn4 : n ≤ 400) (hD : Dn I n) (hne : (!decide (firF (pM I n) (nI j) t = -1)) = true) : cbF I n 5 j x t = (!(!decide (latF (pM I n) 5 (nI j) x t < 0))) := by
  have hf : ¬ firF (pM I n) (nI j) t < 0 := (fi_le hD hn4 (by simpa using hne)).2
  unfold cbF
  rw [if_neg (by decide), if_neg (by decide), if_neg hf]
  rw [if_neg (by decide), if_neg (by decide), if_neg (by decide), if_pos rfl]; rfl
theorem cb_6 {I : IM} {n j : Nat} {x t : Int32} (hn4 : n ≤ 400) (hD : Dn I n) (hne : (!decide (firF (pM I n) (nI j) t = -1)) = true) : cbF I n 6 j x t = (decide (latF (pM I n) 3 (nI j) x t < latF (pM I n) 0 (nI j) x t)) := by
  have hf : ¬ firF (pM I n) (nI j) t < 0 := (fi_le hD hn4 (by simpa using hne)).2
  unfold cbF
  rw [if_neg (by decide), if_neg (by decide), if_neg hf]
  rw [if_neg (by decide), if_pos (by decide)]
theorem cb_7 {I : IM} {n j : Nat} {x t : Int32} (hn4 : n ≤ 400) (hD : Dn I n) (hne : (!decide (firF (pM I n) (nI j) t = -1)) = true) : cbF I n 7 j x t = (decide (I 43 j = 4) && !(!decide (latF (pM I n) 7 (nI j) (-1) t < 0))) := by
  have hf : ¬ firF (pM I n) (nI j) t < 0 := (fi_le hD hn4 (by simpa using hne)).2
  unfold cbF
  rw [if_neg (by decide), if_neg (by decide), if_neg hf]
  rw [if_neg (by decide), if_neg (by decide), if_neg (by decide), if_neg (by decide), if_pos rfl, Bool.not_not]
theorem cb_8 {I : IM} {n j : Nat} {x t : Int32} (hn4 : n ≤ 400) (hD : Dn I n) (hne : (!decide (firF (pM I n) (nI j) t = -1)) = true) : cbF I n 8 j x t = (decide (I 43 j = 3) && !(!decide (latF (pM I n) 8 (nI j) x t < 0))) := by
  have hf : ¬ firF (pM I n) (nI j) t < 0 := (fi_le hD hn4 (by simpa using hne)).2
  unfold cbF
  rw [if_neg (by decide), if_neg (by decide), if_neg hf]
  rw [if_neg (by decide), if_neg (by decide), if_neg (by decide), if_neg (by decide), if_neg (by decide), Bool.not_not]
theorem cb_no {I : IM} {n j : Nat} {k x t : Int32} (h0 : ¬ k = 0) (h1 : ¬ k = 1) (hne : (!decide (firF (pM I n) (nI j) t = -1)) = false) : cbF I n k j x t = false := by
  have hf : firF (pM I n) (nI j) t < 0 := by rw [show firF (pM I n) (nI j) t = -1 by simpa using hne]; decide
  unfold cbF
  rw [if_neg h0, if_neg h1, if_pos hf]
set_option maxHeartbeats 4000000 in
set_option maxRecDepth 100000 in
theorem cc_canBe {g : GP} {I J : IM} {S : SH} (hE : Ex I J) (k : Int32) (j : Nat) (x t : Int32) (hF : Fx S) (hC : Cp I) {n : Nat} (hn : Mp I n) {nq : Nat} (hq : Mq I nq) (hcq : Cq I nq) (hM : MIv I) {mm : Nat} (hm : Mm I mm) (hz : Mz I S mm) (hL : LG I n) (hj : j < mm) (hx : ¬ x = -1) (hk8 : inB k 0 8 = true) {K : Nat} (hA : VA I n (nI j) (-1) t (J 19) K) (hB : VB I n (nI j) t (J 20) (J 21) (J 22) (J 23) K) : Z g 3 0 0 mX6_canBe 0 (enL mX6_canBe [.ref 0, .int k, .int (nI j), .int x, .int t]) [] J S (PQ (.int (bI (cbF I n k j x t))) J S) := by
  show Z g 3 0 0 mX6_canBe 0 [.ref 0, .int k, .int (nI j), .int x, .int t] [] J S _
  have hn2 := hn.2
  have hq2 := hq.2
  have hm2 := hm.2
  have hD := hL.1
  have hso := hL.2.1
  have hK := hA.2.2.2.2.2.2.2.2.2
  have hlen := VB_len hn2 (fun i hi => (hL.2.2 i hi).2.2.2) hB
  refine Z.iload_n dX6_canBe_0 rfl ?_
  refine Z.if_eq (tgt := 21) dX6_canBe_1 (by decide) (fun h1 => ?_) (fun h1 => ?_)
  · refine Z.iload_n dX6_canBe_21 rfl ?_
    rcases sw_0_8 k with h2 | h2 | h2 | h2 | h2 | h2 | h2 | h2 | h2 | h2
    · refine Z.tableIn (off := 50) (tgt := 72) dX6_canBe_22 (by rw [h2]; decide) (by rw [h2]; decide) (by rw [h2]; decide) (by decide) ?_
      refine Z.aload_n dX6_canBe_72 rfl ?_
      refine Z.getR (r := 19) dX6_canBe_73 cl6 flX6_49 (by decide) (fx0 hF) rfl ?_
      refine Z.getIv (v := nI K) dX6_canBe_76 cl5 flX6_215 (by decide) (fx19 hF) (hA.2.2.2.2.2.2.2.2.1) ?_
      refine Z.bipush (v := 20) dX6_canBe_79 (by decide) ?_
      refine Z.icmp_geN (a := K) (b := 20) (by omega) (by decide) (tgt := 99) dX6_canBe_81 (by decide) (fun h3 => ?_) (fun h3 => ?_)
      · refine Z.iconst (v := 0) dX6_canBe_99 (by decide) ?_
        exact Z.zret dX6_canBe_100 rfl (by decide) ⟨by rw [h2, cb_0 hn2, ← hlen, decide_eq_false (show ¬ K < 20 by omega)] <;> rfl, rfl, rfl⟩
      · refine Z.aload_n dX6_canBe_84 rfl ?_
        refine Z.getR (r := 19) dX6_canBe_85 cl6 flX6_49 (by decide) (fx0 hF) rfl ?_
        refine Z.iload_n dX6_canBe_88 rfl ?_
        refine Z.callVp (M := mX6_canBe) (pc := 89) (st := []) (N := mX5_keeps) (n := 1) (r := .int (bI (decide (latF (pM I n) 3 (nI j) x t < latF (pM I n) 0 (nI j) x t)))) dX6_canBe_89 mlX6_249 mkX5_keeps imX5_keeps seX5_keeps (fx19 hF) cl5 rfl (d1 := 1) (by decide) (As := [.int x]) rfl ⟨rfl, Nat.le_of_ble_eq_true rfl⟩ ⟨rfl, Nat.le_of_ble_eq_true rfl⟩ (cq_keeps19 hE x hF hC hn2 hD hA hB hx) rfl ?_
        refine Z.if_neB (tgt := 99) dX6_canBe_92 (by decide) (fun h4 => ?_) (fun h4 => ?_)
        · refine Z.iconst (v := 0) dX6_canBe_99 (by decide) ?_
          exact Z.zret dX6_canBe_100 rfl (by decide) ⟨by rw [h2, cb_0 hn2, ← hlen, decide_eq_true h3, h4] <;> rfl, rfl, rfl⟩
        · refine Z.iconst (v := 1) dX6_canBe_95 (by decide) ?_
          refine Z.goto (tgt := 100) dX6_canBe_96 (by decide) ?_
          exact Z.zret dX6_canBe_100 rfl (by decide) ⟨by rw [h2, cb_0 hn2, ← hlen, decide_eq_true h3, h4] <;> rfl, rfl, rfl⟩
    · exact absurd (h1.symm.trans h2) (by decide)
    · exact absurd (h1.symm.trans h2) (by decide)
    · exact absurd (h1.symm.trans h2) (by decide)
    · exact absurd (h1.symm.trans h2) (by decide)
    · exact absurd (h1.symm.trans h2) (by decide)
    · exact absurd (h1.symm.trans h2) (by decide)
    · exact absurd (h1.symm.trans h2) (by decide)
    · exact absurd (h1.symm.trans h2) (by decide)
    · exact absurd h2 (by rw [h1]; decide)
  · refine Z.iload_n dX6_canBe_4 rfl ?_
    refine Z.iconst (v := 1) dX6_canBe_5 (by decide) ?_
    refine Z.icmp_eq (tgt := 21) dX6_canBe_6 (by decide) (fun h5 => ?_) (fun h5 => ?_)
    · refine Z.iload_n dX6_canBe_21 rfl ?_
      rcases sw_0_8 k with h6 | h6 | h6 | h6 | h6 | h6 | h6 | h6 | h6 | h6
      · exact absurd h6 h1
      · refine Z.tableIn (off := 79) (tgt := 101) dX6_canBe_22 (by rw [h6]; decide) (by rw [h6]; decide) (by rw [h6]; decide) (by decide) ?_
        refine Z.aload_n dX6_canBe_101 rfl ?_
        refine Z.getR (r := 19) dX6_canBe_102 cl6 flX6_49 (by decide) (fx0 hF) rfl ?_
        refine Z.getIv (v := bI (!decide (latF (pM I n) 0 (nI j) (-1) t < 0))) dX6_canBe_105 cl5 flX6_252 (by decide) (fx19 hF) (hA.2.2.2.2.2.2.2.1) ?_
        refine Z.if_eqB (tgt := 130) dX6_canBe_108 (by decide) (fun h7 => ?_) (fun h7 => ?_)
        · refine Z.iconst (v := 0) dX6_canBe_130 (by decide) ?_
          exact Z.zret dX6_canBe_131 rfl (by decide) ⟨by rw [h6, cb_1 hn2, h7] <;> rfl, rfl, rfl⟩
        · refine Z.aload_n dX6_canBe_111 rfl ?_
          refine Z.getR (r := 14) dX6_canBe_112 cl6 flX6_32 (by decide) (fx0 hF) rfl ?_
          refine Z.iconst (v := 1) dX6_canBe_115 (by decide) ?_
          refine Z.iload_n dX6_canBe_116 rfl ?_
          refine Z.iload_n dX6_canBe_117 rfl ?_
          refine Z.iload dX6_canBe_118 rfl ?_
          refine Z.callVp (M := mX6_canBe) (pc := 120) (st := []) (N := mX3_tell) (n := 4) (r := .int (bI (!decide (latF (pM I n) 1 (nI j) x t < 0)))) dX6_canBe_120 mlX6_255 mkX3_tell imX3_tell seX3_tell (fx14 hF) cl3 rfl (d1 := 0) (by decide) (As := [.int 1, .int (nI j), .int x, .int t]) rfl ⟨rfl, Nat.le_of_ble_eq_true rfl⟩ ⟨rfl, Nat.le_of_ble_eq_true rfl⟩ (cc_tell3 hE 1 (nI j) x t hF hC hn hso hx) rfl ?_
          refine Z.if_neB (tgt := 130) dX6_canBe_123 (by decide) (fun h8 => ?_) (fun h8 => ?_)
          · refine Z.iconst (v := 0) dX6_canBe_130 (by decide) ?_
            exact Z.zret dX6_canBe_131 rfl (by decide) ⟨by rw [h6, cb_1 hn2, h7, h8] <;> rfl, rfl, rfl⟩
          · refine Z.iconst (v := 1) dX6_canBe_126 (by decide) ?_
            refine Z.goto (tgt := 131) dX6_canBe_127 (by decide) ?_
            exact Z.zret dX6_canBe_131 rfl (by decide) ⟨by rw [h6, cb_1 hn2, h7, h8] <;> rfl, rfl, rfl⟩
      · exact absurd (h5.symm.trans h6) (by decide)
      · exact absurd (h5.symm.trans h6) (by decide)
      · exact absurd (h5.symm.trans h6) (by decide)
      · exact absurd (h5.symm.trans h6) (by decide)
      · exact absurd (h5.symm.trans h6) (by decide)
      · exact absurd (h5.symm.trans h6) (by decide)
      · exact absurd (h5.symm.trans h6) (by decide)
      · exact absurd h6 (by rw [h5]; decide)
    · refine Z.aload_n dX6_canBe_9 rfl ?_
      refine Z.getR (r := 19) dX6_canBe_10 cl6 flX6_49 (by decide) (fx0 hF) rfl ?_
      refine Z.callVp (M := mX6_canBe) (pc := 13) (st := []) (N := mX5_isEntered) (n := 0) (r := .int (bI (!decide (firF (pM I n) (nI j) t = -1)))) dX6_canBe_13 mlX6_130 mkX5_isEntered imX5_isEntered seX5_isEntered (fx19 hF) cl5 rfl (d1 := 0) (by decide) (As := []) rfl ⟨rfl, Nat.le_of_ble_eq_true rfl⟩ ⟨rfl, Nat.le_of_ble_eq_true rfl⟩ (cq_isEntered19 hE hF hC hn2 hD hA hB) rfl ?_
      refine Z.if_neB (tgt := 21) dX6_canBe_16 (by decide) (fun h9 => ?_) (fun h9 => ?_)
      · refine Z.iload_n dX6_canBe_21 rfl ?_
        rcases sw_0_8 k with h10 | h10 | h10 | h10 | h10 | h10 | h10 | h10 | h10 | h10
        · exact absurd h10 h1
        · exact absurd h10 h5
        · refine Z.tableIn (off := 110) (tgt := 132) dX6_canBe_22 (by rw [h10]; decide) (by rw [h10]; decide) (by rw [h10]; decide) (by decide) ?_
          refine Z.aload_n dX6_canBe_132 rfl ?_
          refine Z.getR (r := 19) dX6_canBe_133 cl6 flX6_49 (by decide) (fx0 hF) rfl ?_
          refine Z.callVp (M := mX6_canBe) (pc := 136) (st := []) (N := mX5_isTimeToRenew) (n := 0) (r := .int (bI (!decide (t < termF (pM I n) (nI j) t - 365) && !decide (termF (pM I n) (nI j) t + 180 < t)))) dX6_canBe_136 mlX6_257 mkX5_isTimeToRenew imX5_isTimeToRenew seX5_isTimeToRenew (fx19 hF) cl5 rfl (d1 := 2) (by decide) (As := []) rfl ⟨rfl, Nat.le_of_ble_eq_true rfl⟩ ⟨rfl, Nat.le_of_ble_eq_true rfl⟩ (cq_isTimeToRenew19 hE hF hC hn2 hD hA hB (by simpa using h9)) rfl ?_
          exact Z.zret dX6_canBe_139 rfl (bI_01 _) ⟨by rw [h10, cb_2 hn2 hD h9], rfl, rfl⟩
        · refine Z.tableIn (off := 118) (tgt := 140) dX6_canBe_22 (by rw [h10]; decide) (by rw [h10]; decide) (by rw [h10]; decide) (by decide) ?_
          refine Z.aload_n dX6_canBe_140 rfl ?_
          refine Z.getR (r := 19) dX6_canBe_141 cl6 flX6_49 (by decide) (fx0 hF) rfl ?_
          refine Z.iload_n dX6_canBe_144 rfl ?_
          refine Z.callVp (M := mX6_canBe) (pc := 145) (st := []) (N := mX5_keeps) (n := 1) (r := .int (bI (decide (latF (pM I n) 3 (nI j) x t < latF (pM I n) 0 (nI j) x t)))) dX6_canBe_145 mlX6_249 mkX5_keeps imX5_keeps seX5_keeps (fx19 hF) cl5 rfl (d1 := 1) (by decide) (As := [.int x]) rfl ⟨rfl, Nat.le_of_ble_eq_true rfl⟩ ⟨rfl, Nat.le_of_ble_eq_true rfl⟩ (cq_keeps19 hE x hF hC hn2 hD hA hB hx) rfl ?_
          exact Z.zret dX6_canBe_148 rfl (bI_01 _) ⟨by rw [h10, cb_3 hn2 hD h9], rfl, rfl⟩
        · refine Z.tableIn (off := 127) (tgt := 149) dX6_canBe_22 (by rw [h10]; decide) (by rw [h10]; decide) (by rw [h10]; decide) (by decide) ?_
          refine Z.aload_n dX6_canBe_149 rfl ?_
          refine Z.getR (r := 19) dX6_canBe_150 cl6 flX6_49 (by decide) (fx0 hF) rfl ?_
          refine Z.getIv (v := bI (strF (pM I n) (nI j) t)) dX6_canBe_153 cl5 flX6_211 (by decide) (fx19 hF) (hA.2.2.2.2.2.1) ?_
          refine Z.if_neB (tgt := 163) dX6_canBe_156 (by decide) (fun h11 => ?_) (fun h11 => ?_)
          · refine Z.iconst (v := 0) dX6_canBe_163 (by decide) ?_
            exact Z.zret dX6_canBe_164 rfl (by decide) ⟨by rw [h10, cb_4 hn2 hD h9, h11] <;> rfl, rfl, rfl⟩
          · refine Z.iconst (v := 1) dX6_canBe_159 (by decide) ?_
            refine Z.goto (tgt := 164) dX6_canBe_160 (by decide) ?_
            exact Z.zret dX6_canBe_164 rfl (by decide) ⟨by rw [h10, cb_4 hn2 hD h9, h11] <;> rfl, rfl, rfl⟩
        · refine Z.tableIn (off := 143) (tgt := 165) dX6_canBe_22 (by rw [h10]; decide) (by rw [h10]; decide) (by rw [h10]; decide) (by decide) ?_
          refine Z.aload_n dX6_canBe_165 rfl ?_
          refine Z.getR (r := 14) dX6_canBe_166 cl6 flX6_32 (by decide) (fx0 hF) rfl ?_
          refine Z.iconst (v := 5) dX6_canBe_169 (by decide) ?_
          refine Z.iload_n dX6_canBe_170 rfl ?_
          refine Z.iload_n dX6_canBe_171 rfl ?_
          refine Z.iload dX6_canBe_172 rfl ?_
          refine Z.callVp (M := mX6_canBe) (pc := 174) (st := []) (N := mX3_tell) (n := 4) (r := .int (bI (!decide (latF (pM I n) 5 (nI j) x t < 0)))) dX6_canBe_174 mlX6_255 mkX3_tell imX3_tell seX3_tell (fx14 hF) cl3 rfl (d1 := 0) (by decide) (As := [.int 5, .int (nI j), .int x, .int t]) rfl ⟨rfl, Nat.le_of_ble_eq_true rfl⟩ ⟨rfl, Nat.le_of_ble_eq_true rfl⟩ (cc_tell3 hE 5 (nI j) x t hF hC hn hso hx) rfl ?_
          refine Z.if_neB (tgt := 184) dX6_canBe_177 (by decide) (fun h12 => ?_) (fun h12 => ?_)
          · refine Z.iconst (v := 0) dX6_canBe_184 (by decide) ?_
            exact Z.zret dX6_canBe_185 rfl (by decide) ⟨by rw [h10, cb_5 hn2 hD h9, h12] <;> rfl, rfl, rfl⟩
          · refine Z.iconst (v := 1) dX6_canBe_180 (by decide) ?_
            refine Z.goto (tgt := 185) dX6_canBe_181 (by decide) ?_
            exact Z.zret dX6_canBe_185 rfl (by decide) ⟨by rw [h10, cb_5 hn2 hD h9, h12] <;> rfl, rfl, rfl⟩
        · refine Z.tableIn (off := 118) (tgt := 140) dX6_canBe_22 (by rw [h10]; decide) (by rw [h10]; decide) (by rw [h10]; decide) (by decide) ?_
          refine Z.aload_n dX6_canBe_140 rfl ?_
          refine Z.getR (r := 19) dX6_canBe_141 cl6 flX6_49 (by decide) (fx0 hF) rfl ?_
          refine Z.iload_n dX6_canBe_144 rfl ?_
          refine Z.callVp (M := mX6_canBe) (pc := 145) (st := []) (N := mX5_keeps) (n := 1) (r := .int (bI (decide (latF (pM I n) 3 (nI j) x t < latF (pM I n) 0 (nI j) x t)))) dX6_canBe_145 mlX6_249 mkX5_keeps imX5_keeps seX5_keeps (fx19 hF) cl5 rfl (d1 := 1) (by decide) (As := [.int x]) rfl ⟨rfl, Nat.le_of_ble_eq_true rfl⟩ ⟨rfl, Nat.le_of_ble_eq_true rfl⟩ (cq_keeps19 hE x hF hC hn2 hD hA hB hx) rfl ?_
          exact Z.zret dX6_canBe_148 rfl (bI_01 _) ⟨by rw [h10, cb_6 hn2 hD h9], rfl, rfl⟩
        · refine Z.tableIn (off := 164) (tgt := 186) dX6_canBe_22 (by rw [h10]; decide) (by rw [h10]; decide) (by rw [h10]; decide) (by decide) ?_
          refine Z.aload_n dX6_canBe_186 rfl ?_
          refine Z.iload_n dX6_canBe_187 rfl ?_
          refine Z.iconst (v := 4) dX6_canBe_188 (by decide) ?_
          refine Z.callVp (M := mX6_canBe) (pc := 189) (st := []) (N := mX6_isOfKind) (n := 2) (r := .int (bI (decide (I 43 j = 4)))) dX6_canBe_189 mlX6_260 mkX6_isOfKind imX6_isOfKind seX6_isOfKind (fx0 hF) cl6 rfl (d1 := 2) (by decide) (As := [.int (nI j), .int 4]) rfl ⟨rfl, Nat.le_of_ble_eq_true rfl⟩ ⟨rfl, Nat.le_of_ble_eq_true rfl⟩ (cc_isOfKindN hE j 4 hF hC hn hq hcq hM hm hz (by omega)) rfl ?_
          refine Z.if_eqB (tgt := 209) dX6_canBe_192 (by decide) (fun h13 => ?_) (fun h13 => ?_)
          · refine Z.iconst (v := 0) dX6_canBe_209 (by decide) ?_
            exact Z.zret dX6_canBe_210 rfl (by decide) ⟨by rw [h10, cb_7 hn2 hD h9, h13] <;> rfl, rfl, rfl⟩
          · refine Z.aload_n dX6_canBe_195 rfl ?_
            refine Z.getR (r := 19) dX6_canBe_196 cl6 flX6_49 (by decide) (fx0 hF) rfl ?_
            refine Z.getIv (v := bI (!decide (latF (pM I n) 7 (nI j) (-1) t < 0))) dX6_canBe_199 cl5 flX6_263 (by decide) (fx19 hF) (hA.2.2.2.2.2.2.1) ?_
            refine Z.if_neB (tgt := 209) dX6_canBe_202 (by decide) (fun h14 => ?_) (fun h14 => ?_)
            · refine Z.iconst (v := 0) dX6_canBe_209 (by decide) ?_
              exact Z.zret dX6_canBe_210 rfl (by decide) ⟨by rw [h10, cb_7 hn2 hD h9, h13, h14] <;> rfl, rfl, rfl⟩
            · refine Z.iconst (v := 1) dX6_canBe_205 (by decide) ?_
              refine Z.goto (tgt := 210) dX6_canBe_206 (by decide) ?_
              exact Z.zret dX6_canBe_210 rfl (by decide) ⟨by rw [h10, cb_7 hn2 hD h9, h13, h14] <;> rfl, rfl, rfl⟩
        · refine Z.tableIn (off := 189) (tgt := 211) dX6_canBe_22 (by rw [h10]; decide) (by rw [h10]; decide) (by rw [h10]; decide) (by decide) ?_
          refine Z.aload_n dX6_canBe_211 rfl ?_
          refine Z.iload_n dX6_canBe_212 rfl ?_
          refine Z.iconst (v := 3) dX6_canBe_213 (by decide) ?_
          refine Z.callVp (M := mX6_canBe) (pc := 214) (st := []) (N := mX6_isOfKind) (n := 2) (r := .int (bI (decide (I 43 j = 3)))) dX6_canBe_214 mlX6_260 mkX6_isOfKind imX6_isOfKind seX6_isOfKind (fx0 hF) cl6 rfl (d1 := 2) (by decide) (As := [.int (nI j), .int 3]) rfl ⟨rfl, Nat.le_of_ble_eq_true rfl⟩ ⟨rfl, Nat.le_of_ble_eq_true rfl⟩ (cc_isOfKindN hE j 3 hF hC hn hq hcq hM hm hz (by omega)) rfl ?_
          refine Z.if_eqB (tgt := 240) dX6_canBe_217 (by decide) (fun h15 => ?_) (fun h15 => ?_)
          · refine Z.iconst (v := 0) dX6_canBe_240 (by decide) ?_
            exact Z.zret dX6_canBe_241 rfl (by decide) ⟨by rw [h10, cb_8 hn2 hD h9, h15] <;> rfl, rfl, rfl⟩
          · refine Z.aload_n dX6_canBe_220 rfl ?_
            refine Z.getR (r := 14) dX6_canBe_221 cl6 flX6_32 (by decide) (fx0 hF) rfl ?_
            refine Z.bipush (v := 8) dX6_canBe_224 (by decide) ?_
            refine Z.iload_n dX6_canBe_226 rfl ?_
            refine Z.iload_n dX6_canBe_227 rfl ?_
            refine Z.iload dX6_canBe_228 rfl ?_
            refine Z.callVp (M := mX6_canBe) (pc := 230) (st := []) (N := mX3_tell) (n := 4) (r := .int (bI (!decide (latF (pM I n) 8 (nI j) x t < 0)))) dX6_canBe_230 mlX6_255 mkX3_tell imX3_tell seX3_tell (fx14 hF) cl3 rfl (d1 := 0) (by decide) (As := [.int 8, .int (nI j), .int x, .int t]) rfl ⟨rfl, Nat.le_of_ble_eq_true rfl⟩ ⟨rfl, Nat.le_of_ble_eq_true rfl⟩ (cc_tell3 hE 8 (nI j) x t hF hC hn hso hx) rfl ?_
            refine Z.if_neB (tgt := 240) dX6_canBe_233 (by decide) (fun h16 => ?_) (fun h16 => ?_)
            · refine Z.iconst (v := 0) dX6_canBe_240 (by decide) ?_
              exact Z.zret dX6_canBe_241 rfl (by decide) ⟨by rw [h10, cb_8 hn2 hD h9, h15, h16] <;> rfl, rfl, rfl⟩
            · refine Z.iconst (v := 1) dX6_canBe_236 (by decide) ?_
              refine Z.goto (tgt := 241) dX6_canBe_237 (by decide) ?_
              exact Z.zret dX6_canBe_241 rfl (by decide) ⟨by rw [h10, cb_8 hn2 hD h9, h15, h16] <;> rfl, rfl, rfl⟩
        · refine Z.tableOut (tgt := 242) dX6_canBe_22 h10 (by decide) ?_
          refine Z.iconst (v := 0) dX6_canBe_242 (by decide) ?_
          exact Z.zret dX6_canBe_243 rfl (by decide) (absurd h10 (sw08_n hk8))
      · refine Z.iconst (v := 0) dX6_canBe_19 (by decide) ?_
        exact Z.zret dX6_canBe_20 rfl (by decide) ⟨by rw [cb_no h1 h5 h9]; rfl, rfl, rfl⟩

