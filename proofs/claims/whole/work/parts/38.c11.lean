theorem bx_eq {k x : Int32} : belB x (bxF k) = (inB k 0 8 && isXF k x) := by
  have e1 : belB x 1 = decide (x = 0) := by
    rw [belB_in (y := 0) (by decide)]
    unfold inB
    by_cases q : x = 0
    · subst q; decide
    · rw [decide_eq_false q]
      rcases Bool.eq_false_or_eq_true (!decide (x < 0) && !decide (0 < x)) with z | z
      · exfalso
        simp only [Bool.and_eq_true, Bool.not_eq_true', decide_eq_false_iff_not] at z
        apply q
        rw [Int32.lt_iff_toInt_lt, Int32.lt_iff_toInt_lt] at z
        exact Int32.toInt_inj.mp (by omega)
      · exact z
  have e3 : belB x 360 = inB x 0 359 := belB_in (by decide)
  have e16 : belB x 16 = inB x 0 15 := belB_in (by decide)
  have e100 : belB x 100 = inB x 0 99 := belB_in (by decide)
  rcases sw_0_8 k with h | h | h | h | h | h | h | h | h | h
  · subst h; rw [show bxF 0 = 360 by decide, e3]; rfl
  · subst h; rw [show bxF 1 = 16 by decide, e16]; rfl
  · subst h; rw [show bxF 2 = 1 by decide, e1]; rfl
  · subst h; rw [show bxF 3 = 360 by decide, e3]; rfl
  · subst h; rw [show bxF 4 = 1 by decide, e1]; rfl
  · subst h; rw [show bxF 5 = 100 by decide, e100]; rfl
  · subst h; rw [show bxF 6 = 360 by decide, e3]; rfl
  · subst h; rw [show bxF 7 = 1 by decide, e1]; rfl
  · subst h; rw [show bxF 8 = 100 by decide, e100]; rfl
  · have n := sw08_o h
    have i : inB k 0 8 = false := by
      rcases Bool.eq_false_or_eq_true (inB k 0 8) with z | z
      · exact absurd h (sw08_n z)
      · exact z
    have b : bxF k = 0 := by simp [bxF, n.1, n.2.1, n.2.2.1, n.2.2.2.1, n.2.2.2.2.1, n.2.2.2.2.2.1, n.2.2.2.2.2.2.1, n.2.2.2.2.2.2.2.1, n.2.2.2.2.2.2.2.2]
    rw [i, b, Bool.false_and]
    unfold belB
    cases decide (x < 0) <;> rfl
theorem bel_nm {x b : Int32} (h : belB x b = true) : ¬ x = -1 := fun q => by
  subst q
  unfold belB at h
  rw [show decide ((-1 : Int32) < 0) = true by decide] at h
  cases h
theorem pkB_eq {I : IM} {n : Nat} {k m x t : Int32} (hn4 : n ≤ 400) : pkB I n k m x t = (inB m 0 (I 35 10 - 1) && (belB x (bxF k) && (inB t 0 60000 && ((decide (n < 400) && !decide (t < (if n = 0 then 0 else I 52 (n - 1)))) && cbF I n k m.toNatClampNeg x t)))) := by
  unfold pkB
  rw [bx_eq]
  have e1 : decide (n < 400) = !decide (n = 400) := by
    by_cases q : n = 400
    · simp [q]
    · simp [q]; omega
  rw [e1]
  rcases Bool.eq_false_or_eq_true (inB t 0 60000) with z | z
  · have e2 : (!decide (t < (if n = 0 then 0 else I 52 (n - 1)))) = !(decide (0 < n) && decide (t < I 52 (n - 1))) := by
      by_cases q : n = 0
      · rw [if_pos q, q]
        have : ¬ t < 0 := by
          unfold inB at z
          simp only [Bool.and_eq_true, Bool.not_eq_true', decide_eq_false_iff_not] at z
          exact z.1
        simp [this]
      · rw [if_neg q, show decide (0 < n) = true from decide_eq_true (by omega), Bool.true_and]
    rw [e2, z]
    cases decide (n = 400) <;> cases inB k 0 8 <;> cases inB m 0 (I 35 10 - 1) <;> cases isXF k x <;> rfl
  · rw [z]
    cases decide (n = 400) <;> cases inB k 0 8 <;> cases inB m 0 (I 35 10 - 1) <;> cases isXF k x <;> rfl
theorem pa_ex {I J : IM} {n : Nat} {k m x t : Int32} (hE : Ex I J) : Ex (paN I n k m x t) (paN J n k m x t) := by
  unfold paN
  rw [hE 14 rfl, hE 15 rfl, hE 16 rfl, hE 17 rfl, hE 18 rfl]
  exact hE.upB.upB.upB.upB.upB
theorem VB_n1 {I : IM} {n : Nat} {m t g : Int32} {G Sn Us Gv : Nat → Int32} {K : Nat} (hD : Dn I n) (hn4 : n ≤ 400) (h : VB I n m t G Sn Us Gv K) (hg : ¬ g = -1) (hno : ∀ q, q < K → ¬ G q = g) : sinceF (pM I n) m g t = -1 := si_m1 (fun z => dy_nn hD (Nat.le_refl _) hn4 z) (VB_none h hg hno)
set_option maxHeartbeats 4000000 in
set_option maxRecDepth 100000 in
theorem cb_paper {g : GP} {I J : IM} {S : SH} (hE : Ex I J) (k m x t : Int32) (hF : Fx S) (hC : Cp I) {n : Nat} (hn : Mp I n) {nq : Nat} (hq : Mq I nq) (hcq : Cq I nq) (hM : MIv I) {mm : Nat} (hm : Mm I mm) (hz : Mz I S mm) (hL : LG I n) : Z g 4 0 0 mX6_paper 0 (enL mX6_paper [.ref 0, .int k, .int m, .int x, .int t]) [] J S (NQ (.int (if pkB I n k m x t = true then nI n else -1)) (if pkB I n k m x t = true then paN I n k m x t else I) S) := by
  show Z g 4 0 0 mX6_paper 0 [.ref 0, .int k, .int m, .int x, .int t, .retAddr 0] [] J S _
  have hn2 := hn.2
  have hq2 := hq.2
  have hm2 := hm.2
  have hD := hL.1
  have hso := hL.2.1
  refine Z.aload_n dX6_paper_0 rfl ?_
  refine Z.iload_n dX6_paper_1 rfl ?_
  rcases Bool.eq_false_or_eq_true (inB m 0 (I 35 10 - 1)) with h1 | h1
  · have l_m : m.toNatClampNeg < mm := (mk_rg hm.1 hm.2 h1).2
    have h_m : m.toNatClampNeg < 120 := by omega
    have ho_m := hz.2 _ l_m
    have hl_m := hM.2.2.1 _ h_m
    have hc_m := hM.2.2.2.1 _ h_m
    have hl2_m := hl_m.2
    have hc2_m := hc_m.2
    have hcl_m := ho_m.2.2
    have h12_m := clL_le (I := I) (j := m.toNatClampNeg)
    refine Z.callVp (M := mX6_paper) (pc := 2) (st := []) (N := mX6_markAt) (n := 1) (r := .ref (58 + 3 * m.toNatClampNeg)) dX6_paper_2 mlX6_94 mkX6_markAt imX6_markAt seX6_markAt (fx0 hF) cl6 rfl (d1 := 1) (by decide) (As := [.int m]) rfl ⟨rfl, Nat.le_of_ble_eq_true rfl⟩ ⟨rfl, Nat.le_of_ble_eq_true rfl⟩ (cc_markAtT hE m hF hC hm hz h1) rfl ?_
    refine Z.astore (L' := [.ref 0, .int k, .int m, .int x, .int t, .ref (58 + 3 * m.toNatClampNeg)]) dX6_paper_5 (Nat.le_of_ble_eq_true rfl) rfl ?_
    refine Z.aload dX6_paper_7 rfl ?_
    refine Z.ifnull dX6_paper_9 ?_
    refine Z.iload_n dX6_paper_12 rfl ?_
    refine Z.iload_n dX6_paper_13 rfl ?_
    refine Z.callSp (M := mX6_paper) (pc := 14) (st := [.int x]) (N := mX6_boundOfX) (n := 1) (r := .int (bxF k)) dX6_paper_14 mlX6_109 mkX6_boundOfX stX6_boundOfX (d1 := 0) (by decide) (As := [.int k]) rfl ⟨rfl, Nat.le_of_ble_eq_true rfl⟩ ⟨rfl, Nat.le_of_ble_eq_true rfl⟩ (cc_boundOfX hE k) rfl ?_
    refine Z.callSp (M := mX6_paper) (pc := 17) (st := []) (N := mX6_below) (n := 2) (r := .int (bI (belB x (bxF k)))) dX6_paper_17 mlX6_66 mkX6_below stX6_below (d1 := 0) (by decide) (As := [.int x, .int (bxF k)]) rfl ⟨rfl, Nat.le_of_ble_eq_true rfl⟩ ⟨rfl, Nat.le_of_ble_eq_true rfl⟩ (cc_below hE x (bxF k)) rfl ?_
    refine Z.if_eqB (tgt := 43) dX6_paper_20 (by decide) (fun h2 => ?_) (fun h2 => ?_)
    · refine Z.iconst (v := (-1)) dX6_paper_43 (by decide) ?_
      exact Z.iret dX6_paper_44 rfl ⟨by rw [if_neg (by rw [pkB_eq hn2, h1, h2]; simp)], by rw [if_neg (by rw [pkB_eq hn2, h1, h2]; simp)]; exact hE, rfl⟩
    · refine Z.iload dX6_paper_23 rfl ?_
      refine Z.callSp (M := mX6_paper) (pc := 25) (st := []) (N := mX6_isDay) (n := 1) (r := .int (bI (inB t 0 60000))) dX6_paper_25 mlX6_112 mkX6_isDay stX6_isDay (d1 := 0) (by decide) (As := [.int t]) rfl ⟨rfl, Nat.le_of_ble_eq_true rfl⟩ ⟨rfl, Nat.le_of_ble_eq_true rfl⟩ (cc_isDay hE t) rfl ?_
      refine Z.if_eqB (tgt := 43) dX6_paper_28 (by decide) (fun h3 => ?_) (fun h3 => ?_)
      · refine Z.iconst (v := (-1)) dX6_paper_43 (by decide) ?_
        exact Z.iret dX6_paper_44 rfl ⟨by rw [if_neg (by rw [pkB_eq hn2, h1, h2, h3]; simp)], by rw [if_neg (by rw [pkB_eq hn2, h1, h2, h3]; simp)]; exact hE, rfl⟩
      · refine Z.aload_n dX6_paper_31 rfl ?_
        refine Z.getR (r := 14) dX6_paper_32 cl6 flX6_32 (by decide) (fx0 hF) rfl ?_
        refine Z.iload dX6_paper_35 rfl ?_
        refine Z.callVp (M := mX6_paper) (pc := 37) (st := []) (N := mX3_take) (n := 1) (r := .int (bI (decide (n < 400) && !decide (t < (if n = 0 then 0 else I 52 (n - 1)))))) dX6_paper_37 mlX6_115 mkX3_take imX3_take seX3_take (fx14 hF) cl3 rfl (d1 := 1) (by decide) (As := [.int t]) rfl ⟨rfl, Nat.le_of_ble_eq_true rfl⟩ ⟨rfl, Nat.le_of_ble_eq_true rfl⟩ (cc_take hE t hF hC hn) rfl ?_
        refine Z.if_neB (tgt := 45) dX6_paper_40 (by decide) (fun h4 => ?_) (fun h4 => ?_)
        · have e_m := (mk_rg hm.1 hm.2 h1).1
          refine Z.eqLs (L' := [.ref 0, .int k, .int (nI (m.toNatClampNeg)), .int x, .int t, .ref (58 + 3 * m.toNatClampNeg)]) (st' := []) (by rw [← e_m]) (by first | rfl | rw [← e_m]) ?_
          refine Z.aload_n dX6_paper_45 rfl ?_
          refine Z.getR (r := 19) dX6_paper_46 cl6 flX6_49 (by decide) (fx0 hF) rfl ?_
          refine Z.aload_n dX6_paper_49 rfl ?_
          refine Z.getR (r := 14) dX6_paper_50 cl6 flX6_32 (by decide) (fx0 hF) rfl ?_
          refine Z.iload_n dX6_paper_53 rfl ?_
          refine Z.iconst (v := (-1)) dX6_paper_54 (by decide) ?_
          refine Z.iload dX6_paper_55 rfl ?_
          refine Z.callVg (M := mX6_paper) (pc := 57) (st := []) (N := mX5_read) (n := 4) dX6_paper_57 mlX6_118 mkX5_read imX5_read seX5_read (fx19 hF) cl5 rfl (d1 := 3) (by decide) (As := [.ref 14, .int (nI (m.toNatClampNeg)), .int ((-1)), .int t]) rfl ⟨rfl, Nat.le_of_ble_eq_true rfl⟩ ⟨rfl, Nat.le_of_ble_eq_true rfl⟩ (cv_read19 hE (nI (m.toNatClampNeg)) (-1) t hF hC hn hL) rfl (fun v_ J1 S_ h_ => ?_)
          obtain ⟨rfl, hw5, ⟨K19_5, hA19_5, hB19_5⟩, rfl⟩ := h_
          have hE := AW19.ex hw5 hE
          have hK19_5 := hA19_5.2.2.2.2.2.2.2.2.2
          refine Z.aload_n dX6_paper_60 rfl ?_
          refine Z.iload_n dX6_paper_61 rfl ?_
          refine Z.iload_n dX6_paper_62 rfl ?_
          refine Z.iload_n dX6_paper_63 rfl ?_
          refine Z.iload dX6_paper_64 rfl ?_
          refine Z.callVp (M := mX6_paper) (pc := 66) (st := []) (N := mX6_canBe) (n := 4) (r := .int (bI (cbF I n k m.toNatClampNeg x t))) dX6_paper_66 mlX6_122 mkX6_canBe imX6_canBe seX6_canBe (fx0 hF) cl6 rfl (d1 := 3) (by decide) (As := [.int k, .int (nI (m.toNatClampNeg)), .int x, .int t]) rfl ⟨rfl, Nat.le_of_ble_eq_true rfl⟩ ⟨rfl, Nat.le_of_ble_eq_true rfl⟩ (cc_canBe hE k m.toNatClampNeg x t hF hC hn hq hcq hM hm hz hL (by omega) (bel_nm h2) (by rw [bx_eq, Bool.and_eq_true] at h2; exact h2.1) hA19_5 hB19_5) rfl ?_
          refine Z.if_neB (tgt := 74) dX6_paper_69 (by decide) (fun h6 => ?_) (fun h6 => ?_)
          · refine Z.eqLs (L' := [.ref 0, .int k, .int m, .int x, .int t, .ref (58 + 3 * m.toNatClampNeg)]) (st' := []) (by rw [← e_m]) (by first | rfl | rw [← e_m]) ?_
            refine Z.aload_n dX6_paper_74 rfl ?_
            refine Z.getR (r := 14) dX6_paper_75 cl6 flX6_32 (by decide) (fx0 hF) rfl ?_
            refine Z.iload_n dX6_paper_78 rfl ?_
            refine Z.iload_n dX6_paper_79 rfl ?_
            refine Z.iload_n dX6_paper_80 rfl ?_
            refine Z.iload dX6_paper_81 rfl ?_
            refine Z.callVg (M := mX6_paper) (pc := 83) (st := []) (N := mX3_add) (n := 4) dX6_paper_83 mlX6_126 mkX3_add imX3_add seX3_add (fx14 hF) cl3 rfl (d1 := 0) (by decide) (As := [.int k, .int m, .int x, .int t]) rfl ⟨rfl, Nat.le_of_ble_eq_true rfl⟩ ⟨rfl, Nat.le_of_ble_eq_true rfl⟩ (cc_add3 hE k m x t hF hC hn (by rw [Bool.and_eq_true, decide_eq_true_eq] at h4; exact h4.1)) rfl (fun v_ J2 S_ h_ => ?_)
            obtain ⟨rfl, rfl, rfl⟩ := h_
            exact Z.iret dX6_paper_86 rfl ⟨by rw [if_pos (by rw [pkB_eq hn2, h1, h2, h3, h4, h6] <;> rfl)], by rw [if_pos (by rw [pkB_eq hn2, h1, h2, h3, h4, h6] <;> rfl)]; exact pa_ex hE, rfl⟩
          · refine Z.iconst (v := (-1)) dX6_paper_72 (by decide) ?_
            exact Z.iret dX6_paper_73 rfl ⟨by rw [if_neg (by rw [pkB_eq hn2, h1, h2, h3, h4, h6]; simp)], by rw [if_neg (by rw [pkB_eq hn2, h1, h2, h3, h4, h6]; simp)]; exact hE, rfl⟩
        · refine Z.iconst (v := (-1)) dX6_paper_43 (by decide) ?_
          exact Z.iret dX6_paper_44 rfl ⟨by rw [if_neg (by rw [pkB_eq hn2, h1, h2, h3, h4]; simp)], by rw [if_neg (by rw [pkB_eq hn2, h1, h2, h3, h4]; simp)]; exact hE, rfl⟩
  · refine Z.callVp (M := mX6_paper) (pc := 2) (st := []) (N := mX6_markAt) (n := 1) (r := .null) dX6_paper_2 mlX6_94 mkX6_markAt imX6_markAt seX6_markAt (fx0 hF) cl6 rfl (d1 := 1) (by decide) (As := [.int m]) rfl ⟨rfl, Nat.le_of_ble_eq_true rfl⟩ ⟨rfl, Nat.le_of_ble_eq_true rfl⟩ (cc_markAtF hE m hF hC hm hz h1) rfl ?_
    refine Z.astoreN (L' := [.ref 0, .int k, .int m, .int x, .int t, .null]) dX6_paper_5 (Nat.le_of_ble_eq_true rfl) rfl ?_
    refine Z.aloadN dX6_paper_7 rfl ?_
    refine Z.ifnullN (tgt := 43) dX6_paper_9 (by decide) ?_
    refine Z.iconst (v := (-1)) dX6_paper_43 (by decide) ?_
    exact Z.iret dX6_paper_44 rfl ⟨by rw [if_neg (by rw [pkB_eq hn2, h1]; simp)], by rw [if_neg (by rw [pkB_eq hn2, h1]; simp)]; exact hE, rfl⟩

set_option maxHeartbeats 4000000 in
set_option maxRecDepth 100000 in
theorem cb_right {g : GP} {I J : IM} {S : SH} (hE : Ex I J) (m g_ c t w : Int32) (hF : Fx S) (hC : Cp I) {n : Nat} (hn : Mp I n) {nq : Nat} (hq : Mq I nq) (hcq : Cq I nq) (hM : MIv I) {mm : Nat} (hm : Mm I mm) (hz : Mz I S mm) (hL : LG I n) : Z g 4 0 0 mX6_right 0 (enL mX6_right [.ref 0, .int m, .int g_, .int c, .int t, .int w]) [] J S (NQ (.int (riM I n m g_ c t w)) I S) := by
  show Z g 4 0 0 mX6_right 0 [.ref 0, .int m, .int g_, .int c, .int t, .int w, .retAddr 0] [] J S _
  have hn2 := hn.2
  have hq2 := hq.2
  have hm2 := hm.2
  have hD := hL.1
  have hso := hL.2.1
  refine Z.aload_n dX6_right_0 rfl ?_
  refine Z.iload_n dX6_right_1 rfl ?_
  rcases Bool.eq_false_or_eq_true (inB m 0 (I 35 10 - 1)) with h1 | h1
  · have l_m : m.toNatClampNeg < mm := (mk_rg hm.1 hm.2 h1).2
    have h_m : m.toNatClampNeg < 120 := by omega
    have ho_m := hz.2 _ l_m
    have hl_m := hM.2.2.1 _ h_m
    have hc_m := hM.2.2.2.1 _ h_m
    have hl2_m := hl_m.2
    have hc2_m := hc_m.2
    have hcl_m := ho_m.2.2
    have h12_m := clL_le (I := I) (j := m.toNatClampNeg)
    refine Z.callVp (M := mX6_right) (pc := 2) (st := []) (N := mX6_markAt) (n := 1) (r := .ref (58 + 3 * m.toNatClampNeg)) dX6_right_2 mlX6_94 mkX6_markAt imX6_markAt seX6_markAt (fx0 hF) cl6 rfl (d1 := 1) (by decide) (As := [.int m]) rfl ⟨rfl, Nat.le_of_ble_eq_true rfl⟩ ⟨rfl, Nat.le_of_ble_eq_true rfl⟩ (cc_markAtT hE m hF hC hm hz h1) rfl ?_
    refine Z.ifnull dX6_right_5 ?_
    refine Z.iload_n dX6_right_8 rfl ?_
    refine Z.sipush (v := 360) dX6_right_9 (by decide) ?_
    refine Z.callSp (M := mX6_right) (pc := 12) (st := []) (N := mX6_below) (n := 2) (r := .int (bI (inB g_ 0 359))) dX6_right_12 mlX6_66 mkX6_below stX6_below (d1 := 0) (by decide) (As := [.int g_, .int 360]) rfl ⟨rfl, Nat.le_of_ble_eq_true rfl⟩ ⟨rfl, Nat.le_of_ble_eq_true rfl⟩ (cc_below360 hE g_) rfl ?_
    refine Z.if_eqB (tgt := 35) dX6_right_15 (by decide) (fun h2 => ?_) (fun h2 => ?_)
    · refine Z.iconst (v := (-1)) dX6_right_35 (by decide) ?_
      exact Z.iret dX6_right_36 rfl ⟨by simp [riM, h1, h2], hE, rfl⟩
    · refine Z.iload_n dX6_right_18 rfl ?_
      refine Z.bipush (v := 16) dX6_right_19 (by decide) ?_
      refine Z.callSp (M := mX6_right) (pc := 21) (st := []) (N := mX6_below) (n := 2) (r := .int (bI (inB c 0 15))) dX6_right_21 mlX6_66 mkX6_below stX6_below (d1 := 0) (by decide) (As := [.int c, .int 16]) rfl ⟨rfl, Nat.le_of_ble_eq_true rfl⟩ ⟨rfl, Nat.le_of_ble_eq_true rfl⟩ (cc_below16 hE c) rfl ?_
      refine Z.if_eqB (tgt := 35) dX6_right_24 (by decide) (fun h3 => ?_) (fun h3 => ?_)
      · refine Z.iconst (v := (-1)) dX6_right_35 (by decide) ?_
        exact Z.iret dX6_right_36 rfl ⟨by simp [riM, h1, h2, h3], hE, rfl⟩
      · refine Z.iload dX6_right_27 rfl ?_
        refine Z.callSp (M := mX6_right) (pc := 29) (st := []) (N := mX6_isDay) (n := 1) (r := .int (bI (inB t 0 60000))) dX6_right_29 mlX6_112 mkX6_isDay stX6_isDay (d1 := 0) (by decide) (As := [.int t]) rfl ⟨rfl, Nat.le_of_ble_eq_true rfl⟩ ⟨rfl, Nat.le_of_ble_eq_true rfl⟩ (cc_isDay hE t) rfl ?_
        refine Z.if_neB (tgt := 37) dX6_right_32 (by decide) (fun h4 => ?_) (fun h4 => ?_)
        · refine Z.aload_n dX6_right_37 rfl ?_
          refine Z.getR (r := 19) dX6_right_38 cl6 flX6_49 (by decide) (fx0 hF) rfl ?_
          refine Z.aload_n dX6_right_41 rfl ?_
          refine Z.getR (r := 14) dX6_right_42 cl6 flX6_32 (by decide) (fx0 hF) rfl ?_
          refine Z.iload_n dX6_right_45 rfl ?_
          refine Z.iload_n dX6_right_46 rfl ?_
          refine Z.iload dX6_right_47 rfl ?_
          refine Z.callVg (M := mX6_right) (pc := 49) (st := []) (N := mX5_read) (n := 4) dX6_right_49 mlX6_118 mkX5_read imX5_read seX5_read (fx19 hF) cl5 rfl (d1 := 3) (by decide) (As := [.ref 14, .int m, .int c, .int t]) rfl ⟨rfl, Nat.le_of_ble_eq_true rfl⟩ ⟨rfl, Nat.le_of_ble_eq_true rfl⟩ (cv_read19 hE m c t hF hC hn hL) rfl (fun v_ J1 S_ h_ => ?_)
          obtain ⟨rfl, hw5, ⟨K19_5, hA19_5, hB19_5⟩, rfl⟩ := h_
          have hE := AW19.ex hw5 hE
          have hK19_5 := hA19_5.2.2.2.2.2.2.2.2.2
          refine Z.aload_n dX6_right_52 rfl ?_
          refine Z.getR (r := 19) dX6_right_53 cl6 flX6_49 (by decide) (fx0 hF) rfl ?_
          refine Z.iload_n dX6_right_56 rfl ?_
          refine Z.callVg (M := mX6_right) (pc := 57) (st := []) (N := mX5_find) (n := 1) dX6_right_57 mlX6_193 mkX5_find imX5_find seX5_find (fx19 hF) cl5 rfl (d1 := 0) (by decide) (As := [.int g_]) rfl ⟨rfl, Nat.le_of_ble_eq_true rfl⟩ ⟨rfl, Nat.le_of_ble_eq_true rfl⟩ (cv_find19 (J := J1) hE g_ hF (hA19_5.2.2.2.2.2.2.2.2.1) (hA19_5.2.2.2.2.2.2.2.2.2)) rfl (fun v_ J2 S_ h_ => ?_)
          obtain ⟨⟨k_, rfl, hk_⟩, rfl, rfl⟩ := h_
          rcases hk_ with ⟨rfl, hno6⟩ | ⟨q6, hq6, rfl, hg6⟩
          · refine Z.istore (L' := [.ref 0, .int m, .int g_, .int c, .int t, .int w, .int ((-1))]) dX6_right_60 (Nat.le_of_ble_eq_true rfl) rfl ?_
            refine Z.iload dX6_right_62 rfl ?_
            rcases sw_0_2 w with h7 | h7 | h7 | h7
            · refine Z.tableIn (off := 28) (tgt := 92) dX6_right_64 (by rw [h7]; decide) (by rw [h7]; decide) (by rw [h7]; decide) (by decide) ?_
              refine Z.aload_n dX6_right_92 rfl ?_
              refine Z.getR (r := 19) dX6_right_93 cl6 flX6_49 (by decide) (fx0 hF) rfl ?_
              refine Z.iload dX6_right_96 rfl ?_
              refine Z.callVp (M := mX6_right) (pc := 98) (st := []) (N := mX5_sinceAt) (n := 1) (r := .int ((-1))) dX6_right_98 mlX6_196 mkX5_sinceAt imX5_sinceAt seX5_sinceAt (fx19 hF) cl5 rfl (d1 := 1) (by decide) (As := [.int ((-1))]) rfl ⟨rfl, Nat.le_of_ble_eq_true rfl⟩ ⟨rfl, Nat.le_of_ble_eq_true rfl⟩ (cq_sinceAtN19 hE hF hC hn2 hD hA19_5 hB19_5) rfl ?_
              exact Z.iret dX6_right_101 rfl ⟨by simp [riM, h1, h2, h3, h4, h7, bI, VB_n1 hD hn2 hB19_5 (in_nm h2) hno6], hE, rfl⟩
            · refine Z.tableIn (off := 38) (tgt := 102) dX6_right_64 (by rw [h7]; decide) (by rw [h7]; decide) (by rw [h7]; decide) (by decide) ?_
              refine Z.aload_n dX6_right_102 rfl ?_
              refine Z.getR (r := 19) dX6_right_103 cl6 flX6_49 (by decide) (fx0 hF) rfl ?_
              refine Z.iload dX6_right_106 rfl ?_
              refine Z.callVp (M := mX6_right) (pc := 108) (st := []) (N := mX5_rightAt) (n := 1) (r := .int ((-1))) dX6_right_108 mlX6_199 mkX5_rightAt imX5_rightAt seX5_rightAt (fx19 hF) cl5 rfl (d1 := 1) (by decide) (As := [.int ((-1))]) rfl ⟨rfl, Nat.le_of_ble_eq_true rfl⟩ ⟨rfl, Nat.le_of_ble_eq_true rfl⟩ (cq_rightAtN19 hE hF hC hn2 hD hA19_5 hB19_5) rfl ?_
              exact Z.iret dX6_right_111 rfl ⟨by simp [riM, h1, h2, h3, h4, h7, bI, right_ns (c := c) (show sinceF (pM I n) m g_ t < 0 by rw [VB_n1 hD hn2 hB19_5 (in_nm h2) hno6]; decide)], hE, rfl⟩
            · refine Z.tableIn (off := 48) (tgt := 112) dX6_right_64 (by rw [h7]; decide) (by rw [h7]; decide) (by rw [h7]; decide) (by decide) ?_
              refine Z.aload_n dX6_right_112 rfl ?_
              refine Z.getR (r := 19) dX6_right_113 cl6 flX6_49 (by decide) (fx0 hF) rfl ?_
              refine Z.iload dX6_right_116 rfl ?_
              refine Z.callVp (M := mX6_right) (pc := 118) (st := []) (N := mX5_standsAt) (n := 1) (r := .int (bI (false))) dX6_right_118 mlX6_202 mkX5_standsAt imX5_standsAt seX5_standsAt (fx19 hF) cl5 rfl (d1 := 3) (by decide) (As := [.int ((-1))]) rfl ⟨rfl, Nat.le_of_ble_eq_true rfl⟩ ⟨rfl, Nat.le_of_ble_eq_true rfl⟩ (cq_standsAtN19 hE hF hC hn2 hD hA19_5 hB19_5) rfl ?_
              refine Z.if_eqB (tgt := 128) dX6_right_121 (by decide) (fun h8 => ?_) (fun h8 => absurd h8 (by decide))
              refine Z.iconst (v := 0) dX6_right_128 (by decide) ?_
              exact Z.iret dX6_right_129 rfl ⟨by simp [riM, h1, h2, h3, h4, h7, bI, stands_no (right_ns (c := c) (show sinceF (pM I n) m g_ t < 0 by rw [VB_n1 hD hn2 hB19_5 (in_nm h2) hno6]; decide))], hE, rfl⟩
            · refine Z.tableOut (tgt := 130) dX6_right_64 h7 (by decide) ?_
              refine Z.iconst (v := (-1)) dX6_right_130 (by decide) ?_
              exact Z.iret dX6_right_131 rfl ⟨by have hq_ := sw02_o h7; simp [riM, hq_.1, hq_.2.1, hq_.2.2, h1, h2, h3, h4, bI], hE, rfl⟩
          · refine Z.istore (L' := [.ref 0, .int m, .int g_, .int c, .int t, .int w, .int (nI q6)]) dX6_right_60 (Nat.le_of_ble_eq_true rfl) rfl ?_
            refine Z.iload dX6_right_62 rfl ?_
            rcases sw_0_2 w with h9 | h9 | h9 | h9
            · refine Z.tableIn (off := 28) (tgt := 92) dX6_right_64 (by rw [h9]; decide) (by rw [h9]; decide) (by rw [h9]; decide) (by decide) ?_
              refine Z.aload_n dX6_right_92 rfl ?_
              refine Z.getR (r := 19) dX6_right_93 cl6 flX6_49 (by decide) (fx0 hF) rfl ?_
              refine Z.iload dX6_right_96 rfl ?_
              refine Z.callVp (M := mX6_right) (pc := 98) (st := []) (N := mX5_sinceAt) (n := 1) (r := .int (sinceF (pM I n) m (g_) t)) dX6_right_98 mlX6_196 mkX5_sinceAt imX5_sinceAt seX5_sinceAt (fx19 hF) cl5 rfl (d1 := 1) (by decide) (As := [.int (nI q6)]) rfl ⟨rfl, Nat.le_of_ble_eq_true rfl⟩ ⟨rfl, Nat.le_of_ble_eq_true rfl⟩ (by have e := cq_sinceAtT19 (g := g) (J := J1) hE hF hC hn2 hD hA19_5 hB19_5 hq6; rw [hg6] at e; exact e) rfl ?_
              exact Z.iret dX6_right_101 rfl ⟨by simp [riM, h1, h2, h3, h4, h9, bI], hE, rfl⟩
            · refine Z.tableIn (off := 38) (tgt := 102) dX6_right_64 (by rw [h9]; decide) (by rw [h9]; decide) (by rw [h9]; decide) (by decide) ?_
              refine Z.aload_n dX6_right_102 rfl ?_
              refine Z.getR (r := 19) dX6_right_103 cl6 flX6_49 (by decide) (fx0 hF) rfl ?_
              refine Z.iload dX6_right_106 rfl ?_
              refine Z.callVp (M := mX6_right) (pc := 108) (st := []) (N := mX5_rightAt) (n := 1) (r := .int (rightF (pM I n) m (g_) c t)) dX6_right_108 mlX6_199 mkX5_rightAt imX5_rightAt seX5_rightAt (fx19 hF) cl5 rfl (d1 := 1) (by decide) (As := [.int (nI q6)]) rfl ⟨rfl, Nat.le_of_ble_eq_true rfl⟩ ⟨rfl, Nat.le_of_ble_eq_true rfl⟩ (by have e := cq_rightAtT19 (g := g) (J := J1) hE hF hC hn2 hD hA19_5 hB19_5 hq6 (in_nm h3); rw [hg6] at e; exact e) rfl ?_
              exact Z.iret dX6_right_111 rfl ⟨by simp [riM, h1, h2, h3, h4, h9, bI], hE, rfl⟩
            · refine Z.tableIn (off := 48) (tgt := 112) dX6_right_64 (by rw [h9]; decide) (by rw [h9]; decide) (by rw [h9]; decide) (by decide) ?_
              refine Z.aload_n dX6_right_112 rfl ?_
              refine Z.getR (r := 19) dX6_right_113 cl6 flX6_49 (by decide) (fx0 hF) rfl ?_
              refine Z.iload dX6_right_116 rfl ?_
              refine Z.callVp (M := mX6_right) (pc := 118) (st := []) (N := mX5_standsAt) (n := 1) (r := .int (bI (standsF (pM I n) m (g_) c t))) dX6_right_118 mlX6_202 mkX5_standsAt imX5_standsAt seX5_standsAt (fx19 hF) cl5 rfl (d1 := 3) (by decide) (As := [.int (nI q6)]) rfl ⟨rfl, Nat.le_of_ble_eq_true rfl⟩ ⟨rfl, Nat.le_of_ble_eq_true rfl⟩ (by have e := cq_standsAtT19 (g := g) (J := J1) hE hF hC hn2 hD hA19_5 hB19_5 hq6 (in_nm h3); rw [hg6] at e; exact e) rfl ?_
              refine Z.if_eqB (tgt := 128) dX6_right_121 (by decide) (fun h10 => ?_) (fun h10 => ?_)
              · refine Z.iconst (v := 0) dX6_right_128 (by decide) ?_
                exact Z.iret dX6_right_129 rfl ⟨by simp [riM, h1, h2, h3, h4, h9, h10, bI], hE, rfl⟩
              · refine Z.iconst (v := 1) dX6_right_124 (by decide) ?_
                refine Z.goto (tgt := 129) dX6_right_125 (by decide) ?_
                exact Z.iret dX6_right_129 rfl ⟨by simp [riM, h1, h2, h3, h4, h9, h10, bI], hE, rfl⟩
            · refine Z.tableOut (tgt := 130) dX6_right_64 h9 (by decide) ?_
              refine Z.iconst (v := (-1)) dX6_right_130 (by decide) ?_
              exact Z.iret dX6_right_131 rfl ⟨by have hq_ := sw02_o h9; simp [riM, hq_.1, hq_.2.1, hq_.2.2, h1, h2, h3, h4, bI], hE, rfl⟩
        · refine Z.iconst (v := (-1)) dX6_right_35 (by decide) ?_
          exact Z.iret dX6_right_36 rfl ⟨by simp [riM, h1, h2, h3, h4], hE, rfl⟩
  · refine Z.callVp (M := mX6_right) (pc := 2) (st := []) (N := mX6_markAt) (n := 1) (r := .null) dX6_right_2 mlX6_94 mkX6_markAt imX6_markAt seX6_markAt (fx0 hF) cl6 rfl (d1 := 1) (by decide) (As := [.int m]) rfl ⟨rfl, Nat.le_of_ble_eq_true rfl⟩ ⟨rfl, Nat.le_of_ble_eq_true rfl⟩ (cc_markAtF hE m hF hC hm hz h1) rfl ?_
    refine Z.ifnullN (tgt := 35) dX6_right_5 (by decide) ?_
    refine Z.iconst (v := (-1)) dX6_right_35 (by decide) ?_
    exact Z.iret dX6_right_36 rfl ⟨by simp [riM, h1], hE, rfl⟩

set_option maxHeartbeats 4000000 in
set_option maxRecDepth 100000 in
theorem cb_state {g : GP} {I J : IM} {S : SH} (hE : Ex I J) (m t w : Int32) (hF : Fx S) (hC : Cp I) {n : Nat} (hn : Mp I n) {nq : Nat} (hq : Mq I nq) (hcq : Cq I nq) (hM : MIv I) {mm : Nat} (hm : Mm I mm) (hz : Mz I S mm) (hL : LG I n) : Z g 4 0 0 mX6_state 0 (enL mX6_state [.ref 0, .int m, .int t, .int w]) [] J S (NQ (.int (stM I n m t w)) I S) := by
  show Z g 4 0 0 mX6_state 0 [.ref 0, .int m, .int t, .int w] [] J S _
  have hn2 := hn.2
  have hq2 := hq.2
  have hm2 := hm.2
  have hD := hL.1
  have hso := hL.2.1
  refine Z.aload_n dX6_state_0 rfl ?_
  refine Z.iload_n dX6_state_1 rfl ?_
  rcases Bool.eq_false_or_eq_true (inB m 0 (I 35 10 - 1)) with h1 | h1
  · have l_m : m.toNatClampNeg < mm := (mk_rg hm.1 hm.2 h1).2
    have h_m : m.toNatClampNeg < 120 := by omega
    have ho_m := hz.2 _ l_m
    have hl_m := hM.2.2.1 _ h_m
    have hc_m := hM.2.2.2.1 _ h_m
    have hl2_m := hl_m.2
    have hc2_m := hc_m.2
    have hcl_m := ho_m.2.2
    have h12_m := clL_le (I := I) (j := m.toNatClampNeg)
    refine Z.callVp (M := mX6_state) (pc := 2) (st := []) (N := mX6_markAt) (n := 1) (r := .ref (58 + 3 * m.toNatClampNeg)) dX6_state_2 mlX6_94 mkX6_markAt imX6_markAt seX6_markAt (fx0 hF) cl6 rfl (d1 := 1) (by decide) (As := [.int m]) rfl ⟨rfl, Nat.le_of_ble_eq_true rfl⟩ ⟨rfl, Nat.le_of_ble_eq_true rfl⟩ (cc_markAtT hE m hF hC hm hz h1) rfl ?_
    refine Z.ifnull dX6_state_5 ?_
    refine Z.iload_n dX6_state_8 rfl ?_
    refine Z.callSp (M := mX6_state) (pc := 9) (st := []) (N := mX6_isDay) (n := 1) (r := .int (bI (inB t 0 60000))) dX6_state_9 mlX6_112 mkX6_isDay stX6_isDay (d1 := 0) (by decide) (As := [.int t]) rfl ⟨rfl, Nat.le_of_ble_eq_true rfl⟩ ⟨rfl, Nat.le_of_ble_eq_true rfl⟩ (cc_isDay hE t) rfl ?_
    refine Z.if_neB (tgt := 17) dX6_state_12 (by decide) (fun h2 => ?_) (fun h2 => ?_)
    · refine Z.aload_n dX6_state_17 rfl ?_
      refine Z.getR (r := 19) dX6_state_18 cl6 flX6_49 (by decide) (fx0 hF) rfl ?_
      refine Z.aload_n dX6_state_21 rfl ?_
      refine Z.getR (r := 14) dX6_state_22 cl6 flX6_32 (by decide) (fx0 hF) rfl ?_
      refine Z.iload_n dX6_state_25 rfl ?_
      refine Z.iconst (v := (-1)) dX6_state_26 (by decide) ?_
      refine Z.iload_n dX6_state_27 rfl ?_
      refine Z.callVg (M := mX6_state) (pc := 28) (st := []) (N := mX5_read) (n := 4) dX6_state_28 mlX6_118 mkX5_read imX5_read seX5_read (fx19 hF) cl5 rfl (d1 := 3) (by decide) (As := [.ref 14, .int m, .int ((-1)), .int t]) rfl ⟨rfl, Nat.le_of_ble_eq_true rfl⟩ ⟨rfl, Nat.le_of_ble_eq_true rfl⟩ (cv_read19 hE m (-1) t hF hC hn hL) rfl (fun v_ J1 S_ h_ => ?_)
      obtain ⟨rfl, hw3, ⟨K19_3, hA19_3, hB19_3⟩, rfl⟩ := h_
      have hE := AW19.ex hw3 hE
      have hK19_3 := hA19_3.2.2.2.2.2.2.2.2.2
      refine Z.iload_n dX6_state_31 rfl ?_
      rcases sw_0_5 w with h4 | h4 | h4 | h4 | h4 | h4 | h4
      · refine Z.tableIn (off := 40) (tgt := 72) dX6_state_32 (by rw [h4]; decide) (by rw [h4]; decide) (by rw [h4]; decide) (by decide) ?_
        refine Z.aload_n dX6_state_72 rfl ?_
        refine Z.getR (r := 19) dX6_state_73 cl6 flX6_49 (by decide) (fx0 hF) rfl ?_
        refine Z.getIv (v := firF (pM I n) m t) dX6_state_76 cl5 flX6_134 (by decide) (fx19 hF) (hA19_3.2.1) ?_
        exact Z.iret dX6_state_79 rfl ⟨by have hfi : (firF (pM I n) m t < 0) = (firF (pM I n) m t = -1) := propext ⟨fun z => Decidable.byContradiction (fun y => (fi_le hD hn2 y).2 z), fun z => by rw [z]; decide⟩; have hlen := VB_len hn2 (fun i hi => (hL.2.2 i hi).2.2.2) hB19_3; simp [stM, h1, h2, h4, bI, hfi], hE, rfl⟩
      · refine Z.tableIn (off := 48) (tgt := 80) dX6_state_32 (by rw [h4]; decide) (by rw [h4]; decide) (by rw [h4]; decide) (by decide) ?_
        refine Z.aload_n dX6_state_80 rfl ?_
        refine Z.getR (r := 19) dX6_state_81 cl6 flX6_49 (by decide) (fx0 hF) rfl ?_
        refine Z.callVp (M := mX6_state) (pc := 84) (st := []) (N := mX5_termEnd) (n := 0) (r := .int (if firF (pM I n) m t = -1 then -1 else termF (pM I n) m t)) dX6_state_84 mlX6_205 mkX5_termEnd imX5_termEnd seX5_termEnd (fx19 hF) cl5 rfl (d1 := 1) (by decide) (As := []) rfl ⟨rfl, Nat.le_of_ble_eq_true rfl⟩ ⟨rfl, Nat.le_of_ble_eq_true rfl⟩ (cq_termEnd19 hE hF hC hn2 hD hA19_3 hB19_3) rfl ?_
        exact Z.iret dX6_state_87 rfl ⟨by have hfi : (firF (pM I n) m t < 0) = (firF (pM I n) m t = -1) := propext ⟨fun z => Decidable.byContradiction (fun y => (fi_le hD hn2 y).2 z), fun z => by rw [z]; decide⟩; have hlen := VB_len hn2 (fun i hi => (hL.2.2 i hi).2.2.2) hB19_3; simp [stM, h1, h2, h4, bI, hfi], hE, rfl⟩
      · refine Z.tableIn (off := 56) (tgt := 88) dX6_state_32 (by rw [h4]; decide) (by rw [h4]; decide) (by rw [h4]; decide) (by decide) ?_
        refine Z.aload_n dX6_state_88 rfl ?_
        refine Z.getR (r := 19) dX6_state_89 cl6 flX6_49 (by decide) (fx0 hF) rfl ?_
        refine Z.callVp (M := mX6_state) (pc := 92) (st := []) (N := mX5_isEntered) (n := 0) (r := .int (bI (!decide (firF (pM I n) m t = -1)))) dX6_state_92 mlX6_130 mkX5_isEntered imX5_isEntered seX5_isEntered (fx19 hF) cl5 rfl (d1 := 0) (by decide) (As := []) rfl ⟨rfl, Nat.le_of_ble_eq_true rfl⟩ ⟨rfl, Nat.le_of_ble_eq_true rfl⟩ (cq_isEntered19 hE hF hC hn2 hD hA19_3 hB19_3) rfl ?_
        refine Z.if_neB (tgt := 102) dX6_state_95 (by decide) (fun h5 => ?_) (fun h5 => ?_)
        · refine Z.aload_n dX6_state_102 rfl ?_
          refine Z.getR (r := 19) dX6_state_103 cl6 flX6_49 (by decide) (fx0 hF) rfl ?_
          refine Z.callVp (M := mX6_state) (pc := 106) (st := []) (N := mX5_isLapsed) (n := 0) (r := .int (bI (!decide (firF (pM I n) m t = -1) && lapF (pM I n) m t))) dX6_state_106 mlX6_208 mkX5_isLapsed imX5_isLapsed seX5_isLapsed (fx19 hF) cl5 rfl (d1 := 2) (by decide) (As := []) rfl ⟨rfl, Nat.le_of_ble_eq_true rfl⟩ ⟨rfl, Nat.le_of_ble_eq_true rfl⟩ (cq_isLapsed19 hE hF hC hn2 hD hA19_3 hB19_3) rfl ?_
          refine Z.if_eqB (tgt := 116) dX6_state_109 (by decide) (fun h6 => ?_) (fun h6 => ?_)
          · refine Z.iconst (v := 0) dX6_state_116 (by decide) ?_
            exact Z.iret dX6_state_117 rfl ⟨by have hfi : (firF (pM I n) m t < 0) = (firF (pM I n) m t = -1) := propext ⟨fun z => Decidable.byContradiction (fun y => (fi_le hD hn2 y).2 z), fun z => by rw [z]; decide⟩; have hlen := VB_len hn2 (fun i hi => (hL.2.2 i hi).2.2.2) hB19_3; have h5b : ¬ firF (pM I n) m t = -1 := (by simpa using h5); have h6b : lapF (pM I n) m t = false := (by rw [h5, Bool.true_and] at h6; exact h6); simp [stM, h1, h2, h4, h5, h6, bI, hfi, h5b, h6b], hE, rfl⟩
          · refine Z.iconst (v := 1) dX6_state_112 (by decide) ?_
            refine Z.goto (tgt := 117) dX6_state_113 (by decide) ?_
            exact Z.iret dX6_state_117 rfl ⟨by have hfi : (firF (pM I n) m t < 0) = (firF (pM I n) m t = -1) := propext ⟨fun z => Decidable.byContradiction (fun y => (fi_le hD hn2 y).2 z), fun z => by rw [z]; decide⟩; have hlen := VB_len hn2 (fun i hi => (hL.2.2 i hi).2.2.2) hB19_3; have h5b : ¬ firF (pM I n) m t = -1 := (by simpa using h5); have h6b : lapF (pM I n) m t = true := (by rw [h5, Bool.true_and] at h6; exact h6); simp [stM, h1, h2, h4, h5, h6, bI, hfi, h5b, h6b], hE, rfl⟩
        · refine Z.iconst (v := (-1)) dX6_state_98 (by decide) ?_
          refine Z.goto (tgt := 117) dX6_state_99 (by decide) ?_
          exact Z.iret dX6_state_117 rfl ⟨by have hfi : (firF (pM I n) m t < 0) = (firF (pM I n) m t = -1) := propext ⟨fun z => Decidable.byContradiction (fun y => (fi_le hD hn2 y).2 z), fun z => by rw [z]; decide⟩; have hlen := VB_len hn2 (fun i hi => (hL.2.2 i hi).2.2.2) hB19_3; have h5b : firF (pM I n) m t = -1 := (by simpa using h5); simp [stM, h1, h2, h4, h5, bI, hfi, eq_true h5b], hE, rfl⟩
      · refine Z.tableIn (off := 86) (tgt := 118) dX6_state_32 (by rw [h4]; decide) (by rw [h4]; decide) (by rw [h4]; decide) (by decide) ?_
        refine Z.aload_n dX6_state_118 rfl ?_
        refine Z.getR (r := 19) dX6_state_119 cl6 flX6_49 (by decide) (fx0 hF) rfl ?_
        refine Z.getIv (v := bI (strF (pM I n) m t)) dX6_state_122 cl5 flX6_211 (by decide) (fx19 hF) (hA19_3.2.2.2.2.2.1) ?_
        refine Z.if_eqB (tgt := 132) dX6_state_125 (by decide) (fun h7 => ?_) (fun h7 => ?_)
        · refine Z.iconst (v := 0) dX6_state_132 (by decide) ?_
          exact Z.iret dX6_state_133 rfl ⟨by have hfi : (firF (pM I n) m t < 0) = (firF (pM I n) m t = -1) := propext ⟨fun z => Decidable.byContradiction (fun y => (fi_le hD hn2 y).2 z), fun z => by rw [z]; decide⟩; have hlen := VB_len hn2 (fun i hi => (hL.2.2 i hi).2.2.2) hB19_3; simp [stM, h1, h2, h4, h7, bI, hfi], hE, rfl⟩
        · refine Z.iconst (v := 1) dX6_state_128 (by decide) ?_
          refine Z.goto (tgt := 133) dX6_state_129 (by decide) ?_
          exact Z.iret dX6_state_133 rfl ⟨by have hfi : (firF (pM I n) m t < 0) = (firF (pM I n) m t = -1) := propext ⟨fun z => Decidable.byContradiction (fun y => (fi_le hD hn2 y).2 z), fun z => by rw [z]; decide⟩; have hlen := VB_len hn2 (fun i hi => (hL.2.2 i hi).2.2.2) hB19_3; simp [stM, h1, h2, h4, h7, bI, hfi], hE, rfl⟩
      · refine Z.tableIn (off := 102) (tgt := 134) dX6_state_32 (by rw [h4]; decide) (by rw [h4]; decide) (by rw [h4]; decide) (by decide) ?_
        refine Z.aload_n dX6_state_134 rfl ?_
        refine Z.getR (r := 19) dX6_state_135 cl6 flX6_49 (by decide) (fx0 hF) rfl ?_
        refine Z.getIv (v := nI K19_3) dX6_state_138 cl5 flX6_215 (by decide) (fx19 hF) (hA19_3.2.2.2.2.2.2.2.2.1) ?_
        exact Z.iret dX6_state_141 rfl ⟨by have hfi : (firF (pM I n) m t < 0) = (firF (pM I n) m t = -1) := propext ⟨fun z => Decidable.byContradiction (fun y => (fi_le hD hn2 y).2 z), fun z => by rw [z]; decide⟩; have hlen := VB_len hn2 (fun i hi => (hL.2.2 i hi).2.2.2) hB19_3; simp [stM, h1, h2, h4, bI, hfi, ← hlen], hE, rfl⟩
      · refine Z.tableIn (off := 110) (tgt := 142) dX6_state_32 (by rw [h4]; decide) (by rw [h4]; decide) (by rw [h4]; decide) (by decide) ?_
        refine Z.aload_n dX6_state_142 rfl ?_
        refine Z.getR (r := 19) dX6_state_143 cl6 flX6_49 (by decide) (fx0 hF) rfl ?_
        refine Z.getIv (v := nI (cntF (pM I n) 1 m t)) dX6_state_146 cl5 flX6_216 (by decide) (fx19 hF) (hA19_3.2.2.2.1) ?_
        exact Z.iret dX6_state_149 rfl ⟨by have hfi : (firF (pM I n) m t < 0) = (firF (pM I n) m t = -1) := propext ⟨fun z => Decidable.byContradiction (fun y => (fi_le hD hn2 y).2 z), fun z => by rw [z]; decide⟩; have hlen := VB_len hn2 (fun i hi => (hL.2.2 i hi).2.2.2) hB19_3; simp [stM, h1, h2, h4, bI, hfi], hE, rfl⟩
      · refine Z.tableOut (tgt := 150) dX6_state_32 h4 (by decide) ?_
        refine Z.iconst (v := (-1)) dX6_state_150 (by decide) ?_
        exact Z.iret dX6_state_151 rfl ⟨by have hfi : (firF (pM I n) m t < 0) = (firF (pM I n) m t = -1) := propext ⟨fun z => Decidable.byContradiction (fun y => (fi_le hD hn2 y).2 z), fun z => by rw [z]; decide⟩; have hlen := VB_len hn2 (fun i hi => (hL.2.2 i hi).2.2.2) hB19_3; have hq_ := sw05_o h4; simp [stM, hq_.1, hq_.2.1, hq_.2.2.1, hq_.2.2.2.1, hq_.2.2.2.2.1, hq_.2.2.2.2.2, h1, h2, bI, hfi], hE, rfl⟩
    · refine Z.iconst (v := (-1)) dX6_state_15 (by decide) ?_
      exact Z.iret dX6_state_16 rfl ⟨by simp [stM, h1, h2], hE, rfl⟩
  · refine Z.callVp (M := mX6_state) (pc := 2) (st := []) (N := mX6_markAt) (n := 1) (r := .null) dX6_state_2 mlX6_94 mkX6_markAt imX6_markAt seX6_markAt (fx0 hF) cl6 rfl (d1 := 1) (by decide) (As := [.int m]) rfl ⟨rfl, Nat.le_of_ble_eq_true rfl⟩ ⟨rfl, Nat.le_of_ble_eq_true rfl⟩ (cc_markAtF hE m hF hC hm hz h1) rfl ?_
    refine Z.ifnullN (tgt := 15) dX6_state_5 (by decide) ?_
    refine Z.iconst (v := (-1)) dX6_state_15 (by decide) ?_
    exact Z.iret dX6_state_16 rfl ⟨by simp [stM, h1], hE, rfl⟩

def clO (I : IM) (n : Nat) (pe : Int32) (a : Nat) (t : Int32) : Int32 := if I 44 a = pe then 1 else if (!decide (latF (pM I n) 5 (nI a) pe t < 0)) = true then 2 else if (!decide (latF (pM I n) 8 (nI a) pe t < 0)) = true then 3 else 0
set_option maxHeartbeats 4000000 in
set_option maxRecDepth 100000 in
theorem cc_claimOf {g : GP} {I J : IM} {S : SH} (hE : Ex I J) (pe : Int32) (a : Nat) (t : Int32) (hF : Fx S) (hC : Cp I) {n : Nat} (hn : Mp I n) {nq : Nat} (hq : Mq I nq) (hcq : Cq I nq) (hM : MIv I) {mm : Nat} (hm : Mm I mm) (hz : Mz I S mm) (hL : LG I n) (ha : a < mm) (hpe : ¬ pe = -1) : Z g 2 0 0 mX6_claimOf 0 (enL mX6_claimOf [.ref 0, .int pe, .int (nI a), .int t]) [] J S (PQ (.int (clO I n pe a t)) J S) := by
  show Z g 2 0 0 mX6_claimOf 0 [.ref 0, .int pe, .int (nI a), .int t, .retAddr 0] [] J S _
  have hn2 := hn.2
  have hq2 := hq.2
  have hm2 := hm.2
  have hD := hL.1
  have hso := hL.2.1
  refine Z.aload_n dX6_claimOf_0 rfl ?_
  refine Z.iload_n dX6_claimOf_1 rfl ?_
  have l_a : a < mm := by omega
  have h_a : a < 120 := by omega
  have ho_a := hz.2 _ l_a
  have hl_a := hM.2.2.1 _ h_a
  have hc_a := hM.2.2.2.1 _ h_a
  have hl2_a := hl_a.2
  have hc2_a := hc_a.2
  have hcl_a := ho_a.2.2
  have h12_a := clL_le (I := I) (j := a)
  refine Z.callVp (M := mX6_claimOf) (pc := 2) (st := []) (N := mX6_markAt) (n := 1) (r := .ref (58 + 3 * a)) dX6_claimOf_2 mlX6_94 mkX6_markAt imX6_markAt seX6_markAt (fx0 hF) cl6 rfl (d1 := 1) (by decide) (As := [.int (nI a)]) rfl ⟨rfl, Nat.le_of_ble_eq_true rfl⟩ ⟨rfl, Nat.le_of_ble_eq_true rfl⟩ (cc_markAtN hE a hF hC hm hz (by omega)) rfl ?_
  refine Z.astore (L' := [.ref 0, .int pe, .int (nI a), .int t, .ref (58 + 3 * a)]) dX6_claimOf_5 (Nat.le_of_ble_eq_true rfl) rfl ?_
  refine Z.aload dX6_claimOf_7 rfl ?_
  refine Z.ifnull dX6_claimOf_9 ?_
  refine Z.aload dX6_claimOf_12 rfl ?_
  refine Z.getIv (v := I 44 a) dX6_claimOf_14 cl1 flX6_169 (by decide) ho_a.1.1 ((hE.at (58 + 3 * a) 1 (scr58_0 a)).trans ho_a.2.1.2.1) ?_
  refine Z.iload_n dX6_claimOf_17 rfl ?_
  refine Z.icmp_ne (tgt := 23) dX6_claimOf_18 (by decide) (fun h1 => ?_) (fun h1 => ?_)
  · refine Z.aload_n dX6_claimOf_23 rfl ?_
    refine Z.getR (r := 14) dX6_claimOf_24 cl6 flX6_32 (by decide) (fx0 hF) rfl ?_
    refine Z.iconst (v := 5) dX6_claimOf_27 (by decide) ?_
    refine Z.iload_n dX6_claimOf_28 rfl ?_
    refine Z.iload_n dX6_claimOf_29 rfl ?_
    refine Z.iload_n dX6_claimOf_30 rfl ?_
    refine Z.callVp (M := mX6_claimOf) (pc := 31) (st := []) (N := mX3_tell) (n := 4) (r := .int (bI (!decide (latF (pM I n) 5 (nI a) pe t < 0)))) dX6_claimOf_31 mlX6_255 mkX3_tell imX3_tell seX3_tell (fx14 hF) cl3 rfl (d1 := 0) (by decide) (As := [.int 5, .int (nI a), .int pe, .int t]) rfl ⟨rfl, Nat.le_of_ble_eq_true rfl⟩ ⟨rfl, Nat.le_of_ble_eq_true rfl⟩ (cc_tell3 hE 5 (nI a) pe t hF hC hn hso hpe) rfl ?_
    refine Z.if_eqB (tgt := 39) dX6_claimOf_34 (by decide) (fun h2 => ?_) (fun h2 => ?_)
    · refine Z.aload_n dX6_claimOf_39 rfl ?_
      refine Z.getR (r := 14) dX6_claimOf_40 cl6 flX6_32 (by decide) (fx0 hF) rfl ?_
      refine Z.bipush (v := 8) dX6_claimOf_43 (by decide) ?_
      refine Z.iload_n dX6_claimOf_45 rfl ?_
      refine Z.iload_n dX6_claimOf_46 rfl ?_
      refine Z.iload_n dX6_claimOf_47 rfl ?_
      refine Z.callVp (M := mX6_claimOf) (pc := 48) (st := []) (N := mX3_tell) (n := 4) (r := .int (bI (!decide (latF (pM I n) 8 (nI a) pe t < 0)))) dX6_claimOf_48 mlX6_255 mkX3_tell imX3_tell seX3_tell (fx14 hF) cl3 rfl (d1 := 0) (by decide) (As := [.int 8, .int (nI a), .int pe, .int t]) rfl ⟨rfl, Nat.le_of_ble_eq_true rfl⟩ ⟨rfl, Nat.le_of_ble_eq_true rfl⟩ (cc_tell3 hE 8 (nI a) pe t hF hC hn hso hpe) rfl ?_
      refine Z.if_eqB (tgt := 58) dX6_claimOf_51 (by decide) (fun h3 => ?_) (fun h3 => ?_)
      · refine Z.iconst (v := 0) dX6_claimOf_58 (by decide) ?_
        exact Z.iret dX6_claimOf_59 rfl ⟨by rw [clO, if_neg h1, if_neg (by rw [h2]; decide), if_neg (by rw [h3]; decide)], rfl, rfl⟩
      · refine Z.iconst (v := 3) dX6_claimOf_54 (by decide) ?_
        refine Z.goto (tgt := 59) dX6_claimOf_55 (by decide) ?_
        exact Z.iret dX6_claimOf_59 rfl ⟨by rw [clO, if_neg h1, if_neg (by rw [h2]; decide), if_pos h3], rfl, rfl⟩
    · refine Z.iconst (v := 2) dX6_claimOf_37 (by decide) ?_
      exact Z.iret dX6_claimOf_38 rfl ⟨by rw [clO, if_neg h1, if_pos h2], rfl, rfl⟩
  · refine Z.iconst (v := 1) dX6_claimOf_21 (by decide) ?_
    exact Z.iret dX6_claimOf_22 rfl ⟨by rw [clO, if_pos h1], rfl, rfl⟩

set_option maxHeartbeats 4000000 in
set_option maxRecDepth 100000 in
theorem cc_isNear {g : GP} {I J : IM} {S : SH} (hE : Ex I J) (g_ h_ : Int32) (hF : Fx S) (hC : Cp I) {n : Nat} (hn : Mp I n) {nq : Nat} (hq : Mq I nq) (hcq : Cq I nq) (hM : MIv I) {mm : Nat} (hm : Mm I mm) (hz : Mz I S mm) (hL : LG I n) {K : Nat} {a c t : Int32} (hA : VA I n a c t (J 19) K) (hB : VB I n a t (J 20) (J 21) (J 22) (J 23) K) : Z g 2 0 0 mX6_isNear 0 (enL mX6_isNear [.ref 0, .int g_, .int h_]) [] J S (PQ (.int (bI (neF (pM I n) (qM I nq) (I 35 9) a g_ h_ t))) J S) := by
  show Z g 2 0 0 mX6_isNear 0 [.ref 0, .int g_, .int h_] [] J S _
  have hn2 := hn.2
  have hq2 := hq.2
  have hm2 := hm.2
  have hD := hL.1
  have hso := hL.2.1
  refine Z.aload_n dX6_isNear_0 rfl ?_
  refine Z.getR (r := 19) dX6_isNear_1 cl6 flX6_49 (by decide) (fx0 hF) rfl ?_
  refine Z.getIv (v := bI (!decide (latF (pM I n) 7 a (-1) t < 0))) dX6_isNear_4 cl5 flX6_263 (by decide) (fx19 hF) (hA.2.2.2.2.2.2.1) ?_
  refine Z.if_neB (tgt := 26) dX6_isNear_7 (by decide) (fun h1 => ?_) (fun h1 => ?_)
  · refine Z.iconst (v := 1) dX6_isNear_26 (by decide) ?_
    refine Z.goto (tgt := 31) dX6_isNear_27 (by decide) ?_
    exact Z.zret dX6_isNear_31 rfl (by decide) ⟨by rw [neF]; simp only [h1]; simp [bI], rfl, rfl⟩
  · refine Z.aload_n dX6_isNear_10 rfl ?_
    refine Z.getR (r := 9) dX6_isNear_11 cl6 flX6_19 (by decide) (fx0 hF) rfl ?_
    refine Z.iload_n dX6_isNear_14 rfl ?_
    refine Z.iload_n dX6_isNear_15 rfl ?_
    refine Z.callVp (M := mX6_isNear) (pc := 16) (st := []) (N := mX2_nearOf) (n := 2) (r := .int (nearF (qM I nq) g_ h_)) dX6_isNear_16 mlX6_279 mkX2_nearOf imX2_nearOf seX2_nearOf (fx9 hF) cl2 rfl (d1 := 1) (by decide) (As := [.int g_, .int h_]) rfl ⟨rfl, Nat.le_of_ble_eq_true rfl⟩ ⟨rfl, Nat.le_of_ble_eq_true rfl⟩ (cc_nearOf hE g_ h_ hF hC hq hcq) rfl ?_
    refine Z.aload_n dX6_isNear_19 rfl ?_
    refine Z.getIv (v := I 35 9) dX6_isNear_20 cl6 flX6_43 (by decide) (fx0 hF) ((hE.at 0 6 rfl).trans hC.f0_6) ?_
    refine Z.icmp_lt (tgt := 30) dX6_isNear_23 (by decide) (fun h2 => ?_) (fun h2 => ?_)
    · refine Z.iconst (v := 0) dX6_isNear_30 (by decide) ?_
      exact Z.zret dX6_isNear_31 rfl (by decide) ⟨by rw [neF]; simp only [h1, h2]; simp [bI], rfl, rfl⟩
    · refine Z.iconst (v := 1) dX6_isNear_26 (by decide) ?_
      refine Z.goto (tgt := 31) dX6_isNear_27 (by decide) ?_
      exact Z.zret dX6_isNear_31 rfl (by decide) ⟨by rw [neF]; simp only [h1, h2]; simp [bI], rfl, rfl⟩

