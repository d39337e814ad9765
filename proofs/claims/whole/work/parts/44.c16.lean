set_option maxHeartbeats 4000000 in
set_option maxRecDepth 100000 in
theorem lc_oppose {g : GP} {I : IM} {S : SH} (m by_ t : Int32) (hF : Fx S) (hC : Cp I) {n : Nat} (hn : Mp I n) {nq : Nat} (hq : Mq I nq) (hcq : Cq I nq) (hM : MIv I) {mm : Nat} (hm : Mm I mm) (hz : Mz I S mm) (hL : LG I n) (hR : RX I n) (e_m : m = nI m.toNatClampNeg) (hmm : m.toNatClampNeg < mm) (hbb : by_.toNatClampNeg < mm) (hok : opK I n nq m by_ t = anU (fun c => !decide (coF I n nq by_.toNatClampNeg m.toNatClampNeg (nI c) t < 0)) 16) : ∀ c, c ≤ 16 → ∀ J, Ex I J → anU (fun c => !decide (coF I n nq by_.toNatClampNeg m.toNatClampNeg (nI c) t < 0)) c = false → Z g 6 0 0 mX6_oppose 68 [.ref 0, .int (nI (m.toNatClampNeg)), .int (nI (by_.toNatClampNeg)), .int t, .int (nI c)] [] J S (NQ (.int (if opK I n nq m by_ t = true then (if pkB I n 4 m 0 t = true then nI n else -1) else -1)) (if opK I n nq m by_ t = true then (if pkB I n 4 m 0 t = true then paN I n 4 m 0 t else I) else I) S) := by
  have hn2 := hn.2
  have hq2 := hq.2
  have hm2 := hm.2
  have hD := hL.1
  have hso := hL.2.1
  refine upZ 16 (fun c hi ih J hE hno => ?_)
  refine Z.iload dX6_oppose_68 rfl ?_
  refine Z.bipush (v := 16) dX6_oppose_70 (by decide) ?_
  refine Z.icmp_geN (a := c) (b := 16) (by omega) (by decide) (tgt := 109) dX6_oppose_72 (by decide) (fun h1 => ?_) (fun h1 => ?_)
  · refine Z.iconst (v := (-1)) dX6_oppose_109 (by decide) ?_
    exact Z.iret dX6_oppose_110 rfl ⟨by rw [if_neg (by rw [hok, show 16 = c by omega, hno]; decide)], by rw [if_neg (by rw [hok, show 16 = c by omega, hno]; decide)]; exact hE, rfl⟩
  · refine Z.aload_n dX6_oppose_75 rfl ?_
    refine Z.iload_n dX6_oppose_76 rfl ?_
    refine Z.iload_n dX6_oppose_77 rfl ?_
    refine Z.iload dX6_oppose_78 rfl ?_
    refine Z.iload_n dX6_oppose_80 rfl ?_
    refine Z.callVg (M := mX6_oppose) (pc := 81) (st := []) (N := mX6_findClash) (n := 4) dX6_oppose_81 mlX6_137 mkX6_findClash imX6_findClash seX6_findClash (fx0 hF) cl6 rfl (d1 := 5) (by decide) (As := [.int (nI (by_.toNatClampNeg)), .int (nI (m.toNatClampNeg)), .int (nI c), .int t]) rfl ⟨rfl, Nat.le_of_ble_eq_true rfl⟩ ⟨rfl, Nat.le_of_ble_eq_true rfl⟩ (cc_findClash hE by_.toNatClampNeg m.toNatClampNeg (nI c) t hF hC hn hq hcq hM hm hz hL hR (by omega) (by omega) (nI_nm1 (by omega))) rfl (fun v_ J1 S_ h_ => ?_)
    obtain ⟨rfl, hE, hp2, hr2, rfl⟩ := h_
    refine Z.aload_n dX6_oppose_84 rfl ?_
    refine Z.getR (r := 34) dX6_oppose_85 cl6 flX6_62 (by decide) (fx0 hF) rfl ?_
    refine Z.callVp (M := mX6_oppose) (pc := 88) (st := []) (N := mX0_isThere) (n := 0) (r := .int (bI (!decide (coF I n nq by_.toNatClampNeg m.toNatClampNeg (nI c) t = -1)))) dX6_oppose_88 mlX6_141 mkX0_isThere imX0_isThere seX0_isThere (fx34 hF) cl0 rfl (d1 := 0) (by decide) (As := []) rfl ⟨rfl, Nat.le_of_ble_eq_true rfl⟩ ⟨rfl, Nat.le_of_ble_eq_true rfl⟩ (by have e := cc_isThere (g := g) (J := J1) hE hF; rw [hp2] at e; exact e) rfl ?_
    refine Z.if_eqB (tgt := 103) dX6_oppose_91 (by decide) (fun h3 => ?_) (fun h3 => ?_)
    · refine Z.iinc (v := nI (c + 1)) (L' := [.ref 0, .int (nI (m.toNatClampNeg)), .int (nI (by_.toNatClampNeg)), .int t, .int (nI (c + 1))]) dX6_oppose_103 rfl (nI_1 _) rfl ?_
      refine Z.goto (tgt := 68) dX6_oppose_106 (by decide) ?_
      exact ih (by omega) _ hE (by unfold anU; rw [hno, Bool.false_or]; show (!decide (coF I n nq by_.toNatClampNeg m.toNatClampNeg (nI c) t < 0)) = false; rw [← h3]; congr 1; exact decide_eq_decide.mpr (co_ng hR).symm)
    · refine Z.eqLs (L' := [.ref 0, .int m, .int (nI (by_.toNatClampNeg)), .int t, .int (nI c)]) (st' := []) (by rw [← e_m]) (by first | rfl | rw [← e_m]) ?_
      refine Z.aload_n dX6_oppose_94 rfl ?_
      refine Z.iconst (v := 4) dX6_oppose_95 (by decide) ?_
      refine Z.iload_n dX6_oppose_96 rfl ?_
      refine Z.iconst (v := 0) dX6_oppose_97 (by decide) ?_
      refine Z.iload_n dX6_oppose_98 rfl ?_
      refine Z.callVg (M := mX6_oppose) (pc := 99) (st := []) (N := mX6_paper) (n := 4) dX6_oppose_99 mlX6_144 mkX6_paper imX6_paper seX6_paper (fx0 hF) cl6 rfl (d1 := 4) (by decide) (As := [.int 4, .int m, .int 0, .int t]) rfl ⟨rfl, Nat.le_of_ble_eq_true rfl⟩ ⟨rfl, Nat.le_of_ble_eq_true rfl⟩ (cb_paper hE 4 m 0 t hF hC hn hq hcq hM hm hz hL) rfl (fun v_ J2 S_ h_ => ?_)
      obtain ⟨rfl, hE2, rfl⟩ := h_
      exact Z.iret dX6_oppose_102 rfl ⟨by rw [if_pos (show opK I n nq m by_ t = true by rw [hok, anU_iff]; exact ⟨c, by omega, by rw [← h3]; congr 1; exact decide_eq_decide.mpr (co_ng hR).symm⟩)], by rw [if_pos (show opK I n nq m by_ t = true by rw [hok, anU_iff]; exact ⟨c, by omega, by rw [← h3]; congr 1; exact decide_eq_decide.mpr (co_ng hR).symm⟩)]; exact hE2, rfl⟩

theorem op_t {I : IM} {n nq : Nat} {m by_ t : Int32} (hD : Dn I n) (hn4 : n ≤ 400) (h1 : inB m 0 (I 35 10 - 1) = true) (h2 : inB by_ 0 (I 35 10 - 1) = true) (h3 : inB t 0 60000 = true) (h4 : (!decide (firF (pM I n) m t = -1)) = true) (h5 : ¬ 90 < t - firF (pM I n) m t) : opK I n nq m by_ t = anU (fun c => !decide (coF I n nq by_.toNatClampNeg m.toNatClampNeg (nI c) t < 0)) 16 := by
  unfold opK opB
  rw [h1, h2, h3, fi_ng hD hn4, h4, decide_eq_false h5]
  cases anU (fun c => !decide (coF I n nq by_.toNatClampNeg m.toNatClampNeg (nI c) t < 0)) 16 <;> rfl
theorem op_f4 {I : IM} {n nq : Nat} {m by_ t : Int32} (hD : Dn I n) (hn4 : n ≤ 400) (h4 : (!decide (firF (pM I n) m t = -1)) = false) : opK I n nq m by_ t = false := by
  unfold opK opB
  rw [fi_ng hD hn4, h4]
  cases anU (fun c => !decide (coF I n nq by_.toNatClampNeg m.toNatClampNeg (nI c) t < 0)) 16 <;> cases inB m 0 (I 35 10 - 1) <;> cases inB by_ 0 (I 35 10 - 1) <;> cases inB t 0 60000 <;> rfl
theorem op_f5 {I : IM} {n nq : Nat} {m by_ t : Int32} (h5 : 90 < t - firF (pM I n) m t) : opK I n nq m by_ t = false := by
  unfold opK opB
  rw [decide_eq_true h5]
  cases anU (fun c => !decide (coF I n nq by_.toNatClampNeg m.toNatClampNeg (nI c) t < 0)) 16 <;> cases inB m 0 (I 35 10 - 1) <;> cases inB by_ 0 (I 35 10 - 1) <;> cases inB t 0 60000 <;> cases decide (firF (pM I n) m t < 0) <;> rfl
set_option maxHeartbeats 4000000 in
set_option maxRecDepth 100000 in
theorem cb_oppose {g : GP} {I J : IM} {S : SH} (hE : Ex I J) (m by_ t : Int32) (hF : Fx S) (hC : Cp I) {n : Nat} (hn : Mp I n) {nq : Nat} (hq : Mq I nq) (hcq : Cq I nq) (hM : MIv I) {mm : Nat} (hm : Mm I mm) (hz : Mz I S mm) (hL : LG I n) (hR : RX I n) : Z g 6 0 0 mX6_oppose 0 (enL mX6_oppose [.ref 0, .int m, .int by_, .int t]) [] J S (NQ (.int (if opK I n nq m by_ t = true then (if pkB I n 4 m 0 t = true then nI n else -1) else -1)) (if opK I n nq m by_ t = true then (if pkB I n 4 m 0 t = true then paN I n 4 m 0 t else I) else I) S) := by
  show Z g 6 0 0 mX6_oppose 0 [.ref 0, .int m, .int by_, .int t, .retAddr 0] [] J S _
  have hn2 := hn.2
  have hq2 := hq.2
  have hm2 := hm.2
  have hD := hL.1
  have hso := hL.2.1
  refine Z.aload_n dX6_oppose_0 rfl ?_
  refine Z.iload_n dX6_oppose_1 rfl ?_
  rcases Bool.eq_false_or_eq_true (inB m 0 (I 35 10 - 1)) with h1 | h1
  · have l_m : m.toNatClampNeg < mm := (mk_rg hm.1 hm.2 h1).2
    have h_m : m.toNatClampNeg < 120 := by omega
    have ho_m := hz.2 _ l_m
    have hl_m := hM.2.2.1 _ h_m
    have hc_m := hM.2.2.2.1 _ h_m
    have hl2_m := hl_m.2
    have hc2_m := hc_m.2
    have hcl_m := ho_m.2.2
    have h12_m := clL_le (I := I) (j := m.toNatClampNeg)
    refine Z.callVp (M := mX6_oppose) (pc := 2) (st := []) (N := mX6_markAt) (n := 1) (r := .ref (58 + 3 * m.toNatClampNeg)) dX6_oppose_2 mlX6_94 mkX6_markAt imX6_markAt seX6_markAt (fx0 hF) cl6 rfl (d1 := 1) (by decide) (As := [.int m]) rfl ⟨rfl, Nat.le_of_ble_eq_true rfl⟩ ⟨rfl, Nat.le_of_ble_eq_true rfl⟩ (cc_markAtT hE m hF hC hm hz h1) rfl ?_
    refine Z.ifnull dX6_oppose_5 ?_
    refine Z.aload_n dX6_oppose_8 rfl ?_
    refine Z.iload_n dX6_oppose_9 rfl ?_
    rcases Bool.eq_false_or_eq_true (inB by_ 0 (I 35 10 - 1)) with h2 | h2
    · have l_by_ : by_.toNatClampNeg < mm := (mk_rg hm.1 hm.2 h2).2
      have h_by_ : by_.toNatClampNeg < 120 := by omega
      have ho_by_ := hz.2 _ l_by_
      have hl_by_ := hM.2.2.1 _ h_by_
      have hc_by_ := hM.2.2.2.1 _ h_by_
      have hl2_by_ := hl_by_.2
      have hc2_by_ := hc_by_.2
      have hcl_by_ := ho_by_.2.2
      have h12_by_ := clL_le (I := I) (j := by_.toNatClampNeg)
      refine Z.callVp (M := mX6_oppose) (pc := 10) (st := []) (N := mX6_markAt) (n := 1) (r := .ref (58 + 3 * by_.toNatClampNeg)) dX6_oppose_10 mlX6_94 mkX6_markAt imX6_markAt seX6_markAt (fx0 hF) cl6 rfl (d1 := 1) (by decide) (As := [.int by_]) rfl ⟨rfl, Nat.le_of_ble_eq_true rfl⟩ ⟨rfl, Nat.le_of_ble_eq_true rfl⟩ (cc_markAtT hE by_ hF hC hm hz h2) rfl ?_
      refine Z.ifnull dX6_oppose_13 ?_
      refine Z.iload_n dX6_oppose_16 rfl ?_
      refine Z.callSp (M := mX6_oppose) (pc := 17) (st := []) (N := mX6_isDay) (n := 1) (r := .int (bI (inB t 0 60000))) dX6_oppose_17 mlX6_112 mkX6_isDay stX6_isDay (d1 := 0) (by decide) (As := [.int t]) rfl ⟨rfl, Nat.le_of_ble_eq_true rfl⟩ ⟨rfl, Nat.le_of_ble_eq_true rfl⟩ (cc_isDay hE t) rfl ?_
      refine Z.if_neB (tgt := 25) dX6_oppose_20 (by decide) (fun h3 => ?_) (fun h3 => ?_)
      · refine Z.aload_n dX6_oppose_25 rfl ?_
        refine Z.getR (r := 19) dX6_oppose_26 cl6 flX6_49 (by decide) (fx0 hF) rfl ?_
        refine Z.aload_n dX6_oppose_29 rfl ?_
        refine Z.getR (r := 14) dX6_oppose_30 cl6 flX6_32 (by decide) (fx0 hF) rfl ?_
        refine Z.iload_n dX6_oppose_33 rfl ?_
        refine Z.iconst (v := (-1)) dX6_oppose_34 (by decide) ?_
        refine Z.iload_n dX6_oppose_35 rfl ?_
        refine Z.callVg (M := mX6_oppose) (pc := 36) (st := []) (N := mX5_read) (n := 4) dX6_oppose_36 mlX6_118 mkX5_read imX5_read seX5_read (fx19 hF) cl5 rfl (d1 := 3) (by decide) (As := [.ref 14, .int m, .int ((-1)), .int t]) rfl ⟨rfl, Nat.le_of_ble_eq_true rfl⟩ ⟨rfl, Nat.le_of_ble_eq_true rfl⟩ (cv_read19 hE m (-1) t hF hC hn hL) rfl (fun v_ J1 S_ h_ => ?_)
        obtain ⟨rfl, hw4, ⟨K19_4, hA19_4, hB19_4⟩, rfl⟩ := h_
        have hE := AW19.ex hw4 hE
        have hK19_4 := hA19_4.2.2.2.2.2.2.2.2.2
        refine Z.aload_n dX6_oppose_39 rfl ?_
        refine Z.getR (r := 19) dX6_oppose_40 cl6 flX6_49 (by decide) (fx0 hF) rfl ?_
        refine Z.callVp (M := mX6_oppose) (pc := 43) (st := []) (N := mX5_isEntered) (n := 0) (r := .int (bI (!decide (firF (pM I n) m t = -1)))) dX6_oppose_43 mlX6_130 mkX5_isEntered imX5_isEntered seX5_isEntered (fx19 hF) cl5 rfl (d1 := 0) (by decide) (As := []) rfl ⟨rfl, Nat.le_of_ble_eq_true rfl⟩ ⟨rfl, Nat.le_of_ble_eq_true rfl⟩ (cq_isEntered19 hE hF hC hn2 hD hA19_4 hB19_4) rfl ?_
        refine Z.if_eqB (tgt := 63) dX6_oppose_46 (by decide) (fun h5 => ?_) (fun h5 => ?_)
        · refine Z.iconst (v := (-1)) dX6_oppose_63 (by decide) ?_
          exact Z.iret dX6_oppose_64 rfl ⟨by rw [if_neg (by rw [op_f4 hD hn2 h5]; decide)], by rw [if_neg (by rw [op_f4 hD hn2 h5]; decide)]; exact hE, rfl⟩
        · refine Z.iload_n dX6_oppose_49 rfl ?_
          refine Z.aload_n dX6_oppose_50 rfl ?_
          refine Z.getR (r := 19) dX6_oppose_51 cl6 flX6_49 (by decide) (fx0 hF) rfl ?_
          refine Z.getIv (v := firF (pM I n) m t) dX6_oppose_54 cl5 flX6_134 (by decide) (fx19 hF) (hA19_4.2.1) ?_
          refine Z.isub dX6_oppose_57 ?_
          refine Z.bipush (v := 90) dX6_oppose_58 (by decide) ?_
          refine Z.icmp_le (tgt := 65) dX6_oppose_60 (by decide) (fun h6 => ?_) (fun h6 => ?_)
          · have e_m := (mk_rg hm.1 hm.2 h1).1
            refine Z.eqLs (L' := [.ref 0, .int (nI (m.toNatClampNeg)), .int by_, .int t, .retAddr 0]) (st' := []) (by rw [← e_m]) (by first | rfl | rw [← e_m]) ?_
            have e_by_ := (mk_rg hm.1 hm.2 h2).1
            refine Z.eqLs (L' := [.ref 0, .int (nI (m.toNatClampNeg)), .int (nI (by_.toNatClampNeg)), .int t, .retAddr 0]) (st' := []) (by rw [← e_by_]) (by first | rfl | rw [← e_by_]) ?_
            refine Z.iconst (v := 0) dX6_oppose_65 (by decide) ?_
            refine Z.istore (L' := [.ref 0, .int (nI (m.toNatClampNeg)), .int (nI (by_.toNatClampNeg)), .int t, .int 0]) dX6_oppose_66 (Nat.le_of_ble_eq_true rfl) rfl ?_
            exact lc_oppose m by_ t hF hC hn hq hcq hM hm hz hL hR e_m l_m l_by_ (op_t hD hn2 h1 h2 h3 h5 h6) 0 (Nat.zero_le _) _ hE rfl
          · refine Z.iconst (v := (-1)) dX6_oppose_63 (by decide) ?_
            exact Z.iret dX6_oppose_64 rfl ⟨by rw [if_neg (by rw [op_f5 h6]; decide)], by rw [if_neg (by rw [op_f5 h6]; decide)]; exact hE, rfl⟩
      · refine Z.iconst (v := (-1)) dX6_oppose_23 (by decide) ?_
        exact Z.iret dX6_oppose_24 rfl ⟨by rw [if_neg (by simp [opK, h1, h2, h3])], by rw [if_neg (by simp [opK, h1, h2, h3])]; exact hE, rfl⟩
    · refine Z.callVp (M := mX6_oppose) (pc := 10) (st := []) (N := mX6_markAt) (n := 1) (r := .null) dX6_oppose_10 mlX6_94 mkX6_markAt imX6_markAt seX6_markAt (fx0 hF) cl6 rfl (d1 := 1) (by decide) (As := [.int by_]) rfl ⟨rfl, Nat.le_of_ble_eq_true rfl⟩ ⟨rfl, Nat.le_of_ble_eq_true rfl⟩ (cc_markAtF hE by_ hF hC hm hz h2) rfl ?_
      refine Z.ifnullN (tgt := 23) dX6_oppose_13 (by decide) ?_
      refine Z.iconst (v := (-1)) dX6_oppose_23 (by decide) ?_
      exact Z.iret dX6_oppose_24 rfl ⟨by rw [if_neg (by simp [opK, h1, h2])], by rw [if_neg (by simp [opK, h1, h2])]; exact hE, rfl⟩
  · refine Z.callVp (M := mX6_oppose) (pc := 2) (st := []) (N := mX6_markAt) (n := 1) (r := .null) dX6_oppose_2 mlX6_94 mkX6_markAt imX6_markAt seX6_markAt (fx0 hF) cl6 rfl (d1 := 1) (by decide) (As := [.int m]) rfl ⟨rfl, Nat.le_of_ble_eq_true rfl⟩ ⟨rfl, Nat.le_of_ble_eq_true rfl⟩ (cc_markAtF hE m hF hC hm hz h1) rfl ?_
    refine Z.ifnullN (tgt := 23) dX6_oppose_5 (by decide) ?_
    refine Z.iconst (v := (-1)) dX6_oppose_23 (by decide) ?_
    exact Z.iret dX6_oppose_24 rfl ⟨by rw [if_neg (by simp [opK, h1])], by rw [if_neg (by simp [opK, h1])]; exact hE, rfl⟩

