set_option maxHeartbeats 4000000 in
set_option maxRecDepth 100000 in
theorem cb_about {g : GP} {I J : IM} {S : SH} (hE : Ex I J) (w : Int32) (hF : Fx S) (hC : Cp I) {n : Nat} (hn : Mp I n) {nq : Nat} (hq : Mq I nq) (hcq : Cq I nq) (hM : MIv I) {mm : Nat} (hm : Mm I mm) (hz : Mz I S mm) : Z g 1 0 0 mX6_about 0 (enL mX6_about [.ref 0, .int w]) [] J S (NQ (.int (abM I n nq mm w)) I S) := by
  show Z g 1 0 0 mX6_about 0 [.ref 0, .int w] [] J S _
  have hn2 := hn.2
  have hq2 := hq.2
  have hm2 := hm.2
  refine Z.iload_n dX6_about_0 rfl ?_
  rcases sw_0_5 w with h1 | h1 | h1 | h1 | h1 | h1 | h1
  · refine Z.tableIn (off := 39) (tgt := 40) dX6_about_1 (by rw [h1]; decide) (by rw [h1]; decide) (by rw [h1]; decide) (by decide) ?_
    refine Z.aload_n dX6_about_40 rfl ?_
    refine Z.getIv (v := nI mm) dX6_about_41 cl6 flX6_36 (by decide) (fx0 hF) (((hE.at 0 4 rfl).trans hC.f0_4).trans hm.1) ?_
    exact Z.iret dX6_about_44 rfl ⟨by simp [abM, h1], hE, rfl⟩
  · refine Z.tableIn (off := 44) (tgt := 45) dX6_about_1 (by rw [h1]; decide) (by rw [h1]; decide) (by rw [h1]; decide) (by decide) ?_
    refine Z.aload_n dX6_about_45 rfl ?_
    refine Z.getR (r := 14) dX6_about_46 cl6 flX6_32 (by decide) (fx0 hF) rfl ?_
    refine Z.getIv (v := nI n) dX6_about_49 cl3 flX6_151 (by decide) (fx14 hF) (((hE.at 14 4 rfl).trans hC.f14_4).trans hn.1) ?_
    exact Z.iret dX6_about_52 rfl ⟨by simp [abM, h1], hE, rfl⟩
  · refine Z.tableIn (off := 52) (tgt := 53) dX6_about_1 (by rw [h1]; decide) (by rw [h1]; decide) (by rw [h1]; decide) (by decide) ?_
    refine Z.aload_n dX6_about_53 rfl ?_
    refine Z.getR (r := 14) dX6_about_54 cl6 flX6_32 (by decide) (fx0 hF) rfl ?_
    refine Z.callVp (M := mX6_about) (pc := 57) (st := []) (N := mX3_latestDay) (n := 0) (r := .int ((if n = 0 then 0 else I 52 (n - 1)))) dX6_about_57 mlX6_244 mkX3_latestDay imX3_latestDay seX3_latestDay (fx14 hF) cl3 rfl (d1 := 0) (by decide) (As := []) rfl ⟨rfl, Nat.le_of_ble_eq_true rfl⟩ ⟨rfl, Nat.le_of_ble_eq_true rfl⟩ (cc_latestDay hE hF hC hn) rfl ?_
    exact Z.iret dX6_about_60 rfl ⟨by simp [abM, h1], hE, rfl⟩
  · refine Z.tableIn (off := 60) (tgt := 61) dX6_about_1 (by rw [h1]; decide) (by rw [h1]; decide) (by rw [h1]; decide) (by decide) ?_
    refine Z.aload_n dX6_about_61 rfl ?_
    refine Z.getR (r := 9) dX6_about_62 cl6 flX6_19 (by decide) (fx0 hF) rfl ?_
    refine Z.getIN (k := 3) rfl dX6_about_65 rfl (fx9 hF) ?_
    refine Z.eqLs (L' := [.ref 0, .int w]) (st' := [.int (nI nq)]) rfl (by rw [show J 9 3 = nI nq from (((hE.at 9 3 rfl).trans hC.f9_3).trans hq.1)]) ?_
    exact Z.iret dX6_about_68 rfl ⟨by simp [abM, h1], hE, rfl⟩
  · refine Z.tableIn (off := 68) (tgt := 69) dX6_about_1 (by rw [h1]; decide) (by rw [h1]; decide) (by rw [h1]; decide) (by decide) ?_
    refine Z.aload_n dX6_about_69 rfl ?_
    refine Z.getIv (v := I 35 8) dX6_about_70 cl6 flX6_40 (by decide) (fx0 hF) ((hE.at 0 5 rfl).trans hC.f0_5) ?_
    exact Z.iret dX6_about_73 rfl ⟨by simp [abM, h1], hE, rfl⟩
  · refine Z.tableIn (off := 73) (tgt := 74) dX6_about_1 (by rw [h1]; decide) (by rw [h1]; decide) (by rw [h1]; decide) (by decide) ?_
    refine Z.aload_n dX6_about_74 rfl ?_
    refine Z.getIv (v := I 35 9) dX6_about_75 cl6 flX6_43 (by decide) (fx0 hF) ((hE.at 0 6 rfl).trans hC.f0_6) ?_
    exact Z.iret dX6_about_78 rfl ⟨by simp [abM, h1], hE, rfl⟩
  · refine Z.tableOut (tgt := 79) dX6_about_1 h1 (by decide) ?_
    refine Z.iconst (v := (-1)) dX6_about_79 (by decide) ?_
    exact Z.iret dX6_about_80 rfl ⟨by have hq_ := sw05_o h1; simp [abM, hq_.1, hq_.2.1, hq_.2.2.1, hq_.2.2.2.1, hq_.2.2.2.2.1, hq_.2.2.2.2.2], hE, rfl⟩

set_option maxHeartbeats 4000000 in
set_option maxRecDepth 100000 in
theorem cb_levels {g : GP} {I J : IM} {S : SH} (hE : Ex I J) (a b : Int32) (hF : Fx S) (hC : Cp I) {n : Nat} (hn : Mp I n) {nq : Nat} (hq : Mq I nq) (hcq : Cq I nq) (hM : MIv I) {mm : Nat} (hm : Mm I mm) (hz : Mz I S mm) : Z g 0 0 0 mX6_levels 0 (enL mX6_levels [.ref 0, .int a, .int b]) [] J S (NQ (.int (bI (inB a 1 1000 && inB b 1 1000))) (if (inB a 1 1000 && inB b 1 1000) = true then va_up I 0 (upd (upd (I 0) 5 a) 6 b) else I) S) := by
  show Z g 0 0 0 mX6_levels 0 [.ref 0, .int a, .int b] [] J S _
  have hn2 := hn.2
  have hq2 := hq.2
  have hm2 := hm.2
  refine Z.iload_n dX6_levels_0 rfl ?_
  refine Z.iconst (v := 1) dX6_levels_1 (by decide) ?_
  refine Z.icmp_lt (tgt := 24) dX6_levels_2 (by decide) (fun h1 => ?_) (fun h1 => ?_)
  · refine Z.iconst (v := 0) dX6_levels_24 (by decide) ?_
    exact Z.zret dX6_levels_25 rfl (by decide) ⟨by rw [inB_lo (v := a) (lo := 1) (hi := 1000) h1]; simp [bI], by rw [inB_lo (v := a) (lo := 1) (hi := 1000) h1]; simp; exact hE, rfl⟩
  · refine Z.iload_n dX6_levels_5 rfl ?_
    refine Z.sipush (v := 1000) dX6_levels_6 (by decide) ?_
    refine Z.icmp_gt (tgt := 24) dX6_levels_9 (by decide) (fun h2 => ?_) (fun h2 => ?_)
    · refine Z.iconst (v := 0) dX6_levels_24 (by decide) ?_
      exact Z.zret dX6_levels_25 rfl (by decide) ⟨by rw [inB_hi (v := a) (lo := 1) (hi := 1000) h2]; simp [bI], by rw [inB_hi (v := a) (lo := 1) (hi := 1000) h2]; simp; exact hE, rfl⟩
    · refine Z.iload_n dX6_levels_12 rfl ?_
      refine Z.iconst (v := 1) dX6_levels_13 (by decide) ?_
      refine Z.icmp_lt (tgt := 24) dX6_levels_14 (by decide) (fun h3 => ?_) (fun h3 => ?_)
      · refine Z.iconst (v := 0) dX6_levels_24 (by decide) ?_
        exact Z.zret dX6_levels_25 rfl (by decide) ⟨by rw [inB_lo (v := b) (lo := 1) (hi := 1000) h3]; simp [bI], by rw [inB_lo (v := b) (lo := 1) (hi := 1000) h3]; simp; exact hE, rfl⟩
      · refine Z.iload_n dX6_levels_17 rfl ?_
        refine Z.sipush (v := 1000) dX6_levels_18 (by decide) ?_
        refine Z.icmp_le (tgt := 26) dX6_levels_21 (by decide) (fun h4 => ?_) (fun h4 => ?_)
        · refine Z.aload_n dX6_levels_26 rfl ?_
          refine Z.iload_n dX6_levels_27 rfl ?_
          refine Z.putI (x := a) dX6_levels_28 cl6 flX6_40 (by decide) ⟨rfl, rfl⟩ (fx0 hF) ?_
          refine Z.aload_n dX6_levels_31 rfl ?_
          refine Z.iload_n dX6_levels_32 rfl ?_
          refine Z.putI (x := b) dX6_levels_33 cl6 flX6_43 (by decide) ⟨rfl, rfl⟩ (fx0 hF) ?_
          refine Z.eqI (bx_uu _ _ _ _) ?_
          refine Z.iconst (v := 1) dX6_levels_36 (by decide) ?_
          exact Z.zret dX6_levels_37 rfl (by decide) ⟨by rw [inB_of h1 h2, inB_of h3 h4]; rfl, by rw [inB_of h1 h2, inB_of h3 h4]; simp only [Bool.and_self, if_true]; rw [hE 0 rfl]; exact hE.upB, rfl⟩
        · refine Z.iconst (v := 0) dX6_levels_24 (by decide) ?_
          exact Z.zret dX6_levels_25 rfl (by decide) ⟨by rw [inB_hi (v := b) (lo := 1) (hi := 1000) h4]; simp [bI], by rw [inB_hi (v := b) (lo := 1) (hi := 1000) h4]; simp; exact hE, rfl⟩

set_option maxHeartbeats 4000000 in
set_option maxRecDepth 100000 in
theorem cb_undo {g : GP} {I J : IM} {S : SH} (hE : Ex I J)  (hF : Fx S) (hC : Cp I) {n : Nat} (hn : Mp I n) {nq : Nat} (hq : Mq I nq) (hcq : Cq I nq) (hM : MIv I) {mm : Nat} (hm : Mm I mm) (hz : Mz I S mm) : Z g 1 0 0 mX6_undo 0 (enL mX6_undo [.ref 0]) [] J S (NQ (.int (if n = 0 then -1 else nI (n - 1))) (if n = 0 then I else va_up I 14 (upd (I 14) 4 (nI (n - 1)))) S) := by
  show Z g 1 0 0 mX6_undo 0 [.ref 0] [] J S _
  have hn2 := hn.2
  have hq2 := hq.2
  have hm2 := hm.2
  refine Z.aload_n dX6_undo_0 rfl ?_
  refine Z.getR (r := 14) dX6_undo_1 cl6 flX6_32 (by decide) (fx0 hF) rfl ?_
  refine Z.callVg (M := mX6_undo) (pc := 4) (st := []) (N := mX3_takeBack) (n := 0) dX6_undo_4 mlX6_147 mkX3_takeBack imX3_takeBack seX3_takeBack (fx14 hF) cl3 rfl (d1 := 0) (by decide) (As := []) rfl ⟨rfl, Nat.le_of_ble_eq_true rfl⟩ ⟨rfl, Nat.le_of_ble_eq_true rfl⟩ (cc_takeBack hE hF hC hn) rfl (fun v_ J1 S_ h_ => ?_)
  obtain ⟨rfl, rfl, rfl⟩ := h_
  exact Z.iret dX6_undo_7 rfl ⟨rfl, by by_cases q : n = 0; (rw [if_pos q, if_pos q]; exact hE); (rw [if_neg q, if_neg q, hE 14 rfl]; exact hE.upB), rfl⟩

set_option maxHeartbeats 4000000 in
set_option maxRecDepth 100000 in
theorem cb_paperOf {g : GP} {I J : IM} {S : SH} (hE : Ex I J) (i w : Int32) (hF : Fx S) (hC : Cp I) {n : Nat} (hn : Mp I n) {nq : Nat} (hq : Mq I nq) (hcq : Cq I nq) (hM : MIv I) {mm : Nat} (hm : Mm I mm) (hz : Mz I S mm) : Z g 1 0 0 mX6_paperOf 0 (enL mX6_paperOf [.ref 0, .int i, .int w]) [] J S (NQ (.int (poM I n i w)) I S) := by
  show Z g 1 0 0 mX6_paperOf 0 [.ref 0, .int i, .int w] [] J S _
  have hn2 := hn.2
  have hq2 := hq.2
  have hm2 := hm.2
  refine Z.iload_n dX6_paperOf_0 rfl ?_
  refine Z.aload_n dX6_paperOf_1 rfl ?_
  refine Z.getR (r := 14) dX6_paperOf_2 cl6 flX6_32 (by decide) (fx0 hF) rfl ?_
  refine Z.getIv (v := nI n) dX6_paperOf_5 cl3 flX6_151 (by decide) (fx14 hF) (((hE.at 14 4 rfl).trans hC.f14_4).trans hn.1) ?_
  refine Z.callSp (M := mX6_paperOf) (pc := 8) (st := []) (N := mX6_below) (n := 2) (r := .int (bI (inB i 0 (nI n - 1)))) dX6_paperOf_8 mlX6_66 mkX6_below stX6_below (d1 := 0) (by decide) (As := [.int i, .int (nI n)]) rfl ⟨rfl, Nat.le_of_ble_eq_true rfl⟩ ⟨rfl, Nat.le_of_ble_eq_true rfl⟩ (cc_belowN hE i n (by omega)) rfl ?_
  refine Z.if_neB (tgt := 16) dX6_paperOf_11 (by decide) (fun h1 => ?_) (fun h1 => ?_)
  · have e_i := (in1_rg (by omega) h1).1
    have l_i := (in1_rg (by omega) h1).2
    refine Z.eqLs (L' := [.ref 0, .int (nI (i.toNatClampNeg)), .int w]) (st' := []) (by rw [← e_i]) (by first | rfl | rw [← e_i]) ?_
    refine Z.iload_n dX6_paperOf_16 rfl ?_
    rcases sw_0_3 w with h2 | h2 | h2 | h2 | h2
    · refine Z.tableIn (off := 31) (tgt := 48) dX6_paperOf_17 (by rw [h2]; decide) (by rw [h2]; decide) (by rw [h2]; decide) (by decide) ?_
      refine Z.aload_n dX6_paperOf_48 rfl ?_
      refine Z.getR (r := 14) dX6_paperOf_49 cl6 flX6_32 (by decide) (fx0 hF) rfl ?_
      refine Z.getR (r := 15) dX6_paperOf_52 cl3 flX6_154 (by decide) (fx14 hF) rfl ?_
      refine Z.iload_n dX6_paperOf_55 rfl ?_
      refine Z.ialdv (j := i.toNatClampNeg) (v := I 49 (i.toNatClampNeg)) dX6_paperOf_56 (fx15 hF) rfl (by omega) (by decide) ((hE.at 15 (i.toNatClampNeg) rfl).trans (congrFun (hC.c15) (i.toNatClampNeg))) ?_
      exact Z.iret dX6_paperOf_57 rfl ⟨by simp [poM, h1, h2], hE, rfl⟩
    · refine Z.tableIn (off := 41) (tgt := 58) dX6_paperOf_17 (by rw [h2]; decide) (by rw [h2]; decide) (by rw [h2]; decide) (by decide) ?_
      refine Z.aload_n dX6_paperOf_58 rfl ?_
      refine Z.getR (r := 14) dX6_paperOf_59 cl6 flX6_32 (by decide) (fx0 hF) rfl ?_
      refine Z.getR (r := 16) dX6_paperOf_62 cl3 flX6_158 (by decide) (fx14 hF) rfl ?_
      refine Z.iload_n dX6_paperOf_65 rfl ?_
      refine Z.ialdv (j := i.toNatClampNeg) (v := I 50 (i.toNatClampNeg)) dX6_paperOf_66 (fx16 hF) rfl (by omega) (by decide) ((hE.at 16 (i.toNatClampNeg) rfl).trans (congrFun (hC.c16) (i.toNatClampNeg))) ?_
      exact Z.iret dX6_paperOf_67 rfl ⟨by simp [poM, h1, h2], hE, rfl⟩
    · refine Z.tableIn (off := 51) (tgt := 68) dX6_paperOf_17 (by rw [h2]; decide) (by rw [h2]; decide) (by rw [h2]; decide) (by decide) ?_
      refine Z.aload_n dX6_paperOf_68 rfl ?_
      refine Z.getR (r := 14) dX6_paperOf_69 cl6 flX6_32 (by decide) (fx0 hF) rfl ?_
      refine Z.getR (r := 17) dX6_paperOf_72 cl3 flX6_160 (by decide) (fx14 hF) rfl ?_
      refine Z.iload_n dX6_paperOf_75 rfl ?_
      refine Z.ialdv (j := i.toNatClampNeg) (v := I 51 (i.toNatClampNeg)) dX6_paperOf_76 (fx17 hF) rfl (by omega) (by decide) ((hE.at 17 (i.toNatClampNeg) rfl).trans (congrFun (hC.c17) (i.toNatClampNeg))) ?_
      exact Z.iret dX6_paperOf_77 rfl ⟨by simp [poM, h1, h2], hE, rfl⟩
    · refine Z.tableIn (off := 61) (tgt := 78) dX6_paperOf_17 (by rw [h2]; decide) (by rw [h2]; decide) (by rw [h2]; decide) (by decide) ?_
      refine Z.aload_n dX6_paperOf_78 rfl ?_
      refine Z.getR (r := 14) dX6_paperOf_79 cl6 flX6_32 (by decide) (fx0 hF) rfl ?_
      refine Z.getR (r := 18) dX6_paperOf_82 cl3 flX6_163 (by decide) (fx14 hF) rfl ?_
      refine Z.iload_n dX6_paperOf_85 rfl ?_
      refine Z.ialdv (j := i.toNatClampNeg) (v := I 52 (i.toNatClampNeg)) dX6_paperOf_86 (fx18 hF) rfl (by omega) (by decide) ((hE.at 18 (i.toNatClampNeg) rfl).trans (congrFun (hC.c18) (i.toNatClampNeg))) ?_
      exact Z.iret dX6_paperOf_87 rfl ⟨by simp [poM, h1, h2], hE, rfl⟩
    · refine Z.tableOut (tgt := 88) dX6_paperOf_17 h2 (by decide) ?_
      refine Z.iconst (v := (-1)) dX6_paperOf_88 (by decide) ?_
      exact Z.iret dX6_paperOf_89 rfl ⟨by have hq_ := sw03_o h2; simp [poM, hq_.1, hq_.2.1, hq_.2.2.1, hq_.2.2.2, h1], hE, rfl⟩
  · refine Z.iconst (v := (-1)) dX6_paperOf_14 (by decide) ?_
    exact Z.iret dX6_paperOf_15 rfl ⟨by simp [poM, h1], hE, rfl⟩

set_option maxHeartbeats 4000000 in
set_option maxRecDepth 100000 in
theorem cb_markOf {g : GP} {I J : IM} {S : SH} (hE : Ex I J) (m w : Int32) (hF : Fx S) (hC : Cp I) {n : Nat} (hn : Mp I n) {nq : Nat} (hq : Mq I nq) (hcq : Cq I nq) (hM : MIv I) {mm : Nat} (hm : Mm I mm) (hz : Mz I S mm) : Z g 3 0 0 mX6_markOf 0 (enL mX6_markOf [.ref 0, .int m, .int w]) [] J S (NQ (.int (moM I m w)) I S) := by
  show Z g 3 0 0 mX6_markOf 0 [.ref 0, .int m, .int w, .retAddr 0] [] J S _
  have hn2 := hn.2
  have hq2 := hq.2
  have hm2 := hm.2
  refine Z.aload_n dX6_markOf_0 rfl ?_
  refine Z.iload_n dX6_markOf_1 rfl ?_
  rcases Bool.eq_false_or_eq_true (inB m 0 (I 35 10 - 1)) with h1 | h1
  · have l_m : m.toNatClampNeg < mm := (mk_rg hm.1 hm.2 h1).2
    have h_m : m.toNatClampNeg < 120 := by omega
    have ho_m := hz.2 _ l_m
    have hl_m := hM.2.2.1 _ h_m
    have hc_m := hM.2.2.2.1 _ h_m
    have hl2_m := hl_m.2
    have hc2_m := hc_m.2
    have hcl_m := ho_m.2.2
    have h12_m := clL_le (I := I) (j := m.toNatClampNeg)
    refine Z.callVp (M := mX6_markOf) (pc := 2) (st := []) (N := mX6_markAt) (n := 1) (r := .ref (58 + 3 * m.toNatClampNeg)) dX6_markOf_2 mlX6_94 mkX6_markAt imX6_markAt seX6_markAt (fx0 hF) cl6 rfl (d1 := 1) (by decide) (As := [.int m]) rfl ⟨rfl, Nat.le_of_ble_eq_true rfl⟩ ⟨rfl, Nat.le_of_ble_eq_true rfl⟩ (cc_markAtT hE m hF hC hm hz h1) rfl ?_
    refine Z.astore_n (L' := [.ref 0, .int m, .int w, .ref (58 + 3 * m.toNatClampNeg)]) dX6_markOf_5 (Nat.le_of_ble_eq_true rfl) rfl ?_
    refine Z.aload_n dX6_markOf_6 rfl ?_
    refine Z.ifnonnull (tgt := 12) dX6_markOf_7 (by decide) ?_
    refine Z.iload_n dX6_markOf_12 rfl ?_
    rcases sw_0_4 w with h2 | h2 | h2 | h2 | h2 | h2
    · refine Z.tableIn (off := 35) (tgt := 48) dX6_markOf_13 (by rw [h2]; decide) (by rw [h2]; decide) (by rw [h2]; decide) (by decide) ?_
      refine Z.aload_n dX6_markOf_48 rfl ?_
      refine Z.getIv (v := I 43 m.toNatClampNeg) dX6_markOf_49 cl1 flX6_166 (by decide) ho_m.1.1 ((hE.at (58 + 3 * m.toNatClampNeg) 0 (scr58_0 m.toNatClampNeg)).trans ho_m.2.1.1) ?_
      exact Z.iret dX6_markOf_52 rfl ⟨by simp [moM, h1, h2], hE, rfl⟩
    · refine Z.tableIn (off := 40) (tgt := 53) dX6_markOf_13 (by rw [h2]; decide) (by rw [h2]; decide) (by rw [h2]; decide) (by decide) ?_
      refine Z.aload_n dX6_markOf_53 rfl ?_
      refine Z.getIv (v := I 44 m.toNatClampNeg) dX6_markOf_54 cl1 flX6_169 (by decide) ho_m.1.1 ((hE.at (58 + 3 * m.toNatClampNeg) 1 (scr58_0 m.toNatClampNeg)).trans ho_m.2.1.2.1) ?_
      exact Z.iret dX6_markOf_57 rfl ⟨by simp [moM, h1, h2], hE, rfl⟩
    · refine Z.tableIn (off := 45) (tgt := 58) dX6_markOf_13 (by rw [h2]; decide) (by rw [h2]; decide) (by rw [h2]; decide) (by decide) ?_
      refine Z.aload_n dX6_markOf_58 rfl ?_
      refine Z.getIv (v := nI ((I 45 m.toNatClampNeg).toNatClampNeg)) dX6_markOf_59 cl1 flX6_172 (by decide) ho_m.1.1 ((hE.at (58 + 3 * m.toNatClampNeg) 4 (scr58_0 m.toNatClampNeg)).trans (ho_m.2.1.2.2.1.trans hl_m.1)) ?_
      exact Z.iret dX6_markOf_62 rfl ⟨by simp [moM, h1, h2, ← hl_m.1, ← hc_m.1], hE, rfl⟩
    · refine Z.tableIn (off := 50) (tgt := 63) dX6_markOf_13 (by rw [h2]; decide) (by rw [h2]; decide) (by rw [h2]; decide) (by decide) ?_
      refine Z.aload_n dX6_markOf_63 rfl ?_
      refine Z.getR (r := 1) dX6_markOf_64 cl6 flX6_10 (by decide) (fx0 hF) rfl ?_
      refine Z.aload_n dX6_markOf_67 rfl ?_
      refine Z.callVg (M := mX6_markOf) (pc := 68) (st := []) (N := mX4_countOf) (n := 1) dX6_markOf_68 mlX6_175 mkX4_countOf imX4_countOf seX4_countOf (fx1 hF) cl4 rfl (d1 := 2) (by decide) (As := [.ref (58 + 3 * m.toNatClampNeg)]) rfl ⟨rfl, Nat.le_of_ble_eq_true rfl⟩ ⟨rfl, Nat.le_of_ble_eq_true rfl⟩ (cc_countOf hE hF hC hM h_m ho_m) rfl (fun v_ J1 S_ h_ => ?_)
      obtain ⟨rfl, hE, rfl⟩ := h_
      exact Z.iret dX6_markOf_71 rfl ⟨by simp [moM, h1, h2], hE, rfl⟩
    · refine Z.tableIn (off := 59) (tgt := 72) dX6_markOf_13 (by rw [h2]; decide) (by rw [h2]; decide) (by rw [h2]; decide) (by decide) ?_
      refine Z.aload_n dX6_markOf_72 rfl ?_
      refine Z.getIv (v := nI ((I 47 m.toNatClampNeg).toNatClampNeg)) dX6_markOf_73 cl1 flX6_179 (by decide) ho_m.1.1 ((hE.at (58 + 3 * m.toNatClampNeg) 5 (scr58_0 m.toNatClampNeg)).trans (ho_m.2.1.2.2.2.1.trans hc_m.1)) ?_
      exact Z.iret dX6_markOf_76 rfl ⟨by simp [moM, h1, h2, ← hl_m.1, ← hc_m.1], hE, rfl⟩
    · refine Z.tableOut (tgt := 77) dX6_markOf_13 h2 (by decide) ?_
      refine Z.iconst (v := (-1)) dX6_markOf_77 (by decide) ?_
      exact Z.iret dX6_markOf_78 rfl ⟨by have hq_ := sw04_o h2; simp [moM, hq_.1, hq_.2.1, hq_.2.2.1, hq_.2.2.2.1, hq_.2.2.2.2, h1], hE, rfl⟩
  · refine Z.callVp (M := mX6_markOf) (pc := 2) (st := []) (N := mX6_markAt) (n := 1) (r := .null) dX6_markOf_2 mlX6_94 mkX6_markAt imX6_markAt seX6_markAt (fx0 hF) cl6 rfl (d1 := 1) (by decide) (As := [.int m]) rfl ⟨rfl, Nat.le_of_ble_eq_true rfl⟩ ⟨rfl, Nat.le_of_ble_eq_true rfl⟩ (cc_markAtF hE m hF hC hm hz h1) rfl ?_
    refine Z.astore_nN (L' := [.ref 0, .int m, .int w, .null]) dX6_markOf_5 (Nat.le_of_ble_eq_true rfl) rfl ?_
    refine Z.aload_nN dX6_markOf_6 rfl ?_
    refine Z.ifnonnullN dX6_markOf_7 ?_
    refine Z.iconst (v := (-1)) dX6_markOf_10 (by decide) ?_
    exact Z.iret dX6_markOf_11 rfl ⟨by simp [moM, h1], hE, rfl⟩

set_option maxHeartbeats 4000000 in
set_option maxRecDepth 100000 in
theorem cb_soundOf {g : GP} {I J : IM} {S : SH} (hE : Ex I J) (m k : Int32) (hF : Fx S) (hC : Cp I) {n : Nat} (hn : Mp I n) {nq : Nat} (hq : Mq I nq) (hcq : Cq I nq) (hM : MIv I) {mm : Nat} (hm : Mm I mm) (hz : Mz I S mm) : Z g 3 0 0 mX6_soundOf 0 (enL mX6_soundOf [.ref 0, .int m, .int k]) [] J S (NQ (.int (sdM I m k)) I S) := by
  show Z g 3 0 0 mX6_soundOf 0 [.ref 0, .int m, .int k, .retAddr 0] [] J S _
  have hn2 := hn.2
  have hq2 := hq.2
  have hm2 := hm.2
  refine Z.aload_n dX6_soundOf_0 rfl ?_
  refine Z.iload_n dX6_soundOf_1 rfl ?_
  rcases Bool.eq_false_or_eq_true (inB m 0 (I 35 10 - 1)) with h1 | h1
  · have l_m : m.toNatClampNeg < mm := (mk_rg hm.1 hm.2 h1).2
    have h_m : m.toNatClampNeg < 120 := by omega
    have ho_m := hz.2 _ l_m
    have hl_m := hM.2.2.1 _ h_m
    have hc_m := hM.2.2.2.1 _ h_m
    have hl2_m := hl_m.2
    have hc2_m := hc_m.2
    have hcl_m := ho_m.2.2
    have h12_m := clL_le (I := I) (j := m.toNatClampNeg)
    refine Z.callVp (M := mX6_soundOf) (pc := 2) (st := []) (N := mX6_markAt) (n := 1) (r := .ref (58 + 3 * m.toNatClampNeg)) dX6_soundOf_2 mlX6_94 mkX6_markAt imX6_markAt seX6_markAt (fx0 hF) cl6 rfl (d1 := 1) (by decide) (As := [.int m]) rfl ⟨rfl, Nat.le_of_ble_eq_true rfl⟩ ⟨rfl, Nat.le_of_ble_eq_true rfl⟩ (cc_markAtT hE m hF hC hm hz h1) rfl ?_
    refine Z.astore_n (L' := [.ref 0, .int m, .int k, .ref (58 + 3 * m.toNatClampNeg)]) dX6_soundOf_5 (Nat.le_of_ble_eq_true rfl) rfl ?_
    refine Z.aload_n dX6_soundOf_6 rfl ?_
    refine Z.ifnonnull (tgt := 14) dX6_soundOf_7 (by decide) ?_
    refine Z.aload_n dX6_soundOf_14 rfl ?_
    refine Z.getR (r := 1) dX6_soundOf_15 cl6 flX6_10 (by decide) (fx0 hF) rfl ?_
    refine Z.aload_n dX6_soundOf_18 rfl ?_
    refine Z.iload_n dX6_soundOf_19 rfl ?_
    refine Z.callVg (M := mX6_soundOf) (pc := 20) (st := []) (N := mX4_at) (n := 2) dX6_soundOf_20 mlX6_182 mkX4_at imX4_at seX4_at (fx1 hF) cl4 rfl (d1 := 2) (by decide) (As := [.ref (58 + 3 * m.toNatClampNeg), .int k]) rfl ⟨rfl, Nat.le_of_ble_eq_true rfl⟩ ⟨rfl, Nat.le_of_ble_eq_true rfl⟩ (cc_at hE k hF hC hM h_m ho_m) rfl (fun v_ J1 S_ h_ => ?_)
    obtain ⟨rfl, hE, rfl⟩ := h_
    exact Z.iret dX6_soundOf_23 rfl ⟨by simp [sdM, h1], hE, rfl⟩
  · refine Z.callVp (M := mX6_soundOf) (pc := 2) (st := []) (N := mX6_markAt) (n := 1) (r := .null) dX6_soundOf_2 mlX6_94 mkX6_markAt imX6_markAt seX6_markAt (fx0 hF) cl6 rfl (d1 := 1) (by decide) (As := [.int m]) rfl ⟨rfl, Nat.le_of_ble_eq_true rfl⟩ ⟨rfl, Nat.le_of_ble_eq_true rfl⟩ (cc_markAtF hE m hF hC hm hz h1) rfl ?_
    refine Z.astore_nN (L' := [.ref 0, .int m, .int k, .null]) dX6_soundOf_5 (Nat.le_of_ble_eq_true rfl) rfl ?_
    refine Z.aload_nN dX6_soundOf_6 rfl ?_
    refine Z.ifnonnullN dX6_soundOf_7 ?_
    refine Z.iconst (v := (-1)) dX6_soundOf_10 (by decide) ?_
    refine Z.goto (tgt := 23) dX6_soundOf_11 (by decide) ?_
    exact Z.iret dX6_soundOf_23 rfl ⟨by simp [sdM, h1], hE, rfl⟩

theorem in01 {w : Int32} (h0 : ¬ w = 0) (h1 : ¬ w = 1) : inB w 0 1 = false := by
  rcases Bool.eq_false_or_eq_true (inB w 0 1) with h | h
  · exfalso
    have := inB_rg (hi := 1) h (by decide)
    unfold rg at this
    have h2 := this.2
    rcases Nat.lt_or_ge w.toNatClampNeg 1 with q | q
    · rw [show w.toNatClampNeg = 0 by omega] at this
      exact h0 this.1
    · rw [show w.toNatClampNeg = 1 by omega] at this
      exact h1 this.1
  · exact h
set_option maxHeartbeats 4000000 in
set_option maxRecDepth 100000 in
theorem cb_like {g : GP} {I J : IM} {S : SH} (hE : Ex I J) (a b w : Int32) (hF : Fx S) (hC : Cp I) {n : Nat} (hn : Mp I n) {nq : Nat} (hq : Mq I nq) (hcq : Cq I nq) (hM : MIv I) {mm : Nat} (hm : Mm I mm) (hz : Mz I S mm) : Z g 4 0 0 mX6_like 0 (enL mX6_like [.ref 0, .int a, .int b, .int w]) [] J S (NQ (.int (liM I a b w)) I S) := by
  show Z g 4 0 0 mX6_like 0 [.ref 0, .int a, .int b, .int w, .retAddr 0, .retAddr 0] [] J S _
  have hn2 := hn.2
  have hq2 := hq.2
  have hm2 := hm.2
  refine Z.aload_n dX6_like_0 rfl ?_
  refine Z.iload_n dX6_like_1 rfl ?_
  rcases Bool.eq_false_or_eq_true (inB a 0 (I 35 10 - 1)) with h1 | h1
  · have l_a : a.toNatClampNeg < mm := (mk_rg hm.1 hm.2 h1).2
    have h_a : a.toNatClampNeg < 120 := by omega
    have ho_a := hz.2 _ l_a
    have hl_a := hM.2.2.1 _ h_a
    have hc_a := hM.2.2.2.1 _ h_a
    have hl2_a := hl_a.2
    have hc2_a := hc_a.2
    have hcl_a := ho_a.2.2
    have h12_a := clL_le (I := I) (j := a.toNatClampNeg)
    refine Z.callVp (M := mX6_like) (pc := 2) (st := []) (N := mX6_markAt) (n := 1) (r := .ref (58 + 3 * a.toNatClampNeg)) dX6_like_2 mlX6_94 mkX6_markAt imX6_markAt seX6_markAt (fx0 hF) cl6 rfl (d1 := 1) (by decide) (As := [.int a]) rfl ⟨rfl, Nat.le_of_ble_eq_true rfl⟩ ⟨rfl, Nat.le_of_ble_eq_true rfl⟩ (cc_markAtT hE a hF hC hm hz h1) rfl ?_
    refine Z.astore (L' := [.ref 0, .int a, .int b, .int w, .ref (58 + 3 * a.toNatClampNeg), .retAddr 0]) dX6_like_5 (Nat.le_of_ble_eq_true rfl) rfl ?_
    refine Z.aload_n dX6_like_7 rfl ?_
    refine Z.iload_n dX6_like_8 rfl ?_
    rcases Bool.eq_false_or_eq_true (inB b 0 (I 35 10 - 1)) with h2 | h2
    · have l_b : b.toNatClampNeg < mm := (mk_rg hm.1 hm.2 h2).2
      have h_b : b.toNatClampNeg < 120 := by omega
      have ho_b := hz.2 _ l_b
      have hl_b := hM.2.2.1 _ h_b
      have hc_b := hM.2.2.2.1 _ h_b
      have hl2_b := hl_b.2
      have hc2_b := hc_b.2
      have hcl_b := ho_b.2.2
      have h12_b := clL_le (I := I) (j := b.toNatClampNeg)
      refine Z.callVp (M := mX6_like) (pc := 9) (st := []) (N := mX6_markAt) (n := 1) (r := .ref (58 + 3 * b.toNatClampNeg)) dX6_like_9 mlX6_94 mkX6_markAt imX6_markAt seX6_markAt (fx0 hF) cl6 rfl (d1 := 1) (by decide) (As := [.int b]) rfl ⟨rfl, Nat.le_of_ble_eq_true rfl⟩ ⟨rfl, Nat.le_of_ble_eq_true rfl⟩ (cc_markAtT hE b hF hC hm hz h2) rfl ?_
      refine Z.astore (L' := [.ref 0, .int a, .int b, .int w, .ref (58 + 3 * a.toNatClampNeg), .ref (58 + 3 * b.toNatClampNeg)]) dX6_like_12 (Nat.le_of_ble_eq_true rfl) rfl ?_
      refine Z.aload dX6_like_14 rfl ?_
      refine Z.ifnull dX6_like_16 ?_
      refine Z.aload dX6_like_19 rfl ?_
      refine Z.ifnonnull (tgt := 26) dX6_like_21 (by decide) ?_
      refine Z.iload_n dX6_like_26 rfl ?_
      by_cases h3 : w = 0
      · refine Z.lookup (off := 25) (tgt := 52) dX6_like_27 (by decide) (by rw [h3]; rfl) (by decide) ?_
        refine Z.aload_n dX6_like_52 rfl ?_
        refine Z.aload dX6_like_53 rfl ?_
        refine Z.aload dX6_like_55 rfl ?_
        refine Z.callVg (M := mX6_like) (pc := 57) (st := []) (N := mX6_likeOf) (n := 2) dX6_like_57 mlX6_186 mkX6_likeOf imX6_likeOf seX6_likeOf (fx0 hF) cl6 rfl (d1 := 3) (by decide) (As := [.ref (58 + 3 * a.toNatClampNeg), .ref (58 + 3 * b.toNatClampNeg)]) rfl ⟨rfl, Nat.le_of_ble_eq_true rfl⟩ ⟨rfl, Nat.le_of_ble_eq_true rfl⟩ (cc_likeOf hE hF hC hM h_a ho_a h_b ho_b) rfl (fun v_ J1 S_ h_ => ?_)
        obtain ⟨rfl, hw6, rfl⟩ := h_
        have hE := hw6.ex hE
        exact Z.iret dX6_like_60 rfl ⟨by simp [liM, show inB (0 : Int32) 0 1 = true by decide, show inB (1 : Int32) 0 1 = true by decide, h1, h2, h3], hE, rfl⟩
      by_cases h4 : w = 1
      · refine Z.lookup (off := 34) (tgt := 61) dX6_like_27 (by decide) (by rw [h4]; rfl) (by decide) ?_
        refine Z.aload_n dX6_like_61 rfl ?_
        refine Z.getR (r := 1) dX6_like_62 cl6 flX6_10 (by decide) (fx0 hF) rfl ?_
        refine Z.aload dX6_like_65 rfl ?_
        refine Z.aload dX6_like_67 rfl ?_
        refine Z.callVg (M := mX6_like) (pc := 69) (st := []) (N := mX4_costOf) (n := 2) dX6_like_69 mlX6_190 mkX4_costOf imX4_costOf seX4_costOf (fx1 hF) cl4 rfl (d1 := 2) (by decide) (As := [.ref (58 + 3 * a.toNatClampNeg), .ref (58 + 3 * b.toNatClampNeg)]) rfl ⟨rfl, Nat.le_of_ble_eq_true rfl⟩ ⟨rfl, Nat.le_of_ble_eq_true rfl⟩ (cc_costOf hE hF hC hM h_a ho_a h_b ho_b) rfl (fun v_ J2 S_ h_ => ?_)
        obtain ⟨rfl, hw6, rfl⟩ := h_
        have hE := hw6.ex hE
        exact Z.iret dX6_like_72 rfl ⟨by simp [liM, show inB (0 : Int32) 0 1 = true by decide, show inB (1 : Int32) 0 1 = true by decide, h1, h2, h4], hE, rfl⟩
      refine Z.lookup (off := 46) (tgt := 73) dX6_like_27 (by decide) (by rw [lv_osw h3 (by decide), lv_osw h4 (by decide)]; rfl) (by decide) ?_
      refine Z.iconst (v := (-1)) dX6_like_73 (by decide) ?_
      exact Z.iret dX6_like_74 rfl ⟨by rw [liM, if_neg (by rw [in01 h3 h4]; simp)], hE, rfl⟩
    · refine Z.callVp (M := mX6_like) (pc := 9) (st := []) (N := mX6_markAt) (n := 1) (r := .null) dX6_like_9 mlX6_94 mkX6_markAt imX6_markAt seX6_markAt (fx0 hF) cl6 rfl (d1 := 1) (by decide) (As := [.int b]) rfl ⟨rfl, Nat.le_of_ble_eq_true rfl⟩ ⟨rfl, Nat.le_of_ble_eq_true rfl⟩ (cc_markAtF hE b hF hC hm hz h2) rfl ?_
      refine Z.astoreN (L' := [.ref 0, .int a, .int b, .int w, .ref (58 + 3 * a.toNatClampNeg), .null]) dX6_like_12 (Nat.le_of_ble_eq_true rfl) rfl ?_
      refine Z.aload dX6_like_14 rfl ?_
      refine Z.ifnull dX6_like_16 ?_
      refine Z.aloadN dX6_like_19 rfl ?_
      refine Z.ifnonnullN dX6_like_21 ?_
      refine Z.iconst (v := (-1)) dX6_like_24 (by decide) ?_
      exact Z.iret dX6_like_25 rfl ⟨by simp [liM, h1, h2], hE, rfl⟩
  · refine Z.callVp (M := mX6_like) (pc := 2) (st := []) (N := mX6_markAt) (n := 1) (r := .null) dX6_like_2 mlX6_94 mkX6_markAt imX6_markAt seX6_markAt (fx0 hF) cl6 rfl (d1 := 1) (by decide) (As := [.int a]) rfl ⟨rfl, Nat.le_of_ble_eq_true rfl⟩ ⟨rfl, Nat.le_of_ble_eq_true rfl⟩ (cc_markAtF hE a hF hC hm hz h1) rfl ?_
    refine Z.astoreN (L' := [.ref 0, .int a, .int b, .int w, .null, .retAddr 0]) dX6_like_5 (Nat.le_of_ble_eq_true rfl) rfl ?_
    refine Z.aload_n dX6_like_7 rfl ?_
    refine Z.iload_n dX6_like_8 rfl ?_
    rcases Bool.eq_false_or_eq_true (inB b 0 (I 35 10 - 1)) with h5 | h5
    · have l_b : b.toNatClampNeg < mm := (mk_rg hm.1 hm.2 h5).2
      have h_b : b.toNatClampNeg < 120 := by omega
      have ho_b := hz.2 _ l_b
      have hl_b := hM.2.2.1 _ h_b
      have hc_b := hM.2.2.2.1 _ h_b
      have hl2_b := hl_b.2
      have hc2_b := hc_b.2
      have hcl_b := ho_b.2.2
      have h12_b := clL_le (I := I) (j := b.toNatClampNeg)
      refine Z.callVp (M := mX6_like) (pc := 9) (st := []) (N := mX6_markAt) (n := 1) (r := .ref (58 + 3 * b.toNatClampNeg)) dX6_like_9 mlX6_94 mkX6_markAt imX6_markAt seX6_markAt (fx0 hF) cl6 rfl (d1 := 1) (by decide) (As := [.int b]) rfl ⟨rfl, Nat.le_of_ble_eq_true rfl⟩ ⟨rfl, Nat.le_of_ble_eq_true rfl⟩ (cc_markAtT hE b hF hC hm hz h5) rfl ?_
      refine Z.astore (L' := [.ref 0, .int a, .int b, .int w, .null, .ref (58 + 3 * b.toNatClampNeg)]) dX6_like_12 (Nat.le_of_ble_eq_true rfl) rfl ?_
      refine Z.aloadN dX6_like_14 rfl ?_
      refine Z.ifnullN (tgt := 24) dX6_like_16 (by decide) ?_
      refine Z.iconst (v := (-1)) dX6_like_24 (by decide) ?_
      exact Z.iret dX6_like_25 rfl ⟨by simp [liM, h1, h5], hE, rfl⟩
    · refine Z.callVp (M := mX6_like) (pc := 9) (st := []) (N := mX6_markAt) (n := 1) (r := .null) dX6_like_9 mlX6_94 mkX6_markAt imX6_markAt seX6_markAt (fx0 hF) cl6 rfl (d1 := 1) (by decide) (As := [.int b]) rfl ⟨rfl, Nat.le_of_ble_eq_true rfl⟩ ⟨rfl, Nat.le_of_ble_eq_true rfl⟩ (cc_markAtF hE b hF hC hm hz h5) rfl ?_
      refine Z.astoreN (L' := [.ref 0, .int a, .int b, .int w, .null, .null]) dX6_like_12 (Nat.le_of_ble_eq_true rfl) rfl ?_
      refine Z.aloadN dX6_like_14 rfl ?_
      refine Z.ifnullN (tgt := 24) dX6_like_16 (by decide) ?_
      refine Z.iconst (v := (-1)) dX6_like_24 (by decide) ?_
      exact Z.iret dX6_like_25 rfl ⟨by simp [liM, h1, h5], hE, rfl⟩

set_option maxHeartbeats 4000000 in
set_option maxRecDepth 100000 in
theorem cb_letter {g : GP} {I J : IM} {S : SH} (hE : Ex I J) (m l : Int32) (hF : Fx S) (hC : Cp I) {n : Nat} (hn : Mp I n) {nq : Nat} (hq : Mq I nq) (hcq : Cq I nq) (hM : MIv I) {mm : Nat} (hm : Mm I mm) (hz : Mz I S mm) : Z g 2 0 0 mX6_letter 0 (enL mX6_letter [.ref 0, .int m, .int l]) [] J S (NQ (.int (if ltK I n m l = true then nI ((I 45 m.toNatClampNeg).toNatClampNeg + 1) else -1)) (if ltK I n m l = true then alN I I m.toNatClampNeg l else I) S) := by
  show Z g 2 0 0 mX6_letter 0 [.ref 0, .int m, .int l, .retAddr 0] [] J S _
  have hn2 := hn.2
  have hq2 := hq.2
  have hm2 := hm.2
  refine Z.aload_n dX6_letter_0 rfl ?_
  refine Z.iload_n dX6_letter_1 rfl ?_
  rcases Bool.eq_false_or_eq_true (inB m 0 (I 35 10 - 1)) with h1 | h1
  · have l_m : m.toNatClampNeg < mm := (mk_rg hm.1 hm.2 h1).2
    have h_m : m.toNatClampNeg < 120 := by omega
    have ho_m := hz.2 _ l_m
    have hl_m := hM.2.2.1 _ h_m
    have hc_m := hM.2.2.2.1 _ h_m
    have hl2_m := hl_m.2
    have hc2_m := hc_m.2
    have hcl_m := ho_m.2.2
    have h12_m := clL_le (I := I) (j := m.toNatClampNeg)
    refine Z.callVp (M := mX6_letter) (pc := 2) (st := []) (N := mX6_markAt) (n := 1) (r := .ref (58 + 3 * m.toNatClampNeg)) dX6_letter_2 mlX6_94 mkX6_markAt imX6_markAt seX6_markAt (fx0 hF) cl6 rfl (d1 := 1) (by decide) (As := [.int m]) rfl ⟨rfl, Nat.le_of_ble_eq_true rfl⟩ ⟨rfl, Nat.le_of_ble_eq_true rfl⟩ (cc_markAtT hE m hF hC hm hz h1) rfl ?_
    refine Z.astore_n (L' := [.ref 0, .int m, .int l, .ref (58 + 3 * m.toNatClampNeg)]) dX6_letter_5 (Nat.le_of_ble_eq_true rfl) rfl ?_
    refine Z.aload_n dX6_letter_6 rfl ?_
    refine Z.ifnull dX6_letter_7 ?_
    refine Z.iload_n dX6_letter_10 rfl ?_
    refine Z.bipush (v := 26) dX6_letter_11 (by decide) ?_
    refine Z.callSp (M := mX6_letter) (pc := 13) (st := []) (N := mX6_below) (n := 2) (r := .int (bI (inB l 0 25))) dX6_letter_13 mlX6_66 mkX6_below stX6_below (d1 := 0) (by decide) (As := [.int l, .int 26]) rfl ⟨rfl, Nat.le_of_ble_eq_true rfl⟩ ⟨rfl, Nat.le_of_ble_eq_true rfl⟩ (cc_below26 hE l) rfl ?_
    refine Z.if_eqB (tgt := 30) dX6_letter_16 (by decide) (fun h2 => ?_) (fun h2 => ?_)
    · refine Z.iconst (v := (-1)) dX6_letter_30 (by decide) ?_
      exact Z.iret dX6_letter_31 rfl ⟨by simp [ltK, h1, h2], by rw [if_neg (by simp [ltK, h1, h2])]; exact hE, rfl⟩
    · refine Z.aload_n dX6_letter_19 rfl ?_
      refine Z.getR (r := 14) dX6_letter_20 cl6 flX6_32 (by decide) (fx0 hF) rfl ?_
      refine Z.iload_n dX6_letter_23 rfl ?_
      refine Z.callVp (M := mX6_letter) (pc := 24) (st := []) (N := mX3_areOf) (n := 1) (r := .int (bI (hasPF (pM I n) m))) dX6_letter_24 mlX6_98 mkX3_areOf imX3_areOf seX3_areOf (fx14 hF) cl3 rfl (d1 := 0) (by decide) (As := [.int m]) rfl ⟨rfl, Nat.le_of_ble_eq_true rfl⟩ ⟨rfl, Nat.le_of_ble_eq_true rfl⟩ (cc_areOf hE m hF hC hn) rfl ?_
      refine Z.if_eqB (tgt := 32) dX6_letter_27 (by decide) (fun h3 => ?_) (fun h3 => ?_)
      · refine Z.aload_n dX6_letter_32 rfl ?_
        refine Z.iload_n dX6_letter_33 rfl ?_
        refine Z.callVg (M := mX6_letter) (pc := 34) (st := []) (N := mX1_addLetter) (n := 1) dX6_letter_34 mlX6_102 mkX1_addLetter imX1_addLetter seX1_addLetter ho_m.1.1 cl1 rfl (d1 := 0) (by decide) (As := [.int l]) rfl ⟨rfl, Nat.le_of_ble_eq_true rfl⟩ ⟨rfl, Nat.le_of_ble_eq_true rfl⟩ (cc_addLetter hE l hF hC hM h_m ho_m) rfl (fun v_ J1 S_ h_ => ?_)
        obtain ⟨rfl, rfl, rfl⟩ := h_
        exact Z.iret dX6_letter_37 rfl ⟨by by_cases q : (I 45 m.toNatClampNeg).toNatClampNeg < 40; (rw [if_pos q, if_pos (by simp [ltK, h1, h2, h3]; omega)]); (rw [if_neg q, if_neg (by simp [ltK, h1, h2, h3]; omega)]), by by_cases q : (I 45 m.toNatClampNeg).toNatClampNeg < 40; (rw [if_pos q, if_pos (by simp [ltK, h1, h2, h3]; omega)]; unfold alN; rw [hE _ (scr58 _ 1), hE _ (scr58_0 _)]; exact (hE.upB).upB); (rw [if_neg q, if_neg (by simp [ltK, h1, h2, h3]; omega)]; exact hE), rfl⟩
      · refine Z.iconst (v := (-1)) dX6_letter_30 (by decide) ?_
        exact Z.iret dX6_letter_31 rfl ⟨by simp [ltK, h1, h2, h3], by rw [if_neg (by simp [ltK, h1, h2, h3])]; exact hE, rfl⟩
  · refine Z.callVp (M := mX6_letter) (pc := 2) (st := []) (N := mX6_markAt) (n := 1) (r := .null) dX6_letter_2 mlX6_94 mkX6_markAt imX6_markAt seX6_markAt (fx0 hF) cl6 rfl (d1 := 1) (by decide) (As := [.int m]) rfl ⟨rfl, Nat.le_of_ble_eq_true rfl⟩ ⟨rfl, Nat.le_of_ble_eq_true rfl⟩ (cc_markAtF hE m hF hC hm hz h1) rfl ?_
    refine Z.astore_nN (L' := [.ref 0, .int m, .int l, .null]) dX6_letter_5 (Nat.le_of_ble_eq_true rfl) rfl ?_
    refine Z.aload_nN dX6_letter_6 rfl ?_
    refine Z.ifnullN (tgt := 30) dX6_letter_7 (by decide) ?_
    refine Z.iconst (v := (-1)) dX6_letter_30 (by decide) ?_
    exact Z.iret dX6_letter_31 rfl ⟨by simp [ltK, h1], by rw [if_neg (by simp [ltK, h1])]; exact hE, rfl⟩

theorem cl_eq {I : IM} {j : Nat} (h : (I 47 j).toNatClampNeg ≤ clL I j) (h12 : (I 47 j).toNatClampNeg ≤ 12) : decide ((I 47 j).toNatClampNeg < clL I j) = (!decide ((I 47 j).toNatClampNeg = 12) && (decide (I 43 j = 1) || decide (I 43 j = 2))) := by
  unfold clL at *
  by_cases q : I 43 j = 1 ∨ I 43 j = 2
  · rw [if_pos q] at h ⊢
    rw [show (decide (I 43 j = 1) || decide (I 43 j = 2)) = true by simpa using q]
    by_cases r : (I 47 j).toNatClampNeg = 12
    · simp [r]
    · simp [r]; omega
  · rw [if_neg q] at h ⊢
    rw [show (decide (I 43 j = 1) || decide (I 43 j = 2)) = false by simpa using q]
    simp
theorem cdK_eq {I : IM} {n : Nat} {m c : Int32} (h1 : inB m 0 (I 35 10 - 1) = true) (h2 : inB c 0 32767 = true) (h3 : hasPF (pM I n) m = false) (h : (I 47 m.toNatClampNeg).toNatClampNeg ≤ clL I m.toNatClampNeg) (h12 : (I 47 m.toNatClampNeg).toNatClampNeg ≤ 12) : (decide ((I 47 m.toNatClampNeg).toNatClampNeg < clL I m.toNatClampNeg) && !hasCF (I 48) (12 * m.toNatClampNeg) (I 47 m.toNatClampNeg) c) = cdK I n m c := by
  rw [cl_eq h h12, cdK, h1, h2, h3]
  cases decide ((I 47 m.toNatClampNeg).toNatClampNeg = 12) <;> cases (decide (I 43 m.toNatClampNeg = 1) || decide (I 43 m.toNatClampNeg = 2)) <;> rfl
set_option maxHeartbeats 4000000 in
set_option maxRecDepth 100000 in
theorem cb_code {g : GP} {I J : IM} {S : SH} (hE : Ex I J) (m c : Int32) (hF : Fx S) (hC : Cp I) {n : Nat} (hn : Mp I n) {nq : Nat} (hq : Mq I nq) (hcq : Cq I nq) (hM : MIv I) {mm : Nat} (hm : Mm I mm) (hz : Mz I S mm) : Z g 2 0 0 mX6_code 0 (enL mX6_code [.ref 0, .int m, .int c]) [] J S (NQ (.int (if cdK I n m c = true then nI ((I 47 m.toNatClampNeg).toNatClampNeg + 1) else -1)) (if cdK I n m c = true then acN I I m.toNatClampNeg c else I) S) := by
  show Z g 2 0 0 mX6_code 0 [.ref 0, .int m, .int c, .retAddr 0] [] J S _
  have hn2 := hn.2
  have hq2 := hq.2
  have hm2 := hm.2
  refine Z.aload_n dX6_code_0 rfl ?_
  refine Z.iload_n dX6_code_1 rfl ?_
  rcases Bool.eq_false_or_eq_true (inB m 0 (I 35 10 - 1)) with h1 | h1
  · have l_m : m.toNatClampNeg < mm := (mk_rg hm.1 hm.2 h1).2
    have h_m : m.toNatClampNeg < 120 := by omega
    have ho_m := hz.2 _ l_m
    have hl_m := hM.2.2.1 _ h_m
    have hc_m := hM.2.2.2.1 _ h_m
    have hl2_m := hl_m.2
    have hc2_m := hc_m.2
    have hcl_m := ho_m.2.2
    have h12_m := clL_le (I := I) (j := m.toNatClampNeg)
    refine Z.callVp (M := mX6_code) (pc := 2) (st := []) (N := mX6_markAt) (n := 1) (r := .ref (58 + 3 * m.toNatClampNeg)) dX6_code_2 mlX6_94 mkX6_markAt imX6_markAt seX6_markAt (fx0 hF) cl6 rfl (d1 := 1) (by decide) (As := [.int m]) rfl ⟨rfl, Nat.le_of_ble_eq_true rfl⟩ ⟨rfl, Nat.le_of_ble_eq_true rfl⟩ (cc_markAtT hE m hF hC hm hz h1) rfl ?_
    refine Z.astore_n (L' := [.ref 0, .int m, .int c, .ref (58 + 3 * m.toNatClampNeg)]) dX6_code_5 (Nat.le_of_ble_eq_true rfl) rfl ?_
    refine Z.aload_n dX6_code_6 rfl ?_
    refine Z.ifnull dX6_code_7 ?_
    refine Z.iload_n dX6_code_10 rfl ?_
    refine Z.ldc (v := 32768) dX6_code_11 cnX6_105 ?_
    refine Z.callSp (M := mX6_code) (pc := 13) (st := []) (N := mX6_below) (n := 2) (r := .int (bI (inB c 0 32767))) dX6_code_13 mlX6_66 mkX6_below stX6_below (d1 := 0) (by decide) (As := [.int c, .int 32768]) rfl ⟨rfl, Nat.le_of_ble_eq_true rfl⟩ ⟨rfl, Nat.le_of_ble_eq_true rfl⟩ (cc_below32768 hE c) rfl ?_
    refine Z.if_eqB (tgt := 30) dX6_code_16 (by decide) (fun h2 => ?_) (fun h2 => ?_)
    · refine Z.iconst (v := (-1)) dX6_code_30 (by decide) ?_
      exact Z.iret dX6_code_31 rfl ⟨by simp [cdK, h1, h2], by rw [if_neg (by simp [cdK, h1, h2])]; exact hE, rfl⟩
    · refine Z.aload_n dX6_code_19 rfl ?_
      refine Z.getR (r := 14) dX6_code_20 cl6 flX6_32 (by decide) (fx0 hF) rfl ?_
      refine Z.iload_n dX6_code_23 rfl ?_
      refine Z.callVp (M := mX6_code) (pc := 24) (st := []) (N := mX3_areOf) (n := 1) (r := .int (bI (hasPF (pM I n) m))) dX6_code_24 mlX6_98 mkX3_areOf imX3_areOf seX3_areOf (fx14 hF) cl3 rfl (d1 := 0) (by decide) (As := [.int m]) rfl ⟨rfl, Nat.le_of_ble_eq_true rfl⟩ ⟨rfl, Nat.le_of_ble_eq_true rfl⟩ (cc_areOf hE m hF hC hn) rfl ?_
      refine Z.if_eqB (tgt := 32) dX6_code_27 (by decide) (fun h3 => ?_) (fun h3 => ?_)
      · refine Z.aload_n dX6_code_32 rfl ?_
        refine Z.iload_n dX6_code_33 rfl ?_
        refine Z.callVg (M := mX6_code) (pc := 34) (st := []) (N := mX1_addCode) (n := 1) dX6_code_34 mlX6_106 mkX1_addCode imX1_addCode seX1_addCode ho_m.1.1 cl1 rfl (d1 := 1) (by decide) (As := [.int c]) rfl ⟨rfl, Nat.le_of_ble_eq_true rfl⟩ ⟨rfl, Nat.le_of_ble_eq_true rfl⟩ (cc_addCode hE c hF hC hM h_m ho_m) rfl (fun v_ J1 S_ h_ => ?_)
        obtain ⟨rfl, rfl, rfl⟩ := h_
        exact Z.iret dX6_code_37 rfl ⟨by rw [cdK_eq h1 h2 h3 hcl_m hc2_m], by rw [cdK_eq h1 h2 h3 hcl_m hc2_m]; by_cases q : cdK I n m c = true; (rw [if_pos q, if_pos q]; unfold acN; rw [hE _ (scr58 _ 2), hE _ (scr58_0 _)]; exact (hE.upB).upB); (rw [if_neg q, if_neg q]; exact hE), rfl⟩
      · refine Z.iconst (v := (-1)) dX6_code_30 (by decide) ?_
        exact Z.iret dX6_code_31 rfl ⟨by simp [cdK, h1, h2, h3], by rw [if_neg (by simp [cdK, h1, h2, h3])]; exact hE, rfl⟩
  · refine Z.callVp (M := mX6_code) (pc := 2) (st := []) (N := mX6_markAt) (n := 1) (r := .null) dX6_code_2 mlX6_94 mkX6_markAt imX6_markAt seX6_markAt (fx0 hF) cl6 rfl (d1 := 1) (by decide) (As := [.int m]) rfl ⟨rfl, Nat.le_of_ble_eq_true rfl⟩ ⟨rfl, Nat.le_of_ble_eq_true rfl⟩ (cc_markAtF hE m hF hC hm hz h1) rfl ?_
    refine Z.astore_nN (L' := [.ref 0, .int m, .int c, .null]) dX6_code_5 (Nat.le_of_ble_eq_true rfl) rfl ?_
    refine Z.aload_nN dX6_code_6 rfl ?_
    refine Z.ifnullN (tgt := 30) dX6_code_7 (by decide) ?_
    refine Z.iconst (v := (-1)) dX6_code_30 (by decide) ?_
    exact Z.iret dX6_code_31 rfl ⟨by simp [cdK, h1], by rw [if_neg (by simp [cdK, h1])]; exact hE, rfl⟩

set_option maxHeartbeats 4000000 in
set_option maxRecDepth 100000 in
theorem cb_row {g : GP} {I J : IM} {S : SH} (hE : Ex I J) (l n_ : Int32) (hF : Fx S) (hC : Cp I) {n : Nat} (hn : Mp I n) {nq : Nat} (hq : Mq I nq) (hcq : Cq I nq) (hM : MIv I) {mm : Nat} (hm : Mm I mm) (hz : Mz I S mm) : Z g 1 0 0 mX6_row 0 (enL mX6_row [.ref 0, .int l, .int n_]) [] J S (NQ (.int (bI (rowK l n_))) (if rowK l n_ = true then va_up (va_up I 2 (upd (I 2) l.toNatClampNeg n_)) 3 (zf (I 3) (27 * l.toNatClampNeg) 27) else I) S) := by
  show Z g 1 0 0 mX6_row 0 [.ref 0, .int l, .int n_] [] J S _
  have hn2 := hn.2
  have hq2 := hq.2
  have hm2 := hm.2
  refine Z.iload_n dX6_row_0 rfl ?_
  refine Z.bipush (v := 26) dX6_row_1 (by decide) ?_
  refine Z.callSp (M := mX6_row) (pc := 3) (st := []) (N := mX6_below) (n := 2) (r := .int (bI (inB l 0 25))) dX6_row_3 mlX6_66 mkX6_below stX6_below (d1 := 0) (by decide) (As := [.int l, .int 26]) rfl ⟨rfl, Nat.le_of_ble_eq_true rfl⟩ ⟨rfl, Nat.le_of_ble_eq_true rfl⟩ (cc_below26 hE l) rfl ?_
  refine Z.if_eqB (tgt := 20) dX6_row_6 (by decide) (fun h1 => ?_) (fun h1 => ?_)
  · refine Z.iconst (v := 0) dX6_row_20 (by decide) ?_
    exact Z.zret dX6_row_21 rfl (by decide) ⟨by simp [rowK, bI, h1], by rw [if_neg (by simp [rowK, h1])]; exact hE, rfl⟩
  · refine Z.iload_n dX6_row_9 rfl ?_
    refine Z.iconst (v := (-1)) dX6_row_10 (by decide) ?_
    refine Z.icmp_lt (tgt := 20) dX6_row_11 (by decide) (fun h2 => ?_) (fun h2 => ?_)
    · refine Z.iconst (v := 0) dX6_row_20 (by decide) ?_
      exact Z.zret dX6_row_21 rfl (by decide) ⟨by rw [rowK, inB_lo (v := n_) (lo := -1) (hi := 27) h2]; simp [bI], by rw [if_neg (by rw [rowK, inB_lo (v := n_) (lo := -1) (hi := 27) h2]; simp)]; exact hE, rfl⟩
    · refine Z.iload_n dX6_row_14 rfl ?_
      refine Z.bipush (v := 27) dX6_row_15 (by decide) ?_
      refine Z.icmp_le (tgt := 22) dX6_row_17 (by decide) (fun h3 => ?_) (fun h3 => ?_)
      · have e_l := (inB_rg (hi := 25) h1 (by decide)).1
        have l_l := (inB_rg (hi := 25) h1 (by decide)).2
        refine Z.eqLs (L' := [.ref 0, .int (nI (l.toNatClampNeg)), .int n_]) (st' := []) (by rw [← e_l]) (by first | rfl | rw [← e_l]) ?_
        refine Z.aload_n dX6_row_22 rfl ?_
        refine Z.getR (r := 1) dX6_row_23 cl6 flX6_10 (by decide) (fx0 hF) rfl ?_
        refine Z.iload_n dX6_row_26 rfl ?_
        refine Z.iload_n dX6_row_27 rfl ?_
        refine Z.callVg (M := mX6_row) (pc := 28) (st := []) (N := mX4_setPlaces) (n := 2) dX6_row_28 mlX6_70 mkX4_setPlaces imX4_setPlaces seX4_setPlaces (fx1 hF) cl4 rfl (d1 := 0) (by decide) (As := [.int (nI (l.toNatClampNeg)), .int n_]) rfl ⟨rfl, Nat.le_of_ble_eq_true rfl⟩ ⟨rfl, Nat.le_of_ble_eq_true rfl⟩ (cc_setPlaces hE l.toNatClampNeg n_ hF hC hM (by omega)) rfl (fun v_ J1 S_ h_ => ?_)
        obtain ⟨rfl, rfl, rfl⟩ := h_
        refine Z.iconst (v := 1) dX6_row_31 (by decide) ?_
        exact Z.zret dX6_row_32 rfl (by decide) ⟨by rw [rowK, h1, inB_of h2 h3]; rfl, by rw [if_pos (by rw [rowK, h1, inB_of h2 h3]; rfl)]; exact (Ex.upC (Ex.upC hE (by have h := hE 2 rfl; first | (rw [h]; done) | (show upd (I 2) _ _ = upd (J 2) _ _; rw [h]; done) | (show _ = upd (upd (J 2) _ _) _ _; rw [h]; done) | (show zf (I 2) _ _ = zf (J 2) _ _; rw [h]))) (by have h := hE 3 rfl; first | (rw [h]; done) | (show upd (I 3) _ _ = upd (J 3) _ _; rw [h]; done) | (show _ = upd (upd (J 3) _ _) _ _; rw [h]; done) | (show zf (I 3) _ _ = zf (J 3) _ _; rw [h]))), rfl⟩
      · refine Z.iconst (v := 0) dX6_row_20 (by decide) ?_
        exact Z.zret dX6_row_21 rfl (by decide) ⟨by rw [rowK, inB_hi (v := n_) (lo := -1) (hi := 27) h3]; simp [bI], by rw [if_neg (by rw [rowK, inB_hi (v := n_) (lo := -1) (hi := 27) h3]; simp)]; exact hE, rfl⟩

theorem pl_bel {v x : Int32} (h : x = -1 ∨ rg x 27) : belB v x = inB v 0 (x - 1) := by
  rcases h with rfl | h
  · exact belB_in (by decide)
  · have h2 := h.2
    refine belB_in ?_
    rw [h.1]
    exact nI_m1i (by omega)
set_option maxHeartbeats 4000000 in
set_option maxRecDepth 100000 in
theorem cb_sound {g : GP} {I J : IM} {S : SH} (hE : Ex I J) (l p s_ : Int32) (hF : Fx S) (hC : Cp I) {n : Nat} (hn : Mp I n) {nq : Nat} (hq : Mq I nq) (hcq : Cq I nq) (hM : MIv I) {mm : Nat} (hm : Mm I mm) (hz : Mz I S mm) : Z g 1 0 0 mX6_sound 0 (enL mX6_sound [.ref 0, .int l, .int p, .int s_]) [] J S (NQ (.int (bI (soK I l p s_))) (if soK I l p s_ = true then va_up I 3 (upd (I 3) (27 * l.toNatClampNeg + p.toNatClampNeg) s_) else I) S) := by
  show Z g 1 0 0 mX6_sound 0 [.ref 0, .int l, .int p, .int s_] [] J S _
  have hn2 := hn.2
  have hq2 := hq.2
  have hm2 := hm.2
  refine Z.iload_n dX6_sound_0 rfl ?_
  refine Z.bipush (v := 26) dX6_sound_1 (by decide) ?_
  refine Z.callSp (M := mX6_sound) (pc := 3) (st := []) (N := mX6_below) (n := 2) (r := .int (bI (inB l 0 25))) dX6_sound_3 mlX6_66 mkX6_below stX6_below (d1 := 0) (by decide) (As := [.int l, .int 26]) rfl ⟨rfl, Nat.le_of_ble_eq_true rfl⟩ ⟨rfl, Nat.le_of_ble_eq_true rfl⟩ (cc_below26 hE l) rfl ?_
  refine Z.if_eqB (tgt := 33) dX6_sound_6 (by decide) (fun h1 => ?_) (fun h1 => ?_)
  · refine Z.iconst (v := 0) dX6_sound_33 (by decide) ?_
    exact Z.zret dX6_sound_34 rfl (by decide) ⟨by simp [soK, h1, bI], by rw [if_neg (by simp [soK, h1])]; exact hE, rfl⟩
  · have e_l := (inB_rg (hi := 25) h1 (by decide)).1
    have l_l := (inB_rg (hi := 25) h1 (by decide)).2
    refine Z.eqLs (L' := [.ref 0, .int (nI (l.toNatClampNeg)), .int p, .int s_]) (st' := []) (by rw [← e_l]) (by first | rfl | rw [← e_l]) ?_
    refine Z.iload_n dX6_sound_9 rfl ?_
    refine Z.aload_n dX6_sound_10 rfl ?_
    refine Z.getR (r := 1) dX6_sound_11 cl6 flX6_10 (by decide) (fx0 hF) rfl ?_
    refine Z.iload_n dX6_sound_14 rfl ?_
    refine Z.callVp (M := mX6_sound) (pc := 15) (st := [.int p]) (N := mX4_placesOf) (n := 1) (r := .int (I 36 l.toNatClampNeg)) dX6_sound_15 mlX6_74 mkX4_placesOf imX4_placesOf seX4_placesOf (fx1 hF) cl4 rfl (d1 := 0) (by decide) (As := [.int (nI (l.toNatClampNeg))]) rfl ⟨rfl, Nat.le_of_ble_eq_true rfl⟩ ⟨rfl, Nat.le_of_ble_eq_true rfl⟩ (cc_placesOf hE l.toNatClampNeg hF hC hM (by omega)) rfl ?_
    refine Z.callSp (M := mX6_sound) (pc := 18) (st := []) (N := mX6_below) (n := 2) (r := .int (bI (belB p (I 36 l.toNatClampNeg)))) dX6_sound_18 mlX6_66 mkX6_below stX6_below (d1 := 0) (by decide) (As := [.int p, .int (I 36 l.toNatClampNeg)]) rfl ⟨rfl, Nat.le_of_ble_eq_true rfl⟩ ⟨rfl, Nat.le_of_ble_eq_true rfl⟩ (cc_below hE p (I 36 l.toNatClampNeg)) rfl ?_
    refine Z.if_eqB (tgt := 33) dX6_sound_21 (by decide) (fun h2 => ?_) (fun h2 => ?_)
    · refine Z.iconst (v := 0) dX6_sound_33 (by decide) ?_
      exact Z.zret dX6_sound_34 rfl (by decide) ⟨by simp [soK, h1, show inB p 0 (I 36 l.toNatClampNeg - 1) = false by rw [← pl_bel (hM.2.2.2.2.2.1 l.toNatClampNeg (by omega))]; exact h2, bI], by rw [if_neg (by simp [soK, h1, show inB p 0 (I 36 l.toNatClampNeg - 1) = false by rw [← pl_bel (hM.2.2.2.2.2.1 l.toNatClampNeg (by omega))]; exact h2])]; exact hE, rfl⟩
    · refine Z.iload_n dX6_sound_24 rfl ?_
      refine Z.bipush (v := 40) dX6_sound_25 (by decide) ?_
      refine Z.callSp (M := mX6_sound) (pc := 27) (st := []) (N := mX6_below) (n := 2) (r := .int (bI (inB s_ 0 39))) dX6_sound_27 mlX6_66 mkX6_below stX6_below (d1 := 0) (by decide) (As := [.int s_, .int 40]) rfl ⟨rfl, Nat.le_of_ble_eq_true rfl⟩ ⟨rfl, Nat.le_of_ble_eq_true rfl⟩ (cc_below40 hE s_) rfl ?_
      refine Z.if_neB (tgt := 35) dX6_sound_30 (by decide) (fun h3 => ?_) (fun h3 => ?_)
      · have e_p := (inp_rg (hM.2.2.2.2.2.1 l.toNatClampNeg (by omega)) (by rw [← pl_bel (hM.2.2.2.2.2.1 l.toNatClampNeg (by omega))]; exact h2)).1
        have l_p := (inp_rg (hM.2.2.2.2.2.1 l.toNatClampNeg (by omega)) (by rw [← pl_bel (hM.2.2.2.2.2.1 l.toNatClampNeg (by omega))]; exact h2)).2
        refine Z.eqLs (L' := [.ref 0, .int (nI (l.toNatClampNeg)), .int (nI (p.toNatClampNeg)), .int s_]) (st' := []) (by rw [← e_p]) (by first | rfl | rw [← e_p]) ?_
        refine Z.aload_n dX6_sound_35 rfl ?_
        refine Z.getR (r := 1) dX6_sound_36 cl6 flX6_10 (by decide) (fx0 hF) rfl ?_
        refine Z.iload_n dX6_sound_39 rfl ?_
        refine Z.iload_n dX6_sound_40 rfl ?_
        refine Z.iload_n dX6_sound_41 rfl ?_
        refine Z.callVg (M := mX6_sound) (pc := 42) (st := []) (N := mX4_setPlace) (n := 3) dX6_sound_42 mlX6_78 mkX4_setPlace imX4_setPlace seX4_setPlace (fx1 hF) cl4 rfl (d1 := 0) (by decide) (As := [.int (nI (l.toNatClampNeg)), .int (nI (p.toNatClampNeg)), .int s_]) rfl ⟨rfl, Nat.le_of_ble_eq_true rfl⟩ ⟨rfl, Nat.le_of_ble_eq_true rfl⟩ (cc_setPlace hE l.toNatClampNeg p.toNatClampNeg s_ hF hC hM (by omega) (by omega)) rfl (fun v_ J1 S_ h_ => ?_)
        obtain ⟨rfl, rfl, rfl⟩ := h_
        refine Z.iconst (v := 1) dX6_sound_45 (by decide) ?_
        exact Z.zret dX6_sound_46 rfl (by decide) ⟨by simp [soK, h1, show inB p 0 (I 36 l.toNatClampNeg - 1) = true by rw [← pl_bel (hM.2.2.2.2.2.1 l.toNatClampNeg (by omega))]; exact h2, h3, bI], by rw [if_pos (by simp [soK, h1, show inB p 0 (I 36 l.toNatClampNeg - 1) = true by rw [← pl_bel (hM.2.2.2.2.2.1 l.toNatClampNeg (by omega))]; exact h2, h3])]; exact (Ex.upC hE (by have h := hE 3 rfl; first | (rw [h]; done) | (show upd (I 3) _ _ = upd (J 3) _ _; rw [h]; done) | (show _ = upd (upd (J 3) _ _) _ _; rw [h]; done) | (show zf (I 3) _ _ = zf (J 3) _ _; rw [h]))), rfl⟩
      · refine Z.iconst (v := 0) dX6_sound_33 (by decide) ?_
        exact Z.zret dX6_sound_34 rfl (by decide) ⟨by simp [soK, h1, show inB p 0 (I 36 l.toNatClampNeg - 1) = true by rw [← pl_bel (hM.2.2.2.2.2.1 l.toNatClampNeg (by omega))]; exact h2, h3, bI], by rw [if_neg (by simp [soK, h1, show inB p 0 (I 36 l.toNatClampNeg - 1) = true by rw [← pl_bel (hM.2.2.2.2.2.1 l.toNatClampNeg (by omega))]; exact h2, h3])]; exact hE, rfl⟩

set_option maxHeartbeats 4000000 in
set_option maxRecDepth 100000 in
theorem cb_cost {g : GP} {I J : IM} {S : SH} (hE : Ex I J) (a b c : Int32) (hF : Fx S) (hC : Cp I) {n : Nat} (hn : Mp I n) {nq : Nat} (hq : Mq I nq) (hcq : Cq I nq) (hM : MIv I) {mm : Nat} (hm : Mm I mm) (hz : Mz I S mm) : Z g 1 0 0 mX6_cost 0 (enL mX6_cost [.ref 0, .int a, .int b, .int c]) [] J S (NQ (.int (bI (ctK a b c))) (if ctK a b c = true then (if b = -1 then va_up I 4 (upd (I 4) a.toNatClampNeg c) else va_up I 5 (upd (upd (I 5) (66 * a.toNatClampNeg + b.toNatClampNeg) c) (66 * b.toNatClampNeg + a.toNatClampNeg) c)) else I) S) := by
  show Z g 1 0 0 mX6_cost 0 [.ref 0, .int a, .int b, .int c] [] J S _
  have hn2 := hn.2
  have hq2 := hq.2
  have hm2 := hm.2
  refine Z.iload_n dX6_cost_0 rfl ?_
  refine Z.bipush (v := 66) dX6_cost_1 (by decide) ?_
  refine Z.callSp (M := mX6_cost) (pc := 3) (st := []) (N := mX6_below) (n := 2) (r := .int (bI (inB a 0 65))) dX6_cost_3 mlX6_66 mkX6_below stX6_below (d1 := 0) (by decide) (As := [.int a, .int 66]) rfl ⟨rfl, Nat.le_of_ble_eq_true rfl⟩ ⟨rfl, Nat.le_of_ble_eq_true rfl⟩ (cc_below66 hE a) rfl ?_
  refine Z.if_eqB (tgt := 25) dX6_cost_6 (by decide) (fun h1 => ?_) (fun h1 => ?_)
  · refine Z.iconst (v := 0) dX6_cost_25 (by decide) ?_
    exact Z.zret dX6_cost_26 rfl (by decide) ⟨by simp [ctK, h1, bI], by rw [if_neg (by simp [ctK, h1])]; exact hE, rfl⟩
  · refine Z.iload_n dX6_cost_9 rfl ?_
    refine Z.iload_n dX6_cost_10 rfl ?_
    refine Z.icmp_eq (tgt := 25) dX6_cost_11 (by decide) (fun h2 => ?_) (fun h2 => ?_)
    · refine Z.iconst (v := 0) dX6_cost_25 (by decide) ?_
      exact Z.zret dX6_cost_26 rfl (by decide) ⟨by simp [ctK, h1, eq_true h2, bI], by rw [if_neg (by simp [ctK, h1, eq_true h2])]; exact hE, rfl⟩
    · refine Z.iload_n dX6_cost_14 rfl ?_
      refine Z.iconst (v := 1) dX6_cost_15 (by decide) ?_
      refine Z.icmp_lt (tgt := 25) dX6_cost_16 (by decide) (fun h3 => ?_) (fun h3 => ?_)
      · refine Z.iconst (v := 0) dX6_cost_25 (by decide) ?_
        exact Z.zret dX6_cost_26 rfl (by decide) ⟨by simp [ctK, h1, h2, inB_lo (v := c) (lo := 1) (hi := 100) h3, bI], by rw [if_neg (by simp [ctK, h1, h2, inB_lo (v := c) (lo := 1) (hi := 100) h3])]; exact hE, rfl⟩
      · refine Z.iload_n dX6_cost_19 rfl ?_
        refine Z.bipush (v := 100) dX6_cost_20 (by decide) ?_
        refine Z.icmp_le (tgt := 27) dX6_cost_22 (by decide) (fun h4 => ?_) (fun h4 => ?_)
        · refine Z.iload_n dX6_cost_27 rfl ?_
          refine Z.iconst (v := (-1)) dX6_cost_28 (by decide) ?_
          refine Z.icmp_ne (tgt := 43) dX6_cost_29 (by decide) (fun h5 => ?_) (fun h5 => ?_)
          · refine Z.iload_n dX6_cost_43 rfl ?_
            refine Z.bipush (v := 66) dX6_cost_44 (by decide) ?_
            refine Z.callSp (M := mX6_cost) (pc := 46) (st := []) (N := mX6_below) (n := 2) (r := .int (bI (inB b 0 65))) dX6_cost_46 mlX6_66 mkX6_below stX6_below (d1 := 0) (by decide) (As := [.int b, .int 66]) rfl ⟨rfl, Nat.le_of_ble_eq_true rfl⟩ ⟨rfl, Nat.le_of_ble_eq_true rfl⟩ (cc_below66 hE b) rfl ?_
            refine Z.if_neB (tgt := 54) dX6_cost_49 (by decide) (fun h6 => ?_) (fun h6 => ?_)
            · have e_a := (inB_rg (hi := 65) h1 (by decide)).1
              have l_a := (inB_rg (hi := 65) h1 (by decide)).2
              refine Z.eqLs (L' := [.ref 0, .int (nI (a.toNatClampNeg)), .int b, .int c]) (st' := []) (by rw [← e_a]) (by first | rfl | rw [← e_a]) ?_
              have e_b := (inB_rg (hi := 65) h6 (by decide)).1
              have l_b := (inB_rg (hi := 65) h6 (by decide)).2
              refine Z.eqLs (L' := [.ref 0, .int (nI (a.toNatClampNeg)), .int (nI (b.toNatClampNeg)), .int c]) (st' := []) (by rw [← e_b]) (by first | rfl | rw [← e_b]) ?_
              refine Z.aload_n dX6_cost_54 rfl ?_
              refine Z.getR (r := 1) dX6_cost_55 cl6 flX6_10 (by decide) (fx0 hF) rfl ?_
              refine Z.iload_n dX6_cost_58 rfl ?_
              refine Z.iload_n dX6_cost_59 rfl ?_
              refine Z.iload_n dX6_cost_60 rfl ?_
              refine Z.callVg (M := mX6_cost) (pc := 61) (st := []) (N := mX4_setChangeCost) (n := 3) dX6_cost_61 mlX6_85 mkX4_setChangeCost imX4_setChangeCost seX4_setChangeCost (fx1 hF) cl4 rfl (d1 := 0) (by decide) (As := [.int (nI (a.toNatClampNeg)), .int (nI (b.toNatClampNeg)), .int c]) rfl ⟨rfl, Nat.le_of_ble_eq_true rfl⟩ ⟨rfl, Nat.le_of_ble_eq_true rfl⟩ (cc_setChangeCost hE a.toNatClampNeg b.toNatClampNeg c hF hC hM (by omega) (by omega)) rfl (fun v_ J1 S_ h_ => ?_)
              obtain ⟨rfl, rfl, rfl⟩ := h_
              refine Z.iconst (v := 1) dX6_cost_64 (by decide) ?_
              exact Z.zret dX6_cost_65 rfl (by decide) ⟨by simp [ctK, h1, h2, inB_of (v := c) (lo := 1) (hi := 100) h3 h4, inB_m1 (v := b) (hi := 65) h5, h6, bI], by rw [if_pos (by simp [ctK, h1, h2, inB_of (v := c) (lo := 1) (hi := 100) h3 h4, inB_m1 (v := b) (hi := 65) h5, h6]), if_neg h5]; exact (Ex.upC hE (by have h := hE 5 rfl; first | (rw [h]; done) | (show upd (I 5) _ _ = upd (J 5) _ _; rw [h]; done) | (show _ = upd (upd (J 5) _ _) _ _; rw [h]; done) | (show zf (I 5) _ _ = zf (J 5) _ _; rw [h]))), rfl⟩
            · refine Z.iconst (v := 0) dX6_cost_52 (by decide) ?_
              exact Z.zret dX6_cost_53 rfl (by decide) ⟨by simp [ctK, h1, h2, inB_of (v := c) (lo := 1) (hi := 100) h3 h4, inB_m1 (v := b) (hi := 65) h5, h6, bI], by rw [if_neg (by simp [ctK, h1, h2, inB_of (v := c) (lo := 1) (hi := 100) h3 h4, inB_m1 (v := b) (hi := 65) h5, h6])]; exact hE, rfl⟩
          · have e_a := (inB_rg (hi := 65) h1 (by decide)).1
            have l_a := (inB_rg (hi := 65) h1 (by decide)).2
            refine Z.eqLs (L' := [.ref 0, .int (nI (a.toNatClampNeg)), .int b, .int c]) (st' := []) (by rw [← e_a]) (by first | rfl | rw [← e_a]) ?_
            refine Z.aload_n dX6_cost_32 rfl ?_
            refine Z.getR (r := 1) dX6_cost_33 cl6 flX6_10 (by decide) (fx0 hF) rfl ?_
            refine Z.iload_n dX6_cost_36 rfl ?_
            refine Z.iload_n dX6_cost_37 rfl ?_
            refine Z.callVg (M := mX6_cost) (pc := 38) (st := []) (N := mX4_setPutCost) (n := 2) dX6_cost_38 mlX6_82 mkX4_setPutCost imX4_setPutCost seX4_setPutCost (fx1 hF) cl4 rfl (d1 := 0) (by decide) (As := [.int (nI (a.toNatClampNeg)), .int c]) rfl ⟨rfl, Nat.le_of_ble_eq_true rfl⟩ ⟨rfl, Nat.le_of_ble_eq_true rfl⟩ (cc_setPutCost hE a.toNatClampNeg c hF hC hM (by omega)) rfl (fun v_ J2 S_ h_ => ?_)
            obtain ⟨rfl, rfl, rfl⟩ := h_
            refine Z.iconst (v := 1) dX6_cost_41 (by decide) ?_
            exact Z.zret dX6_cost_42 rfl (by decide) ⟨by simp [ctK, h1, h2, inB_of (v := c) (lo := 1) (hi := 100) h3 h4, show inB b (-1) 65 = true by rw [h5]; decide, bI], by rw [if_pos (by simp [ctK, h1, h2, inB_of (v := c) (lo := 1) (hi := 100) h3 h4, show inB b (-1) 65 = true by rw [h5]; decide]), if_pos h5]; exact (Ex.upC hE (by have h := hE 4 rfl; first | (rw [h]; done) | (show upd (I 4) _ _ = upd (J 4) _ _; rw [h]; done) | (show _ = upd (upd (J 4) _ _) _ _; rw [h]; done) | (show zf (I 4) _ _ = zf (J 4) _ _; rw [h]))), rfl⟩
        · refine Z.iconst (v := 0) dX6_cost_25 (by decide) ?_
          exact Z.zret dX6_cost_26 rfl (by decide) ⟨by simp [ctK, h1, h2, inB_hi (v := c) (lo := 1) (hi := 100) h4, bI], by rw [if_neg (by simp [ctK, h1, h2, inB_hi (v := c) (lo := 1) (hi := 100) h4])]; exact hE, rfl⟩

theorem ne_eq {I : IM} {nq : Nat} {a b v : Int32} (hq : nq ≤ 100) (h1 : inB a 0 359 = true) (h2 : inB b 0 359 = true) (h3 : ¬ a = b) (h4 : inB v 0 999 = true) : (decide (v = 0) || (!decide (prF (qM I nq) a b = -1) || decide (nq < 100))) = neK I nq a b v := by
  rw [neK, h1, h2, h4]
  have e : decide (prF (qM I nq) a b = -1) = decide (prF (qM I nq) a b < 0) := decide_eq_decide.mpr ⟨pr_ng, fun q => Decidable.byContradiction (fun r => pr_nn hq r q)⟩
  have e2 : decide (nq < 100) = !decide (nq = 100) := by
    by_cases q : nq = 100
    · simp [q]
    · simp [q]; omega
  rw [e, e2]
  cases decide (prF (qM I nq) a b < 0) <;> cases decide (v = 0) <;> cases decide (nq = 100) <;> simp [h3]
theorem tl_ex {I J : IM} {nq : Nat} {k a b v : Int32} (hE : Ex I J) : Ex (tlN I I nq k a b v) (tlN I J nq k a b v) := by
  unfold tlN fgN apN
  rw [hE 9 rfl, hE 10 rfl, hE 11 rfl, hE 12 rfl]
  split
  · split
    · exact hE
    · exact hE.upB.upB.upB.upB
  · split
    · split
      · exact hE.upB.upB.upB.upB
      · exact hE
    · exact hE.upB
theorem tl_no {I : IM} {nq : Nat} {a b v : Int32} (h : ¬ (decide (v = 0) || (!decide (prF (qM I nq) a b = -1) || decide (nq < 100))) = true) (J : IM) : tlN I J nq (prF (qM I nq) a b) a b v = J := by
  simp at h
  rw [tlN, if_neg h.1, if_pos h.2.1, if_neg (by omega)]
set_option maxHeartbeats 4000000 in
set_option maxRecDepth 100000 in
theorem cb_near {g : GP} {I J : IM} {S : SH} (hE : Ex I J) (a b v : Int32) (hF : Fx S) (hC : Cp I) {n : Nat} (hn : Mp I n) {nq : Nat} (hq : Mq I nq) (hcq : Cq I nq) (hM : MIv I) {mm : Nat} (hm : Mm I mm) (hz : Mz I S mm) : Z g 2 0 0 mX6_near 0 (enL mX6_near [.ref 0, .int a, .int b, .int v]) [] J S (NQ (.int (bI (neK I nq a b v))) (if neK I nq a b v = true then tlN I I nq (prF (qM I nq) a b) a b v else I) S) := by
  show Z g 2 0 0 mX6_near 0 [.ref 0, .int a, .int b, .int v] [] J S _
  have hn2 := hn.2
  have hq2 := hq.2
  have hm2 := hm.2
  refine Z.iload_n dX6_near_0 rfl ?_
  refine Z.sipush (v := 360) dX6_near_1 (by decide) ?_
  refine Z.callSp (M := mX6_near) (pc := 4) (st := []) (N := mX6_below) (n := 2) (r := .int (bI (inB a 0 359))) dX6_near_4 mlX6_66 mkX6_below stX6_below (d1 := 0) (by decide) (As := [.int a, .int 360]) rfl ⟨rfl, Nat.le_of_ble_eq_true rfl⟩ ⟨rfl, Nat.le_of_ble_eq_true rfl⟩ (cc_below360 hE a) rfl ?_
  refine Z.if_eqB (tgt := 35) dX6_near_7 (by decide) (fun h1 => ?_) (fun h1 => ?_)
  · refine Z.iconst (v := 0) dX6_near_35 (by decide) ?_
    exact Z.zret dX6_near_36 rfl (by decide) ⟨by simp [neK, bI, h1], by rw [if_neg (by simp [neK, h1])]; exact hE, rfl⟩
  · refine Z.iload_n dX6_near_10 rfl ?_
    refine Z.sipush (v := 360) dX6_near_11 (by decide) ?_
    refine Z.callSp (M := mX6_near) (pc := 14) (st := []) (N := mX6_below) (n := 2) (r := .int (bI (inB b 0 359))) dX6_near_14 mlX6_66 mkX6_below stX6_below (d1 := 0) (by decide) (As := [.int b, .int 360]) rfl ⟨rfl, Nat.le_of_ble_eq_true rfl⟩ ⟨rfl, Nat.le_of_ble_eq_true rfl⟩ (cc_below360 hE b) rfl ?_
    refine Z.if_eqB (tgt := 35) dX6_near_17 (by decide) (fun h2 => ?_) (fun h2 => ?_)
    · refine Z.iconst (v := 0) dX6_near_35 (by decide) ?_
      exact Z.zret dX6_near_36 rfl (by decide) ⟨by simp [neK, bI, h1, h2], by rw [if_neg (by simp [neK, h1, h2])]; exact hE, rfl⟩
    · refine Z.iload_n dX6_near_20 rfl ?_
      refine Z.iload_n dX6_near_21 rfl ?_
      refine Z.icmp_eq (tgt := 35) dX6_near_22 (by decide) (fun h3 => ?_) (fun h3 => ?_)
      · refine Z.iconst (v := 0) dX6_near_35 (by decide) ?_
        exact Z.zret dX6_near_36 rfl (by decide) ⟨by simp [neK, bI, h1, h2, eq_true h3], by rw [if_neg (by simp [neK, h1, h2, eq_true h3])]; exact hE, rfl⟩
      · refine Z.iload_n dX6_near_25 rfl ?_
        refine Z.sipush (v := 1000) dX6_near_26 (by decide) ?_
        refine Z.callSp (M := mX6_near) (pc := 29) (st := []) (N := mX6_below) (n := 2) (r := .int (bI (inB v 0 999))) dX6_near_29 mlX6_66 mkX6_below stX6_below (d1 := 0) (by decide) (As := [.int v, .int 1000]) rfl ⟨rfl, Nat.le_of_ble_eq_true rfl⟩ ⟨rfl, Nat.le_of_ble_eq_true rfl⟩ (cc_below1000 hE v) rfl ?_
        refine Z.if_neB (tgt := 37) dX6_near_32 (by decide) (fun h4 => ?_) (fun h4 => ?_)
        · refine Z.aload_n dX6_near_37 rfl ?_
          refine Z.getR (r := 9) dX6_near_38 cl6 flX6_19 (by decide) (fx0 hF) rfl ?_
          refine Z.iload_n dX6_near_41 rfl ?_
          refine Z.iload_n dX6_near_42 rfl ?_
          refine Z.iload_n dX6_near_43 rfl ?_
          refine Z.callVg (M := mX6_near) (pc := 44) (st := []) (N := mX2_tell) (n := 3) dX6_near_44 mlX6_88 mkX2_tell imX2_tell seX2_tell (fx9 hF) cl2 rfl (d1 := 1) (by decide) (As := [.int a, .int b, .int v]) rfl ⟨rfl, Nat.le_of_ble_eq_true rfl⟩ ⟨rfl, Nat.le_of_ble_eq_true rfl⟩ (cc_tell2 hE a b v hF hC hq hcq) rfl (fun v_ J1 S_ h_ => ?_)
          obtain ⟨rfl, rfl, rfl⟩ := h_
          exact Z.zret dX6_near_47 rfl (bI_01 _) ⟨by rw [ne_eq hq2 h1 h2 h3 h4], by by_cases q : neK I nq a b v = true; (rw [if_pos q]; exact tl_ex hE); (rw [if_neg q, tl_no (by rw [ne_eq hq2 h1 h2 h3 h4]; exact q)]; exact hE), rfl⟩
        · refine Z.iconst (v := 0) dX6_near_35 (by decide) ?_
          exact Z.zret dX6_near_36 rfl (by decide) ⟨by simp [neK, bI, h1, h2, h3, h4], by rw [if_neg (by simp [neK, h1, h2, h3, h4])]; exact hE, rfl⟩

