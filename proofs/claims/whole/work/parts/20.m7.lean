def abM (I : IM) (n nq mm : Nat) (w : Int32) : Int32 := if w = 0 then nI mm else if w = 1 then nI n else if w = 2 then (if n = 0 then 0 else I 52 (n - 1)) else if w = 3 then nI nq else if w = 4 then I 35 8 else if w = 5 then I 35 9 else -1
theorem sw05_o {x : Int32} (h : x.toInt < 0 ∨ 5 < x.toInt) : ¬ x = 0 ∧ ¬ x = 1 ∧ ¬ x = 2 ∧ ¬ x = 3 ∧ ¬ x = 4 ∧ ¬ x = 5 := by
  refine ⟨?_, ?_, ?_, ?_, ?_, ?_⟩ <;> (intro q; rw [q] at h; revert h; decide)
theorem sw04_o {x : Int32} (h : x.toInt < 0 ∨ 4 < x.toInt) : ¬ x = 0 ∧ ¬ x = 1 ∧ ¬ x = 2 ∧ ¬ x = 3 ∧ ¬ x = 4 := by
  refine ⟨?_, ?_, ?_, ?_, ?_⟩ <;> (intro q; rw [q] at h; revert h; decide)
theorem sw03_o {x : Int32} (h : x.toInt < 0 ∨ 3 < x.toInt) : ¬ x = 0 ∧ ¬ x = 1 ∧ ¬ x = 2 ∧ ¬ x = 3 := by
  refine ⟨?_, ?_, ?_, ?_⟩ <;> (intro q; rw [q] at h; revert h; decide)
theorem sw02_o {x : Int32} (h : x.toInt < 0 ∨ 2 < x.toInt) : ¬ x = 0 ∧ ¬ x = 1 ∧ ¬ x = 2 := by
  refine ⟨?_, ?_, ?_⟩ <;> (intro q; rw [q] at h; revert h; decide)
set_option maxHeartbeats 4000000 in
set_option maxRecDepth 100000 in
theorem cp_about {g : GP} {I J : IM} {S : SH} (hE : Ex I J) (w : Int32) (hF : Fx S) {n : Nat} (hn : Mp I n) {nq : Nat} (hq : Mq I nq) (hM : MIv I) {mm : Nat} (hm : Mm I mm) : Z g 0 0 0 mX7_about 0 (enL mX7_about [.ref 35, .int w]) [] J S (NQ (.int (abM I n nq mm w)) I S) := by
  show Z g 0 0 0 mX7_about 0 [.ref 35, .int w] [] J S _
  have hn2 := hn.2
  have hq2 := hq.2
  have hm2 := hm.2
  refine Z.iload_n dX7_about_0 rfl ?_
  rcases sw_0_5 w with h1 | h1 | h1 | h1 | h1 | h1 | h1
  · refine Z.tableIn (off := 39) (tgt := 40) dX7_about_1 (by rw [h1]; decide) (by rw [h1]; decide) (by rw [h1]; decide) (by decide) ?_
    refine Z.aload_n dX7_about_40 rfl ?_
    refine Z.getIv (v := nI mm) dX7_about_41 cl7 flX7_83 (by decide) (fx35 hF) ((hE.at 35 10 rfl).trans hm.1) ?_
    exact Z.iret dX7_about_44 rfl ⟨by simp [abM, h1], hE, rfl⟩
  · refine Z.tableIn (off := 44) (tgt := 45) dX7_about_1 (by rw [h1]; decide) (by rw [h1]; decide) (by rw [h1]; decide) (by decide) ?_
    refine Z.aload_n dX7_about_45 rfl ?_
    refine Z.getIv (v := nI n) dX7_about_46 cl7 flX7_105 (by decide) (fx35 hF) ((hE.at 35 17 rfl).trans hn.1) ?_
    exact Z.iret dX7_about_49 rfl ⟨by simp [abM, h1], hE, rfl⟩
  · refine Z.tableIn (off := 49) (tgt := 50) dX7_about_1 (by rw [h1]; decide) (by rw [h1]; decide) (by rw [h1]; decide) (by decide) ?_
    refine Z.aload_n dX7_about_50 rfl ?_
    refine Z.getIv (v := nI n) dX7_about_51 cl7 flX7_105 (by decide) (fx35 hF) ((hE.at 35 17 rfl).trans hn.1) ?_
    refine Z.if_neN (a := n) (by omega) (tgt := 61) dX7_about_54 (by decide) (fun h2 => ?_) (fun h2 => ?_)
    · refine Z.aload_n dX7_about_61 rfl ?_
      refine Z.getR (r := 52) dX7_about_62 cl7 flX7_58 (by decide) (fx35 hF) rfl ?_
      refine Z.aload_n dX7_about_65 rfl ?_
      refine Z.getIv (v := nI n) dX7_about_66 cl7 flX7_105 (by decide) (fx35 hF) ((hE.at 35 17 rfl).trans hn.1) ?_
      refine Z.iconst (v := 1) dX7_about_69 (by decide) ?_
      refine Z.isubN (a := n) (b := 1) (by omega) dX7_about_70 ?_
      refine Z.ialdv (j := n - 1) (v := I 52 (n - 1)) dX7_about_71 (fx52 hF) rfl (by omega) (by decide) (hE.at 52 (n - 1) rfl) ?_
      exact Z.iret dX7_about_72 rfl ⟨by simp [abM, h1, h2, Nat.ne_of_gt h2], hE, rfl⟩
    · refine Z.iconst (v := 0) dX7_about_57 (by decide) ?_
      refine Z.goto (tgt := 72) dX7_about_58 (by decide) ?_
      exact Z.iret dX7_about_72 rfl ⟨by simp [abM, h1, h2], hE, rfl⟩
  · refine Z.tableIn (off := 72) (tgt := 73) dX7_about_1 (by rw [h1]; decide) (by rw [h1]; decide) (by rw [h1]; decide) (by decide) ?_
    refine Z.aload_n dX7_about_73 rfl ?_
    refine Z.getIv (v := nI nq) dX7_about_74 cl7 flX7_91 (by decide) (fx35 hF) ((hE.at 35 7 rfl).trans hq.1) ?_
    exact Z.iret dX7_about_77 rfl ⟨by simp [abM, h1], hE, rfl⟩
  · refine Z.tableIn (off := 77) (tgt := 78) dX7_about_1 (by rw [h1]; decide) (by rw [h1]; decide) (by rw [h1]; decide) (by decide) ?_
    refine Z.aload_n dX7_about_78 rfl ?_
    refine Z.getIv (v := I 35 8) dX7_about_79 cl7 flX7_76 (by decide) (fx35 hF) (hE.at 35 8 rfl) ?_
    exact Z.iret dX7_about_82 rfl ⟨by simp [abM, h1], hE, rfl⟩
  · refine Z.tableIn (off := 82) (tgt := 83) dX7_about_1 (by rw [h1]; decide) (by rw [h1]; decide) (by rw [h1]; decide) (by decide) ?_
    refine Z.aload_n dX7_about_83 rfl ?_
    refine Z.getIv (v := I 35 9) dX7_about_84 cl7 flX7_80 (by decide) (fx35 hF) (hE.at 35 9 rfl) ?_
    exact Z.iret dX7_about_87 rfl ⟨by simp [abM, h1], hE, rfl⟩
  · refine Z.tableOut (tgt := 88) dX7_about_1 h1 (by decide) ?_
    refine Z.iconst (v := (-1)) dX7_about_88 (by decide) ?_
    exact Z.iret dX7_about_89 rfl ⟨by have hq_ := sw05_o h1; simp [abM, hq_.1, hq_.2.1, hq_.2.2.1, hq_.2.2.2.1, hq_.2.2.2.2.1, hq_.2.2.2.2.2], hE, rfl⟩

def lvN (I : IM) (a b : Int32) : IM := va_up I 35 (upd (upd (I 35) 8 a) 9 b)
set_option maxHeartbeats 4000000 in
set_option maxRecDepth 100000 in
theorem cp_levels {g : GP} {I J : IM} {S : SH} (hE : Ex I J) (a b : Int32) (hF : Fx S) {n : Nat} (hn : Mp I n) {nq : Nat} (hq : Mq I nq) (hM : MIv I) {mm : Nat} (hm : Mm I mm) : Z g 1 0 0 mX7_levels 0 (enL mX7_levels [.ref 35, .int a, .int b]) [] J S (NQ (.int (bI (inB a 1 1000 && inB b 1 1000))) (if (inB a 1 1000 && inB b 1 1000) = true then lvN I a b else I) S) := by
  show Z g 1 0 0 mX7_levels 0 [.ref 35, .int a, .int b] [] J S _
  have hn2 := hn.2
  have hq2 := hq.2
  have hm2 := hm.2
  refine Z.iload_n dX7_levels_0 rfl ?_
  refine Z.iconst (v := 1) dX7_levels_1 (by decide) ?_
  refine Z.sipush (v := 1000) dX7_levels_2 (by decide) ?_
  refine Z.callSp (M := mX7_levels) (pc := 5) (st := []) (N := mX7_in) (n := 3) (r := .int (bI (inB a 1 1000))) dX7_levels_5 mlX7_86 mkX7_in stX7_in (d1 := 0) (by decide) (As := [.int a, .int 1, .int 1000]) rfl ⟨rfl, Nat.le_of_ble_eq_true rfl⟩ ⟨rfl, Nat.le_of_ble_eq_true rfl⟩ (ct_in hE a 1 1000) rfl ?_
  refine Z.if_eqB (tgt := 22) dX7_levels_8 (by decide) (fun h1 => ?_) (fun h1 => ?_)
  · refine Z.iconst (v := 0) dX7_levels_22 (by decide) ?_
    exact Z.zret dX7_levels_23 rfl (by decide) ⟨by simp [bI, h1], by simp [h1]; exact hE, rfl⟩
  · refine Z.iload_n dX7_levels_11 rfl ?_
    refine Z.iconst (v := 1) dX7_levels_12 (by decide) ?_
    refine Z.sipush (v := 1000) dX7_levels_13 (by decide) ?_
    refine Z.callSp (M := mX7_levels) (pc := 16) (st := []) (N := mX7_in) (n := 3) (r := .int (bI (inB b 1 1000))) dX7_levels_16 mlX7_86 mkX7_in stX7_in (d1 := 0) (by decide) (As := [.int b, .int 1, .int 1000]) rfl ⟨rfl, Nat.le_of_ble_eq_true rfl⟩ ⟨rfl, Nat.le_of_ble_eq_true rfl⟩ (ct_in hE b 1 1000) rfl ?_
    refine Z.if_neB (tgt := 24) dX7_levels_19 (by decide) (fun h2 => ?_) (fun h2 => ?_)
    · refine Z.aload_n dX7_levels_24 rfl ?_
      refine Z.iload_n dX7_levels_25 rfl ?_
      refine Z.putI (x := a) dX7_levels_26 cl7 flX7_76 (by decide) ⟨rfl, rfl⟩ (fx35 hF) ?_
      refine Z.aload_n dX7_levels_29 rfl ?_
      refine Z.iload_n dX7_levels_30 rfl ?_
      refine Z.putI (x := b) dX7_levels_31 cl7 flX7_80 (by decide) ⟨rfl, rfl⟩ (fx35 hF) ?_
      refine Z.eqI (bx_uu _ _ _ _) ?_
      refine Z.iconst (v := 1) dX7_levels_34 (by decide) ?_
      exact Z.zret dX7_levels_35 rfl (by decide) ⟨by simp [bI, h1, h2], by simp only [h1, h2, Bool.and_true, if_true]; rw [hE 35 rfl]; exact hE.upB, rfl⟩
    · refine Z.iconst (v := 0) dX7_levels_22 (by decide) ?_
      exact Z.zret dX7_levels_23 rfl (by decide) ⟨by simp [bI, h1, h2], by simp [h1, h2]; exact hE, rfl⟩

def unN (I : IM) (n : Nat) : IM := va_up I 35 (upd (I 35) 17 (nI (n - 1)))
set_option maxHeartbeats 4000000 in
set_option maxRecDepth 100000 in
theorem cp_undo {g : GP} {I J : IM} {S : SH} (hE : Ex I J)  (hF : Fx S) {n : Nat} (hn : Mp I n) {nq : Nat} (hq : Mq I nq) (hM : MIv I) {mm : Nat} (hm : Mm I mm) : Z g 0 0 0 mX7_undo 0 (enL mX7_undo [.ref 35]) [] J S (NQ (.int (if n = 0 then -1 else nI (n - 1))) (if n = 0 then I else unN I n) S) := by
  show Z g 0 0 0 mX7_undo 0 [.ref 35] [] J S _
  have hn2 := hn.2
  have hq2 := hq.2
  have hm2 := hm.2
  refine Z.aload_n dX7_undo_0 rfl ?_
  refine Z.getIv (v := nI n) dX7_undo_1 cl7 flX7_105 (by decide) (fx35 hF) ((hE.at 35 17 rfl).trans hn.1) ?_
  refine Z.if_neN (a := n) (by omega) (tgt := 9) dX7_undo_4 (by decide) (fun h1 => ?_) (fun h1 => ?_)
  · refine Z.aload_n dX7_undo_9 rfl ?_
    refine Z.dupR dX7_undo_10 ?_
    refine Z.getIv (v := nI n) dX7_undo_11 cl7 flX7_105 (by decide) (fx35 hF) ((hE.at 35 17 rfl).trans hn.1) ?_
    refine Z.iconst (v := 1) dX7_undo_14 (by decide) ?_
    refine Z.isubN (a := n) (b := 1) (by omega) dX7_undo_15 ?_
    refine Z.putI (x := nI (n - 1)) dX7_undo_16 cl7 flX7_105 (by decide) ⟨rfl, rfl⟩ (fx35 hF) ?_
    refine Z.aload_n dX7_undo_19 rfl ?_
    refine Z.getIv (v := nI (n - 1)) dX7_undo_20 cl7 flX7_105 (by decide) (fx35 hF) rfl ?_
    exact Z.iret dX7_undo_23 rfl ⟨by rw [if_neg (by omega)], by rw [if_neg (by omega), unN, hE 35 rfl]; exact hE.upB, rfl⟩
  · refine Z.iconst (v := (-1)) dX7_undo_7 (by decide) ?_
    exact Z.iret dX7_undo_8 rfl ⟨by rw [if_pos (by omega)], by rw [if_pos (by omega)]; exact hE, rfl⟩

def poM (I : IM) (n : Nat) (i w : Int32) : Int32 := if inB i 0 (nI n - 1) = true then (if w = 0 then I 49 i.toNatClampNeg else if w = 1 then I 50 i.toNatClampNeg else if w = 2 then I 51 i.toNatClampNeg else if w = 3 then I 52 i.toNatClampNeg else -1) else -1
set_option maxHeartbeats 4000000 in
set_option maxRecDepth 100000 in
theorem cp_paperOf {g : GP} {I J : IM} {S : SH} (hE : Ex I J) (i w : Int32) (hF : Fx S) {n : Nat} (hn : Mp I n) {nq : Nat} (hq : Mq I nq) (hM : MIv I) {mm : Nat} (hm : Mm I mm) : Z g 1 0 0 mX7_paperOf 0 (enL mX7_paperOf [.ref 35, .int i, .int w]) [] J S (NQ (.int (poM I n i w)) I S) := by
  show Z g 1 0 0 mX7_paperOf 0 [.ref 35, .int i, .int w] [] J S _
  have hn2 := hn.2
  have hq2 := hq.2
  have hm2 := hm.2
  refine Z.iload_n dX7_paperOf_0 rfl ?_
  refine Z.iconst (v := 0) dX7_paperOf_1 (by decide) ?_
  refine Z.aload_n dX7_paperOf_2 rfl ?_
  refine Z.getIv (v := nI n) dX7_paperOf_3 cl7 flX7_105 (by decide) (fx35 hF) ((hE.at 35 17 rfl).trans hn.1) ?_
  refine Z.iconst (v := 1) dX7_paperOf_6 (by decide) ?_
  refine Z.isub dX7_paperOf_7 ?_
  refine Z.callSp (M := mX7_paperOf) (pc := 8) (st := []) (N := mX7_in) (n := 3) (r := .int (bI (inB i 0 ((nI n) - 1)))) dX7_paperOf_8 mlX7_86 mkX7_in stX7_in (d1 := 0) (by decide) (As := [.int i, .int 0, .int ((nI n) - 1)]) rfl ⟨rfl, Nat.le_of_ble_eq_true rfl⟩ ⟨rfl, Nat.le_of_ble_eq_true rfl⟩ (ct_in hE i 0 ((nI n) - 1)) rfl ?_
  refine Z.if_neB (tgt := 16) dX7_paperOf_11 (by decide) (fun h1 => ?_) (fun h1 => ?_)
  · have e_i := (in1_rg (by omega) h1).1
    have l_i := (in1_rg (by omega) h1).2
    refine Z.eqLs (L' := [.ref 35, .int (nI (i.toNatClampNeg)), .int w]) (st' := []) (by rw [← e_i]) (by first | rfl | rw [← e_i]) ?_
    refine Z.iload_n dX7_paperOf_16 rfl ?_
    rcases sw_0_3 w with h2 | h2 | h2 | h2 | h2
    · refine Z.tableIn (off := 31) (tgt := 48) dX7_paperOf_17 (by rw [h2]; decide) (by rw [h2]; decide) (by rw [h2]; decide) (by decide) ?_
      refine Z.aload_n dX7_paperOf_48 rfl ?_
      refine Z.getR (r := 49) dX7_paperOf_49 cl7 flX7_49 (by decide) (fx35 hF) rfl ?_
      refine Z.iload_n dX7_paperOf_52 rfl ?_
      refine Z.ialdv (j := i.toNatClampNeg) (v := I 49 (i.toNatClampNeg)) dX7_paperOf_53 (fx49 hF) rfl (by omega) (by decide) (hE.at 49 (i.toNatClampNeg) rfl) ?_
      exact Z.iret dX7_paperOf_54 rfl ⟨by simp [poM, h1, h2], hE, rfl⟩
    · refine Z.tableIn (off := 38) (tgt := 55) dX7_paperOf_17 (by rw [h2]; decide) (by rw [h2]; decide) (by rw [h2]; decide) (by decide) ?_
      refine Z.aload_n dX7_paperOf_55 rfl ?_
      refine Z.getR (r := 50) dX7_paperOf_56 cl7 flX7_52 (by decide) (fx35 hF) rfl ?_
      refine Z.iload_n dX7_paperOf_59 rfl ?_
      refine Z.ialdv (j := i.toNatClampNeg) (v := I 50 (i.toNatClampNeg)) dX7_paperOf_60 (fx50 hF) rfl (by omega) (by decide) (hE.at 50 (i.toNatClampNeg) rfl) ?_
      exact Z.iret dX7_paperOf_61 rfl ⟨by simp [poM, h1, h2], hE, rfl⟩
    · refine Z.tableIn (off := 45) (tgt := 62) dX7_paperOf_17 (by rw [h2]; decide) (by rw [h2]; decide) (by rw [h2]; decide) (by decide) ?_
      refine Z.aload_n dX7_paperOf_62 rfl ?_
      refine Z.getR (r := 51) dX7_paperOf_63 cl7 flX7_55 (by decide) (fx35 hF) rfl ?_
      refine Z.iload_n dX7_paperOf_66 rfl ?_
      refine Z.ialdv (j := i.toNatClampNeg) (v := I 51 (i.toNatClampNeg)) dX7_paperOf_67 (fx51 hF) rfl (by omega) (by decide) (hE.at 51 (i.toNatClampNeg) rfl) ?_
      exact Z.iret dX7_paperOf_68 rfl ⟨by simp [poM, h1, h2], hE, rfl⟩
    · refine Z.tableIn (off := 52) (tgt := 69) dX7_paperOf_17 (by rw [h2]; decide) (by rw [h2]; decide) (by rw [h2]; decide) (by decide) ?_
      refine Z.aload_n dX7_paperOf_69 rfl ?_
      refine Z.getR (r := 52) dX7_paperOf_70 cl7 flX7_58 (by decide) (fx35 hF) rfl ?_
      refine Z.iload_n dX7_paperOf_73 rfl ?_
      refine Z.ialdv (j := i.toNatClampNeg) (v := I 52 (i.toNatClampNeg)) dX7_paperOf_74 (fx52 hF) rfl (by omega) (by decide) (hE.at 52 (i.toNatClampNeg) rfl) ?_
      exact Z.iret dX7_paperOf_75 rfl ⟨by simp [poM, h1, h2], hE, rfl⟩
    · refine Z.tableOut (tgt := 76) dX7_paperOf_17 h2 (by decide) ?_
      refine Z.iconst (v := (-1)) dX7_paperOf_76 (by decide) ?_
      exact Z.iret dX7_paperOf_77 rfl ⟨by have hq_ := sw03_o h2; simp [poM, hq_.1, hq_.2.1, hq_.2.2.1, hq_.2.2.2, h1], hE, rfl⟩
  · refine Z.iconst (v := (-1)) dX7_paperOf_14 (by decide) ?_
    exact Z.iret dX7_paperOf_15 rfl ⟨by simp [poM, h1], hE, rfl⟩

def moM (I : IM) (m w : Int32) : Int32 := if inB m 0 (I 35 10 - 1) = true then (if w = 0 then I 43 m.toNatClampNeg else if w = 1 then I 44 m.toNatClampNeg else if w = 2 then I 45 m.toNatClampNeg else if w = 3 then nI (sM I m.toNatClampNeg).1 else if w = 4 then I 47 m.toNatClampNeg else -1) else -1
set_option maxHeartbeats 4000000 in
set_option maxRecDepth 100000 in
theorem cp_markOf {g : GP} {I J : IM} {S : SH} (hE : Ex I J) (m w : Int32) (hF : Fx S) {n : Nat} (hn : Mp I n) {nq : Nat} (hq : Mq I nq) (hM : MIv I) {mm : Nat} (hm : Mm I mm) : Z g 2 0 0 mX7_markOf 0 (enL mX7_markOf [.ref 35, .int m, .int w]) [] J S (NQ (.int (moM I m w)) I S) := by
  show Z g 2 0 0 mX7_markOf 0 [.ref 35, .int m, .int w] [] J S _
  have hn2 := hn.2
  have hq2 := hq.2
  have hm2 := hm.2
  refine Z.aload_n dX7_markOf_0 rfl ?_
  refine Z.iload_n dX7_markOf_1 rfl ?_
  refine Z.callVp (M := mX7_markOf) (pc := 2) (st := []) (N := mX7_isMark) (n := 1) (r := .int (bI (inB m 0 (I 35 10 - 1)))) dX7_markOf_2 mlX7_108 mkX7_isMark imX7_isMark seX7_isMark (fx35 hF) cl7 rfl (d1 := 1) (by decide) (As := [.int m]) rfl ⟨rfl, Nat.le_of_ble_eq_true rfl⟩ ⟨rfl, Nat.le_of_ble_eq_true rfl⟩ (ct_isMark hE m hF) rfl ?_
  refine Z.if_neB (tgt := 10) dX7_markOf_5 (by decide) (fun h1 => ?_) (fun h1 => ?_)
  · have e_m := (mk_rg hm.1 hm.2 h1).1
    have l_m := (mk_rg hm.1 hm.2 h1).2
    refine Z.eqLs (L' := [.ref 35, .int (nI (m.toNatClampNeg)), .int w]) (st' := []) (by rw [← e_m]) (by first | rfl | rw [← e_m]) ?_
    refine Z.iload_n dX7_markOf_10 rfl ?_
    rcases sw_0_4 w with h2 | h2 | h2 | h2 | h2 | h2
    · refine Z.tableIn (off := 33) (tgt := 44) dX7_markOf_11 (by rw [h2]; decide) (by rw [h2]; decide) (by rw [h2]; decide) (by decide) ?_
      refine Z.aload_n dX7_markOf_44 rfl ?_
      refine Z.getR (r := 43) dX7_markOf_45 cl7 flX7_31 (by decide) (fx35 hF) rfl ?_
      refine Z.iload_n dX7_markOf_48 rfl ?_
      refine Z.ialdv (j := m.toNatClampNeg) (v := I 43 (m.toNatClampNeg)) dX7_markOf_49 (fx43 hF) rfl (by omega) (by decide) (hE.at 43 (m.toNatClampNeg) rfl) ?_
      exact Z.iret dX7_markOf_50 rfl ⟨by simp [moM, h1, h2], hE, rfl⟩
    · refine Z.tableIn (off := 40) (tgt := 51) dX7_markOf_11 (by rw [h2]; decide) (by rw [h2]; decide) (by rw [h2]; decide) (by decide) ?_
      refine Z.aload_n dX7_markOf_51 rfl ?_
      refine Z.getR (r := 44) dX7_markOf_52 cl7 flX7_34 (by decide) (fx35 hF) rfl ?_
      refine Z.iload_n dX7_markOf_55 rfl ?_
      refine Z.ialdv (j := m.toNatClampNeg) (v := I 44 (m.toNatClampNeg)) dX7_markOf_56 (fx44 hF) rfl (by omega) (by decide) (hE.at 44 (m.toNatClampNeg) rfl) ?_
      exact Z.iret dX7_markOf_57 rfl ⟨by simp [moM, h1, h2], hE, rfl⟩
    · refine Z.tableIn (off := 47) (tgt := 58) dX7_markOf_11 (by rw [h2]; decide) (by rw [h2]; decide) (by rw [h2]; decide) (by decide) ?_
      refine Z.aload_n dX7_markOf_58 rfl ?_
      refine Z.getR (r := 45) dX7_markOf_59 cl7 flX7_37 (by decide) (fx35 hF) rfl ?_
      refine Z.iload_n dX7_markOf_62 rfl ?_
      refine Z.ialdv (j := m.toNatClampNeg) (v := I 45 (m.toNatClampNeg)) dX7_markOf_63 (fx45 hF) rfl (by omega) (by decide) (hE.at 45 (m.toNatClampNeg) rfl) ?_
      exact Z.iret dX7_markOf_64 rfl ⟨by simp [moM, h1, h2], hE, rfl⟩
    · refine Z.tableIn (off := 54) (tgt := 65) dX7_markOf_11 (by rw [h2]; decide) (by rw [h2]; decide) (by rw [h2]; decide) (by decide) ?_
      refine Z.aload_n dX7_markOf_65 rfl ?_
      refine Z.iload_n dX7_markOf_66 rfl ?_
      refine Z.aload_n dX7_markOf_67 rfl ?_
      refine Z.getR (r := 53) dX7_markOf_68 cl7 flX7_61 (by decide) (fx35 hF) rfl ?_
      refine Z.callVg (M := mX7_markOf) (pc := 71) (st := []) (N := mX7_soundsInto) (n := 2) dX7_markOf_71 mlX7_121 mkX7_soundsInto imX7_soundsInto seX7_soundsInto (fx35 hF) cl7 rfl (d1 := 1) (by decide) (As := [.int (nI (m.toNatClampNeg)), .ref 53]) rfl ⟨rfl, Nat.le_of_ble_eq_true rfl⟩ ⟨rfl, Nat.le_of_ble_eq_true rfl⟩ (ct_soundsA2 hE m.toNatClampNeg hF hM (by omega)) rfl (fun v_ J1 S_ h_ => ?_)
      obtain ⟨rfl, hE, rfl⟩ := h_
      exact Z.iret dX7_markOf_74 rfl ⟨by simp [moM, h1, h2], hE, rfl⟩
    · refine Z.tableIn (off := 64) (tgt := 75) dX7_markOf_11 (by rw [h2]; decide) (by rw [h2]; decide) (by rw [h2]; decide) (by decide) ?_
      refine Z.aload_n dX7_markOf_75 rfl ?_
      refine Z.getR (r := 47) dX7_markOf_76 cl7 flX7_43 (by decide) (fx35 hF) rfl ?_
      refine Z.iload_n dX7_markOf_79 rfl ?_
      refine Z.ialdv (j := m.toNatClampNeg) (v := I 47 (m.toNatClampNeg)) dX7_markOf_80 (fx47 hF) rfl (by omega) (by decide) (hE.at 47 (m.toNatClampNeg) rfl) ?_
      exact Z.iret dX7_markOf_81 rfl ⟨by simp [moM, h1, h2], hE, rfl⟩
    · refine Z.tableOut (tgt := 82) dX7_markOf_11 h2 (by decide) ?_
      refine Z.iconst (v := (-1)) dX7_markOf_82 (by decide) ?_
      exact Z.iret dX7_markOf_83 rfl ⟨by have hq_ := sw04_o h2; simp [moM, hq_.1, hq_.2.1, hq_.2.2.1, hq_.2.2.2.1, hq_.2.2.2.2, h1], hE, rfl⟩
  · refine Z.iconst (v := (-1)) dX7_markOf_8 (by decide) ?_
    exact Z.iret dX7_markOf_9 rfl ⟨by simp [moM, h1], hE, rfl⟩

def liM (I : IM) (a b w : Int32) : Int32 := if (inB a 0 (I 35 10 - 1) && (inB b 0 (I 35 10 - 1) && inB w 0 1)) = true then (if w = 0 then lkM I a.toNatClampNeg b.toNatClampNeg else cstM I a.toNatClampNeg b.toNatClampNeg) else -1
set_option maxHeartbeats 4000000 in
set_option maxRecDepth 100000 in
theorem cp_like {g : GP} {I J : IM} {S : SH} (hE : Ex I J) (a b w : Int32) (hF : Fx S) {n : Nat} (hn : Mp I n) {nq : Nat} (hq : Mq I nq) (hM : MIv I) {mm : Nat} (hm : Mm I mm) : Z g 5 0 0 mX7_like 0 (enL mX7_like [.ref 35, .int a, .int b, .int w]) [] J S (NQ (.int (liM I a b w)) I S) := by
  show Z g 5 0 0 mX7_like 0 [.ref 35, .int a, .int b, .int w] [] J S _
  have hn2 := hn.2
  have hq2 := hq.2
  have hm2 := hm.2
  refine Z.aload_n dX7_like_0 rfl ?_
  refine Z.iload_n dX7_like_1 rfl ?_
  refine Z.callVp (M := mX7_like) (pc := 2) (st := []) (N := mX7_isMark) (n := 1) (r := .int (bI (inB a 0 (I 35 10 - 1)))) dX7_like_2 mlX7_108 mkX7_isMark imX7_isMark seX7_isMark (fx35 hF) cl7 rfl (d1 := 1) (by decide) (As := [.int a]) rfl ⟨rfl, Nat.le_of_ble_eq_true rfl⟩ ⟨rfl, Nat.le_of_ble_eq_true rfl⟩ (ct_isMark hE a hF) rfl ?_
  refine Z.if_eqB (tgt := 25) dX7_like_5 (by decide) (fun h1 => ?_) (fun h1 => ?_)
  · refine Z.iconst (v := (-1)) dX7_like_25 (by decide) ?_
    exact Z.iret dX7_like_26 rfl ⟨by simp [liM, show inB (0 : Int32) 0 1 = true by decide, h1], hE, rfl⟩
  · refine Z.aload_n dX7_like_8 rfl ?_
    refine Z.iload_n dX7_like_9 rfl ?_
    refine Z.callVp (M := mX7_like) (pc := 10) (st := []) (N := mX7_isMark) (n := 1) (r := .int (bI (inB b 0 (I 35 10 - 1)))) dX7_like_10 mlX7_108 mkX7_isMark imX7_isMark seX7_isMark (fx35 hF) cl7 rfl (d1 := 1) (by decide) (As := [.int b]) rfl ⟨rfl, Nat.le_of_ble_eq_true rfl⟩ ⟨rfl, Nat.le_of_ble_eq_true rfl⟩ (ct_isMark hE b hF) rfl ?_
    refine Z.if_eqB (tgt := 25) dX7_like_13 (by decide) (fun h2 => ?_) (fun h2 => ?_)
    · refine Z.iconst (v := (-1)) dX7_like_25 (by decide) ?_
      exact Z.iret dX7_like_26 rfl ⟨by simp [liM, show inB (0 : Int32) 0 1 = true by decide, h1, h2], hE, rfl⟩
    · refine Z.iload_n dX7_like_16 rfl ?_
      refine Z.iconst (v := 0) dX7_like_17 (by decide) ?_
      refine Z.iconst (v := 1) dX7_like_18 (by decide) ?_
      refine Z.callSp (M := mX7_like) (pc := 19) (st := []) (N := mX7_in) (n := 3) (r := .int (bI (inB w 0 1))) dX7_like_19 mlX7_86 mkX7_in stX7_in (d1 := 0) (by decide) (As := [.int w, .int 0, .int 1]) rfl ⟨rfl, Nat.le_of_ble_eq_true rfl⟩ ⟨rfl, Nat.le_of_ble_eq_true rfl⟩ (ct_in hE w 0 1) rfl ?_
      refine Z.if_neB (tgt := 27) dX7_like_22 (by decide) (fun h3 => ?_) (fun h3 => ?_)
      · have e_a := (mk_rg hm.1 hm.2 h1).1
        have l_a := (mk_rg hm.1 hm.2 h1).2
        refine Z.eqLs (L' := [.ref 35, .int (nI (a.toNatClampNeg)), .int b, .int w]) (st' := []) (by rw [← e_a]) (by first | rfl | rw [← e_a]) ?_
        have e_b := (mk_rg hm.1 hm.2 h2).1
        have l_b := (mk_rg hm.1 hm.2 h2).2
        refine Z.eqLs (L' := [.ref 35, .int (nI (a.toNatClampNeg)), .int (nI (b.toNatClampNeg)), .int w]) (st' := []) (by rw [← e_b]) (by first | rfl | rw [← e_b]) ?_
        refine Z.iload_n dX7_like_27 rfl ?_
        refine Z.if_ne (tgt := 40) dX7_like_28 (by decide) (fun h4 => ?_) (fun h4 => ?_)
        · refine Z.aload_n dX7_like_40 rfl ?_
          refine Z.iload_n dX7_like_41 rfl ?_
          refine Z.iload_n dX7_like_42 rfl ?_
          refine Z.callVg (M := mX7_like) (pc := 43) (st := []) (N := mX7_costOf) (n := 2) dX7_like_43 mlX7_126 mkX7_costOf imX7_costOf seX7_costOf (fx35 hF) cl7 rfl (d1 := 2) (by decide) (As := [.int (nI (a.toNatClampNeg)), .int (nI (b.toNatClampNeg))]) rfl ⟨rfl, Nat.le_of_ble_eq_true rfl⟩ ⟨rfl, Nat.le_of_ble_eq_true rfl⟩ (ct_costOf2 hE a.toNatClampNeg b.toNatClampNeg hF hM (by omega) (by omega)) rfl (fun v_ J1 S_ h_ => ?_)
          obtain ⟨rfl, hE, rfl⟩ := h_
          exact Z.iret dX7_like_46 rfl ⟨by simp [liM, show inB (0 : Int32) 0 1 = true by decide, h1, h2, h3, h4], hE, rfl⟩
        · refine Z.aload_n dX7_like_31 rfl ?_
          refine Z.iload_n dX7_like_32 rfl ?_
          refine Z.iload_n dX7_like_33 rfl ?_
          refine Z.callVg (M := mX7_like) (pc := 34) (st := []) (N := mX7_likeOf) (n := 2) dX7_like_34 mlX7_135 mkX7_likeOf imX7_likeOf seX7_likeOf (fx35 hF) cl7 rfl (d1 := 4) (by decide) (As := [.int (nI (a.toNatClampNeg)), .int (nI (b.toNatClampNeg))]) rfl ⟨rfl, Nat.le_of_ble_eq_true rfl⟩ ⟨rfl, Nat.le_of_ble_eq_true rfl⟩ (ct_likeOf hE a.toNatClampNeg b.toNatClampNeg hF hM (by omega) (by omega)) rfl (fun v_ J2 S_ h_ => ?_)
          obtain ⟨rfl, hE, rfl⟩ := h_
          refine Z.goto (tgt := 46) dX7_like_37 (by decide) ?_
          exact Z.iret dX7_like_46 rfl ⟨by simp [liM, show inB (0 : Int32) 0 1 = true by decide, h1, h2, h3, h4], hE, rfl⟩
      · refine Z.iconst (v := (-1)) dX7_like_25 (by decide) ?_
        exact Z.iret dX7_like_26 rfl ⟨by simp [liM, show inB (0 : Int32) 0 1 = true by decide, h1, h2, h3], hE, rfl⟩

def riM (I : IM) (n : Nat) (m g_ c t w : Int32) : Int32 := if (inB m 0 (I 35 10 - 1) && (inB g_ 0 359 && (inB c 0 15 && inB t 0 60000))) = true then (if w = 0 then sinceF (pM I n) m g_ t else if w = 1 then rightF (pM I n) m g_ c t else if w = 2 then bI (standsF (pM I n) m g_ c t) else -1) else -1
set_option maxHeartbeats 4000000 in
set_option maxRecDepth 100000 in
theorem cp_right {g : GP} {I J : IM} {S : SH} (hE : Ex I J) (m g_ c t w : Int32) (hF : Fx S) {n : Nat} (hn : Mp I n) {nq : Nat} (hq : Mq I nq) (hM : MIv I) {mm : Nat} (hm : Mm I mm) : Z g 5 0 0 mX7_right 0 (enL mX7_right [.ref 35, .int m, .int g_, .int c, .int t, .int w]) [] J S (NQ (.int (riM I n m g_ c t w)) I S) := by
  show Z g 5 0 0 mX7_right 0 [.ref 35, .int m, .int g_, .int c, .int t, .int w] [] J S _
  have hn2 := hn.2
  have hq2 := hq.2
  have hm2 := hm.2
  refine Z.aload_n dX7_right_0 rfl ?_
  refine Z.iload_n dX7_right_1 rfl ?_
  refine Z.callVp (M := mX7_right) (pc := 2) (st := []) (N := mX7_isMark) (n := 1) (r := .int (bI (inB m 0 (I 35 10 - 1)))) dX7_right_2 mlX7_108 mkX7_isMark imX7_isMark seX7_isMark (fx35 hF) cl7 rfl (d1 := 1) (by decide) (As := [.int m]) rfl ⟨rfl, Nat.le_of_ble_eq_true rfl⟩ ⟨rfl, Nat.le_of_ble_eq_true rfl⟩ (ct_isMark hE m hF) rfl ?_
  refine Z.if_eqB (tgt := 30) dX7_right_5 (by decide) (fun h1 => ?_) (fun h1 => ?_)
  · refine Z.iconst (v := (-1)) dX7_right_30 (by decide) ?_
    exact Z.iret dX7_right_31 rfl ⟨by simp [riM, h1, bI], hE, rfl⟩
  · refine Z.iload_n dX7_right_8 rfl ?_
    refine Z.callSp (M := mX7_right) (pc := 9) (st := []) (N := mX7_isGoods) (n := 1) (r := .int (bI (inB g_ 0 359))) dX7_right_9 mlX7_94 mkX7_isGoods stX7_isGoods (d1 := 1) (by decide) (As := [.int g_]) rfl ⟨rfl, Nat.le_of_ble_eq_true rfl⟩ ⟨rfl, Nat.le_of_ble_eq_true rfl⟩ (ct_isGoods hE g_) rfl ?_
    refine Z.if_eqB (tgt := 30) dX7_right_12 (by decide) (fun h2 => ?_) (fun h2 => ?_)
    · refine Z.iconst (v := (-1)) dX7_right_30 (by decide) ?_
      exact Z.iret dX7_right_31 rfl ⟨by simp [riM, h1, h2, bI], hE, rfl⟩
    · refine Z.iload_n dX7_right_15 rfl ?_
      refine Z.callSp (M := mX7_right) (pc := 16) (st := []) (N := mX7_isCountry) (n := 1) (r := .int (bI (inB c 0 15))) dX7_right_16 mlX7_194 mkX7_isCountry stX7_isCountry (d1 := 1) (by decide) (As := [.int c]) rfl ⟨rfl, Nat.le_of_ble_eq_true rfl⟩ ⟨rfl, Nat.le_of_ble_eq_true rfl⟩ (ct_isCountry hE c) rfl ?_
      refine Z.if_eqB (tgt := 30) dX7_right_19 (by decide) (fun h3 => ?_) (fun h3 => ?_)
      · refine Z.iconst (v := (-1)) dX7_right_30 (by decide) ?_
        exact Z.iret dX7_right_31 rfl ⟨by simp [riM, h1, h2, h3, bI], hE, rfl⟩
      · refine Z.iload dX7_right_22 rfl ?_
        refine Z.callSp (M := mX7_right) (pc := 24) (st := []) (N := mX7_isDay) (n := 1) (r := .int (bI (inB t 0 60000))) dX7_right_24 mlX7_200 mkX7_isDay stX7_isDay (d1 := 1) (by decide) (As := [.int t]) rfl ⟨rfl, Nat.le_of_ble_eq_true rfl⟩ ⟨rfl, Nat.le_of_ble_eq_true rfl⟩ (ct_isDay hE t) rfl ?_
        refine Z.if_neB (tgt := 32) dX7_right_27 (by decide) (fun h4 => ?_) (fun h4 => ?_)
        · refine Z.iload dX7_right_32 rfl ?_
          rcases sw_0_2 w with h5 | h5 | h5 | h5
          · refine Z.tableIn (off := 26) (tgt := 60) dX7_right_34 (by rw [h5]; decide) (by rw [h5]; decide) (by rw [h5]; decide) (by decide) ?_
            refine Z.aload_n dX7_right_60 rfl ?_
            refine Z.iload_n dX7_right_61 rfl ?_
            refine Z.iload_n dX7_right_62 rfl ?_
            refine Z.iload dX7_right_63 rfl ?_
            refine Z.callVp (M := mX7_right) (pc := 65) (st := []) (N := mX7_since) (n := 3) (r := .int (sinceF (pM I n) m g_ t)) dX7_right_65 mlX7_155 mkX7_since imX7_since seX7_since (fx35 hF) cl7 rfl (d1 := 1) (by decide) (As := [.int m, .int g_, .int t]) rfl ⟨rfl, Nat.le_of_ble_eq_true rfl⟩ ⟨rfl, Nat.le_of_ble_eq_true rfl⟩ (ct_since hE m g_ t hF hn) rfl ?_
            exact Z.iret dX7_right_68 rfl ⟨by simp [riM, h1, h2, h3, h4, h5, bI], hE, rfl⟩
          · refine Z.tableIn (off := 35) (tgt := 69) dX7_right_34 (by rw [h5]; decide) (by rw [h5]; decide) (by rw [h5]; decide) (by decide) ?_
            refine Z.aload_n dX7_right_69 rfl ?_
            refine Z.iload_n dX7_right_70 rfl ?_
            refine Z.iload_n dX7_right_71 rfl ?_
            refine Z.iload_n dX7_right_72 rfl ?_
            refine Z.iload dX7_right_73 rfl ?_
            refine Z.callVp (M := mX7_right) (pc := 75) (st := []) (N := mX7_rightOf) (n := 4) (r := .int (rightF (pM I n) m g_ c t)) dX7_right_75 mlX7_158 mkX7_rightOf imX7_rightOf seX7_rightOf (fx35 hF) cl7 rfl (d1 := 2) (by decide) (As := [.int m, .int g_, .int c, .int t]) rfl ⟨rfl, Nat.le_of_ble_eq_true rfl⟩ ⟨rfl, Nat.le_of_ble_eq_true rfl⟩ (ct_rightOf hE m g_ c t hF hn) rfl ?_
            exact Z.iret dX7_right_78 rfl ⟨by simp [riM, h1, h2, h3, h4, h5, bI], hE, rfl⟩
          · refine Z.tableIn (off := 45) (tgt := 79) dX7_right_34 (by rw [h5]; decide) (by rw [h5]; decide) (by rw [h5]; decide) (by decide) ?_
            refine Z.aload_n dX7_right_79 rfl ?_
            refine Z.iload_n dX7_right_80 rfl ?_
            refine Z.iload_n dX7_right_81 rfl ?_
            refine Z.iload_n dX7_right_82 rfl ?_
            refine Z.iload dX7_right_83 rfl ?_
            refine Z.callVp (M := mX7_right) (pc := 85) (st := []) (N := mX7_stands) (n := 4) (r := .int (bI (standsF (pM I n) m g_ c t))) dX7_right_85 mlX7_180 mkX7_stands imX7_stands seX7_stands (fx35 hF) cl7 rfl (d1 := 4) (by decide) (As := [.int m, .int g_, .int c, .int t]) rfl ⟨rfl, Nat.le_of_ble_eq_true rfl⟩ ⟨rfl, Nat.le_of_ble_eq_true rfl⟩ (ct_stands hE m g_ c t hF hn) rfl ?_
            refine Z.if_eqB (tgt := 95) dX7_right_88 (by decide) (fun h6 => ?_) (fun h6 => ?_)
            · refine Z.iconst (v := 0) dX7_right_95 (by decide) ?_
              exact Z.iret dX7_right_96 rfl ⟨by simp [riM, h1, h2, h3, h4, h5, h6, bI], hE, rfl⟩
            · refine Z.iconst (v := 1) dX7_right_91 (by decide) ?_
              refine Z.goto (tgt := 96) dX7_right_92 (by decide) ?_
              exact Z.iret dX7_right_96 rfl ⟨by simp [riM, h1, h2, h3, h4, h5, h6, bI], hE, rfl⟩
          · refine Z.tableOut (tgt := 97) dX7_right_34 h5 (by decide) ?_
            refine Z.iconst (v := (-1)) dX7_right_97 (by decide) ?_
            exact Z.iret dX7_right_98 rfl ⟨by have hq_ := sw02_o h5; simp [riM, hq_.1, hq_.2.1, hq_.2.2, h1, h2, h3, h4, bI], hE, rfl⟩
        · refine Z.iconst (v := (-1)) dX7_right_30 (by decide) ?_
          exact Z.iret dX7_right_31 rfl ⟨by simp [riM, h1, h2, h3, h4, bI], hE, rfl⟩

def stM (I : IM) (n : Nat) (m t w : Int32) : Int32 := if (inB m 0 (I 35 10 - 1) && inB t 0 60000) = true then (if w = 0 then firF (pM I n) m t else if w = 1 then (if firF (pM I n) m t < 0 then -1 else termF (pM I n) m t) else if w = 2 then (if firF (pM I n) m t < 0 then -1 else bI (lapF (pM I n) m t)) else if w = 3 then bI (strF (pM I n) m t) else if w = 4 then nI (gS (pM I n) m t).1 else if w = 5 then nI (cntF (pM I n) 1 m t) else -1) else -1
set_option maxHeartbeats 4000000 in
set_option maxRecDepth 100000 in
theorem cp_state {g : GP} {I J : IM} {S : SH} (hE : Ex I J) (m t w : Int32) (hF : Fx S) {n : Nat} (hn : Mp I n) {nq : Nat} (hq : Mq I nq) (hM : MIv I) {mm : Nat} (hm : Mm I mm) : Z g 4 0 0 mX7_state 0 (enL mX7_state [.ref 35, .int m, .int t, .int w]) [] J S (NQ (.int (stM I n m t w)) I S) := by
  show Z g 4 0 0 mX7_state 0 [.ref 35, .int m, .int t, .int w, .retAddr 0] [] J S _
  have hn2 := hn.2
  have hq2 := hq.2
  have hm2 := hm.2
  refine Z.aload_n dX7_state_0 rfl ?_
  refine Z.iload_n dX7_state_1 rfl ?_
  refine Z.callVp (M := mX7_state) (pc := 2) (st := []) (N := mX7_isMark) (n := 1) (r := .int (bI (inB m 0 (I 35 10 - 1)))) dX7_state_2 mlX7_108 mkX7_isMark imX7_isMark seX7_isMark (fx35 hF) cl7 rfl (d1 := 1) (by decide) (As := [.int m]) rfl ⟨rfl, Nat.le_of_ble_eq_true rfl⟩ ⟨rfl, Nat.le_of_ble_eq_true rfl⟩ (ct_isMark hE m hF) rfl ?_
  refine Z.if_eqB (tgt := 15) dX7_state_5 (by decide) (fun h1 => ?_) (fun h1 => ?_)
  · refine Z.iconst (v := (-1)) dX7_state_15 (by decide) ?_
    exact Z.iret dX7_state_16 rfl ⟨by simp [stM, h1, bI], hE, rfl⟩
  · refine Z.iload_n dX7_state_8 rfl ?_
    refine Z.callSp (M := mX7_state) (pc := 9) (st := []) (N := mX7_isDay) (n := 1) (r := .int (bI (inB t 0 60000))) dX7_state_9 mlX7_200 mkX7_isDay stX7_isDay (d1 := 1) (by decide) (As := [.int t]) rfl ⟨rfl, Nat.le_of_ble_eq_true rfl⟩ ⟨rfl, Nat.le_of_ble_eq_true rfl⟩ (ct_isDay hE t) rfl ?_
    refine Z.if_neB (tgt := 17) dX7_state_12 (by decide) (fun h2 => ?_) (fun h2 => ?_)
    · refine Z.aload_n dX7_state_17 rfl ?_
      refine Z.iload_n dX7_state_18 rfl ?_
      refine Z.iload_n dX7_state_19 rfl ?_
      refine Z.callVp (M := mX7_state) (pc := 20) (st := []) (N := mX7_firstOf) (n := 2) (r := .int (firF (pM I n) m t)) dX7_state_20 mlX7_145 mkX7_firstOf imX7_firstOf seX7_firstOf (fx35 hF) cl7 rfl (d1 := 1) (by decide) (As := [.int m, .int t]) rfl ⟨rfl, Nat.le_of_ble_eq_true rfl⟩ ⟨rfl, Nat.le_of_ble_eq_true rfl⟩ (ct_firstOf hE m t hF hn) rfl ?_
      refine Z.if_lt (tgt := 30) dX7_state_23 (by decide) (fun h3 => ?_) (fun h3 => ?_)
      · refine Z.iconst (v := 0) dX7_state_30 (by decide) ?_
        refine Z.istore (L' := [.ref 35, .int m, .int t, .int w, .int 0]) dX7_state_31 (Nat.le_of_ble_eq_true rfl) rfl ?_
        refine Z.iload_n dX7_state_33 rfl ?_
        rcases sw_0_5 w with h4 | h4 | h4 | h4 | h4 | h4 | h4
        · refine Z.tableIn (off := 38) (tgt := 72) dX7_state_34 (by rw [h4]; decide) (by rw [h4]; decide) (by rw [h4]; decide) (by decide) ?_
          refine Z.aload_n dX7_state_72 rfl ?_
          refine Z.iload_n dX7_state_73 rfl ?_
          refine Z.iload_n dX7_state_74 rfl ?_
          refine Z.callVp (M := mX7_state) (pc := 75) (st := []) (N := mX7_firstOf) (n := 2) (r := .int (firF (pM I n) m t)) dX7_state_75 mlX7_145 mkX7_firstOf imX7_firstOf seX7_firstOf (fx35 hF) cl7 rfl (d1 := 1) (by decide) (As := [.int m, .int t]) rfl ⟨rfl, Nat.le_of_ble_eq_true rfl⟩ ⟨rfl, Nat.le_of_ble_eq_true rfl⟩ (ct_firstOf hE m t hF hn) rfl ?_
          exact Z.iret dX7_state_78 rfl ⟨by simp [stM, h1, h2, h3, h4, bI], hE, rfl⟩
        · refine Z.tableIn (off := 45) (tgt := 79) dX7_state_34 (by rw [h4]; decide) (by rw [h4]; decide) (by rw [h4]; decide) (by decide) ?_
          refine Z.iload dX7_state_79 rfl ?_
          refine Z.if_eq (tgt := 93) dX7_state_81 (by decide) (fun h5 => ?_) (fun h5 => absurd h5 (by decide))
          refine Z.iconst (v := (-1)) dX7_state_93 (by decide) ?_
          exact Z.iret dX7_state_94 rfl ⟨by simp [stM, h1, h2, h3, h4, bI], hE, rfl⟩
        · refine Z.tableIn (off := 61) (tgt := 95) dX7_state_34 (by rw [h4]; decide) (by rw [h4]; decide) (by rw [h4]; decide) (by decide) ?_
          refine Z.iload dX7_state_95 rfl ?_
          refine Z.if_ne (tgt := 104) dX7_state_97 (by decide) (fun h6 => absurd h6 (by decide)) (fun h6 => ?_)
          refine Z.iconst (v := (-1)) dX7_state_100 (by decide) ?_
          refine Z.goto (tgt := 118) dX7_state_101 (by decide) ?_
          exact Z.iret dX7_state_118 rfl ⟨by simp [stM, h1, h2, h3, h4, bI], hE, rfl⟩
        · refine Z.tableIn (off := 85) (tgt := 119) dX7_state_34 (by rw [h4]; decide) (by rw [h4]; decide) (by rw [h4]; decide) (by decide) ?_
          refine Z.aload_n dX7_state_119 rfl ?_
          refine Z.iload_n dX7_state_120 rfl ?_
          refine Z.iload_n dX7_state_121 rfl ?_
          refine Z.callVp (M := mX7_state) (pc := 122) (st := []) (N := mX7_isStruck) (n := 2) (r := .int (bI (strF (pM I n) m t))) dX7_state_122 mlX7_164 mkX7_isStruck imX7_isStruck seX7_isStruck (fx35 hF) cl7 rfl (d1 := 1) (by decide) (As := [.int m, .int t]) rfl ⟨rfl, Nat.le_of_ble_eq_true rfl⟩ ⟨rfl, Nat.le_of_ble_eq_true rfl⟩ (ct_isStruck hE m t hF hn) rfl ?_
          refine Z.if_eqB (tgt := 132) dX7_state_125 (by decide) (fun h7 => ?_) (fun h7 => ?_)
          · refine Z.iconst (v := 0) dX7_state_132 (by decide) ?_
            exact Z.iret dX7_state_133 rfl ⟨by simp [stM, h1, h2, h3, h4, h7, bI], hE, rfl⟩
          · refine Z.iconst (v := 1) dX7_state_128 (by decide) ?_
            refine Z.goto (tgt := 133) dX7_state_129 (by decide) ?_
            exact Z.iret dX7_state_133 rfl ⟨by simp [stM, h1, h2, h3, h4, h7, bI], hE, rfl⟩
        · refine Z.tableIn (off := 100) (tgt := 134) dX7_state_34 (by rw [h4]; decide) (by rw [h4]; decide) (by rw [h4]; decide) (by decide) ?_
          refine Z.aload_n dX7_state_134 rfl ?_
          refine Z.iload_n dX7_state_135 rfl ?_
          refine Z.iload_n dX7_state_136 rfl ?_
          refine Z.aload_n dX7_state_137 rfl ?_
          refine Z.getR (r := 56) dX7_state_138 cl7 flX7_70 (by decide) (fx35 hF) rfl ?_
          refine Z.callVg (M := mX7_state) (pc := 141) (st := []) (N := mX7_goodsInto) (n := 3) dX7_state_141 mlX7_186 mkX7_goodsInto imX7_goodsInto seX7_goodsInto (fx35 hF) cl7 rfl (d1 := 2) (by decide) (As := [.int m, .int t, .ref 56]) rfl ⟨rfl, Nat.le_of_ble_eq_true rfl⟩ ⟨rfl, Nat.le_of_ble_eq_true rfl⟩ (ct_goodsA2 hE m t hF hn) rfl (fun v_ J1 S_ h_ => ?_)
          obtain ⟨rfl, fA56, rfl, hfA56, rfl⟩ := h_
          have hfA56le : (gS (pM I n) m t).1 ≤ n := gS_le
          exact Z.iret dX7_state_144 rfl ⟨by simp [stM, h1, h2, h3, h4, bI], (hE.up (a := 56) rfl), rfl⟩
        · refine Z.tableIn (off := 111) (tgt := 145) dX7_state_34 (by rw [h4]; decide) (by rw [h4]; decide) (by rw [h4]; decide) (by decide) ?_
          refine Z.aload_n dX7_state_145 rfl ?_
          refine Z.iconst (v := 1) dX7_state_146 (by decide) ?_
          refine Z.iload_n dX7_state_147 rfl ?_
          refine Z.iload_n dX7_state_148 rfl ?_
          refine Z.callVp (M := mX7_state) (pc := 149) (st := []) (N := mX7_countOf) (n := 3) (r := .int (nI (cntF (pM I n) 1 m t))) dX7_state_149 mlX7_148 mkX7_countOf imX7_countOf seX7_countOf (fx35 hF) cl7 rfl (d1 := 0) (by decide) (As := [.int 1, .int m, .int t]) rfl ⟨rfl, Nat.le_of_ble_eq_true rfl⟩ ⟨rfl, Nat.le_of_ble_eq_true rfl⟩ (ct_countOf hE 1 m t hF hn) rfl ?_
          exact Z.iret dX7_state_152 rfl ⟨by simp [stM, h1, h2, h3, h4, bI], hE, rfl⟩
        · refine Z.tableOut (tgt := 153) dX7_state_34 h4 (by decide) ?_
          refine Z.iconst (v := (-1)) dX7_state_153 (by decide) ?_
          exact Z.iret dX7_state_154 rfl ⟨by have hq_ := sw05_o h4; simp [stM, hq_.1, hq_.2.1, hq_.2.2.1, hq_.2.2.2.1, hq_.2.2.2.2.1, hq_.2.2.2.2.2, h1, h2, h3, bI], hE, rfl⟩
      · refine Z.iconst (v := 1) dX7_state_26 (by decide) ?_
        refine Z.goto (tgt := 31) dX7_state_27 (by decide) ?_
        refine Z.istore (L' := [.ref 35, .int m, .int t, .int w, .int 1]) dX7_state_31 (Nat.le_of_ble_eq_true rfl) rfl ?_
        refine Z.iload_n dX7_state_33 rfl ?_
        rcases sw_0_5 w with h8 | h8 | h8 | h8 | h8 | h8 | h8
        · refine Z.tableIn (off := 38) (tgt := 72) dX7_state_34 (by rw [h8]; decide) (by rw [h8]; decide) (by rw [h8]; decide) (by decide) ?_
          refine Z.aload_n dX7_state_72 rfl ?_
          refine Z.iload_n dX7_state_73 rfl ?_
          refine Z.iload_n dX7_state_74 rfl ?_
          refine Z.callVp (M := mX7_state) (pc := 75) (st := []) (N := mX7_firstOf) (n := 2) (r := .int (firF (pM I n) m t)) dX7_state_75 mlX7_145 mkX7_firstOf imX7_firstOf seX7_firstOf (fx35 hF) cl7 rfl (d1 := 1) (by decide) (As := [.int m, .int t]) rfl ⟨rfl, Nat.le_of_ble_eq_true rfl⟩ ⟨rfl, Nat.le_of_ble_eq_true rfl⟩ (ct_firstOf hE m t hF hn) rfl ?_
          exact Z.iret dX7_state_78 rfl ⟨by simp [stM, h1, h2, h3, h8, bI], hE, rfl⟩
        · refine Z.tableIn (off := 45) (tgt := 79) dX7_state_34 (by rw [h8]; decide) (by rw [h8]; decide) (by rw [h8]; decide) (by decide) ?_
          refine Z.iload dX7_state_79 rfl ?_
          refine Z.if_eq (tgt := 93) dX7_state_81 (by decide) (fun h9 => absurd h9 (by decide)) (fun h9 => ?_)
          refine Z.aload_n dX7_state_84 rfl ?_
          refine Z.iload_n dX7_state_85 rfl ?_
          refine Z.iload_n dX7_state_86 rfl ?_
          refine Z.callVp (M := mX7_state) (pc := 87) (st := []) (N := mX7_termEnd) (n := 2) (r := .int (termF (pM I n) m t)) dX7_state_87 mlX7_152 mkX7_termEnd imX7_termEnd seX7_termEnd (fx35 hF) cl7 rfl (d1 := 2) (by decide) (As := [.int m, .int t]) rfl ⟨rfl, Nat.le_of_ble_eq_true rfl⟩ ⟨rfl, Nat.le_of_ble_eq_true rfl⟩ (ct_termEnd hE m t hF hn) rfl ?_
          refine Z.goto (tgt := 94) dX7_state_90 (by decide) ?_
          exact Z.iret dX7_state_94 rfl ⟨by simp [stM, h1, h2, h3, h8, bI], hE, rfl⟩
        · refine Z.tableIn (off := 61) (tgt := 95) dX7_state_34 (by rw [h8]; decide) (by rw [h8]; decide) (by rw [h8]; decide) (by decide) ?_
          refine Z.iload dX7_state_95 rfl ?_
          refine Z.if_ne (tgt := 104) dX7_state_97 (by decide) (fun h10 => ?_) (fun h10 => absurd h10 (by decide))
          refine Z.aload_n dX7_state_104 rfl ?_
          refine Z.iload_n dX7_state_105 rfl ?_
          refine Z.iload_n dX7_state_106 rfl ?_
          refine Z.callVp (M := mX7_state) (pc := 107) (st := []) (N := mX7_hasLapsed) (n := 2) (r := .int (bI (lapF (pM I n) m t))) dX7_state_107 mlX7_161 mkX7_hasLapsed imX7_hasLapsed seX7_hasLapsed (fx35 hF) cl7 rfl (d1 := 3) (by decide) (As := [.int m, .int t]) rfl ⟨rfl, Nat.le_of_ble_eq_true rfl⟩ ⟨rfl, Nat.le_of_ble_eq_true rfl⟩ (ct_hasLapsed hE m t hF hn) rfl ?_
          refine Z.if_eqB (tgt := 117) dX7_state_110 (by decide) (fun h11 => ?_) (fun h11 => ?_)
          · refine Z.iconst (v := 0) dX7_state_117 (by decide) ?_
            exact Z.iret dX7_state_118 rfl ⟨by simp [stM, h1, h2, h3, h8, h11, bI], hE, rfl⟩
          · refine Z.iconst (v := 1) dX7_state_113 (by decide) ?_
            refine Z.goto (tgt := 118) dX7_state_114 (by decide) ?_
            exact Z.iret dX7_state_118 rfl ⟨by simp [stM, h1, h2, h3, h8, h11, bI], hE, rfl⟩
        · refine Z.tableIn (off := 85) (tgt := 119) dX7_state_34 (by rw [h8]; decide) (by rw [h8]; decide) (by rw [h8]; decide) (by decide) ?_
          refine Z.aload_n dX7_state_119 rfl ?_
          refine Z.iload_n dX7_state_120 rfl ?_
          refine Z.iload_n dX7_state_121 rfl ?_
          refine Z.callVp (M := mX7_state) (pc := 122) (st := []) (N := mX7_isStruck) (n := 2) (r := .int (bI (strF (pM I n) m t))) dX7_state_122 mlX7_164 mkX7_isStruck imX7_isStruck seX7_isStruck (fx35 hF) cl7 rfl (d1 := 1) (by decide) (As := [.int m, .int t]) rfl ⟨rfl, Nat.le_of_ble_eq_true rfl⟩ ⟨rfl, Nat.le_of_ble_eq_true rfl⟩ (ct_isStruck hE m t hF hn) rfl ?_
          refine Z.if_eqB (tgt := 132) dX7_state_125 (by decide) (fun h12 => ?_) (fun h12 => ?_)
          · refine Z.iconst (v := 0) dX7_state_132 (by decide) ?_
            exact Z.iret dX7_state_133 rfl ⟨by simp [stM, h1, h2, h3, h8, h12, bI], hE, rfl⟩
          · refine Z.iconst (v := 1) dX7_state_128 (by decide) ?_
            refine Z.goto (tgt := 133) dX7_state_129 (by decide) ?_
            exact Z.iret dX7_state_133 rfl ⟨by simp [stM, h1, h2, h3, h8, h12, bI], hE, rfl⟩
        · refine Z.tableIn (off := 100) (tgt := 134) dX7_state_34 (by rw [h8]; decide) (by rw [h8]; decide) (by rw [h8]; decide) (by decide) ?_
          refine Z.aload_n dX7_state_134 rfl ?_
          refine Z.iload_n dX7_state_135 rfl ?_
          refine Z.iload_n dX7_state_136 rfl ?_
          refine Z.aload_n dX7_state_137 rfl ?_
          refine Z.getR (r := 56) dX7_state_138 cl7 flX7_70 (by decide) (fx35 hF) rfl ?_
          refine Z.callVg (M := mX7_state) (pc := 141) (st := []) (N := mX7_goodsInto) (n := 3) dX7_state_141 mlX7_186 mkX7_goodsInto imX7_goodsInto seX7_goodsInto (fx35 hF) cl7 rfl (d1 := 2) (by decide) (As := [.int m, .int t, .ref 56]) rfl ⟨rfl, Nat.le_of_ble_eq_true rfl⟩ ⟨rfl, Nat.le_of_ble_eq_true rfl⟩ (ct_goodsA2 hE m t hF hn) rfl (fun v_ J2 S_ h_ => ?_)
          obtain ⟨rfl, fA56, rfl, hfA56, rfl⟩ := h_
          have hfA56le : (gS (pM I n) m t).1 ≤ n := gS_le
          exact Z.iret dX7_state_144 rfl ⟨by simp [stM, h1, h2, h3, h8, bI], (hE.up (a := 56) rfl), rfl⟩
        · refine Z.tableIn (off := 111) (tgt := 145) dX7_state_34 (by rw [h8]; decide) (by rw [h8]; decide) (by rw [h8]; decide) (by decide) ?_
          refine Z.aload_n dX7_state_145 rfl ?_
          refine Z.iconst (v := 1) dX7_state_146 (by decide) ?_
          refine Z.iload_n dX7_state_147 rfl ?_
          refine Z.iload_n dX7_state_148 rfl ?_
          refine Z.callVp (M := mX7_state) (pc := 149) (st := []) (N := mX7_countOf) (n := 3) (r := .int (nI (cntF (pM I n) 1 m t))) dX7_state_149 mlX7_148 mkX7_countOf imX7_countOf seX7_countOf (fx35 hF) cl7 rfl (d1 := 0) (by decide) (As := [.int 1, .int m, .int t]) rfl ⟨rfl, Nat.le_of_ble_eq_true rfl⟩ ⟨rfl, Nat.le_of_ble_eq_true rfl⟩ (ct_countOf hE 1 m t hF hn) rfl ?_
          exact Z.iret dX7_state_152 rfl ⟨by simp [stM, h1, h2, h3, h8, bI], hE, rfl⟩
        · refine Z.tableOut (tgt := 153) dX7_state_34 h8 (by decide) ?_
          refine Z.iconst (v := (-1)) dX7_state_153 (by decide) ?_
          exact Z.iret dX7_state_154 rfl ⟨by have hq_ := sw05_o h8; simp [stM, hq_.1, hq_.2.1, hq_.2.2.1, hq_.2.2.2.1, hq_.2.2.2.2.1, hq_.2.2.2.2.2, h1, h2, h3, bI], hE, rfl⟩
    · refine Z.iconst (v := (-1)) dX7_state_15 (by decide) ?_
      exact Z.iret dX7_state_16 rfl ⟨by simp [stM, h1, h2, bI], hE, rfl⟩

def csM (I : IM) (n nq : Nat) (a b c t : Int32) : Int32 := if (inB a 0 (I 35 10 - 1) && (inB b 0 (I 35 10 - 1) && (inB c 0 15 && inB t 0 60000))) = true then coF I n nq a.toNatClampNeg b.toNatClampNeg c t else -1
set_option maxHeartbeats 4000000 in
set_option maxRecDepth 100000 in
theorem cp_clash {g : GP} {I J : IM} {S : SH} (hE : Ex I J) (a b c t : Int32) (hF : Fx S) {n : Nat} (hn : Mp I n) {nq : Nat} (hq : Mq I nq) (hM : MIv I) {mm : Nat} (hm : Mm I mm) : Z g 8 0 0 mX7_clash 0 (enL mX7_clash [.ref 35, .int a, .int b, .int c, .int t]) [] J S (NQ (.int (csM I n nq a b c t)) I S) := by
  show Z g 8 0 0 mX7_clash 0 [.ref 35, .int a, .int b, .int c, .int t] [] J S _
  have hn2 := hn.2
  have hq2 := hq.2
  have hm2 := hm.2
  refine Z.aload_n dX7_clash_0 rfl ?_
  refine Z.iload_n dX7_clash_1 rfl ?_
  refine Z.callVp (M := mX7_clash) (pc := 2) (st := []) (N := mX7_isMark) (n := 1) (r := .int (bI (inB a 0 (I 35 10 - 1)))) dX7_clash_2 mlX7_108 mkX7_isMark imX7_isMark seX7_isMark (fx35 hF) cl7 rfl (d1 := 1) (by decide) (As := [.int a]) rfl ⟨rfl, Nat.le_of_ble_eq_true rfl⟩ ⟨rfl, Nat.le_of_ble_eq_true rfl⟩ (ct_isMark hE a hF) rfl ?_
  refine Z.if_eqB (tgt := 43) dX7_clash_5 (by decide) (fun h1 => ?_) (fun h1 => ?_)
  · refine Z.iconst (v := (-1)) dX7_clash_43 (by decide) ?_
    exact Z.iret dX7_clash_44 rfl ⟨by simp [csM, h1], hE, rfl⟩
  · refine Z.aload_n dX7_clash_8 rfl ?_
    refine Z.iload_n dX7_clash_9 rfl ?_
    refine Z.callVp (M := mX7_clash) (pc := 10) (st := []) (N := mX7_isMark) (n := 1) (r := .int (bI (inB b 0 (I 35 10 - 1)))) dX7_clash_10 mlX7_108 mkX7_isMark imX7_isMark seX7_isMark (fx35 hF) cl7 rfl (d1 := 1) (by decide) (As := [.int b]) rfl ⟨rfl, Nat.le_of_ble_eq_true rfl⟩ ⟨rfl, Nat.le_of_ble_eq_true rfl⟩ (ct_isMark hE b hF) rfl ?_
    refine Z.if_eqB (tgt := 43) dX7_clash_13 (by decide) (fun h2 => ?_) (fun h2 => ?_)
    · refine Z.iconst (v := (-1)) dX7_clash_43 (by decide) ?_
      exact Z.iret dX7_clash_44 rfl ⟨by simp [csM, h1, h2], hE, rfl⟩
    · refine Z.iload_n dX7_clash_16 rfl ?_
      refine Z.callSp (M := mX7_clash) (pc := 17) (st := []) (N := mX7_isCountry) (n := 1) (r := .int (bI (inB c 0 15))) dX7_clash_17 mlX7_194 mkX7_isCountry stX7_isCountry (d1 := 1) (by decide) (As := [.int c]) rfl ⟨rfl, Nat.le_of_ble_eq_true rfl⟩ ⟨rfl, Nat.le_of_ble_eq_true rfl⟩ (ct_isCountry hE c) rfl ?_
      refine Z.if_eqB (tgt := 43) dX7_clash_20 (by decide) (fun h3 => ?_) (fun h3 => ?_)
      · refine Z.iconst (v := (-1)) dX7_clash_43 (by decide) ?_
        exact Z.iret dX7_clash_44 rfl ⟨by simp [csM, h1, h2, h3], hE, rfl⟩
      · refine Z.iload dX7_clash_23 rfl ?_
        refine Z.callSp (M := mX7_clash) (pc := 25) (st := []) (N := mX7_isDay) (n := 1) (r := .int (bI (inB t 0 60000))) dX7_clash_25 mlX7_200 mkX7_isDay stX7_isDay (d1 := 1) (by decide) (As := [.int t]) rfl ⟨rfl, Nat.le_of_ble_eq_true rfl⟩ ⟨rfl, Nat.le_of_ble_eq_true rfl⟩ (ct_isDay hE t) rfl ?_
        refine Z.if_eqB (tgt := 43) dX7_clash_28 (by decide) (fun h4 => ?_) (fun h4 => ?_)
        · refine Z.iconst (v := (-1)) dX7_clash_43 (by decide) ?_
          exact Z.iret dX7_clash_44 rfl ⟨by simp [csM, h1, h2, h3, h4], hE, rfl⟩
        · have e_a := (mk_rg hm.1 hm.2 h1).1
          have l_a := (mk_rg hm.1 hm.2 h1).2
          refine Z.eqLs (L' := [.ref 35, .int (nI (a.toNatClampNeg)), .int b, .int c, .int t]) (st' := []) (by rw [← e_a]) (by first | rfl | rw [← e_a]) ?_
          have e_b := (mk_rg hm.1 hm.2 h2).1
          have l_b := (mk_rg hm.1 hm.2 h2).2
          refine Z.eqLs (L' := [.ref 35, .int (nI (a.toNatClampNeg)), .int (nI (b.toNatClampNeg)), .int c, .int t]) (st' := []) (by rw [← e_b]) (by first | rfl | rw [← e_b]) ?_
          refine Z.aload_n dX7_clash_31 rfl ?_
          refine Z.iload_n dX7_clash_32 rfl ?_
          refine Z.iload_n dX7_clash_33 rfl ?_
          refine Z.iload_n dX7_clash_34 rfl ?_
          refine Z.iload dX7_clash_35 rfl ?_
          refine Z.callVg (M := mX7_clash) (pc := 37) (st := []) (N := mX7_clashOf) (n := 4) dX7_clash_37 mlX7_206 mkX7_clashOf imX7_clashOf seX7_clashOf (fx35 hF) cl7 rfl (d1 := 7) (by decide) (As := [.int (nI (a.toNatClampNeg)), .int (nI (b.toNatClampNeg)), .int c, .int t]) rfl ⟨rfl, Nat.le_of_ble_eq_true rfl⟩ ⟨rfl, Nat.le_of_ble_eq_true rfl⟩ (ct_clashOf hE a.toNatClampNeg b.toNatClampNeg c t hF hn hq hM (by omega) (by omega)) rfl (fun v_ J1 S_ h_ => ?_)
          obtain ⟨rfl, hE, rfl⟩ := h_
          refine Z.goto (tgt := 44) dX7_clash_40 (by decide) ?_
          exact Z.iret dX7_clash_44 rfl ⟨by simp [csM, h1, h2, h3, h4], hE, rfl⟩

theorem ct_soundsA3 {g : GP} {I J : IM} {S : SH} (hE : Ex I J) (j : Nat) (hF : Fx S) (hM : MIv I) (hj : j < 120) : Z g 1 0 0 mX7_soundsInto 0 (enL mX7_soundsInto [.ref 35, .int (nI j), .ref 53]) [] J S (GQ 53 (sM I j) J S) := by
  refine (ct_soundsIntoA (g := g) hE j hF hM hj).conseq (fun v J' T q => ?_)
  refine ⟨by rw [q.1, siU_1 (f1 := fun _ => 0)]; rfl, _, q.2.1, fun k hk => ?_, q.2.2⟩
  exact siU_2 (f1 := fun _ => 0) _ k (by rw [siU_1 (f1 := fun _ => 0)]; exact hk)

def sdM (I : IM) (m k : Int32) : Int32 := if (inB m 0 (I 35 10 - 1) && inB k 0 (nI (sM I m.toNatClampNeg).1 - 1)) = true then (sM I m.toNatClampNeg).2 k.toNatClampNeg else -1
set_option maxHeartbeats 4000000 in
set_option maxRecDepth 100000 in
theorem cp_soundOf {g : GP} {I J : IM} {S : SH} (hE : Ex I J) (m k : Int32) (hF : Fx S) {n : Nat} (hn : Mp I n) {nq : Nat} (hq : Mq I nq) (hM : MIv I) {mm : Nat} (hm : Mm I mm) : Z g 2 0 0 mX7_soundOf 0 (enL mX7_soundOf [.ref 35, .int m, .int k]) [] J S (NQ (.int (sdM I m k)) I S) := by
  show Z g 2 0 0 mX7_soundOf 0 [.ref 35, .int m, .int k] [] J S _
  have hn2 := hn.2
  have hq2 := hq.2
  have hm2 := hm.2
  refine Z.aload_n dX7_soundOf_0 rfl ?_
  refine Z.iload_n dX7_soundOf_1 rfl ?_
  refine Z.callVp (M := mX7_soundOf) (pc := 2) (st := []) (N := mX7_isMark) (n := 1) (r := .int (bI (inB m 0 (I 35 10 - 1)))) dX7_soundOf_2 mlX7_108 mkX7_isMark imX7_isMark seX7_isMark (fx35 hF) cl7 rfl (d1 := 1) (by decide) (As := [.int m]) rfl ⟨rfl, Nat.le_of_ble_eq_true rfl⟩ ⟨rfl, Nat.le_of_ble_eq_true rfl⟩ (ct_isMark hE m hF) rfl ?_
  refine Z.if_eqB (tgt := 36) dX7_soundOf_5 (by decide) (fun h1 => ?_) (fun h1 => ?_)
  · refine Z.iconst (v := (-1)) dX7_soundOf_36 (by decide) ?_
    exact Z.iret dX7_soundOf_37 rfl ⟨by simp [sdM, h1], hE, rfl⟩
  · have e_m := (mk_rg hm.1 hm.2 h1).1
    have l_m := (mk_rg hm.1 hm.2 h1).2
    refine Z.eqLs (L' := [.ref 35, .int (nI (m.toNatClampNeg)), .int k]) (st' := []) (by rw [← e_m]) (by first | rfl | rw [← e_m]) ?_
    refine Z.iload_n dX7_soundOf_8 rfl ?_
    refine Z.iconst (v := 0) dX7_soundOf_9 (by decide) ?_
    refine Z.aload_n dX7_soundOf_10 rfl ?_
    refine Z.iload_n dX7_soundOf_11 rfl ?_
    refine Z.aload_n dX7_soundOf_12 rfl ?_
    refine Z.getR (r := 53) dX7_soundOf_13 cl7 flX7_61 (by decide) (fx35 hF) rfl ?_
    refine Z.callVg (M := mX7_soundOf) (pc := 16) (st := [.int 0, .int k]) (N := mX7_soundsInto) (n := 2) dX7_soundOf_16 mlX7_121 mkX7_soundsInto imX7_soundsInto seX7_soundsInto (fx35 hF) cl7 rfl (d1 := 1) (by decide) (As := [.int (nI (m.toNatClampNeg)), .ref 53]) rfl ⟨rfl, Nat.le_of_ble_eq_true rfl⟩ ⟨rfl, Nat.le_of_ble_eq_true rfl⟩ (ct_soundsA3 hE m.toNatClampNeg hF hM (by omega)) rfl (fun v_ J1 S_ h_ => ?_)
    obtain ⟨rfl, fA53, rfl, hfA53, rfl⟩ := h_
    have hsn : (sM I m.toNatClampNeg).1 ≤ 40 := Nat.le_trans (siU_le _) (hM.2.2.1 _ (by omega)).2
    refine Z.iconst (v := 1) dX7_soundOf_19 (by decide) ?_
    refine Z.isub dX7_soundOf_20 ?_
    refine Z.callSp (M := mX7_soundOf) (pc := 21) (st := []) (N := mX7_in) (n := 3) (r := .int (bI (inB k 0 ((nI ((sM I m.toNatClampNeg).1)) - 1)))) dX7_soundOf_21 mlX7_86 mkX7_in stX7_in (d1 := 0) (by decide) (As := [.int k, .int 0, .int ((nI ((sM I m.toNatClampNeg).1)) - 1)]) rfl ⟨rfl, Nat.le_of_ble_eq_true rfl⟩ ⟨rfl, Nat.le_of_ble_eq_true rfl⟩ (ct_in (hE.up (a := 53) rfl) k 0 ((nI ((sM I m.toNatClampNeg).1)) - 1)) rfl ?_
    refine Z.if_eqB (tgt := 36) dX7_soundOf_24 (by decide) (fun h2 => ?_) (fun h2 => ?_)
    · refine Z.iconst (v := (-1)) dX7_soundOf_36 (by decide) ?_
      exact Z.iret dX7_soundOf_37 rfl ⟨by simp [sdM, h1, h2], (hE.up (a := 53) rfl), rfl⟩
    · have e_k := (in1_rg (by omega) h2).1
      have l_k := (in1_rg (by omega) h2).2
      refine Z.eqLs (L' := [.ref 35, .int (nI (m.toNatClampNeg)), .int (nI (k.toNatClampNeg))]) (st' := []) (by rw [← e_k]) (by first | rfl | rw [← e_k]) ?_
      refine Z.aload_n dX7_soundOf_27 rfl ?_
      refine Z.getR (r := 53) dX7_soundOf_28 cl7 flX7_61 (by decide) (fx35 hF) rfl ?_
      refine Z.iload_n dX7_soundOf_31 rfl ?_
      refine Z.ialdv (j := k.toNatClampNeg) (v := (sM I m.toNatClampNeg).2 (k.toNatClampNeg)) dX7_soundOf_32 (fx53 hF) rfl (by omega) (by decide) (hfA53 (k.toNatClampNeg) (by omega)) ?_
      refine Z.goto (tgt := 37) dX7_soundOf_33 (by decide) ?_
      exact Z.iret dX7_soundOf_37 rfl ⟨by simp [sdM, h1, h2], (hE.up (a := 53) rfl), rfl⟩

