/-- papers are of marks that stand -/
def PMm (I : IM) (n mm : Nat) : Prop := ∀ i, i < n → rg (I 50 i) 119 ∧ (I 50 i).toNatClampNeg < mm
theorem leU_c {pk : Nat → Int32} : ∀ {c : Nat}, c ≤ 400 → leU pk c = -1 ∨ ¬ leU pk c < 0
  | 0, _ => Or.inl rfl
  | c + 1, h => by
    unfold leU
    split
    · exact Or.inr (nI_pos (by omega))
    · exact leU_c (by omega)
theorem wa_big {I : IM} {n nq mm : Nat} {i : Int32} (hm : mm ≤ 120) (h : ¬ i < nI mm) : waM I n nq mm i = -1 := by
  unfold waM
  split
  · rfl
  · rcases fstW_c (h := (fun a => waH I n nq a && decide (nI (cnH (waH I n nq) a) = i))) mm 0 with ⟨_, b⟩ | ⟨k, h1, h2, h3, _, _⟩
    · rw [b]; rfl
    · exfalso
      rw [Bool.and_eq_true, decide_eq_true_eq] at h3
      have c := cnH_le (h := waH I n nq) k
      rw [← h3.2] at h
      exact h ((nI_ltI (by omega) (by omega)).mpr (by omega))
set_option maxHeartbeats 4000000 in
set_option maxRecDepth 100000 in
theorem lc_watch {g : GP} {I : IM} {S : SH} (i : Int32) (hF : Fx S) (hC : Cp I) {n : Nat} (hn : Mp I n) {nq : Nat} (hq : Mq I nq) (hcq : Cq I nq) (hM : MIv I) {mm : Nat} (hm : Mm I mm) (hz : Mz I S mm) (hL : LG I n) (hR : RX I n) (hPm : PMm I n mm) (hp : ¬ leU (I 49) n < 0) (hpl : (leU (I 49) n).toNatClampNeg < n) (hmt : (I 50 (leU (I 49) n).toNatClampNeg).toNatClampNeg < mm) (hc : ¬ I 51 (leU (I 49) n).toNatClampNeg = -1) (hok : ¬ (leU (I 49) n < 0 ∨ i < 0)) (hi1 : i = nI i.toNatClampNeg) (hi2 : i.toNatClampNeg < mm) : ∀ a, a ≤ mm → ∀ J L KY, Ex I J → VA I n (nI (I 50 (leU (I 49) n).toNatClampNeg).toNatClampNeg) (I 51 (leU (I 49) n).toNatClampNeg) (I 52 (leU (I 49) n).toNatClampNeg) (J 24) KY → VB I n (nI (I 50 (leU (I 49) n).toNatClampNeg).toNatClampNeg) (I 52 (leU (I 49) n).toNatClampNeg) (J 25) (J 26) (J 27) (J 28) KY → L + cnH (waH I n nq) a = i.toNatClampNeg → fstW (fun a => waH I n nq a && decide (nI (cnH (waH I n nq) a) = i)) mm 0 = fstW (fun a => waH I n nq a && decide (nI (cnH (waH I n nq) a) = i)) (mm - a) a → Z g 6 0 0 mX6_watch 82 [.ref 0, .int (nI (i.toNatClampNeg)), .int (leU (I 49) n), .int (nI ((I 50 (leU (I 49) n).toNatClampNeg).toNatClampNeg)), .int (I 51 (leU (I 49) n).toNatClampNeg), .int (I 52 (leU (I 49) n).toNatClampNeg), .int (nI L), .int (nI a)] [] J S (NQ (.int (waM I n nq mm i)) I S) := by
  have hn2 := hn.2
  have hq2 := hq.2
  have hm2 := hm.2
  have hD := hL.1
  have hso := hL.2.1
  refine upZ mm (fun a hi ih J L KY hE hAy hBy hLs hno => ?_)
  refine Z.iload dX6_watch_82 rfl ?_
  refine Z.aload_n dX6_watch_84 rfl ?_
  refine Z.getIv (v := nI mm) dX6_watch_85 cl6 flX6_36 (by decide) (fx0 hF) (((hE.at 0 4 rfl).trans hC.f0_4).trans hm.1) ?_
  refine Z.icmp_geN (a := a) (b := mm) (by omega) (by omega) (tgt := 155) dX6_watch_88 (by decide) (fun h1 => ?_) (fun h1 => ?_)
  · refine Z.iconst (v := (-1)) dX6_watch_155 (by decide) ?_
    exact Z.iret dX6_watch_156 rfl ⟨by rw [fstW_n (by omega)] at hno; rw [waM, if_neg hok, hno]; rfl, hE, rfl⟩
  · refine Z.aload_n dX6_watch_91 rfl ?_
    refine Z.iload dX6_watch_92 rfl ?_
    refine Z.iload_n dX6_watch_94 rfl ?_
    refine Z.callVp (M := mX6_watch) (pc := 95) (st := []) (N := mX6_haveOneOwner) (n := 2) (r := .int (bI (decide (I 44 a = I 44 ((I 50 (leU (I 49) n).toNatClampNeg).toNatClampNeg))))) dX6_watch_95 mlX6_238 mkX6_haveOneOwner imX6_haveOneOwner seX6_haveOneOwner (fx0 hF) cl6 rfl (d1 := 2) (by decide) (As := [.int (nI a), .int (nI ((I 50 (leU (I 49) n).toNatClampNeg).toNatClampNeg))]) rfl ⟨rfl, Nat.le_of_ble_eq_true rfl⟩ ⟨rfl, Nat.le_of_ble_eq_true rfl⟩ (cc_haveOneOwnerN hE a ((I 50 (leU (I 49) n).toNatClampNeg).toNatClampNeg) hF hC hn hq hcq hM hm hz (by omega) (by omega)) rfl ?_
    refine Z.if_eqB (tgt := 104) dX6_watch_98 (by decide) (fun h2 => ?_) (fun h2 => ?_)
    · refine Z.aload_n dX6_watch_104 rfl ?_
      refine Z.getR (r := 19) dX6_watch_105 cl6 flX6_49 (by decide) (fx0 hF) rfl ?_
      refine Z.aload_n dX6_watch_108 rfl ?_
      refine Z.getR (r := 14) dX6_watch_109 cl6 flX6_32 (by decide) (fx0 hF) rfl ?_
      refine Z.iload dX6_watch_112 rfl ?_
      refine Z.iload dX6_watch_114 rfl ?_
      refine Z.iload dX6_watch_116 rfl ?_
      refine Z.callVg (M := mX6_watch) (pc := 118) (st := []) (N := mX5_read) (n := 4) dX6_watch_118 mlX6_118 mkX5_read imX5_read seX5_read (fx19 hF) cl5 rfl (d1 := 3) (by decide) (As := [.ref 14, .int (nI a), .int (I 51 (leU (I 49) n).toNatClampNeg), .int (I 52 (leU (I 49) n).toNatClampNeg)]) rfl ⟨rfl, Nat.le_of_ble_eq_true rfl⟩ ⟨rfl, Nat.le_of_ble_eq_true rfl⟩ (cv_read19 hE (nI a) (I 51 (leU (I 49) n).toNatClampNeg) (I 52 (leU (I 49) n).toNatClampNeg) hF hC hn hL) rfl (fun v_ J1 S_ h_ => ?_)
      obtain ⟨rfl, hw3, ⟨K19_3, hA19_3, hB19_3⟩, rfl⟩ := h_
      have hE := AW19.ex hw3 hE
      have hK19_3 := hA19_3.2.2.2.2.2.2.2.2.2
      have hA24_4 : VA I n (nI (I 50 (leU (I 49) n).toNatClampNeg).toNatClampNeg) (I 51 (leU (I 49) n).toNatClampNeg) (I 52 (leU (I 49) n).toNatClampNeg) (J1 24) KY := by rw [hw3 24 (by omega)]; exact hAy
      have hB24_4 : VB I n (nI (I 50 (leU (I 49) n).toNatClampNeg).toNatClampNeg) (I 52 (leU (I 49) n).toNatClampNeg) (J1 25) (J1 26) (J1 27) (J1 28) KY := by rw [hw3 25 (by omega), hw3 26 (by omega), hw3 27 (by omega), hw3 28 (by omega)]; exact hBy
      refine Z.aload_n dX6_watch_121 rfl ?_
      refine Z.callVp (M := mX6_watch) (pc := 122) (st := []) (N := mX6_standsNearYounger) (n := 0) (r := .int (bI (cnF I n nq (nI a) (nI (I 50 (leU (I 49) n).toNatClampNeg).toNatClampNeg) (I 51 (leU (I 49) n).toNatClampNeg) (I 52 (leU (I 49) n).toNatClampNeg)))) dX6_watch_122 mlX6_241 mkX6_standsNearYounger imX6_standsNearYounger seX6_standsNearYounger (fx0 hF) cl6 rfl (d1 := 5) (by decide) (As := []) rfl ⟨rfl, Nat.le_of_ble_eq_true rfl⟩ ⟨rfl, Nat.le_of_ble_eq_true rfl⟩ (cc_sny hE hF hC hn hq hcq hM hm hz hL hA19_3 hB19_3 hA24_4 hB24_4 hc) rfl ?_
      refine Z.if_eqB (tgt := 149) dX6_watch_125 (by decide) (fun h5 => ?_) (fun h5 => ?_)
      · refine Z.iinc (v := nI (a + 1)) (L' := [.ref 0, .int (nI (i.toNatClampNeg)), .int (leU (I 49) n), .int (nI ((I 50 (leU (I 49) n).toNatClampNeg).toNatClampNeg)), .int (I 51 (leU (I 49) n).toNatClampNeg), .int (I 52 (leU (I 49) n).toNatClampNeg), .int (nI L), .int (nI (a + 1))]) dX6_watch_149 rfl (nI_1 _) rfl ?_
        refine Z.goto (tgt := 82) dX6_watch_152 (by decide) ?_
        have hwh : (waH I n nq) a = false := by unfold waH; simp only [h2, h5]; try simp
        have hcs : cnH (waH I n nq) (a + 1) = cnH (waH I n nq) a + 0 := by show cnH (waH I n nq) a + (if _ then 1 else 0) = _; rw [hwh]; rfl
        exact ih (by omega) _ _ KY hE hA24_4 hB24_4 (by omega) (by rw [fstW_s (by omega), if_neg (by rw [hwh]; simp)] at hno; exact hno)
      · refine Z.aload_n dX6_watch_128 rfl ?_
        refine Z.iload dX6_watch_129 rfl ?_
        refine Z.iload_n dX6_watch_131 rfl ?_
        refine Z.callVg (M := mX6_watch) (pc := 132) (st := []) (N := mX6_areAlike) (n := 2) dX6_watch_132 mlX6_228 mkX6_areAlike imX6_areAlike seX6_areAlike (fx0 hF) cl6 rfl (d1 := 4) (by decide) (As := [.int (nI a), .int (nI ((I 50 (leU (I 49) n).toNatClampNeg).toNatClampNeg))]) rfl ⟨rfl, Nat.le_of_ble_eq_true rfl⟩ ⟨rfl, Nat.le_of_ble_eq_true rfl⟩ (cc_areAlikeN hE a ((I 50 (leU (I 49) n).toNatClampNeg).toNatClampNeg) hF hC hn hq hcq hM hm hz (by omega) (by omega)) rfl (fun v_ J2 S_ h_ => ?_)
        obtain ⟨rfl, hw6, rfl⟩ := h_
        have hE := hw6.ex hE
        have hA24_6 : VA I n (nI (I 50 (leU (I 49) n).toNatClampNeg).toNatClampNeg) (I 51 (leU (I 49) n).toNatClampNeg) (I 52 (leU (I 49) n).toNatClampNeg) (J2 24) KY := by rw [hw6 24 (by omega)]; exact hA24_4
        have hB24_6 : VB I n (nI (I 50 (leU (I 49) n).toNatClampNeg).toNatClampNeg) (I 52 (leU (I 49) n).toNatClampNeg) (J2 25) (J2 26) (J2 27) (J2 28) KY := by rw [hw6 25 (by omega), hw6 26 (by omega), hw6 27 (by omega), hw6 28 (by omega)]; exact hB24_4
        have hA19_7 : VA I n (nI a) (I 51 (leU (I 49) n).toNatClampNeg) (I 52 (leU (I 49) n).toNatClampNeg) (J2 19) K19_3 := by rw [hw6 19 (by omega)]; exact hA19_3
        have hB19_7 : VB I n (nI a) (I 52 (leU (I 49) n).toNatClampNeg) (J2 20) (J2 21) (J2 22) (J2 23) K19_3 := by rw [hw6 20 (by omega), hw6 21 (by omega), hw6 22 (by omega), hw6 23 (by omega)]; exact hB19_3
        refine Z.if_eqB (tgt := 149) dX6_watch_135 (by decide) (fun h8 => ?_) (fun h8 => ?_)
        · refine Z.iinc (v := nI (a + 1)) (L' := [.ref 0, .int (nI (i.toNatClampNeg)), .int (leU (I 49) n), .int (nI ((I 50 (leU (I 49) n).toNatClampNeg).toNatClampNeg)), .int (I 51 (leU (I 49) n).toNatClampNeg), .int (I 52 (leU (I 49) n).toNatClampNeg), .int (nI L), .int (nI (a + 1))]) dX6_watch_149 rfl (nI_1 _) rfl ?_
          refine Z.goto (tgt := 82) dX6_watch_152 (by decide) ?_
          have hwh : (waH I n nq) a = false := by unfold waH; simp only [h2, h5, h8]; try simp
          have hcs : cnH (waH I n nq) (a + 1) = cnH (waH I n nq) a + 0 := by show cnH (waH I n nq) a + (if _ then 1 else 0) = _; rw [hwh]; rfl
          exact ih (by omega) _ _ KY hE hA24_6 hB24_6 (by omega) (by rw [fstW_s (by omega), if_neg (by rw [hwh]; simp)] at hno; exact hno)
        · refine Z.iload dX6_watch_138 rfl ?_
          refine Z.if_neN (a := L) (by omega) (tgt := 146) dX6_watch_140 (by decide) (fun h9 => ?_) (fun h9 => ?_)
          · refine Z.iinc (v := nI (L - 1)) (L' := [.ref 0, .int (nI (i.toNatClampNeg)), .int (leU (I 49) n), .int (nI ((I 50 (leU (I 49) n).toNatClampNeg).toNatClampNeg)), .int (I 51 (leU (I 49) n).toNatClampNeg), .int (I 52 (leU (I 49) n).toNatClampNeg), .int (nI (L - 1)), .int (nI a)]) dX6_watch_146 rfl (nI_dec (by omega)) rfl ?_
            refine Z.iinc (v := nI (a + 1)) (L' := [.ref 0, .int (nI (i.toNatClampNeg)), .int (leU (I 49) n), .int (nI ((I 50 (leU (I 49) n).toNatClampNeg).toNatClampNeg)), .int (I 51 (leU (I 49) n).toNatClampNeg), .int (I 52 (leU (I 49) n).toNatClampNeg), .int (nI (L - 1)), .int (nI (a + 1))]) dX6_watch_149 rfl (nI_1 _) rfl ?_
            refine Z.goto (tgt := 82) dX6_watch_152 (by decide) ?_
            have hwh : (waH I n nq) a = true := by unfold waH; simp only [h2, h5, h8]; try simp
            have hcs : cnH (waH I n nq) (a + 1) = cnH (waH I n nq) a + 1 := by show cnH (waH I n nq) a + (if _ then 1 else 0) = _; rw [hwh]; rfl
            exact ih (by omega) _ _ KY hE hA24_6 hB24_6 (by omega) (by rw [fstW_s (by omega), if_neg (by rw [hwh]; simp; intro z; rw [hi1] at z; rw [nI_eq (by omega) (by omega)] at z; omega)] at hno; exact hno)
          · refine Z.iload dX6_watch_143 rfl ?_
            exact Z.iret dX6_watch_145 rfl ⟨by have hwh : (waH I n nq) a = true := (by unfold waH; simp only [h2, h5, h8]; try simp); rw [fstW_s (by omega), if_pos (by rw [hwh, show cnH (waH I n nq) a = i.toNatClampNeg by omega, ← hi1]; simp)] at hno; rw [waM, if_neg hok, hno]; rfl, hE, rfl⟩
    · refine Z.goto (tgt := 149) dX6_watch_101 (by decide) ?_
      refine Z.iinc (v := nI (a + 1)) (L' := [.ref 0, .int (nI (i.toNatClampNeg)), .int (leU (I 49) n), .int (nI ((I 50 (leU (I 49) n).toNatClampNeg).toNatClampNeg)), .int (I 51 (leU (I 49) n).toNatClampNeg), .int (I 52 (leU (I 49) n).toNatClampNeg), .int (nI L), .int (nI (a + 1))]) dX6_watch_149 rfl (nI_1 _) rfl ?_
      refine Z.goto (tgt := 82) dX6_watch_152 (by decide) ?_
      have hwh : (waH I n nq) a = false := by unfold waH; simp only [h2]; try simp
      have hcs : cnH (waH I n nq) (a + 1) = cnH (waH I n nq) a + 0 := by show cnH (waH I n nq) a + (if _ then 1 else 0) = _; rw [hwh]; rfl
      exact ih (by omega) _ _ KY hE hAy hBy (by omega) (by rw [fstW_s (by omega), if_neg (by rw [hwh]; simp)] at hno; exact hno)

set_option maxHeartbeats 4000000 in
set_option maxRecDepth 100000 in
theorem cb_watch {g : GP} {I J : IM} {S : SH} (hE : Ex I J) (i : Int32) (hF : Fx S) (hC : Cp I) {n : Nat} (hn : Mp I n) {nq : Nat} (hq : Mq I nq) (hcq : Cq I nq) (hM : MIv I) {mm : Nat} (hm : Mm I mm) (hz : Mz I S mm) (hL : LG I n) (hR : RX I n) (hPm : PMm I n mm) : Z g 6 0 0 mX6_watch 0 (enL mX6_watch [.ref 0, .int i]) [] J S (NQ (.int (waM I n nq mm i)) I S) := by
  show Z g 6 0 0 mX6_watch 0 [.ref 0, .int i, .retAddr 0, .retAddr 0, .retAddr 0, .retAddr 0, .retAddr 0, .retAddr 0] [] J S _
  have hn2 := hn.2
  have hq2 := hq.2
  have hm2 := hm.2
  have hD := hL.1
  have hso := hL.2.1
  refine Z.aload_n dX6_watch_0 rfl ?_
  refine Z.getR (r := 14) dX6_watch_1 cl6 flX6_32 (by decide) (fx0 hF) rfl ?_
  refine Z.iconst (v := 1) dX6_watch_4 (by decide) ?_
  refine Z.callVp (M := mX6_watch) (pc := 5) (st := []) (N := mX3_latest) (n := 1) (r := .int (leU (I 49) n)) dX6_watch_5 mlX6_235 mkX3_latest imX3_latest seX3_latest (fx14 hF) cl3 rfl (d1 := 0) (by decide) (As := [.int 1]) rfl ⟨rfl, Nat.le_of_ble_eq_true rfl⟩ ⟨rfl, Nat.le_of_ble_eq_true rfl⟩ (cc_latest3 hE hF hC hn) rfl ?_
  refine Z.istore_n (L' := [.ref 0, .int i, .int (leU (I 49) n), .retAddr 0, .retAddr 0, .retAddr 0, .retAddr 0, .retAddr 0]) dX6_watch_8 (Nat.le_of_ble_eq_true rfl) rfl ?_
  refine Z.iload_n dX6_watch_9 rfl ?_
  refine Z.if_lt (tgt := 26) dX6_watch_10 (by decide) (fun h1 => ?_) (fun h1 => ?_)
  · refine Z.iconst (v := (-1)) dX6_watch_26 (by decide) ?_
    exact Z.iret dX6_watch_27 rfl ⟨by rw [waM, if_pos (Or.inr h1)], hE, rfl⟩
  · refine Z.iload_n dX6_watch_13 rfl ?_
    refine Z.aload_n dX6_watch_14 rfl ?_
    refine Z.getIv (v := nI mm) dX6_watch_15 cl6 flX6_36 (by decide) (fx0 hF) (((hE.at 0 4 rfl).trans hC.f0_4).trans hm.1) ?_
    refine Z.icmp_ge (tgt := 26) dX6_watch_18 (by decide) (fun h2 => ?_) (fun h2 => ?_)
    · refine Z.iconst (v := (-1)) dX6_watch_26 (by decide) ?_
      exact Z.iret dX6_watch_27 rfl ⟨by rw [wa_big hm2 h2], hE, rfl⟩
    · refine Z.iload_n dX6_watch_21 rfl ?_
      refine Z.iconst (v := (-1)) dX6_watch_22 (by decide) ?_
      refine Z.icmp_ne (tgt := 28) dX6_watch_23 (by decide) (fun h3 => ?_) (fun h3 => ?_)
      · have hp : ¬ leU (I 49) n < 0 := (leU_c hn2).resolve_left h3
        have hpl := leU_lt hn2 hp
        have hmt := hPm _ hpl
        have hmt1 := hmt.1.1
        have hmt2 := hmt.2
        have e_i := tn_eq h1
        have l_i : i.toNatClampNeg < mm := by have z := h2; rw [tn_eq h1] at z; have b : i.toNatClampNeg < 2 ^ 31 := (by obtain ⟨j, hj, e⟩ := nI_of h1; rw [e, nI_clamp hj]; exact hj); exact (nI_ltI b (by omega)).mp z
        refine Z.eqLs (L' := [.ref 0, .int (nI (i.toNatClampNeg)), .int (leU (I 49) n), .retAddr 0, .retAddr 0, .retAddr 0, .retAddr 0, .retAddr 0]) (st' := []) (by rw [← e_i]) (by first | rfl | rw [← e_i]) ?_
        refine Z.aload_n dX6_watch_28 rfl ?_
        refine Z.getR (r := 14) dX6_watch_29 cl6 flX6_32 (by decide) (fx0 hF) rfl ?_
        refine Z.getR (r := 16) dX6_watch_32 cl3 flX6_158 (by decide) (fx14 hF) rfl ?_
        refine Z.iload_n dX6_watch_35 rfl ?_
        refine Z.ialdv (j := (leU (I 49) n).toNatClampNeg) (v := nI ((I 50 (leU (I 49) n).toNatClampNeg).toNatClampNeg)) dX6_watch_36 (fx16 hF) (tn_eq hp) (by omega) (by decide) (((hE.at 16 ((leU (I 49) n).toNatClampNeg) rfl).trans (congrFun (hC.c16) ((leU (I 49) n).toNatClampNeg))).trans hmt1) ?_
        refine Z.istore_n (L' := [.ref 0, .int (nI (i.toNatClampNeg)), .int (leU (I 49) n), .int (nI ((I 50 (leU (I 49) n).toNatClampNeg).toNatClampNeg)), .retAddr 0, .retAddr 0, .retAddr 0, .retAddr 0]) dX6_watch_37 (Nat.le_of_ble_eq_true rfl) rfl ?_
        refine Z.aload_n dX6_watch_38 rfl ?_
        refine Z.getR (r := 14) dX6_watch_39 cl6 flX6_32 (by decide) (fx0 hF) rfl ?_
        refine Z.getR (r := 17) dX6_watch_42 cl3 flX6_160 (by decide) (fx14 hF) rfl ?_
        refine Z.iload_n dX6_watch_45 rfl ?_
        refine Z.ialdv (j := (leU (I 49) n).toNatClampNeg) (v := I 51 ((leU (I 49) n).toNatClampNeg)) dX6_watch_46 (fx17 hF) (tn_eq hp) (by omega) (by decide) ((hE.at 17 ((leU (I 49) n).toNatClampNeg) rfl).trans (congrFun (hC.c17) ((leU (I 49) n).toNatClampNeg))) ?_
        refine Z.istore (L' := [.ref 0, .int (nI (i.toNatClampNeg)), .int (leU (I 49) n), .int (nI ((I 50 (leU (I 49) n).toNatClampNeg).toNatClampNeg)), .int (I 51 ((leU (I 49) n).toNatClampNeg)), .retAddr 0, .retAddr 0, .retAddr 0]) dX6_watch_47 (Nat.le_of_ble_eq_true rfl) rfl ?_
        refine Z.aload_n dX6_watch_49 rfl ?_
        refine Z.getR (r := 14) dX6_watch_50 cl6 flX6_32 (by decide) (fx0 hF) rfl ?_
        refine Z.getR (r := 18) dX6_watch_53 cl3 flX6_163 (by decide) (fx14 hF) rfl ?_
        refine Z.iload_n dX6_watch_56 rfl ?_
        refine Z.ialdv (j := (leU (I 49) n).toNatClampNeg) (v := I 52 ((leU (I 49) n).toNatClampNeg)) dX6_watch_57 (fx18 hF) (tn_eq hp) (by omega) (by decide) ((hE.at 18 ((leU (I 49) n).toNatClampNeg) rfl).trans (congrFun (hC.c18) ((leU (I 49) n).toNatClampNeg))) ?_
        refine Z.istore (L' := [.ref 0, .int (nI (i.toNatClampNeg)), .int (leU (I 49) n), .int (nI ((I 50 (leU (I 49) n).toNatClampNeg).toNatClampNeg)), .int (I 51 ((leU (I 49) n).toNatClampNeg)), .int (I 52 ((leU (I 49) n).toNatClampNeg)), .retAddr 0, .retAddr 0]) dX6_watch_58 (Nat.le_of_ble_eq_true rfl) rfl ?_
        refine Z.aload_n dX6_watch_60 rfl ?_
        refine Z.getR (r := 24) dX6_watch_61 cl6 flX6_53 (by decide) (fx0 hF) rfl ?_
        refine Z.aload_n dX6_watch_64 rfl ?_
        refine Z.getR (r := 14) dX6_watch_65 cl6 flX6_32 (by decide) (fx0 hF) rfl ?_
        refine Z.iload_n dX6_watch_68 rfl ?_
        refine Z.iload dX6_watch_69 rfl ?_
        refine Z.iload dX6_watch_71 rfl ?_
        refine Z.callVg (M := mX6_watch) (pc := 73) (st := []) (N := mX5_read) (n := 4) dX6_watch_73 mlX6_118 mkX5_read imX5_read seX5_read (fx24 hF) cl5 rfl (d1 := 3) (by decide) (As := [.ref 14, .int (nI ((I 50 (leU (I 49) n).toNatClampNeg).toNatClampNeg)), .int (I 51 ((leU (I 49) n).toNatClampNeg)), .int (I 52 ((leU (I 49) n).toNatClampNeg))]) rfl ⟨rfl, Nat.le_of_ble_eq_true rfl⟩ ⟨rfl, Nat.le_of_ble_eq_true rfl⟩ (cv_read24 hE (nI ((I 50 (leU (I 49) n).toNatClampNeg).toNatClampNeg)) (I 51 ((leU (I 49) n).toNatClampNeg)) (I 52 ((leU (I 49) n).toNatClampNeg)) hF hC hn hL) rfl (fun v_ J1 S_ h_ => ?_)
        obtain ⟨rfl, hw4, ⟨K24_4, hA24_4, hB24_4⟩, rfl⟩ := h_
        have hE := AW24.ex hw4 hE
        have hK24_4 := hA24_4.2.2.2.2.2.2.2.2.2
        refine Z.iload_n dX6_watch_76 rfl ?_
        refine Z.istore (L' := [.ref 0, .int (nI (i.toNatClampNeg)), .int (leU (I 49) n), .int (nI ((I 50 (leU (I 49) n).toNatClampNeg).toNatClampNeg)), .int (I 51 ((leU (I 49) n).toNatClampNeg)), .int (I 52 ((leU (I 49) n).toNatClampNeg)), .int (nI (i.toNatClampNeg)), .retAddr 0]) dX6_watch_77 (Nat.le_of_ble_eq_true rfl) rfl ?_
        refine Z.iconst (v := 0) dX6_watch_79 (by decide) ?_
        refine Z.istore (L' := [.ref 0, .int (nI (i.toNatClampNeg)), .int (leU (I 49) n), .int (nI ((I 50 (leU (I 49) n).toNatClampNeg).toNatClampNeg)), .int (I 51 ((leU (I 49) n).toNatClampNeg)), .int (I 52 ((leU (I 49) n).toNatClampNeg)), .int (nI (i.toNatClampNeg)), .int 0]) dX6_watch_80 (Nat.le_of_ble_eq_true rfl) rfl ?_
        exact lc_watch i hF hC hn hq hcq hM hm hz hL hR hPm hp hpl hmt2 (hL.2.2 _ hpl).2.2.2 (fun z => z.elim hp h1) e_i l_i 0 (Nat.zero_le _) _ _ _ hE hA24_4 hB24_4 rfl rfl
      · refine Z.iconst (v := (-1)) dX6_watch_26 (by decide) ?_
        exact Z.iret dX6_watch_27 rfl ⟨by rw [waM, if_pos (Or.inl (by rw [h3]; decide))], hE, rfl⟩

