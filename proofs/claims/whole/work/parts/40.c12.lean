theorem nr_ng {I : IM} {n nq : Nat} {a h_ c t : Int32} (hD : Dn I n) (hn4 : n ≤ 400) : nrF I n nq a h_ c t = -1 ↔ nrF I n nq a h_ c t < 0 := by
  have h2 := nrU_mn (h := fun i => neF (pM I n) (qM I nq) (I 35 9) a ((gS (pM I n) a t).2 i) h_ t && standsF (pM I n) a ((gS (pM I n) a t).2 i) c t) (r := fun i => rightF (pM I n) a ((gS (pM I n) a t).2 i) c t) (gS (pM I n) a t).1 (fun i _ h => by rw [Bool.and_eq_true] at h; exact stands_r hD hn4 h.2)
  exact mn_neg h2 (fun y ⟨i, _, h, e⟩ => by rw [Bool.and_eq_true] at h; rw [← e]; exact stands_r hD hn4 h.2)
theorem cn_eq {I : IM} {n nq : Nat} {a b c t : Int32} {G Sn Us Gv : Nat → Int32} {K : Nat} (hn4 : n ≤ 400) (hx : ∀ j, j < n → ¬ I 51 j = -1) (hB : VB I n b t G Sn Us Gv K) : anU (fun q => !decide (nrF I n nq a (G q) c t < 0)) K = cnF I n nq a b c t := by
  unfold cnF
  apply b_eq
  rw [anU_iff, anU_iff, vw_ex hn4 hx hB (fun g => (!decide (nrF I n nq a g c t < 0)) = true)]
set_option maxHeartbeats 4000000 in
set_option maxRecDepth 100000 in
theorem lc_earliestNear {g : GP} {I J : IM} {S : SH} (hE : Ex I J) (h_ : Int32) (hF : Fx S) (hC : Cp I) {n : Nat} (hn : Mp I n) {nq : Nat} (hq : Mq I nq) (hcq : Cq I nq) (hM : MIv I) {mm : Nat} (hm : Mm I mm) (hz : Mz I S mm) (hL : LG I n) {K : Nat} {a c t : Int32} (hA : VA I n a c t (J 19) K) (hB : VB I n a t (J 20) (J 21) (J 22) (J 23) K) (hc : ¬ c = -1) : ∀ q, q ≤ K → Z g 4 0 0 mX6_earliestNear 4 [.ref 0, .int h_, .int (nrU (fun q => standsF (pM I n) a (J 20 q) c t && neF (pM I n) (qM I nq) (I 35 9) a (J 20 q) h_ t) (fun q => rightF (pM I n) a (J 20 q) c t) q), .int (nI q), .retAddr 0] [] J S (PQ (.int (nrF I n nq a h_ c t)) J S) := by
  refine upZ K (fun q hi ih => ?_)
  have hn2 := hn.2
  have hq2 := hq.2
  have hm2 := hm.2
  have hD := hL.1
  have hso := hL.2.1
  have hK := hA.2.2.2.2.2.2.2.2.2
  have hng : (nrU (fun q => standsF (pM I n) a (J 20 q) c t && neF (pM I n) (qM I nq) (I 35 9) a (J 20 q) h_ t) (fun q => rightF (pM I n) a (J 20 q) c t) q < 0) = (nrU (fun q => standsF (pM I n) a (J 20 q) c t && neF (pM I n) (qM I nq) (I 35 9) a (J 20 q) h_ t) (fun q => rightF (pM I n) a (J 20 q) c t) q = -1) := propext (mn_neg (nrU_mn q (fun i _ z => by rw [Bool.and_eq_true] at z; exact stands_r hD hn2 z.1)) (fun y ⟨i, _, z, e⟩ => by rw [Bool.and_eq_true] at z; rw [← e]; exact stands_r hD hn2 z.1)).symm
  refine Z.iload_n dX6_earliestNear_4 rfl ?_
  refine Z.aload_n dX6_earliestNear_5 rfl ?_
  refine Z.getR (r := 19) dX6_earliestNear_6 cl6 flX6_49 (by decide) (fx0 hF) rfl ?_
  refine Z.getIv (v := nI K) dX6_earliestNear_9 cl5 flX6_215 (by decide) (fx19 hF) (hA.2.2.2.2.2.2.2.2.1) ?_
  refine Z.icmp_geN (a := q) (b := K) (by omega) (by omega) (tgt := 73) dX6_earliestNear_12 (by decide) (fun h1 => ?_) (fun h1 => ?_)
  · refine Z.iload_n dX6_earliestNear_73 rfl ?_
    exact Z.iret dX6_earliestNear_74 rfl ⟨by rw [show q = K by omega, nr_eq hD hn2 (fun j hj => (hL.2.2 j hj).2.2.2) hB], rfl, rfl⟩
  · refine Z.aload_n dX6_earliestNear_15 rfl ?_
    refine Z.getR (r := 19) dX6_earliestNear_16 cl6 flX6_49 (by decide) (fx0 hF) rfl ?_
    refine Z.iload_n dX6_earliestNear_19 rfl ?_
    refine Z.callVp (M := mX6_earliestNear) (pc := 20) (st := []) (N := mX5_standsAt) (n := 1) (r := .int (bI (standsF (pM I n) a (J 20 q) c t))) dX6_earliestNear_20 mlX6_202 mkX5_standsAt imX5_standsAt seX5_standsAt (fx19 hF) cl5 rfl (d1 := 3) (by decide) (As := [.int (nI q)]) rfl ⟨rfl, Nat.le_of_ble_eq_true rfl⟩ ⟨rfl, Nat.le_of_ble_eq_true rfl⟩ (cq_standsAtT19 hE hF hC hn2 hD hA hB (by omega) hc) rfl ?_
    refine Z.if_eqB (tgt := 67) dX6_earliestNear_23 (by decide) (fun h2 => ?_) (fun h2 => ?_)
    · refine Z.iinc (v := nI (q + 1)) (L' := [.ref 0, .int h_, .int (nrU (fun q => standsF (pM I n) a (J 20 q) c t && neF (pM I n) (qM I nq) (I 35 9) a (J 20 q) h_ t) (fun q => rightF (pM I n) a (J 20 q) c t) q), .int (nI (q + 1)), .retAddr 0]) dX6_earliestNear_67 rfl (nI_1 _) rfl ?_
      refine Z.goto (tgt := 4) dX6_earliestNear_70 (by decide) ?_
      have e := ih (by omega)
      rw [show nrU (fun q => standsF (pM I n) a (J 20 q) c t && neF (pM I n) (qM I nq) (I 35 9) a (J 20 q) h_ t) (fun q => rightF (pM I n) a (J 20 q) c t) (q + 1) = nrU (fun q => standsF (pM I n) a (J 20 q) c t && neF (pM I n) (qM I nq) (I 35 9) a (J 20 q) h_ t) (fun q => rightF (pM I n) a (J 20 q) c t) q by simp [nrU, hng, h1, h2]] at e
      exact e
    · refine Z.aload_n dX6_earliestNear_26 rfl ?_
      refine Z.aload_n dX6_earliestNear_27 rfl ?_
      refine Z.getR (r := 19) dX6_earliestNear_28 cl6 flX6_49 (by decide) (fx0 hF) rfl ?_
      refine Z.getR (r := 20) dX6_earliestNear_31 cl5 flX6_282 (by decide) (fx19 hF) rfl ?_
      refine Z.iload_n dX6_earliestNear_34 rfl ?_
      refine Z.ialdv (j := q) (v := J 20 q) dX6_earliestNear_35 (fx20 hF) rfl (by omega) (by decide) rfl ?_
      refine Z.iload_n dX6_earliestNear_36 rfl ?_
      refine Z.callVp (M := mX6_earliestNear) (pc := 37) (st := []) (N := mX6_isNear) (n := 2) (r := .int (bI (neF (pM I n) (qM I nq) (I 35 9) a (J 20 q) h_ t))) dX6_earliestNear_37 mlX6_285 mkX6_isNear imX6_isNear seX6_isNear (fx0 hF) cl6 rfl (d1 := 2) (by decide) (As := [.int (J 20 q), .int h_]) rfl ⟨rfl, Nat.le_of_ble_eq_true rfl⟩ ⟨rfl, Nat.le_of_ble_eq_true rfl⟩ (cc_isNear hE (J 20 q) h_ hF hC hn hq hcq hM hm hz hL hA hB) rfl ?_
      refine Z.if_eqB (tgt := 67) dX6_earliestNear_40 (by decide) (fun h3 => ?_) (fun h3 => ?_)
      · refine Z.iinc (v := nI (q + 1)) (L' := [.ref 0, .int h_, .int (nrU (fun q => standsF (pM I n) a (J 20 q) c t && neF (pM I n) (qM I nq) (I 35 9) a (J 20 q) h_ t) (fun q => rightF (pM I n) a (J 20 q) c t) q), .int (nI (q + 1)), .retAddr 0]) dX6_earliestNear_67 rfl (nI_1 _) rfl ?_
        refine Z.goto (tgt := 4) dX6_earliestNear_70 (by decide) ?_
        have e := ih (by omega)
        rw [show nrU (fun q => standsF (pM I n) a (J 20 q) c t && neF (pM I n) (qM I nq) (I 35 9) a (J 20 q) h_ t) (fun q => rightF (pM I n) a (J 20 q) c t) (q + 1) = nrU (fun q => standsF (pM I n) a (J 20 q) c t && neF (pM I n) (qM I nq) (I 35 9) a (J 20 q) h_ t) (fun q => rightF (pM I n) a (J 20 q) c t) q by simp [nrU, hng, h1, h2, h3]] at e
        exact e
      · refine Z.aload_n dX6_earliestNear_43 rfl ?_
        refine Z.getR (r := 19) dX6_earliestNear_44 cl6 flX6_49 (by decide) (fx0 hF) rfl ?_
        refine Z.iload_n dX6_earliestNear_47 rfl ?_
        refine Z.callVp (M := mX6_earliestNear) (pc := 48) (st := []) (N := mX5_rightAt) (n := 1) (r := .int (rightF (pM I n) a (J 20 q) c t)) dX6_earliestNear_48 mlX6_199 mkX5_rightAt imX5_rightAt seX5_rightAt (fx19 hF) cl5 rfl (d1 := 1) (by decide) (As := [.int (nI q)]) rfl ⟨rfl, Nat.le_of_ble_eq_true rfl⟩ ⟨rfl, Nat.le_of_ble_eq_true rfl⟩ (cq_rightAtT19 hE hF hC hn2 hD hA hB (by omega) hc) rfl ?_
        refine Z.istore (L' := [.ref 0, .int h_, .int (nrU (fun q => standsF (pM I n) a (J 20 q) c t && neF (pM I n) (qM I nq) (I 35 9) a (J 20 q) h_ t) (fun q => rightF (pM I n) a (J 20 q) c t) q), .int (nI q), .int (rightF (pM I n) a (J 20 q) c t)]) dX6_earliestNear_51 (Nat.le_of_ble_eq_true rfl) rfl ?_
        refine Z.iload_n dX6_earliestNear_53 rfl ?_
        refine Z.iconst (v := (-1)) dX6_earliestNear_54 (by decide) ?_
        refine Z.icmp_eq (tgt := 64) dX6_earliestNear_55 (by decide) (fun h4 => ?_) (fun h4 => ?_)
        · refine Z.iload dX6_earliestNear_64 rfl ?_
          refine Z.istore_n (L' := [.ref 0, .int h_, .int (rightF (pM I n) a (J 20 q) c t), .int (nI q), .int (rightF (pM I n) a (J 20 q) c t)]) dX6_earliestNear_66 (Nat.le_of_ble_eq_true rfl) rfl ?_
          refine Z.iinc (v := nI (q + 1)) (L' := [.ref 0, .int h_, .int (rightF (pM I n) a (J 20 q) c t), .int (nI (q + 1)), .int (rightF (pM I n) a (J 20 q) c t)]) dX6_earliestNear_67 rfl (nI_1 _) rfl ?_
          refine Z.goto (tgt := 4) dX6_earliestNear_70 (by decide) ?_
          refine Z.drop (i := 4) (L' := [.ref 0, .int h_, .int (rightF (pM I n) a (J 20 q) c t), .int (nI (q + 1)), .retAddr 0]) rfl ?_
          have e := ih (by omega)
          rw [show nrU (fun q => standsF (pM I n) a (J 20 q) c t && neF (pM I n) (qM I nq) (I 35 9) a (J 20 q) h_ t) (fun q => rightF (pM I n) a (J 20 q) c t) (q + 1) = rightF (pM I n) a (J 20 q) c t by simp [nrU, hng, h1, h2, h3, eq_true h4]] at e
          exact e
        · refine Z.iload dX6_earliestNear_58 rfl ?_
          refine Z.iload_n dX6_earliestNear_60 rfl ?_
          refine Z.icmp_ge (tgt := 67) dX6_earliestNear_61 (by decide) (fun h5 => ?_) (fun h5 => ?_)
          · refine Z.iinc (v := nI (q + 1)) (L' := [.ref 0, .int h_, .int (nrU (fun q => standsF (pM I n) a (J 20 q) c t && neF (pM I n) (qM I nq) (I 35 9) a (J 20 q) h_ t) (fun q => rightF (pM I n) a (J 20 q) c t) q), .int (nI (q + 1)), .int (rightF (pM I n) a (J 20 q) c t)]) dX6_earliestNear_67 rfl (nI_1 _) rfl ?_
            refine Z.goto (tgt := 4) dX6_earliestNear_70 (by decide) ?_
            refine Z.drop (i := 4) (L' := [.ref 0, .int h_, .int (nrU (fun q => standsF (pM I n) a (J 20 q) c t && neF (pM I n) (qM I nq) (I 35 9) a (J 20 q) h_ t) (fun q => rightF (pM I n) a (J 20 q) c t) q), .int (nI (q + 1)), .retAddr 0]) rfl ?_
            have e := ih (by omega)
            rw [show nrU (fun q => standsF (pM I n) a (J 20 q) c t && neF (pM I n) (qM I nq) (I 35 9) a (J 20 q) h_ t) (fun q => rightF (pM I n) a (J 20 q) c t) (q + 1) = nrU (fun q => standsF (pM I n) a (J 20 q) c t && neF (pM I n) (qM I nq) (I 35 9) a (J 20 q) h_ t) (fun q => rightF (pM I n) a (J 20 q) c t) q by simp [nrU, hng, h1, h2, h3, h4, h5]] at e
            exact e
          · refine Z.iload dX6_earliestNear_64 rfl ?_
            refine Z.istore_n (L' := [.ref 0, .int h_, .int (rightF (pM I n) a (J 20 q) c t), .int (nI q), .int (rightF (pM I n) a (J 20 q) c t)]) dX6_earliestNear_66 (Nat.le_of_ble_eq_true rfl) rfl ?_
            refine Z.iinc (v := nI (q + 1)) (L' := [.ref 0, .int h_, .int (rightF (pM I n) a (J 20 q) c t), .int (nI (q + 1)), .int (rightF (pM I n) a (J 20 q) c t)]) dX6_earliestNear_67 rfl (nI_1 _) rfl ?_
            refine Z.goto (tgt := 4) dX6_earliestNear_70 (by decide) ?_
            refine Z.drop (i := 4) (L' := [.ref 0, .int h_, .int (rightF (pM I n) a (J 20 q) c t), .int (nI (q + 1)), .retAddr 0]) rfl ?_
            have e := ih (by omega)
            rw [show nrU (fun q => standsF (pM I n) a (J 20 q) c t && neF (pM I n) (qM I nq) (I 35 9) a (J 20 q) h_ t) (fun q => rightF (pM I n) a (J 20 q) c t) (q + 1) = rightF (pM I n) a (J 20 q) c t by simp [nrU, hng, h1, h2, h3, h4, h5]] at e
            exact e

set_option maxHeartbeats 4000000 in
set_option maxRecDepth 100000 in
theorem cc_earliestNear {g : GP} {I J : IM} {S : SH} (hE : Ex I J) (h_ : Int32) (hF : Fx S) (hC : Cp I) {n : Nat} (hn : Mp I n) {nq : Nat} (hq : Mq I nq) (hcq : Cq I nq) (hM : MIv I) {mm : Nat} (hm : Mm I mm) (hz : Mz I S mm) (hL : LG I n) {K : Nat} {a c t : Int32} (hA : VA I n a c t (J 19) K) (hB : VB I n a t (J 20) (J 21) (J 22) (J 23) K) (hc : ¬ c = -1) : Z g 4 0 0 mX6_earliestNear 0 (enL mX6_earliestNear [.ref 0, .int h_]) [] J S (PQ (.int (nrF I n nq a h_ c t)) J S) := by
  show Z g 4 0 0 mX6_earliestNear 0 [.ref 0, .int h_, .retAddr 0, .retAddr 0, .retAddr 0] [] J S _
  refine Z.iconst (v := (-1)) dX6_earliestNear_0 (by decide) ?_
  refine Z.istore_n (L' := [.ref 0, .int h_, .int ((-1)), .retAddr 0, .retAddr 0]) dX6_earliestNear_1 (Nat.le_of_ble_eq_true rfl) rfl ?_
  refine Z.iconst (v := 0) dX6_earliestNear_2 (by decide) ?_
  refine Z.istore_n (L' := [.ref 0, .int h_, .int ((-1)), .int 0, .retAddr 0]) dX6_earliestNear_3 (Nat.le_of_ble_eq_true rfl) rfl ?_
  exact lc_earliestNear hE h_ hF hC hn hq hcq hM hm hz hL hA hB hc 0 (Nat.zero_le _)

set_option maxHeartbeats 4000000 in
set_option maxRecDepth 100000 in
theorem lc_sny {g : GP} {I J : IM} {S : SH} (hE : Ex I J)  (hF : Fx S) (hC : Cp I) {n : Nat} (hn : Mp I n) {nq : Nat} (hq : Mq I nq) (hcq : Cq I nq) (hM : MIv I) {mm : Nat} (hm : Mm I mm) (hz : Mz I S mm) (hL : LG I n) {K : Nat} {a c t : Int32} (hA : VA I n a c t (J 19) K) (hB : VB I n a t (J 20) (J 21) (J 22) (J 23) K) {KY : Nat} {b : Int32} (hAy : VA I n b c t (J 24) KY) (hBy : VB I n b t (J 25) (J 26) (J 27) (J 28) KY) (hc : ¬ c = -1) : ∀ q, q ≤ KY → anU (fun q => !decide (nrF I n nq a (J 25 q) c t < 0)) q = false → Z g 5 0 0 mX6_standsNearYounger 2 [.ref 0, .int (nI q)] [] J S (PQ (.int (bI (cnF I n nq a b c t))) J S) := by
  refine upZ KY (fun q hi ih hno => ?_)
  have hn2 := hn.2
  have hq2 := hq.2
  have hm2 := hm.2
  have hD := hL.1
  have hso := hL.2.1
  have hK := hAy.2.2.2.2.2.2.2.2.2
  refine Z.iload_n dX6_standsNearYounger_2 rfl ?_
  refine Z.aload_n dX6_standsNearYounger_3 rfl ?_
  refine Z.getR (r := 24) dX6_standsNearYounger_4 cl6 flX6_53 (by decide) (fx0 hF) rfl ?_
  refine Z.getIv (v := nI KY) dX6_standsNearYounger_7 cl5 flX6_215 (by decide) (fx24 hF) (hAy.2.2.2.2.2.2.2.2.1) ?_
  refine Z.icmp_geN (a := q) (b := KY) (by omega) (by omega) (tgt := 38) dX6_standsNearYounger_10 (by decide) (fun h1 => ?_) (fun h1 => ?_)
  · refine Z.iconst (v := 0) dX6_standsNearYounger_38 (by decide) ?_
    exact Z.zret dX6_standsNearYounger_39 rfl (by decide) ⟨by rw [← cn_eq hn2 (fun j hj => (hL.2.2 j hj).2.2.2) hBy, show KY = q by omega, hno]; rfl, rfl, rfl⟩
  · refine Z.aload_n dX6_standsNearYounger_13 rfl ?_
    refine Z.aload_n dX6_standsNearYounger_14 rfl ?_
    refine Z.getR (r := 24) dX6_standsNearYounger_15 cl6 flX6_53 (by decide) (fx0 hF) rfl ?_
    refine Z.getR (r := 25) dX6_standsNearYounger_18 cl5 flX6_282 (by decide) (fx24 hF) rfl ?_
    refine Z.iload_n dX6_standsNearYounger_21 rfl ?_
    refine Z.ialdv (j := q) (v := J 25 q) dX6_standsNearYounger_22 (fx25 hF) rfl (by omega) (by decide) rfl ?_
    refine Z.callVp (M := mX6_standsNearYounger) (pc := 23) (st := []) (N := mX6_earliestNear) (n := 1) (r := .int (nrF I n nq a (J 25 q) c t)) dX6_standsNearYounger_23 mlX6_225 mkX6_earliestNear imX6_earliestNear seX6_earliestNear (fx0 hF) cl6 rfl (d1 := 4) (by decide) (As := [.int (J 25 q)]) rfl ⟨rfl, Nat.le_of_ble_eq_true rfl⟩ ⟨rfl, Nat.le_of_ble_eq_true rfl⟩ (cc_earliestNear hE (J 25 q) hF hC hn hq hcq hM hm hz hL hA hB hc) rfl ?_
    refine Z.iconst (v := (-1)) dX6_standsNearYounger_26 (by decide) ?_
    refine Z.icmp_eq (tgt := 32) dX6_standsNearYounger_27 (by decide) (fun h2 => ?_) (fun h2 => ?_)
    · refine Z.iinc (v := nI (q + 1)) (L' := [.ref 0, .int (nI (q + 1))]) dX6_standsNearYounger_32 rfl (nI_1 _) rfl ?_
      refine Z.goto (tgt := 2) dX6_standsNearYounger_35 (by decide) ?_
      exact ih (by omega) (by unfold anU; rw [hno, h2]; decide)
    · refine Z.iconst (v := 1) dX6_standsNearYounger_30 (by decide) ?_
      exact Z.zret dX6_standsNearYounger_31 rfl (by decide) ⟨by rw [← cn_eq hn2 (fun j hj => (hL.2.2 j hj).2.2.2) hBy, anU_iff.mpr ⟨q, by omega, show (!decide (nrF I n nq a (J 25 q) c t < 0)) = true by rw [decide_eq_false (fun z => h2 ((nr_ng hD hn2).mpr z))]; rfl⟩]; rfl, rfl, rfl⟩

set_option maxHeartbeats 4000000 in
set_option maxRecDepth 100000 in
theorem cc_sny {g : GP} {I J : IM} {S : SH} (hE : Ex I J)  (hF : Fx S) (hC : Cp I) {n : Nat} (hn : Mp I n) {nq : Nat} (hq : Mq I nq) (hcq : Cq I nq) (hM : MIv I) {mm : Nat} (hm : Mm I mm) (hz : Mz I S mm) (hL : LG I n) {K : Nat} {a c t : Int32} (hA : VA I n a c t (J 19) K) (hB : VB I n a t (J 20) (J 21) (J 22) (J 23) K) {KY : Nat} {b : Int32} (hAy : VA I n b c t (J 24) KY) (hBy : VB I n b t (J 25) (J 26) (J 27) (J 28) KY) (hc : ¬ c = -1) : Z g 5 0 0 mX6_standsNearYounger 0 (enL mX6_standsNearYounger [.ref 0]) [] J S (PQ (.int (bI (cnF I n nq a b c t))) J S) := by
  show Z g 5 0 0 mX6_standsNearYounger 0 [.ref 0, .retAddr 0] [] J S _
  refine Z.iconst (v := 0) dX6_standsNearYounger_0 (by decide) ?_
  refine Z.istore_n (L' := [.ref 0, .int 0]) dX6_standsNearYounger_1 (Nat.le_of_ble_eq_true rfl) rfl ?_
  exact lc_sny hE hF hC hn hq hcq hM hm hz hL hA hB hAy hBy hc 0 (Nat.zero_le _) rfl

