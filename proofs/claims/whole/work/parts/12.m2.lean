set_option maxHeartbeats 4000000 in
set_option maxRecDepth 100000 in
theorem lp_pairOf {g : GP} {I J : IM} {S : SH} (hE : Ex I J) (g_ h_ : Int32) (hF : Fx S) {nq : Nat} (hq : Mq I nq) : ∀ i, i ≤ nq → Z g 0 0 0 mX7_pairOf 29 [.ref 35, .int g_, .int h_, .int (lowF g_ h_), .int (highF g_ h_), .int (prU (qM I nq) g_ h_ i), .int (nI i)] [] J S (PQ (.int (prF (qM I nq) g_ h_)) J S) := by
  refine upZ nq (fun i hi ih => ?_)
  have hq2 := hq.2
  refine Z.iload dX7_pairOf_29 rfl ?_
  refine Z.aload_n dX7_pairOf_31 rfl ?_
  refine Z.getIv (v := nI nq) dX7_pairOf_32 cl7 flX7_91 (by decide) (fx35 hF) ((hE.at 35 7 rfl).trans hq.1) ?_
  refine Z.icmp_geN (a := i) (b := nq) (by omega) (by omega) (tgt := 76) dX7_pairOf_35 (by decide) (fun h1 => ?_) (fun h1 => ?_)
  · refine Z.iload dX7_pairOf_76 rfl ?_
    exact Z.iret dX7_pairOf_78 rfl ⟨by rw [show i = nq by omega]; rfl, rfl, rfl⟩
  · refine Z.aload_n dX7_pairOf_38 rfl ?_
    refine Z.getR (r := 40) dX7_pairOf_39 cl7 flX7_22 (by decide) (fx35 hF) rfl ?_
    refine Z.iload dX7_pairOf_42 rfl ?_
    refine Z.ialdv (j := i) (v := I 40 i) dX7_pairOf_44 (fx40 hF) rfl (by omega) (by decide) (hE.at 40 i rfl) ?_
    refine Z.iload_n dX7_pairOf_45 rfl ?_
    refine Z.icmp_ne (tgt := 66) dX7_pairOf_46 (by decide) (fun h2 => ?_) (fun h2 => ?_)
    · refine Z.iload dX7_pairOf_66 rfl ?_
      refine Z.istore (L' := [.ref 35, .int g_, .int h_, .int (lowF g_ h_), .int (highF g_ h_), .int (prU (qM I nq) g_ h_ i), .int (nI i)]) dX7_pairOf_68 (Nat.le_of_ble_eq_true rfl) rfl ?_
      refine Z.iinc (v := nI (i + 1)) (L' := [.ref 35, .int g_, .int h_, .int (lowF g_ h_), .int (highF g_ h_), .int (prU (qM I nq) g_ h_ i), .int (nI (i + 1))]) dX7_pairOf_70 rfl (nI_1 _) rfl ?_
      refine Z.goto (tgt := 29) dX7_pairOf_73 (by decide) ?_
      have e := ih (by omega)
      rw [show prU (qM I nq) g_ h_ (i + 1) = prU (qM I nq) g_ h_ i by simp [prU, qM_l, qM_h, h1, h2]] at e
      exact e
    · refine Z.aload_n dX7_pairOf_49 rfl ?_
      refine Z.getR (r := 41) dX7_pairOf_50 cl7 flX7_25 (by decide) (fx35 hF) rfl ?_
      refine Z.iload dX7_pairOf_53 rfl ?_
      refine Z.ialdv (j := i) (v := I 41 i) dX7_pairOf_55 (fx41 hF) rfl (by omega) (by decide) (hE.at 41 i rfl) ?_
      refine Z.iload dX7_pairOf_56 rfl ?_
      refine Z.icmp_ne (tgt := 66) dX7_pairOf_58 (by decide) (fun h3 => ?_) (fun h3 => ?_)
      · refine Z.iload dX7_pairOf_66 rfl ?_
        refine Z.istore (L' := [.ref 35, .int g_, .int h_, .int (lowF g_ h_), .int (highF g_ h_), .int (prU (qM I nq) g_ h_ i), .int (nI i)]) dX7_pairOf_68 (Nat.le_of_ble_eq_true rfl) rfl ?_
        refine Z.iinc (v := nI (i + 1)) (L' := [.ref 35, .int g_, .int h_, .int (lowF g_ h_), .int (highF g_ h_), .int (prU (qM I nq) g_ h_ i), .int (nI (i + 1))]) dX7_pairOf_70 rfl (nI_1 _) rfl ?_
        refine Z.goto (tgt := 29) dX7_pairOf_73 (by decide) ?_
        have e := ih (by omega)
        rw [show prU (qM I nq) g_ h_ (i + 1) = prU (qM I nq) g_ h_ i by simp [prU, qM_l, qM_h, h1, h2, h3]] at e
        exact e
      · refine Z.iload dX7_pairOf_61 rfl ?_
        refine Z.goto (tgt := 68) dX7_pairOf_63 (by decide) ?_
        refine Z.istore (L' := [.ref 35, .int g_, .int h_, .int (lowF g_ h_), .int (highF g_ h_), .int (nI i), .int (nI i)]) dX7_pairOf_68 (Nat.le_of_ble_eq_true rfl) rfl ?_
        refine Z.iinc (v := nI (i + 1)) (L' := [.ref 35, .int g_, .int h_, .int (lowF g_ h_), .int (highF g_ h_), .int (nI i), .int (nI (i + 1))]) dX7_pairOf_70 rfl (nI_1 _) rfl ?_
        refine Z.goto (tgt := 29) dX7_pairOf_73 (by decide) ?_
        have e := ih (by omega)
        rw [show prU (qM I nq) g_ h_ (i + 1) = nI i by simp [prU, qM_l, qM_h, h1, h2, h3]] at e
        exact e

set_option maxHeartbeats 4000000 in
set_option maxRecDepth 100000 in
theorem ct_pairOf {g : GP} {I J : IM} {S : SH} (hE : Ex I J) (g_ h_ : Int32) (hF : Fx S) {nq : Nat} (hq : Mq I nq) : Z g 0 0 0 mX7_pairOf 0 (enL mX7_pairOf [.ref 35, .int g_, .int h_]) [] J S (PQ (.int (prF (qM I nq) g_ h_)) J S) := by
  show Z g 0 0 0 mX7_pairOf 0 [.ref 35, .int g_, .int h_, .retAddr 0, .retAddr 0, .retAddr 0, .retAddr 0] [] J S _
  refine Z.iload_n dX7_pairOf_0 rfl ?_
  refine Z.iload_n dX7_pairOf_1 rfl ?_
  refine Z.icmp_ge (tgt := 9) dX7_pairOf_2 (by decide) (fun h1 => ?_) (fun h1 => ?_)
  · refine Z.iload_n dX7_pairOf_9 rfl ?_
    refine Z.istore_n (L' := [.ref 35, .int g_, .int h_, .int h_, .retAddr 0, .retAddr 0, .retAddr 0]) dX7_pairOf_10 (Nat.le_of_ble_eq_true rfl) rfl ?_
    refine Z.iload_n dX7_pairOf_11 rfl ?_
    refine Z.iload_n dX7_pairOf_12 rfl ?_
    refine Z.icmp_ge (tgt := 20) dX7_pairOf_13 (by decide) (fun h2 => ?_) (fun h2 => absurd h2 h1)
    refine Z.iload_n dX7_pairOf_20 rfl ?_
    refine Z.istore (L' := [.ref 35, .int g_, .int h_, .int h_, .int g_, .retAddr 0, .retAddr 0]) dX7_pairOf_21 (Nat.le_of_ble_eq_true rfl) rfl ?_
    refine Z.iconst (v := (-1)) dX7_pairOf_23 (by decide) ?_
    refine Z.istore (L' := [.ref 35, .int g_, .int h_, .int h_, .int g_, .int ((-1)), .retAddr 0]) dX7_pairOf_24 (Nat.le_of_ble_eq_true rfl) rfl ?_
    refine Z.iconst (v := 0) dX7_pairOf_26 (by decide) ?_
    refine Z.istore (L' := [.ref 35, .int g_, .int h_, .int h_, .int g_, .int ((-1)), .int 0]) dX7_pairOf_27 (Nat.le_of_ble_eq_true rfl) rfl ?_
    have e := lp_pairOf hE (g := g) g_ h_ hF hq 0 (Nat.zero_le _)
    rw [show lowF g_ h_ = h_ by simp [lowF, h1], show highF g_ h_ = g_ by simp [highF, h1]] at e
    exact e
  · refine Z.iload_n dX7_pairOf_5 rfl ?_
    refine Z.goto (tgt := 10) dX7_pairOf_6 (by decide) ?_
    refine Z.istore_n (L' := [.ref 35, .int g_, .int h_, .int g_, .retAddr 0, .retAddr 0, .retAddr 0]) dX7_pairOf_10 (Nat.le_of_ble_eq_true rfl) rfl ?_
    refine Z.iload_n dX7_pairOf_11 rfl ?_
    refine Z.iload_n dX7_pairOf_12 rfl ?_
    refine Z.icmp_ge (tgt := 20) dX7_pairOf_13 (by decide) (fun h3 => absurd h1 h3) (fun h3 => ?_)
    refine Z.iload_n dX7_pairOf_16 rfl ?_
    refine Z.goto (tgt := 21) dX7_pairOf_17 (by decide) ?_
    refine Z.istore (L' := [.ref 35, .int g_, .int h_, .int g_, .int h_, .retAddr 0, .retAddr 0]) dX7_pairOf_21 (Nat.le_of_ble_eq_true rfl) rfl ?_
    refine Z.iconst (v := (-1)) dX7_pairOf_23 (by decide) ?_
    refine Z.istore (L' := [.ref 35, .int g_, .int h_, .int g_, .int h_, .int ((-1)), .retAddr 0]) dX7_pairOf_24 (Nat.le_of_ble_eq_true rfl) rfl ?_
    refine Z.iconst (v := 0) dX7_pairOf_26 (by decide) ?_
    refine Z.istore (L' := [.ref 35, .int g_, .int h_, .int g_, .int h_, .int ((-1)), .int 0]) dX7_pairOf_27 (Nat.le_of_ble_eq_true rfl) rfl ?_
    have e := lp_pairOf hE (g := g) g_ h_ hF hq 0 (Nat.zero_le _)
    rw [show lowF g_ h_ = g_ by simp [lowF, h1], show highF g_ h_ = h_ by simp [highF, h1]] at e
    exact e

set_option maxHeartbeats 4000000 in
set_option maxRecDepth 100000 in
theorem ct_nearOf {g : GP} {I J : IM} {S : SH} (hE : Ex I J) (g_ h_ : Int32) (hF : Fx S) {nq : Nat} (hq : Mq I nq) : Z g 1 0 0 mX7_nearOf 0 (enL mX7_nearOf [.ref 35, .int g_, .int h_]) [] J S (PQ (.int (nearF (qM I nq) g_ h_)) J S) := by
  show Z g 1 0 0 mX7_nearOf 0 [.ref 35, .int g_, .int h_, .retAddr 0] [] J S _
  refine Z.iload_n dX7_nearOf_0 rfl ?_
  refine Z.iload_n dX7_nearOf_1 rfl ?_
  refine Z.icmp_ne (tgt := 9) dX7_nearOf_2 (by decide) (fun h1 => ?_) (fun h1 => ?_)
  · refine Z.aload_n dX7_nearOf_9 rfl ?_
    refine Z.iload_n dX7_nearOf_10 rfl ?_
    refine Z.iload_n dX7_nearOf_11 rfl ?_
    refine Z.callVp (M := mX7_nearOf) (pc := 12) (st := []) (N := mX7_pairOf) (n := 2) (r := .int (prF (qM I nq) g_ h_)) dX7_nearOf_12 mlX7_98 mkX7_pairOf imX7_pairOf seX7_pairOf (fx35 hF) cl7 rfl (d1 := 0) (by decide) (As := [.int g_, .int h_]) rfl ⟨rfl, Nat.le_of_ble_eq_true rfl⟩ ⟨rfl, Nat.le_of_ble_eq_true rfl⟩ (ct_pairOf hE g_ h_ hF hq) rfl ?_
    refine Z.istore_n (L' := [.ref 35, .int g_, .int h_, .int (prF (qM I nq) g_ h_)]) dX7_nearOf_15 (Nat.le_of_ble_eq_true rfl) rfl ?_
    refine Z.iload_n dX7_nearOf_16 rfl ?_
    refine Z.if_ge (tgt := 24) dX7_nearOf_17 (by decide) (fun h2 => ?_) (fun h2 => ?_)
    · refine Z.aload_n dX7_nearOf_24 rfl ?_
      refine Z.getR (r := 42) dX7_nearOf_25 cl7 flX7_28 (by decide) (fx35 hF) rfl ?_
      refine Z.iload_n dX7_nearOf_28 rfl ?_
      refine Z.ialdv (j := (prF (qM I nq) g_ h_).toNatClampNeg) (v := I 42 ((prF (qM I nq) g_ h_).toNatClampNeg)) dX7_nearOf_29 (fx42 hF) (tn_eq h2) (Nat.lt_of_lt_of_le (prU_lt (q := qM I nq) (i := nq) (by have := hq.2; omega) h2) hq.2) (by decide) (hE.at 42 ((prF (qM I nq) g_ h_).toNatClampNeg) rfl) ?_
      exact Z.iret dX7_nearOf_30 rfl ⟨by simp [nearF, qM_v, h1, h2], rfl, rfl⟩
    · refine Z.iconst (v := 0) dX7_nearOf_20 (by decide) ?_
      refine Z.goto (tgt := 30) dX7_nearOf_21 (by decide) ?_
      exact Z.iret dX7_nearOf_30 rfl ⟨by simp [nearF, qM_v, h1, h2], rfl, rfl⟩
  · refine Z.sipush (v := 1000) dX7_nearOf_5 (by decide) ?_
    exact Z.iret dX7_nearOf_8 rfl ⟨by simp [nearF, qM_v, h1], rfl, rfl⟩

set_option maxHeartbeats 4000000 in
set_option maxRecDepth 100000 in
theorem ct_isNear {g : GP} {I J : IM} {S : SH} (hE : Ex I J) (a g_ h_ t : Int32) (hF : Fx S) {n : Nat} (hn : Mp I n) {nq : Nat} (hq : Mq I nq) : Z g 2 0 0 mX7_isNear 0 (enL mX7_isNear [.ref 35, .int a, .int g_, .int h_, .int t]) [] J S (PQ (.int (bI (neF (pM I n) (qM I nq) (I 35 9) a g_ h_ t))) J S) := by
  show Z g 2 0 0 mX7_isNear 0 [.ref 35, .int a, .int g_, .int h_, .int t] [] J S _
  refine Z.aload_n dX7_isNear_0 rfl ?_
  refine Z.iload_n dX7_isNear_1 rfl ?_
  refine Z.iload_n dX7_isNear_2 rfl ?_
  refine Z.callVp (M := mX7_isNear) (pc := 3) (st := []) (N := mX7_nearOf) (n := 2) (r := .int (nearF (qM I nq) g_ h_)) dX7_isNear_3 mlX7_167 mkX7_nearOf imX7_nearOf seX7_nearOf (fx35 hF) cl7 rfl (d1 := 1) (by decide) (As := [.int g_, .int h_]) rfl ⟨rfl, Nat.le_of_ble_eq_true rfl⟩ ⟨rfl, Nat.le_of_ble_eq_true rfl⟩ (ct_nearOf hE g_ h_ hF hq) rfl ?_
  refine Z.aload_n dX7_isNear_6 rfl ?_
  refine Z.getIv (v := I 35 9) dX7_isNear_7 cl7 flX7_80 (by decide) (fx35 hF) (hE.at 35 9 rfl) ?_
  refine Z.icmp_ge (tgt := 26) dX7_isNear_10 (by decide) (fun h1 => ?_) (fun h1 => ?_)
  · refine Z.iconst (v := 1) dX7_isNear_26 (by decide) ?_
    refine Z.goto (tgt := 31) dX7_isNear_27 (by decide) ?_
    exact Z.zret dX7_isNear_31 rfl (by decide) ⟨by simp [neF, bI, h1], rfl, rfl⟩
  · refine Z.aload_n dX7_isNear_13 rfl ?_
    refine Z.bipush (v := 7) dX7_isNear_14 (by decide) ?_
    refine Z.iload_n dX7_isNear_16 rfl ?_
    refine Z.iconst (v := (-1)) dX7_isNear_17 (by decide) ?_
    refine Z.iload dX7_isNear_18 rfl ?_
    refine Z.callVp (M := mX7_isNear) (pc := 20) (st := []) (N := mX7_latest) (n := 4) (r := .int (latF (pM I n) 7 a (-1) t)) dX7_isNear_20 mlX7_138 mkX7_latest imX7_latest seX7_latest (fx35 hF) cl7 rfl (d1 := 0) (by decide) (As := [.int 7, .int a, .int ((-1)), .int t]) rfl ⟨rfl, Nat.le_of_ble_eq_true rfl⟩ ⟨rfl, Nat.le_of_ble_eq_true rfl⟩ (ct_latest hE 7 a (-1) t hF hn) rfl ?_
    refine Z.if_lt (tgt := 30) dX7_isNear_23 (by decide) (fun h2 => ?_) (fun h2 => ?_)
    · refine Z.iconst (v := 0) dX7_isNear_30 (by decide) ?_
      exact Z.zret dX7_isNear_31 rfl (by decide) ⟨by simp [neF, bI, h1, h2], rfl, rfl⟩
    · refine Z.iconst (v := 1) dX7_isNear_26 (by decide) ?_
      refine Z.goto (tgt := 31) dX7_isNear_27 (by decide) ?_
      exact Z.zret dX7_isNear_31 rfl (by decide) ⟨by simp [neF, bI, h1, h2], rfl, rfl⟩

set_option maxHeartbeats 4000000 in
set_option maxRecDepth 100000 in
theorem lp_hasPaper {g : GP} {I J : IM} {S : SH} (hE : Ex I J) (m : Int32) (hF : Fx S) {n : Nat} (hn : Mp I n) : ∀ i, i ≤ n → Z g 0 0 0 mX7_hasPaper 4 [.ref 35, .int m, .int (bI (hasPU (pM I n) m i)), .int (nI i)] [] J S (PQ (.int (bI (hasPF (pM I n) m))) J S) := by
  refine upZ n (fun i hi ih => ?_)
  have hn2 := hn.2
  refine Z.iload_n dX7_hasPaper_4 rfl ?_
  refine Z.aload_n dX7_hasPaper_5 rfl ?_
  refine Z.getIv (v := nI n) dX7_hasPaper_6 cl7 flX7_105 (by decide) (fx35 hF) ((hE.at 35 17 rfl).trans hn.1) ?_
  refine Z.icmp_geN (a := i) (b := n) (by omega) (by omega) (tgt := 38) dX7_hasPaper_9 (by decide) (fun h1 => ?_) (fun h1 => ?_)
  · refine Z.iload_n dX7_hasPaper_38 rfl ?_
    exact Z.zret dX7_hasPaper_39 rfl (bI_01 _) ⟨by rw [show i = n by omega]; rfl, rfl, rfl⟩
  · refine Z.iload_n dX7_hasPaper_12 rfl ?_
    refine Z.if_neB (tgt := 26) dX7_hasPaper_13 (by decide) (fun h2 => ?_) (fun h2 => ?_)
    · refine Z.iconst (v := 1) dX7_hasPaper_26 (by decide) ?_
      refine Z.goto (tgt := 31) dX7_hasPaper_27 (by decide) ?_
      refine Z.istore_n (L' := [.ref 35, .int m, .int 1, .int (nI i)]) dX7_hasPaper_31 (Nat.le_of_ble_eq_true rfl) rfl ?_
      refine Z.iinc (v := nI (i + 1)) (L' := [.ref 35, .int m, .int 1, .int (nI (i + 1))]) dX7_hasPaper_32 rfl (nI_1 _) rfl ?_
      refine Z.goto (tgt := 4) dX7_hasPaper_35 (by decide) ?_
      have e := ih (by omega)
      rw [show bI (hasPU (pM I n) m (i + 1)) = 1 by simp [hasPU, pM_m, bI, h1, h2]] at e
      exact e
    · refine Z.aload_n dX7_hasPaper_16 rfl ?_
      refine Z.getR (r := 50) dX7_hasPaper_17 cl7 flX7_52 (by decide) (fx35 hF) rfl ?_
      refine Z.iload_n dX7_hasPaper_20 rfl ?_
      refine Z.ialdv (j := i) (v := I 50 i) dX7_hasPaper_21 (fx50 hF) rfl (by omega) (by decide) (hE.at 50 i rfl) ?_
      refine Z.iload_n dX7_hasPaper_22 rfl ?_
      refine Z.icmp_ne (tgt := 30) dX7_hasPaper_23 (by decide) (fun h3 => ?_) (fun h3 => ?_)
      · refine Z.iconst (v := 0) dX7_hasPaper_30 (by decide) ?_
        refine Z.istore_n (L' := [.ref 35, .int m, .int 0, .int (nI i)]) dX7_hasPaper_31 (Nat.le_of_ble_eq_true rfl) rfl ?_
        refine Z.iinc (v := nI (i + 1)) (L' := [.ref 35, .int m, .int 0, .int (nI (i + 1))]) dX7_hasPaper_32 rfl (nI_1 _) rfl ?_
        refine Z.goto (tgt := 4) dX7_hasPaper_35 (by decide) ?_
        have e := ih (by omega)
        rw [show bI (hasPU (pM I n) m (i + 1)) = 0 by simp [hasPU, pM_m, bI, h1, h2, h3]] at e
        exact e
      · refine Z.iconst (v := 1) dX7_hasPaper_26 (by decide) ?_
        refine Z.goto (tgt := 31) dX7_hasPaper_27 (by decide) ?_
        refine Z.istore_n (L' := [.ref 35, .int m, .int 1, .int (nI i)]) dX7_hasPaper_31 (Nat.le_of_ble_eq_true rfl) rfl ?_
        refine Z.iinc (v := nI (i + 1)) (L' := [.ref 35, .int m, .int 1, .int (nI (i + 1))]) dX7_hasPaper_32 rfl (nI_1 _) rfl ?_
        refine Z.goto (tgt := 4) dX7_hasPaper_35 (by decide) ?_
        have e := ih (by omega)
        rw [show bI (hasPU (pM I n) m (i + 1)) = 1 by simp [hasPU, pM_m, bI, h1, h2, h3]] at e
        exact e

set_option maxHeartbeats 4000000 in
set_option maxRecDepth 100000 in
theorem ct_hasPaper {g : GP} {I J : IM} {S : SH} (hE : Ex I J) (m : Int32) (hF : Fx S) {n : Nat} (hn : Mp I n) : Z g 0 0 0 mX7_hasPaper 0 (enL mX7_hasPaper [.ref 35, .int m]) [] J S (PQ (.int (bI (hasPF (pM I n) m))) J S) := by
  show Z g 0 0 0 mX7_hasPaper 0 [.ref 35, .int m, .retAddr 0, .retAddr 0] [] J S _
  refine Z.iconst (v := 0) dX7_hasPaper_0 (by decide) ?_
  refine Z.istore_n (L' := [.ref 35, .int m, .int 0, .retAddr 0]) dX7_hasPaper_1 (Nat.le_of_ble_eq_true rfl) rfl ?_
  refine Z.iconst (v := 0) dX7_hasPaper_2 (by decide) ?_
  refine Z.istore_n (L' := [.ref 35, .int m, .int 0, .int 0]) dX7_hasPaper_3 (Nat.le_of_ble_eq_true rfl) rfl ?_
  exact lp_hasPaper hE m hF hn 0 (Nat.zero_le _)

set_option maxHeartbeats 4000000 in
set_option maxRecDepth 100000 in
theorem lp_hasCode {g : GP} {I J : IM} {S : SH} (hE : Ex I J) (j : Nat) (c : Int32) (hF : Fx S) (hM : MIv I) (hj : j < 120) : ∀ i, i ≤ (I 47 j).toNatClampNeg → Z g 0 0 0 mX7_hasCode 8 [.ref 35, .int (nI j), .int c, .int (bI (hasCU (I 48) (12 * j) c i)), .int (nI (12 * j + i))] [] J S (PQ (.int (bI (hasCF (I 48) (12 * j) (I 47 j) c))) J S) := by
  refine upZ ((I 47 j).toNatClampNeg) (fun i hi ih => ?_)
  have hc := hM.2.2.2.1 j hj
  have hc2 := hc.2
  refine Z.iload dX7_hasCode_8 rfl ?_
  refine Z.bipush (v := 12) dX7_hasCode_10 (by decide) ?_
  refine Z.iload_n dX7_hasCode_12 rfl ?_
  refine Z.imulN (a := 12) (b := j) dX7_hasCode_13 ?_
  refine Z.aload_n dX7_hasCode_14 rfl ?_
  refine Z.getR (r := 47) dX7_hasCode_15 cl7 flX7_43 (by decide) (fx35 hF) rfl ?_
  refine Z.iload_n dX7_hasCode_18 rfl ?_
  refine Z.ialdv (j := j) (v := nI ((I 47 j).toNatClampNeg)) dX7_hasCode_19 (fx47 hF) rfl (by omega) (by decide) ((hE.at 47 j rfl).trans hc.1) ?_
  refine Z.iaddN (a := 12 * j) (b := (I 47 j).toNatClampNeg) dX7_hasCode_20 ?_
  refine Z.icmp_geN (a := 12 * j + i) (b := (12 * j) + ((I 47 j).toNatClampNeg)) (by omega) (by omega) (tgt := 51) dX7_hasCode_21 (by decide) (fun h1 => ?_) (fun h1 => ?_)
  · refine Z.iload_n dX7_hasCode_51 rfl ?_
    exact Z.zret dX7_hasCode_52 rfl (bI_01 _) ⟨by rw [show i = (I 47 j).toNatClampNeg by omega]; rfl, rfl, rfl⟩
  · refine Z.iload_n dX7_hasCode_24 rfl ?_
    refine Z.if_neB (tgt := 39) dX7_hasCode_25 (by decide) (fun h2 => ?_) (fun h2 => ?_)
    · refine Z.iconst (v := 1) dX7_hasCode_39 (by decide) ?_
      refine Z.goto (tgt := 44) dX7_hasCode_40 (by decide) ?_
      refine Z.istore_n (L' := [.ref 35, .int (nI j), .int c, .int 1, .int (nI (12 * j + i))]) dX7_hasCode_44 (Nat.le_of_ble_eq_true rfl) rfl ?_
      refine Z.iinc (v := nI ((12 * j + i) + 1)) (L' := [.ref 35, .int (nI j), .int c, .int 1, .int (nI ((12 * j + i) + 1))]) dX7_hasCode_45 rfl (nI_1 _) rfl ?_
      refine Z.goto (tgt := 8) dX7_hasCode_48 (by decide) ?_
      have e := ih (by omega)
      rw [show bI (hasCU (I 48) (12 * j) c (i + 1)) = 1 by simp [hasCU, bI, h1, h2]] at e
      exact e
    · refine Z.aload_n dX7_hasCode_28 rfl ?_
      refine Z.getR (r := 48) dX7_hasCode_29 cl7 flX7_46 (by decide) (fx35 hF) rfl ?_
      refine Z.iload dX7_hasCode_32 rfl ?_
      refine Z.ialdv (j := 12 * j + i) (v := I 48 (12 * j + i)) dX7_hasCode_34 (fx48 hF) rfl (by omega) (by decide) (hE.at 48 (12 * j + i) rfl) ?_
      refine Z.iload_n dX7_hasCode_35 rfl ?_
      refine Z.icmp_ne (tgt := 43) dX7_hasCode_36 (by decide) (fun h3 => ?_) (fun h3 => ?_)
      · refine Z.iconst (v := 0) dX7_hasCode_43 (by decide) ?_
        refine Z.istore_n (L' := [.ref 35, .int (nI j), .int c, .int 0, .int (nI (12 * j + i))]) dX7_hasCode_44 (Nat.le_of_ble_eq_true rfl) rfl ?_
        refine Z.iinc (v := nI ((12 * j + i) + 1)) (L' := [.ref 35, .int (nI j), .int c, .int 0, .int (nI ((12 * j + i) + 1))]) dX7_hasCode_45 rfl (nI_1 _) rfl ?_
        refine Z.goto (tgt := 8) dX7_hasCode_48 (by decide) ?_
        have e := ih (by omega)
        rw [show bI (hasCU (I 48) (12 * j) c (i + 1)) = 0 by simp [hasCU, bI, h1, h2, h3]] at e
        exact e
      · refine Z.iconst (v := 1) dX7_hasCode_39 (by decide) ?_
        refine Z.goto (tgt := 44) dX7_hasCode_40 (by decide) ?_
        refine Z.istore_n (L' := [.ref 35, .int (nI j), .int c, .int 1, .int (nI (12 * j + i))]) dX7_hasCode_44 (Nat.le_of_ble_eq_true rfl) rfl ?_
        refine Z.iinc (v := nI ((12 * j + i) + 1)) (L' := [.ref 35, .int (nI j), .int c, .int 1, .int (nI ((12 * j + i) + 1))]) dX7_hasCode_45 rfl (nI_1 _) rfl ?_
        refine Z.goto (tgt := 8) dX7_hasCode_48 (by decide) ?_
        have e := ih (by omega)
        rw [show bI (hasCU (I 48) (12 * j) c (i + 1)) = 1 by simp [hasCU, bI, h1, h2, h3]] at e
        exact e

set_option maxHeartbeats 4000000 in
set_option maxRecDepth 100000 in
theorem ct_hasCode {g : GP} {I J : IM} {S : SH} (hE : Ex I J) (j : Nat) (c : Int32) (hF : Fx S) (hM : MIv I) (hj : j < 120) : Z g 0 0 0 mX7_hasCode 0 (enL mX7_hasCode [.ref 35, .int (nI j), .int c]) [] J S (PQ (.int (bI (hasCF (I 48) (12 * j) (I 47 j) c))) J S) := by
  show Z g 0 0 0 mX7_hasCode 0 [.ref 35, .int (nI j), .int c, .retAddr 0, .retAddr 0] [] J S _
  refine Z.iconst (v := 0) dX7_hasCode_0 (by decide) ?_
  refine Z.istore_n (L' := [.ref 35, .int (nI j), .int c, .int 0, .retAddr 0]) dX7_hasCode_1 (Nat.le_of_ble_eq_true rfl) rfl ?_
  refine Z.bipush (v := 12) dX7_hasCode_2 (by decide) ?_
  refine Z.iload_n dX7_hasCode_4 rfl ?_
  refine Z.imulN (a := 12) (b := j) dX7_hasCode_5 ?_
  refine Z.istore (L' := [.ref 35, .int (nI j), .int c, .int 0, .int (nI (12 * j))]) dX7_hasCode_6 (Nat.le_of_ble_eq_true rfl) rfl ?_
  exact lp_hasCode hE j c hF hM hj 0 (Nat.zero_le _)

