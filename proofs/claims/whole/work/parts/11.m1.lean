set_option maxHeartbeats 4000000 in
set_option maxRecDepth 100000 in
theorem ct_since {g : GP} {I J : IM} {S : SH} (hE : Ex I J) (m g_ t : Int32) (hF : Fx S) {n : Nat} (hn : Mp I n) : Z g 1 0 0 mX7_since 0 (enL mX7_since [.ref 35, .int m, .int g_, .int t]) [] J S (PQ (.int (sinceF (pM I n) m g_ t)) J S) := by
  show Z g 1 0 0 mX7_since 0 [.ref 35, .int m, .int g_, .int t, .retAddr 0, .retAddr 0] [] J S _
  refine Z.aload_n dX7_since_0 rfl ?_
  refine Z.iconst (v := 0) dX7_since_1 (by decide) ?_
  refine Z.iload_n dX7_since_2 rfl ?_
  refine Z.iload_n dX7_since_3 rfl ?_
  refine Z.iload_n dX7_since_4 rfl ?_
  refine Z.callVp (M := mX7_since) (pc := 5) (st := []) (N := mX7_latest) (n := 4) (r := .int (latF (pM I n) 0 m g_ t)) dX7_since_5 mlX7_138 mkX7_latest imX7_latest seX7_latest (fx35 hF) cl7 rfl (d1 := 0) (by decide) (As := [.int 0, .int m, .int g_, .int t]) rfl ⟨rfl, Nat.le_of_ble_eq_true rfl⟩ ⟨rfl, Nat.le_of_ble_eq_true rfl⟩ (ct_latest hE 0 m g_ t hF hn) rfl ?_
  refine Z.istore (L' := [.ref 35, .int m, .int g_, .int t, .int (latF (pM I n) 0 m g_ t), .retAddr 0]) dX7_since_8 (Nat.le_of_ble_eq_true rfl) rfl ?_
  refine Z.aload_n dX7_since_10 rfl ?_
  refine Z.iconst (v := 3) dX7_since_11 (by decide) ?_
  refine Z.iload_n dX7_since_12 rfl ?_
  refine Z.iload_n dX7_since_13 rfl ?_
  refine Z.iload_n dX7_since_14 rfl ?_
  refine Z.callVp (M := mX7_since) (pc := 15) (st := []) (N := mX7_latest) (n := 4) (r := .int (latF (pM I n) 3 m g_ t)) dX7_since_15 mlX7_138 mkX7_latest imX7_latest seX7_latest (fx35 hF) cl7 rfl (d1 := 0) (by decide) (As := [.int 3, .int m, .int g_, .int t]) rfl ⟨rfl, Nat.le_of_ble_eq_true rfl⟩ ⟨rfl, Nat.le_of_ble_eq_true rfl⟩ (ct_latest hE 3 m g_ t hF hn) rfl ?_
  refine Z.istore (L' := [.ref 35, .int m, .int g_, .int t, .int (latF (pM I n) 0 m g_ t), .int (latF (pM I n) 3 m g_ t)]) dX7_since_18 (Nat.le_of_ble_eq_true rfl) rfl ?_
  refine Z.iload dX7_since_20 rfl ?_
  refine Z.if_lt (tgt := 43) dX7_since_22 (by decide) (fun h1 => ?_) (fun h1 => ?_)
  · refine Z.iconst (v := (-1)) dX7_since_43 (by decide) ?_
    exact Z.iret dX7_since_44 rfl ⟨by first | (simp [sinceF, dyM, h1]; done) | contradiction, rfl, rfl⟩
  · refine Z.iload dX7_since_25 rfl ?_
    refine Z.iload dX7_since_27 rfl ?_
    refine Z.icmp_le (tgt := 45) dX7_since_29 (by decide) (fun h2 => ?_) (fun h2 => ?_)
    · refine Z.aload_n dX7_since_45 rfl ?_
      refine Z.getR (r := 52) dX7_since_46 cl7 flX7_58 (by decide) (fx35 hF) rfl ?_
      refine Z.iload dX7_since_49 rfl ?_
      refine Z.ialdv (j := (latF (pM I n) 0 m g_ t).toNatClampNeg) (v := I 52 ((latF (pM I n) 0 m g_ t).toNatClampNeg)) dX7_since_51 (fx52 hF) (tn_eq h1) (Nat.lt_of_lt_of_le (latF_lt (p := pM I n) hn.2 h1) hn.2) (by decide) (hE.at 52 ((latF (pM I n) 0 m g_ t).toNatClampNeg) rfl) ?_
      exact Z.iret dX7_since_52 rfl ⟨by first | (simp [sinceF, dyM, h1, h2]; done) | contradiction, rfl, rfl⟩
    · refine Z.aload_n dX7_since_32 rfl ?_
      refine Z.getR (r := 52) dX7_since_33 cl7 flX7_58 (by decide) (fx35 hF) rfl ?_
      refine Z.iload dX7_since_36 rfl ?_
      refine Z.ialdv (j := (latF (pM I n) 3 m g_ t).toNatClampNeg) (v := I 52 ((latF (pM I n) 3 m g_ t).toNatClampNeg)) dX7_since_38 (fx52 hF) (tn_eq (i32_lt h1 h2)) (Nat.lt_of_lt_of_le (latF_lt (p := pM I n) hn.2 (i32_lt h1 h2)) hn.2) (by decide) (hE.at 52 ((latF (pM I n) 3 m g_ t).toNatClampNeg) rfl) ?_
      refine Z.iload_n dX7_since_39 rfl ?_
      refine Z.icmp_eq (tgt := 45) dX7_since_40 (by decide) (fun h3 => ?_) (fun h3 => ?_)
      · refine Z.aload_n dX7_since_45 rfl ?_
        refine Z.getR (r := 52) dX7_since_46 cl7 flX7_58 (by decide) (fx35 hF) rfl ?_
        refine Z.iload dX7_since_49 rfl ?_
        refine Z.ialdv (j := (latF (pM I n) 0 m g_ t).toNatClampNeg) (v := I 52 ((latF (pM I n) 0 m g_ t).toNatClampNeg)) dX7_since_51 (fx52 hF) (tn_eq h1) (Nat.lt_of_lt_of_le (latF_lt (p := pM I n) hn.2 h1) hn.2) (by decide) (hE.at 52 ((latF (pM I n) 0 m g_ t).toNatClampNeg) rfl) ?_
        exact Z.iret dX7_since_52 rfl ⟨by first | (simp [sinceF, dyM, h1, h2, h3]; done) | contradiction, rfl, rfl⟩
      · refine Z.iconst (v := (-1)) dX7_since_43 (by decide) ?_
        exact Z.iret dX7_since_44 rfl ⟨by first | (simp [sinceF, dyM, h1, h2, h3]; done) | contradiction, rfl, rfl⟩

set_option maxHeartbeats 4000000 in
set_option maxRecDepth 100000 in
theorem ct_firstOf {g : GP} {I J : IM} {S : SH} (hE : Ex I J) (m t : Int32) (hF : Fx S) {n : Nat} (hn : Mp I n) : Z g 1 0 0 mX7_firstOf 0 (enL mX7_firstOf [.ref 35, .int m, .int t]) [] J S (PQ (.int (firF (pM I n) m t)) J S) := by
  show Z g 1 0 0 mX7_firstOf 0 [.ref 35, .int m, .int t, .retAddr 0] [] J S _
  refine Z.aload_n dX7_firstOf_0 rfl ?_
  refine Z.iconst (v := 1) dX7_firstOf_1 (by decide) ?_
  refine Z.iload_n dX7_firstOf_2 rfl ?_
  refine Z.iconst (v := (-1)) dX7_firstOf_3 (by decide) ?_
  refine Z.iload_n dX7_firstOf_4 rfl ?_
  refine Z.callVp (M := mX7_firstOf) (pc := 5) (st := []) (N := mX7_earliest) (n := 4) (r := .int (eaF (pM I n) 1 m (-1) t)) dX7_firstOf_5 mlX7_142 mkX7_earliest imX7_earliest seX7_earliest (fx35 hF) cl7 rfl (d1 := 0) (by decide) (As := [.int 1, .int m, .int ((-1)), .int t]) rfl ⟨rfl, Nat.le_of_ble_eq_true rfl⟩ ⟨rfl, Nat.le_of_ble_eq_true rfl⟩ (ct_earliest hE 1 m (-1) t hF hn) rfl ?_
  refine Z.istore_n (L' := [.ref 35, .int m, .int t, .int (eaF (pM I n) 1 m (-1) t)]) dX7_firstOf_8 (Nat.le_of_ble_eq_true rfl) rfl ?_
  refine Z.iload_n dX7_firstOf_9 rfl ?_
  refine Z.if_ge (tgt := 17) dX7_firstOf_10 (by decide) (fun h1 => ?_) (fun h1 => ?_)
  · refine Z.aload_n dX7_firstOf_17 rfl ?_
    refine Z.getR (r := 52) dX7_firstOf_18 cl7 flX7_58 (by decide) (fx35 hF) rfl ?_
    refine Z.iload_n dX7_firstOf_21 rfl ?_
    refine Z.ialdv (j := (eaF (pM I n) 1 m (-1) t).toNatClampNeg) (v := I 52 ((eaF (pM I n) 1 m (-1) t).toNatClampNeg)) dX7_firstOf_22 (fx52 hF) (tn_eq h1) (Nat.lt_of_lt_of_le (eaF_lt (p := pM I n) hn.2 h1) hn.2) (by decide) (hE.at 52 ((eaF (pM I n) 1 m (-1) t).toNatClampNeg) rfl) ?_
    exact Z.iret dX7_firstOf_23 rfl ⟨by first | (simp [firF, dyM, h1]; done) | contradiction, rfl, rfl⟩
  · refine Z.iconst (v := (-1)) dX7_firstOf_13 (by decide) ?_
    refine Z.goto (tgt := 23) dX7_firstOf_14 (by decide) ?_
    exact Z.iret dX7_firstOf_23 rfl ⟨by first | (simp [firF, dyM, h1]; done) | contradiction, rfl, rfl⟩

set_option maxHeartbeats 4000000 in
set_option maxRecDepth 100000 in
theorem ct_termEnd {g : GP} {I J : IM} {S : SH} (hE : Ex I J) (m t : Int32) (hF : Fx S) {n : Nat} (hn : Mp I n) : Z g 2 0 0 mX7_termEnd 0 (enL mX7_termEnd [.ref 35, .int m, .int t]) [] J S (PQ (.int (termF (pM I n) m t)) J S) := by
  show Z g 2 0 0 mX7_termEnd 0 [.ref 35, .int m, .int t] [] J S _
  refine Z.aload_n dX7_termEnd_0 rfl ?_
  refine Z.iload_n dX7_termEnd_1 rfl ?_
  refine Z.iload_n dX7_termEnd_2 rfl ?_
  refine Z.callVp (M := mX7_termEnd) (pc := 3) (st := []) (N := mX7_firstOf) (n := 2) (r := .int (firF (pM I n) m t)) dX7_termEnd_3 mlX7_145 mkX7_firstOf imX7_firstOf seX7_firstOf (fx35 hF) cl7 rfl (d1 := 1) (by decide) (As := [.int m, .int t]) rfl ⟨rfl, Nat.le_of_ble_eq_true rfl⟩ ⟨rfl, Nat.le_of_ble_eq_true rfl⟩ (ct_firstOf hE m t hF hn) rfl ?_
  refine Z.sipush (v := 3650) dX7_termEnd_6 (by decide) ?_
  refine Z.iconst (v := 1) dX7_termEnd_9 (by decide) ?_
  refine Z.aload_n dX7_termEnd_10 rfl ?_
  refine Z.iconst (v := 2) dX7_termEnd_11 (by decide) ?_
  refine Z.iload_n dX7_termEnd_12 rfl ?_
  refine Z.iload_n dX7_termEnd_13 rfl ?_
  refine Z.callVp (M := mX7_termEnd) (pc := 14) (st := [.int 1, .int 3650, .int (firF (pM I n) m t)]) (N := mX7_countOf) (n := 3) (r := .int (nI (cntF (pM I n) 2 m t))) dX7_termEnd_14 mlX7_148 mkX7_countOf imX7_countOf seX7_countOf (fx35 hF) cl7 rfl (d1 := 0) (by decide) (As := [.int 2, .int m, .int t]) rfl ⟨rfl, Nat.le_of_ble_eq_true rfl⟩ ⟨rfl, Nat.le_of_ble_eq_true rfl⟩ (ct_countOf hE 2 m t hF hn) rfl ?_
  refine Z.iaddN (a := 1) (b := cntF (pM I n) 2 m t) dX7_termEnd_17 ?_
  refine Z.imulN (a := 3650) (b := 1 + (cntF (pM I n) 2 m t)) dX7_termEnd_18 ?_
  refine Z.iadd dX7_termEnd_19 ?_
  exact Z.iret dX7_termEnd_20 rfl ⟨by first | (simp [termF]; done) | contradiction, rfl, rfl⟩

set_option maxHeartbeats 4000000 in
set_option maxRecDepth 100000 in
theorem ct_hasLapsed {g : GP} {I J : IM} {S : SH} (hE : Ex I J) (m t : Int32) (hF : Fx S) {n : Nat} (hn : Mp I n) : Z g 3 0 0 mX7_hasLapsed 0 (enL mX7_hasLapsed [.ref 35, .int m, .int t]) [] J S (PQ (.int (bI (lapF (pM I n) m t))) J S) := by
  show Z g 3 0 0 mX7_hasLapsed 0 [.ref 35, .int m, .int t] [] J S _
  refine Z.iload_n dX7_hasLapsed_0 rfl ?_
  refine Z.aload_n dX7_hasLapsed_1 rfl ?_
  refine Z.iload_n dX7_hasLapsed_2 rfl ?_
  refine Z.iload_n dX7_hasLapsed_3 rfl ?_
  refine Z.callVp (M := mX7_hasLapsed) (pc := 4) (st := [.int t]) (N := mX7_termEnd) (n := 2) (r := .int (termF (pM I n) m t)) dX7_hasLapsed_4 mlX7_152 mkX7_termEnd imX7_termEnd seX7_termEnd (fx35 hF) cl7 rfl (d1 := 2) (by decide) (As := [.int m, .int t]) rfl ⟨rfl, Nat.le_of_ble_eq_true rfl⟩ ⟨rfl, Nat.le_of_ble_eq_true rfl⟩ (ct_termEnd hE m t hF hn) rfl ?_
  refine Z.sipush (v := 180) dX7_hasLapsed_7 (by decide) ?_
  refine Z.iadd dX7_hasLapsed_10 ?_
  refine Z.icmp_le (tgt := 18) dX7_hasLapsed_11 (by decide) (fun h1 => ?_) (fun h1 => ?_)
  · refine Z.iconst (v := 0) dX7_hasLapsed_18 (by decide) ?_
    exact Z.zret dX7_hasLapsed_19 rfl (by decide) ⟨by first | (simp [lapF, bI, h1]; done) | contradiction, rfl, rfl⟩
  · refine Z.iconst (v := 1) dX7_hasLapsed_14 (by decide) ?_
    refine Z.goto (tgt := 19) dX7_hasLapsed_15 (by decide) ?_
    exact Z.zret dX7_hasLapsed_19 rfl (by decide) ⟨by first | (simp [lapF, bI, h1]; done) | contradiction, rfl, rfl⟩

set_option maxHeartbeats 4000000 in
set_option maxRecDepth 100000 in
theorem ct_isStruck {g : GP} {I J : IM} {S : SH} (hE : Ex I J) (m t : Int32) (hF : Fx S) {n : Nat} (hn : Mp I n) : Z g 1 0 0 mX7_isStruck 0 (enL mX7_isStruck [.ref 35, .int m, .int t]) [] J S (PQ (.int (bI (strF (pM I n) m t))) J S) := by
  show Z g 1 0 0 mX7_isStruck 0 [.ref 35, .int m, .int t] [] J S _
  refine Z.aload_n dX7_isStruck_0 rfl ?_
  refine Z.iconst (v := 4) dX7_isStruck_1 (by decide) ?_
  refine Z.iload_n dX7_isStruck_2 rfl ?_
  refine Z.iconst (v := (-1)) dX7_isStruck_3 (by decide) ?_
  refine Z.iload_n dX7_isStruck_4 rfl ?_
  refine Z.callVp (M := mX7_isStruck) (pc := 5) (st := []) (N := mX7_latest) (n := 4) (r := .int (latF (pM I n) 4 m (-1) t)) dX7_isStruck_5 mlX7_138 mkX7_latest imX7_latest seX7_latest (fx35 hF) cl7 rfl (d1 := 0) (by decide) (As := [.int 4, .int m, .int ((-1)), .int t]) rfl ⟨rfl, Nat.le_of_ble_eq_true rfl⟩ ⟨rfl, Nat.le_of_ble_eq_true rfl⟩ (ct_latest hE 4 m (-1) t hF hn) rfl ?_
  refine Z.if_lt (tgt := 15) dX7_isStruck_8 (by decide) (fun h1 => ?_) (fun h1 => ?_)
  · refine Z.iconst (v := 0) dX7_isStruck_15 (by decide) ?_
    exact Z.zret dX7_isStruck_16 rfl (by decide) ⟨by first | (simp [strF, bI, h1]; done) | contradiction, rfl, rfl⟩
  · refine Z.iconst (v := 1) dX7_isStruck_11 (by decide) ?_
    refine Z.goto (tgt := 16) dX7_isStruck_12 (by decide) ?_
    exact Z.zret dX7_isStruck_16 rfl (by decide) ⟨by first | (simp [strF, bI, h1]; done) | contradiction, rfl, rfl⟩

set_option maxHeartbeats 4000000 in
set_option maxRecDepth 100000 in
theorem ct_rightOf {g : GP} {I J : IM} {S : SH} (hE : Ex I J) (m g_ c t : Int32) (hF : Fx S) {n : Nat} (hn : Mp I n) : Z g 2 0 0 mX7_rightOf 0 (enL mX7_rightOf [.ref 35, .int m, .int g_, .int c, .int t]) [] J S (PQ (.int (rightF (pM I n) m g_ c t)) J S) := by
  show Z g 2 0 0 mX7_rightOf 0 [.ref 35, .int m, .int g_, .int c, .int t, .retAddr 0, .retAddr 0, .retAddr 0, .retAddr 0] [] J S _
  refine Z.aload_n dX7_rightOf_0 rfl ?_
  refine Z.iload_n dX7_rightOf_1 rfl ?_
  refine Z.iload_n dX7_rightOf_2 rfl ?_
  refine Z.iload dX7_rightOf_3 rfl ?_
  refine Z.callVp (M := mX7_rightOf) (pc := 5) (st := []) (N := mX7_since) (n := 3) (r := .int (sinceF (pM I n) m g_ t)) dX7_rightOf_5 mlX7_155 mkX7_since imX7_since seX7_since (fx35 hF) cl7 rfl (d1 := 1) (by decide) (As := [.int m, .int g_, .int t]) rfl ⟨rfl, Nat.le_of_ble_eq_true rfl⟩ ⟨rfl, Nat.le_of_ble_eq_true rfl⟩ (ct_since hE m g_ t hF hn) rfl ?_
  refine Z.istore (L' := [.ref 35, .int m, .int g_, .int c, .int t, .int (sinceF (pM I n) m g_ t), .retAddr 0, .retAddr 0, .retAddr 0]) dX7_rightOf_8 (Nat.le_of_ble_eq_true rfl) rfl ?_
  refine Z.aload_n dX7_rightOf_10 rfl ?_
  refine Z.iconst (v := 1) dX7_rightOf_11 (by decide) ?_
  refine Z.iload_n dX7_rightOf_12 rfl ?_
  refine Z.iload_n dX7_rightOf_13 rfl ?_
  refine Z.iload dX7_rightOf_14 rfl ?_
  refine Z.callVp (M := mX7_rightOf) (pc := 16) (st := []) (N := mX7_earliest) (n := 4) (r := .int (eaF (pM I n) 1 m c t)) dX7_rightOf_16 mlX7_142 mkX7_earliest imX7_earliest seX7_earliest (fx35 hF) cl7 rfl (d1 := 0) (by decide) (As := [.int 1, .int m, .int c, .int t]) rfl ⟨rfl, Nat.le_of_ble_eq_true rfl⟩ ⟨rfl, Nat.le_of_ble_eq_true rfl⟩ (ct_earliest hE 1 m c t hF hn) rfl ?_
  refine Z.istore (L' := [.ref 35, .int m, .int g_, .int c, .int t, .int (sinceF (pM I n) m g_ t), .int (eaF (pM I n) 1 m c t), .retAddr 0, .retAddr 0]) dX7_rightOf_19 (Nat.le_of_ble_eq_true rfl) rfl ?_
  refine Z.iload dX7_rightOf_21 rfl ?_
  refine Z.if_lt (tgt := 31) dX7_rightOf_23 (by decide) (fun h1 => ?_) (fun h1 => ?_)
  · refine Z.iconst (v := (-1)) dX7_rightOf_31 (by decide) ?_
    exact Z.iret dX7_rightOf_32 rfl ⟨by first | (simp [rightF, dyM, h1]; done) | contradiction, rfl, rfl⟩
  · refine Z.iload dX7_rightOf_26 rfl ?_
    refine Z.if_ge (tgt := 33) dX7_rightOf_28 (by decide) (fun h2 => ?_) (fun h2 => ?_)
    · refine Z.aload_n dX7_rightOf_33 rfl ?_
      refine Z.iload_n dX7_rightOf_34 rfl ?_
      refine Z.iload dX7_rightOf_35 rfl ?_
      refine Z.callVp (M := mX7_rightOf) (pc := 37) (st := []) (N := mX7_firstOf) (n := 2) (r := .int (firF (pM I n) m t)) dX7_rightOf_37 mlX7_145 mkX7_firstOf imX7_firstOf seX7_firstOf (fx35 hF) cl7 rfl (d1 := 1) (by decide) (As := [.int m, .int t]) rfl ⟨rfl, Nat.le_of_ble_eq_true rfl⟩ ⟨rfl, Nat.le_of_ble_eq_true rfl⟩ (ct_firstOf hE m t hF hn) rfl ?_
      refine Z.istore (L' := [.ref 35, .int m, .int g_, .int c, .int t, .int (sinceF (pM I n) m g_ t), .int (eaF (pM I n) 1 m c t), .int (firF (pM I n) m t), .retAddr 0]) dX7_rightOf_40 (Nat.le_of_ble_eq_true rfl) rfl ?_
      refine Z.aload_n dX7_rightOf_42 rfl ?_
      refine Z.getR (r := 52) dX7_rightOf_43 cl7 flX7_58 (by decide) (fx35 hF) rfl ?_
      refine Z.iload dX7_rightOf_46 rfl ?_
      refine Z.ialdv (j := (eaF (pM I n) 1 m c t).toNatClampNeg) (v := I 52 ((eaF (pM I n) 1 m c t).toNatClampNeg)) dX7_rightOf_48 (fx52 hF) (tn_eq h2) (Nat.lt_of_lt_of_le (eaF_lt (p := pM I n) hn.2 h2) hn.2) (by decide) (hE.at 52 ((eaF (pM I n) 1 m c t).toNatClampNeg) rfl) ?_
      refine Z.iload dX7_rightOf_49 rfl ?_
      refine Z.isub dX7_rightOf_51 ?_
      refine Z.sipush (v := 182) dX7_rightOf_52 (by decide) ?_
      refine Z.icmp_gt (tgt := 70) dX7_rightOf_55 (by decide) (fun h3 => ?_) (fun h3 => ?_)
      · refine Z.aload_n dX7_rightOf_70 rfl ?_
        refine Z.getR (r := 52) dX7_rightOf_71 cl7 flX7_58 (by decide) (fx35 hF) rfl ?_
        refine Z.iload dX7_rightOf_74 rfl ?_
        refine Z.ialdv (j := (eaF (pM I n) 1 m c t).toNatClampNeg) (v := I 52 ((eaF (pM I n) 1 m c t).toNatClampNeg)) dX7_rightOf_76 (fx52 hF) (tn_eq h2) (Nat.lt_of_lt_of_le (eaF_lt (p := pM I n) hn.2 h2) hn.2) (by decide) (hE.at 52 ((eaF (pM I n) 1 m c t).toNatClampNeg) rfl) ?_
        refine Z.istore (L' := [.ref 35, .int m, .int g_, .int c, .int t, .int (sinceF (pM I n) m g_ t), .int (eaF (pM I n) 1 m c t), .int (firF (pM I n) m t), .int (I 52 ((eaF (pM I n) 1 m c t).toNatClampNeg))]) dX7_rightOf_77 (Nat.le_of_ble_eq_true rfl) rfl ?_
        refine Z.iload dX7_rightOf_79 rfl ?_
        refine Z.iload dX7_rightOf_81 rfl ?_
        refine Z.icmp_ge (tgt := 91) dX7_rightOf_83 (by decide) (fun h4 => ?_) (fun h4 => ?_)
        · refine Z.iload dX7_rightOf_91 rfl ?_
          exact Z.iret dX7_rightOf_93 rfl ⟨by first | (simp [rightF, dyM, h1, h2, h3, h4]; done) | contradiction, rfl, rfl⟩
        · refine Z.iload dX7_rightOf_86 rfl ?_
          refine Z.goto (tgt := 93) dX7_rightOf_88 (by decide) ?_
          exact Z.iret dX7_rightOf_93 rfl ⟨by first | (simp [rightF, dyM, h1, h2, h3, h4]; done) | contradiction, rfl, rfl⟩
      · refine Z.iload dX7_rightOf_58 rfl ?_
        refine Z.iload dX7_rightOf_60 rfl ?_
        refine Z.icmp_gt (tgt := 70) dX7_rightOf_62 (by decide) (fun h5 => ?_) (fun h5 => ?_)
        · refine Z.aload_n dX7_rightOf_70 rfl ?_
          refine Z.getR (r := 52) dX7_rightOf_71 cl7 flX7_58 (by decide) (fx35 hF) rfl ?_
          refine Z.iload dX7_rightOf_74 rfl ?_
          refine Z.ialdv (j := (eaF (pM I n) 1 m c t).toNatClampNeg) (v := I 52 ((eaF (pM I n) 1 m c t).toNatClampNeg)) dX7_rightOf_76 (fx52 hF) (tn_eq h2) (Nat.lt_of_lt_of_le (eaF_lt (p := pM I n) hn.2 h2) hn.2) (by decide) (hE.at 52 ((eaF (pM I n) 1 m c t).toNatClampNeg) rfl) ?_
          refine Z.istore (L' := [.ref 35, .int m, .int g_, .int c, .int t, .int (sinceF (pM I n) m g_ t), .int (eaF (pM I n) 1 m c t), .int (firF (pM I n) m t), .int (I 52 ((eaF (pM I n) 1 m c t).toNatClampNeg))]) dX7_rightOf_77 (Nat.le_of_ble_eq_true rfl) rfl ?_
          refine Z.iload dX7_rightOf_79 rfl ?_
          refine Z.iload dX7_rightOf_81 rfl ?_
          refine Z.icmp_ge (tgt := 91) dX7_rightOf_83 (by decide) (fun h6 => ?_) (fun h6 => ?_)
          · refine Z.iload dX7_rightOf_91 rfl ?_
            exact Z.iret dX7_rightOf_93 rfl ⟨by first | (simp [rightF, dyM, h1, h2, h3, h5, h6]; done) | contradiction, rfl, rfl⟩
          · refine Z.iload dX7_rightOf_86 rfl ?_
            refine Z.goto (tgt := 93) dX7_rightOf_88 (by decide) ?_
            exact Z.iret dX7_rightOf_93 rfl ⟨by first | (simp [rightF, dyM, h1, h2, h3, h5, h6]; done) | contradiction, rfl, rfl⟩
        · refine Z.iload dX7_rightOf_65 rfl ?_
          refine Z.goto (tgt := 77) dX7_rightOf_67 (by decide) ?_
          refine Z.istore (L' := [.ref 35, .int m, .int g_, .int c, .int t, .int (sinceF (pM I n) m g_ t), .int (eaF (pM I n) 1 m c t), .int (firF (pM I n) m t), .int (firF (pM I n) m t)]) dX7_rightOf_77 (Nat.le_of_ble_eq_true rfl) rfl ?_
          refine Z.iload dX7_rightOf_79 rfl ?_
          refine Z.iload dX7_rightOf_81 rfl ?_
          refine Z.icmp_ge (tgt := 91) dX7_rightOf_83 (by decide) (fun h7 => ?_) (fun h7 => absurd h7 h5)
          refine Z.iload dX7_rightOf_91 rfl ?_
          exact Z.iret dX7_rightOf_93 rfl ⟨by first | (simp [rightF, dyM, h1, h2, h3, h5]; done) | contradiction, rfl, rfl⟩
    · refine Z.iconst (v := (-1)) dX7_rightOf_31 (by decide) ?_
      exact Z.iret dX7_rightOf_32 rfl ⟨by first | (simp [rightF, dyM, h1, h2]; done) | contradiction, rfl, rfl⟩

set_option maxHeartbeats 4000000 in
set_option maxRecDepth 100000 in
theorem ct_stands {g : GP} {I J : IM} {S : SH} (hE : Ex I J) (m g_ c t : Int32) (hF : Fx S) {n : Nat} (hn : Mp I n) : Z g 4 0 0 mX7_stands 0 (enL mX7_stands [.ref 35, .int m, .int g_, .int c, .int t]) [] J S (PQ (.int (bI (standsF (pM I n) m g_ c t))) J S) := by
  show Z g 4 0 0 mX7_stands 0 [.ref 35, .int m, .int g_, .int c, .int t, .retAddr 0, .retAddr 0, .retAddr 0] [] J S _
  refine Z.aload_n dX7_stands_0 rfl ?_
  refine Z.iload_n dX7_stands_1 rfl ?_
  refine Z.iload_n dX7_stands_2 rfl ?_
  refine Z.iload_n dX7_stands_3 rfl ?_
  refine Z.iload dX7_stands_4 rfl ?_
  refine Z.callVp (M := mX7_stands) (pc := 6) (st := []) (N := mX7_rightOf) (n := 4) (r := .int (rightF (pM I n) m g_ c t)) dX7_stands_6 mlX7_158 mkX7_rightOf imX7_rightOf seX7_rightOf (fx35 hF) cl7 rfl (d1 := 2) (by decide) (As := [.int m, .int g_, .int c, .int t]) rfl ⟨rfl, Nat.le_of_ble_eq_true rfl⟩ ⟨rfl, Nat.le_of_ble_eq_true rfl⟩ (ct_rightOf hE m g_ c t hF hn) rfl ?_
  refine Z.istore (L' := [.ref 35, .int m, .int g_, .int c, .int t, .int (rightF (pM I n) m g_ c t), .retAddr 0, .retAddr 0]) dX7_stands_9 (Nat.le_of_ble_eq_true rfl) rfl ?_
  refine Z.iload dX7_stands_11 rfl ?_
  refine Z.if_lt (tgt := 43) dX7_stands_13 (by decide) (fun h1 => ?_) (fun h1 => ?_)
  · refine Z.iconst (v := 0) dX7_stands_43 (by decide) ?_
    exact Z.zret dX7_stands_44 rfl (by decide) ⟨by first | (simp [standsF, lastF, dyM, bI, h1]; done) | contradiction, rfl, rfl⟩
  · refine Z.iload dX7_stands_16 rfl ?_
    refine Z.iload dX7_stands_18 rfl ?_
    refine Z.icmp_gt (tgt := 43) dX7_stands_20 (by decide) (fun h2 => ?_) (fun h2 => ?_)
    · refine Z.iconst (v := 0) dX7_stands_43 (by decide) ?_
      exact Z.zret dX7_stands_44 rfl (by decide) ⟨by first | (simp [standsF, lastF, dyM, bI, h1, h2]; done) | contradiction, rfl, rfl⟩
    · refine Z.aload_n dX7_stands_23 rfl ?_
      refine Z.iload_n dX7_stands_24 rfl ?_
      refine Z.iload dX7_stands_25 rfl ?_
      refine Z.callVp (M := mX7_stands) (pc := 27) (st := []) (N := mX7_hasLapsed) (n := 2) (r := .int (bI (lapF (pM I n) m t))) dX7_stands_27 mlX7_161 mkX7_hasLapsed imX7_hasLapsed seX7_hasLapsed (fx35 hF) cl7 rfl (d1 := 3) (by decide) (As := [.int m, .int t]) rfl ⟨rfl, Nat.le_of_ble_eq_true rfl⟩ ⟨rfl, Nat.le_of_ble_eq_true rfl⟩ (ct_hasLapsed hE m t hF hn) rfl ?_
      refine Z.if_neB (tgt := 43) dX7_stands_30 (by decide) (fun h3 => ?_) (fun h3 => ?_)
      · refine Z.iconst (v := 0) dX7_stands_43 (by decide) ?_
        exact Z.zret dX7_stands_44 rfl (by decide) ⟨by first | (simp [standsF, lastF, dyM, bI, h1, h2, h3]; done) | contradiction, rfl, rfl⟩
      · refine Z.aload_n dX7_stands_33 rfl ?_
        refine Z.iload_n dX7_stands_34 rfl ?_
        refine Z.iload dX7_stands_35 rfl ?_
        refine Z.callVp (M := mX7_stands) (pc := 37) (st := []) (N := mX7_isStruck) (n := 2) (r := .int (bI (strF (pM I n) m t))) dX7_stands_37 mlX7_164 mkX7_isStruck imX7_isStruck seX7_isStruck (fx35 hF) cl7 rfl (d1 := 1) (by decide) (As := [.int m, .int t]) rfl ⟨rfl, Nat.le_of_ble_eq_true rfl⟩ ⟨rfl, Nat.le_of_ble_eq_true rfl⟩ (ct_isStruck hE m t hF hn) rfl ?_
        refine Z.if_eqB (tgt := 45) dX7_stands_40 (by decide) (fun h4 => ?_) (fun h4 => ?_)
        · refine Z.aload_n dX7_stands_45 rfl ?_
          refine Z.bipush (v := 6) dX7_stands_46 (by decide) ?_
          refine Z.iload_n dX7_stands_48 rfl ?_
          refine Z.iload_n dX7_stands_49 rfl ?_
          refine Z.iload dX7_stands_50 rfl ?_
          refine Z.callVp (M := mX7_stands) (pc := 52) (st := []) (N := mX7_latest) (n := 4) (r := .int (latF (pM I n) 6 m g_ t)) dX7_stands_52 mlX7_138 mkX7_latest imX7_latest seX7_latest (fx35 hF) cl7 rfl (d1 := 0) (by decide) (As := [.int 6, .int m, .int g_, .int t]) rfl ⟨rfl, Nat.le_of_ble_eq_true rfl⟩ ⟨rfl, Nat.le_of_ble_eq_true rfl⟩ (ct_latest hE 6 m g_ t hF hn) rfl ?_
          refine Z.istore (L' := [.ref 35, .int m, .int g_, .int c, .int t, .int (rightF (pM I n) m g_ c t), .int (latF (pM I n) 6 m g_ t), .retAddr 0]) dX7_stands_55 (Nat.le_of_ble_eq_true rfl) rfl ?_
          refine Z.iload dX7_stands_57 rfl ?_
          refine Z.if_lt (tgt := 84) dX7_stands_59 (by decide) (fun h5 => ?_) (fun h5 => ?_)
          · refine Z.iload dX7_stands_84 rfl ?_
            refine Z.istore (L' := [.ref 35, .int m, .int g_, .int c, .int t, .int (rightF (pM I n) m g_ c t), .int (latF (pM I n) 6 m g_ t), .int (rightF (pM I n) m g_ c t)]) dX7_stands_86 (Nat.le_of_ble_eq_true rfl) rfl ?_
            refine Z.iload dX7_stands_88 rfl ?_
            refine Z.iload dX7_stands_90 rfl ?_
            refine Z.isub dX7_stands_92 ?_
            refine Z.sipush (v := 1825) dX7_stands_93 (by decide) ?_
            refine Z.icmp_gt (tgt := 103) dX7_stands_96 (by decide) (fun h6 => ?_) (fun h6 => ?_)
            · refine Z.iconst (v := 0) dX7_stands_103 (by decide) ?_
              exact Z.zret dX7_stands_104 rfl (by decide) ⟨by first | (simp [standsF, lastF, dyM, bI, h1, h2, h3, h4, h5, h6]; done) | contradiction, rfl, rfl⟩
            · refine Z.iconst (v := 1) dX7_stands_99 (by decide) ?_
              refine Z.goto (tgt := 104) dX7_stands_100 (by decide) ?_
              exact Z.zret dX7_stands_104 rfl (by decide) ⟨by first | (simp [standsF, lastF, dyM, bI, h1, h2, h3, h4, h5, h6]; done) | contradiction, rfl, rfl⟩
          · refine Z.aload_n dX7_stands_62 rfl ?_
            refine Z.getR (r := 52) dX7_stands_63 cl7 flX7_58 (by decide) (fx35 hF) rfl ?_
            refine Z.iload dX7_stands_66 rfl ?_
            refine Z.ialdv (j := (latF (pM I n) 6 m g_ t).toNatClampNeg) (v := I 52 ((latF (pM I n) 6 m g_ t).toNatClampNeg)) dX7_stands_68 (fx52 hF) (tn_eq h5) (Nat.lt_of_lt_of_le (latF_lt (p := pM I n) hn.2 h5) hn.2) (by decide) (hE.at 52 ((latF (pM I n) 6 m g_ t).toNatClampNeg) rfl) ?_
            refine Z.iload dX7_stands_69 rfl ?_
            refine Z.icmp_le (tgt := 84) dX7_stands_71 (by decide) (fun h7 => ?_) (fun h7 => ?_)
            · refine Z.iload dX7_stands_84 rfl ?_
              refine Z.istore (L' := [.ref 35, .int m, .int g_, .int c, .int t, .int (rightF (pM I n) m g_ c t), .int (latF (pM I n) 6 m g_ t), .int (rightF (pM I n) m g_ c t)]) dX7_stands_86 (Nat.le_of_ble_eq_true rfl) rfl ?_
              refine Z.iload dX7_stands_88 rfl ?_
              refine Z.iload dX7_stands_90 rfl ?_
              refine Z.isub dX7_stands_92 ?_
              refine Z.sipush (v := 1825) dX7_stands_93 (by decide) ?_
              refine Z.icmp_gt (tgt := 103) dX7_stands_96 (by decide) (fun h8 => ?_) (fun h8 => ?_)
              · refine Z.iconst (v := 0) dX7_stands_103 (by decide) ?_
                exact Z.zret dX7_stands_104 rfl (by decide) ⟨by first | (simp [standsF, lastF, dyM, bI, h1, h2, h3, h4, h5, h7, h8]; done) | contradiction, rfl, rfl⟩
              · refine Z.iconst (v := 1) dX7_stands_99 (by decide) ?_
                refine Z.goto (tgt := 104) dX7_stands_100 (by decide) ?_
                exact Z.zret dX7_stands_104 rfl (by decide) ⟨by first | (simp [standsF, lastF, dyM, bI, h1, h2, h3, h4, h5, h7, h8]; done) | contradiction, rfl, rfl⟩
            · refine Z.aload_n dX7_stands_74 rfl ?_
              refine Z.getR (r := 52) dX7_stands_75 cl7 flX7_58 (by decide) (fx35 hF) rfl ?_
              refine Z.iload dX7_stands_78 rfl ?_
              refine Z.ialdv (j := (latF (pM I n) 6 m g_ t).toNatClampNeg) (v := I 52 ((latF (pM I n) 6 m g_ t).toNatClampNeg)) dX7_stands_80 (fx52 hF) (tn_eq h5) (Nat.lt_of_lt_of_le (latF_lt (p := pM I n) hn.2 h5) hn.2) (by decide) (hE.at 52 ((latF (pM I n) 6 m g_ t).toNatClampNeg) rfl) ?_
              refine Z.goto (tgt := 86) dX7_stands_81 (by decide) ?_
              refine Z.istore (L' := [.ref 35, .int m, .int g_, .int c, .int t, .int (rightF (pM I n) m g_ c t), .int (latF (pM I n) 6 m g_ t), .int (I 52 ((latF (pM I n) 6 m g_ t).toNatClampNeg))]) dX7_stands_86 (Nat.le_of_ble_eq_true rfl) rfl ?_
              refine Z.iload dX7_stands_88 rfl ?_
              refine Z.iload dX7_stands_90 rfl ?_
              refine Z.isub dX7_stands_92 ?_
              refine Z.sipush (v := 1825) dX7_stands_93 (by decide) ?_
              refine Z.icmp_gt (tgt := 103) dX7_stands_96 (by decide) (fun h9 => ?_) (fun h9 => ?_)
              · refine Z.iconst (v := 0) dX7_stands_103 (by decide) ?_
                exact Z.zret dX7_stands_104 rfl (by decide) ⟨by first | (simp [standsF, lastF, dyM, bI, h1, h2, h3, h4, h5, h7, h9]; done) | contradiction, rfl, rfl⟩
              · refine Z.iconst (v := 1) dX7_stands_99 (by decide) ?_
                refine Z.goto (tgt := 104) dX7_stands_100 (by decide) ?_
                exact Z.zret dX7_stands_104 rfl (by decide) ⟨by first | (simp [standsF, lastF, dyM, bI, h1, h2, h3, h4, h5, h7, h9]; done) | contradiction, rfl, rfl⟩
        · refine Z.iconst (v := 0) dX7_stands_43 (by decide) ?_
          exact Z.zret dX7_stands_44 rfl (by decide) ⟨by first | (simp [standsF, lastF, dyM, bI, h1, h2, h3, h4]; done) | contradiction, rfl, rfl⟩

set_option maxHeartbeats 4000000 in
set_option maxRecDepth 100000 in
theorem ct_hasLeave {g : GP} {I J : IM} {S : SH} (hE : Ex I J) (a x t : Int32) (hF : Fx S) {n : Nat} (hn : Mp I n) : Z g 1 0 0 mX7_hasLeave 0 (enL mX7_hasLeave [.ref 35, .int a, .int x, .int t]) [] J S (PQ (.int (bI (leF (pM I n) a x t))) J S) := by
  show Z g 1 0 0 mX7_hasLeave 0 [.ref 35, .int a, .int x, .int t] [] J S _
  refine Z.aload_n dX7_hasLeave_0 rfl ?_
  refine Z.iconst (v := 5) dX7_hasLeave_1 (by decide) ?_
  refine Z.iload_n dX7_hasLeave_2 rfl ?_
  refine Z.iload_n dX7_hasLeave_3 rfl ?_
  refine Z.iload_n dX7_hasLeave_4 rfl ?_
  refine Z.callVp (M := mX7_hasLeave) (pc := 5) (st := []) (N := mX7_latest) (n := 4) (r := .int (latF (pM I n) 5 a x t)) dX7_hasLeave_5 mlX7_138 mkX7_latest imX7_latest seX7_latest (fx35 hF) cl7 rfl (d1 := 0) (by decide) (As := [.int 5, .int a, .int x, .int t]) rfl ⟨rfl, Nat.le_of_ble_eq_true rfl⟩ ⟨rfl, Nat.le_of_ble_eq_true rfl⟩ (ct_latest hE 5 a x t hF hn) rfl ?_
  refine Z.if_lt (tgt := 15) dX7_hasLeave_8 (by decide) (fun h1 => ?_) (fun h1 => ?_)
  · refine Z.iconst (v := 0) dX7_hasLeave_15 (by decide) ?_
    exact Z.zret dX7_hasLeave_16 rfl (by decide) ⟨by first | (simp [leF, bI, h1]; done) | contradiction, rfl, rfl⟩
  · refine Z.iconst (v := 1) dX7_hasLeave_11 (by decide) ?_
    refine Z.goto (tgt := 16) dX7_hasLeave_12 (by decide) ?_
    exact Z.zret dX7_hasLeave_16 rfl (by decide) ⟨by first | (simp [leF, bI, h1]; done) | contradiction, rfl, rfl⟩

