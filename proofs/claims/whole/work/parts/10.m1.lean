set_option maxHeartbeats 4000000 in
set_option maxRecDepth 100000 in
theorem ct_in {g : GP} {I J : IM} {S : SH} (hE : Ex I J) (v lo hi : Int32)  : Z g 0 0 0 mX7_in 0 (enL mX7_in [.int v, .int lo, .int hi]) [] J S (PQ (.int (bI (inB v lo hi))) J S) := by
  show Z g 0 0 0 mX7_in 0 [.int v, .int lo, .int hi] [] J S _
  refine Z.iload_n dX7_in_0 rfl ?_
  refine Z.iload_n dX7_in_1 rfl ?_
  refine Z.icmp_lt (tgt := 14) dX7_in_2 (by decide) (fun h1 => ?_) (fun h1 => ?_)
  · refine Z.iconst (v := 0) dX7_in_14 (by decide) ?_
    exact Z.zret dX7_in_15 rfl (by decide) ⟨by simp [bI, inB, h1], rfl, rfl⟩
  · refine Z.iload_n dX7_in_5 rfl ?_
    refine Z.iload_n dX7_in_6 rfl ?_
    refine Z.icmp_gt (tgt := 14) dX7_in_7 (by decide) (fun h2 => ?_) (fun h2 => ?_)
    · refine Z.iconst (v := 0) dX7_in_14 (by decide) ?_
      exact Z.zret dX7_in_15 rfl (by decide) ⟨by simp [bI, inB, h1, h2], rfl, rfl⟩
    · refine Z.iconst (v := 1) dX7_in_10 (by decide) ?_
      refine Z.goto (tgt := 15) dX7_in_11 (by decide) ?_
      exact Z.zret dX7_in_15 rfl (by decide) ⟨by simp [bI, inB, h1, h2], rfl, rfl⟩

set_option maxHeartbeats 4000000 in
set_option maxRecDepth 100000 in
theorem ct_isDay {g : GP} {I J : IM} {S : SH} (hE : Ex I J) (v : Int32)  : Z g 1 0 0 mX7_isDay 0 (enL mX7_isDay [.int v]) [] J S (PQ (.int (bI (inB v 0 60000))) J S) := by
  show Z g 1 0 0 mX7_isDay 0 [.int v] [] J S _
  refine Z.iload_n dX7_isDay_0 rfl ?_
  refine Z.iconst (v := 0) dX7_isDay_1 (by decide) ?_
  refine Z.ldc (v := 60000) dX7_isDay_2 cnX7_90 ?_
  refine Z.callSp (M := mX7_isDay) (pc := 4) (st := []) (N := mX7_in) (n := 3) (r := .int (bI (inB v 0 60000))) dX7_isDay_4 mlX7_86 mkX7_in stX7_in (d1 := 0) (by decide) (As := [.int v, .int 0, .int 60000]) rfl ⟨rfl, Nat.le_of_ble_eq_true rfl⟩ ⟨rfl, Nat.le_of_ble_eq_true rfl⟩ (ct_in hE v 0 60000) rfl ?_
  exact Z.zret dX7_isDay_7 rfl (bI_01 _) ⟨rfl, rfl, rfl⟩

set_option maxHeartbeats 4000000 in
set_option maxRecDepth 100000 in
theorem ct_isCountry {g : GP} {I J : IM} {S : SH} (hE : Ex I J) (v : Int32)  : Z g 1 0 0 mX7_isCountry 0 (enL mX7_isCountry [.int v]) [] J S (PQ (.int (bI (inB v 0 15))) J S) := by
  show Z g 1 0 0 mX7_isCountry 0 [.int v] [] J S _
  refine Z.iload_n dX7_isCountry_0 rfl ?_
  refine Z.iconst (v := 0) dX7_isCountry_1 (by decide) ?_
  refine Z.bipush (v := 15) dX7_isCountry_2 (by decide) ?_
  refine Z.callSp (M := mX7_isCountry) (pc := 4) (st := []) (N := mX7_in) (n := 3) (r := .int (bI (inB v 0 15))) dX7_isCountry_4 mlX7_86 mkX7_in stX7_in (d1 := 0) (by decide) (As := [.int v, .int 0, .int 15]) rfl ⟨rfl, Nat.le_of_ble_eq_true rfl⟩ ⟨rfl, Nat.le_of_ble_eq_true rfl⟩ (ct_in hE v 0 15) rfl ?_
  exact Z.zret dX7_isCountry_7 rfl (bI_01 _) ⟨rfl, rfl, rfl⟩

set_option maxHeartbeats 4000000 in
set_option maxRecDepth 100000 in
theorem ct_isGoods {g : GP} {I J : IM} {S : SH} (hE : Ex I J) (v : Int32)  : Z g 1 0 0 mX7_isGoods 0 (enL mX7_isGoods [.int v]) [] J S (PQ (.int (bI (inB v 0 359))) J S) := by
  show Z g 1 0 0 mX7_isGoods 0 [.int v] [] J S _
  refine Z.iload_n dX7_isGoods_0 rfl ?_
  refine Z.iconst (v := 0) dX7_isGoods_1 (by decide) ?_
  refine Z.sipush (v := 359) dX7_isGoods_2 (by decide) ?_
  refine Z.callSp (M := mX7_isGoods) (pc := 5) (st := []) (N := mX7_in) (n := 3) (r := .int (bI (inB v 0 359))) dX7_isGoods_5 mlX7_86 mkX7_in stX7_in (d1 := 0) (by decide) (As := [.int v, .int 0, .int 359]) rfl ⟨rfl, Nat.le_of_ble_eq_true rfl⟩ ⟨rfl, Nat.le_of_ble_eq_true rfl⟩ (ct_in hE v 0 359) rfl ?_
  exact Z.zret dX7_isGoods_8 rfl (bI_01 _) ⟨rfl, rfl, rfl⟩

set_option maxHeartbeats 4000000 in
set_option maxRecDepth 100000 in
theorem ct_isPerson {g : GP} {I J : IM} {S : SH} (hE : Ex I J) (v : Int32)  : Z g 1 0 0 mX7_isPerson 0 (enL mX7_isPerson [.int v]) [] J S (PQ (.int (bI (inB v 0 99))) J S) := by
  show Z g 1 0 0 mX7_isPerson 0 [.int v] [] J S _
  refine Z.iload_n dX7_isPerson_0 rfl ?_
  refine Z.iconst (v := 0) dX7_isPerson_1 (by decide) ?_
  refine Z.bipush (v := 99) dX7_isPerson_2 (by decide) ?_
  refine Z.callSp (M := mX7_isPerson) (pc := 4) (st := []) (N := mX7_in) (n := 3) (r := .int (bI (inB v 0 99))) dX7_isPerson_4 mlX7_86 mkX7_in stX7_in (d1 := 0) (by decide) (As := [.int v, .int 0, .int 99]) rfl ⟨rfl, Nat.le_of_ble_eq_true rfl⟩ ⟨rfl, Nat.le_of_ble_eq_true rfl⟩ (ct_in hE v 0 99) rfl ?_
  exact Z.zret dX7_isPerson_7 rfl (bI_01 _) ⟨rfl, rfl, rfl⟩

set_option maxHeartbeats 4000000 in
set_option maxRecDepth 100000 in
theorem ct_isMark {g : GP} {I J : IM} {S : SH} (hE : Ex I J) (v : Int32) (hF : Fx S) : Z g 1 0 0 mX7_isMark 0 (enL mX7_isMark [.ref 35, .int v]) [] J S (PQ (.int (bI (inB v 0 (I 35 10 - 1)))) J S) := by
  show Z g 1 0 0 mX7_isMark 0 [.ref 35, .int v] [] J S _
  refine Z.iload_n dX7_isMark_0 rfl ?_
  refine Z.iconst (v := 0) dX7_isMark_1 (by decide) ?_
  refine Z.aload_n dX7_isMark_2 rfl ?_
  refine Z.getIv (v := I 35 10) dX7_isMark_3 cl7 flX7_83 (by decide) (fx35 hF) (hE.at 35 10 rfl) ?_
  refine Z.iconst (v := 1) dX7_isMark_6 (by decide) ?_
  refine Z.isub dX7_isMark_7 ?_
  refine Z.callSp (M := mX7_isMark) (pc := 8) (st := []) (N := mX7_in) (n := 3) (r := .int (bI (inB v 0 ((I 35 10) - 1)))) dX7_isMark_8 mlX7_86 mkX7_in stX7_in (d1 := 0) (by decide) (As := [.int v, .int 0, .int ((I 35 10) - 1)]) rfl ⟨rfl, Nat.le_of_ble_eq_true rfl⟩ ⟨rfl, Nat.le_of_ble_eq_true rfl⟩ (ct_in hE v 0 ((I 35 10) - 1)) rfl ?_
  exact Z.zret dX7_isMark_11 rfl (bI_01 _) ⟨rfl, rfl, rfl⟩

set_option maxHeartbeats 4000000 in
set_option maxRecDepth 100000 in
theorem lp_latest {g : GP} {I J : IM} {S : SH} (hE : Ex I J) (k m x t : Int32) (hF : Fx S) {n : Nat} (hn : Mp I n) : ∀ i, i ≤ n → Z g 0 0 0 mX7_latest 6 [.ref 35, .int k, .int m, .int x, .int t, .int (latU (pM I n) k m x t i), .int (nI i)] [] J S (PQ (.int (latF (pM I n) k m x t)) J S) := by
  refine upZ n (fun i hi ih => ?_)
  have hn2 := hn.2
  refine Z.iload dX7_latest_6 rfl ?_
  refine Z.aload_n dX7_latest_8 rfl ?_
  refine Z.getIv (v := nI n) dX7_latest_9 cl7 flX7_105 (by decide) (fx35 hF) ((hE.at 35 17 rfl).trans hn.1) ?_
  refine Z.icmp_geN (a := i) (b := n) (by omega) (by omega) (tgt := 80) dX7_latest_12 (by decide) (fun h1 => ?_) (fun h1 => ?_)
  · refine Z.iload dX7_latest_80 rfl ?_
    exact Z.iret dX7_latest_82 rfl ⟨by rw [show i = n by omega]; rfl, rfl, rfl⟩
  · refine Z.aload_n dX7_latest_15 rfl ?_
    refine Z.getR (r := 49) dX7_latest_16 cl7 flX7_49 (by decide) (fx35 hF) rfl ?_
    refine Z.iload dX7_latest_19 rfl ?_
    refine Z.ialdv (j := i) (v := I 49 i) dX7_latest_21 (fx49 hF) rfl (by omega) (by decide) (hE.at 49 i rfl) ?_
    refine Z.iload_n dX7_latest_22 rfl ?_
    refine Z.icmp_ne (tgt := 70) dX7_latest_23 (by decide) (fun h2 => ?_) (fun h2 => ?_)
    · refine Z.iload dX7_latest_70 rfl ?_
      refine Z.istore (L' := [.ref 35, .int k, .int m, .int x, .int t, .int (latU (pM I n) k m x t i), .int (nI i)]) dX7_latest_72 (Nat.le_of_ble_eq_true rfl) rfl ?_
      refine Z.iinc (v := nI (i + 1)) (L' := [.ref 35, .int k, .int m, .int x, .int t, .int (latU (pM I n) k m x t i), .int (nI (i + 1))]) dX7_latest_74 rfl (nI_1 _) rfl ?_
      refine Z.goto (tgt := 6) dX7_latest_77 (by decide) ?_
      have e := ih (by omega)
      rw [show latU (pM I n) k m x t (i + 1) = latU (pM I n) k m x t i by simp [latU, mtM, h1, h2]] at e
      exact e
    · refine Z.aload_n dX7_latest_26 rfl ?_
      refine Z.getR (r := 50) dX7_latest_27 cl7 flX7_52 (by decide) (fx35 hF) rfl ?_
      refine Z.iload dX7_latest_30 rfl ?_
      refine Z.ialdv (j := i) (v := I 50 i) dX7_latest_32 (fx50 hF) rfl (by omega) (by decide) (hE.at 50 i rfl) ?_
      refine Z.iload_n dX7_latest_33 rfl ?_
      refine Z.icmp_ne (tgt := 70) dX7_latest_34 (by decide) (fun h3 => ?_) (fun h3 => ?_)
      · refine Z.iload dX7_latest_70 rfl ?_
        refine Z.istore (L' := [.ref 35, .int k, .int m, .int x, .int t, .int (latU (pM I n) k m x t i), .int (nI i)]) dX7_latest_72 (Nat.le_of_ble_eq_true rfl) rfl ?_
        refine Z.iinc (v := nI (i + 1)) (L' := [.ref 35, .int k, .int m, .int x, .int t, .int (latU (pM I n) k m x t i), .int (nI (i + 1))]) dX7_latest_74 rfl (nI_1 _) rfl ?_
        refine Z.goto (tgt := 6) dX7_latest_77 (by decide) ?_
        have e := ih (by omega)
        rw [show latU (pM I n) k m x t (i + 1) = latU (pM I n) k m x t i by simp [latU, mtM, h1, h2, h3]] at e
        exact e
      · refine Z.iload_n dX7_latest_37 rfl ?_
        refine Z.iconst (v := (-1)) dX7_latest_38 (by decide) ?_
        refine Z.icmp_eq (tgt := 53) dX7_latest_39 (by decide) (fun h4 => ?_) (fun h4 => ?_)
        · refine Z.aload_n dX7_latest_53 rfl ?_
          refine Z.getR (r := 52) dX7_latest_54 cl7 flX7_58 (by decide) (fx35 hF) rfl ?_
          refine Z.iload dX7_latest_57 rfl ?_
          refine Z.ialdv (j := i) (v := I 52 i) dX7_latest_59 (fx52 hF) rfl (by omega) (by decide) (hE.at 52 i rfl) ?_
          refine Z.iload dX7_latest_60 rfl ?_
          refine Z.icmp_gt (tgt := 70) dX7_latest_62 (by decide) (fun h5 => ?_) (fun h5 => ?_)
          · refine Z.iload dX7_latest_70 rfl ?_
            refine Z.istore (L' := [.ref 35, .int k, .int m, .int x, .int t, .int (latU (pM I n) k m x t i), .int (nI i)]) dX7_latest_72 (Nat.le_of_ble_eq_true rfl) rfl ?_
            refine Z.iinc (v := nI (i + 1)) (L' := [.ref 35, .int k, .int m, .int x, .int t, .int (latU (pM I n) k m x t i), .int (nI (i + 1))]) dX7_latest_74 rfl (nI_1 _) rfl ?_
            refine Z.goto (tgt := 6) dX7_latest_77 (by decide) ?_
            have e := ih (by omega)
            rw [show latU (pM I n) k m x t (i + 1) = latU (pM I n) k m x t i by simp [latU, mtM, h1, h2, h3, h4, h5]] at e
            exact e
          · refine Z.iload dX7_latest_65 rfl ?_
            refine Z.goto (tgt := 72) dX7_latest_67 (by decide) ?_
            refine Z.istore (L' := [.ref 35, .int k, .int m, .int x, .int t, .int (nI i), .int (nI i)]) dX7_latest_72 (Nat.le_of_ble_eq_true rfl) rfl ?_
            refine Z.iinc (v := nI (i + 1)) (L' := [.ref 35, .int k, .int m, .int x, .int t, .int (nI i), .int (nI (i + 1))]) dX7_latest_74 rfl (nI_1 _) rfl ?_
            refine Z.goto (tgt := 6) dX7_latest_77 (by decide) ?_
            have e := ih (by omega)
            rw [show latU (pM I n) k m x t (i + 1) = nI i by simp [latU, mtM, h1, h2, h3, h4, h5]] at e
            exact e
        · refine Z.aload_n dX7_latest_42 rfl ?_
          refine Z.getR (r := 51) dX7_latest_43 cl7 flX7_55 (by decide) (fx35 hF) rfl ?_
          refine Z.iload dX7_latest_46 rfl ?_
          refine Z.ialdv (j := i) (v := I 51 i) dX7_latest_48 (fx51 hF) rfl (by omega) (by decide) (hE.at 51 i rfl) ?_
          refine Z.iload_n dX7_latest_49 rfl ?_
          refine Z.icmp_ne (tgt := 70) dX7_latest_50 (by decide) (fun h6 => ?_) (fun h6 => ?_)
          · refine Z.iload dX7_latest_70 rfl ?_
            refine Z.istore (L' := [.ref 35, .int k, .int m, .int x, .int t, .int (latU (pM I n) k m x t i), .int (nI i)]) dX7_latest_72 (Nat.le_of_ble_eq_true rfl) rfl ?_
            refine Z.iinc (v := nI (i + 1)) (L' := [.ref 35, .int k, .int m, .int x, .int t, .int (latU (pM I n) k m x t i), .int (nI (i + 1))]) dX7_latest_74 rfl (nI_1 _) rfl ?_
            refine Z.goto (tgt := 6) dX7_latest_77 (by decide) ?_
            have e := ih (by omega)
            rw [show latU (pM I n) k m x t (i + 1) = latU (pM I n) k m x t i by simp [latU, mtM, h1, h2, h3, h4, h6]] at e
            exact e
          · refine Z.aload_n dX7_latest_53 rfl ?_
            refine Z.getR (r := 52) dX7_latest_54 cl7 flX7_58 (by decide) (fx35 hF) rfl ?_
            refine Z.iload dX7_latest_57 rfl ?_
            refine Z.ialdv (j := i) (v := I 52 i) dX7_latest_59 (fx52 hF) rfl (by omega) (by decide) (hE.at 52 i rfl) ?_
            refine Z.iload dX7_latest_60 rfl ?_
            refine Z.icmp_gt (tgt := 70) dX7_latest_62 (by decide) (fun h7 => ?_) (fun h7 => ?_)
            · refine Z.iload dX7_latest_70 rfl ?_
              refine Z.istore (L' := [.ref 35, .int k, .int m, .int x, .int t, .int (latU (pM I n) k m x t i), .int (nI i)]) dX7_latest_72 (Nat.le_of_ble_eq_true rfl) rfl ?_
              refine Z.iinc (v := nI (i + 1)) (L' := [.ref 35, .int k, .int m, .int x, .int t, .int (latU (pM I n) k m x t i), .int (nI (i + 1))]) dX7_latest_74 rfl (nI_1 _) rfl ?_
              refine Z.goto (tgt := 6) dX7_latest_77 (by decide) ?_
              have e := ih (by omega)
              rw [show latU (pM I n) k m x t (i + 1) = latU (pM I n) k m x t i by simp [latU, mtM, h1, h2, h3, h4, h6, h7]] at e
              exact e
            · refine Z.iload dX7_latest_65 rfl ?_
              refine Z.goto (tgt := 72) dX7_latest_67 (by decide) ?_
              refine Z.istore (L' := [.ref 35, .int k, .int m, .int x, .int t, .int (nI i), .int (nI i)]) dX7_latest_72 (Nat.le_of_ble_eq_true rfl) rfl ?_
              refine Z.iinc (v := nI (i + 1)) (L' := [.ref 35, .int k, .int m, .int x, .int t, .int (nI i), .int (nI (i + 1))]) dX7_latest_74 rfl (nI_1 _) rfl ?_
              refine Z.goto (tgt := 6) dX7_latest_77 (by decide) ?_
              have e := ih (by omega)
              rw [show latU (pM I n) k m x t (i + 1) = nI i by simp [latU, mtM, h1, h2, h3, h4, h6, h7]] at e
              exact e

set_option maxHeartbeats 4000000 in
set_option maxRecDepth 100000 in
theorem ct_latest {g : GP} {I J : IM} {S : SH} (hE : Ex I J) (k m x t : Int32) (hF : Fx S) {n : Nat} (hn : Mp I n) : Z g 0 0 0 mX7_latest 0 (enL mX7_latest [.ref 35, .int k, .int m, .int x, .int t]) [] J S (PQ (.int (latF (pM I n) k m x t)) J S) := by
  show Z g 0 0 0 mX7_latest 0 [.ref 35, .int k, .int m, .int x, .int t, .retAddr 0, .retAddr 0] [] J S _
  refine Z.iconst (v := (-1)) dX7_latest_0 (by decide) ?_
  refine Z.istore (L' := [.ref 35, .int k, .int m, .int x, .int t, .int ((-1)), .retAddr 0]) dX7_latest_1 (Nat.le_of_ble_eq_true rfl) rfl ?_
  refine Z.iconst (v := 0) dX7_latest_3 (by decide) ?_
  refine Z.istore (L' := [.ref 35, .int k, .int m, .int x, .int t, .int ((-1)), .int 0]) dX7_latest_4 (Nat.le_of_ble_eq_true rfl) rfl ?_
  exact lp_latest hE k m x t hF hn 0 (Nat.zero_le _)

set_option maxHeartbeats 4000000 in
set_option maxRecDepth 100000 in
theorem lp_earliest {g : GP} {I J : IM} {S : SH} (hE : Ex I J) (k m x t : Int32) (hF : Fx S) {n : Nat} (hn : Mp I n) : ∀ c, c ≤ n → ∀ f, Z g 0 0 0 mX7_earliest 11 [.ref 35, .int k, .int m, .int x, .int t, .int f, .int (nI c - 1)] [] J S (PQ (.int (eaU (pM I n) k m x t c f)) J S) := by
  have hn2 := hn.2
  intro c
  induction c with
  | zero =>
    intro hc f
    refine Z.iload dX7_earliest_11 rfl ?_
    refine Z.if_lt (tgt := 81) dX7_earliest_13 (by decide) (fun h1 => ?_) (fun h1 => absurd h1 (by decide))
    refine Z.iload dX7_earliest_81 rfl ?_
    exact Z.iret dX7_earliest_83 rfl ⟨rfl, rfl, rfl⟩
  | succ c ih0 =>
    intro hc f
    have ih := fun f h => ih0 h f
    rw [nI_pred]
    refine Z.iload dX7_earliest_11 rfl ?_
    refine Z.if_lt (tgt := 81) dX7_earliest_13 (by decide) (fun h2 => absurd h2 (nI_pos (by omega))) (fun h2 => ?_)
    refine Z.aload_n dX7_earliest_16 rfl ?_
    refine Z.getR (r := 49) dX7_earliest_17 cl7 flX7_49 (by decide) (fx35 hF) rfl ?_
    refine Z.iload dX7_earliest_20 rfl ?_
    refine Z.ialdv (j := c) (v := I 49 c) dX7_earliest_22 (fx49 hF) rfl (by omega) (by decide) (hE.at 49 c rfl) ?_
    refine Z.iload_n dX7_earliest_23 rfl ?_
    refine Z.icmp_ne (tgt := 71) dX7_earliest_24 (by decide) (fun h3 => ?_) (fun h3 => ?_)
    · refine Z.iload dX7_earliest_71 rfl ?_
      refine Z.istore (L' := [.ref 35, .int k, .int m, .int x, .int t, .int f, .int (nI c)]) dX7_earliest_73 (Nat.le_of_ble_eq_true rfl) rfl ?_
      refine Z.iinc (v := nI c - 1) (L' := [.ref 35, .int k, .int m, .int x, .int t, .int f, .int (nI c - 1)]) dX7_earliest_75 rfl (nI_m1 _) rfl ?_
      refine Z.goto (tgt := 11) dX7_earliest_78 (by decide) ?_
      have e := ih f (by omega)
      refine Z.conseq (Q' := _) ?_ (fun _ _ _ h => h)
      rw [show eaU (pM I n) k m x t (c + 1) f = eaU (pM I n) k m x t c f by simp [eaU, mtM, h2, h3]]
      exact e
    · refine Z.aload_n dX7_earliest_27 rfl ?_
      refine Z.getR (r := 50) dX7_earliest_28 cl7 flX7_52 (by decide) (fx35 hF) rfl ?_
      refine Z.iload dX7_earliest_31 rfl ?_
      refine Z.ialdv (j := c) (v := I 50 c) dX7_earliest_33 (fx50 hF) rfl (by omega) (by decide) (hE.at 50 c rfl) ?_
      refine Z.iload_n dX7_earliest_34 rfl ?_
      refine Z.icmp_ne (tgt := 71) dX7_earliest_35 (by decide) (fun h4 => ?_) (fun h4 => ?_)
      · refine Z.iload dX7_earliest_71 rfl ?_
        refine Z.istore (L' := [.ref 35, .int k, .int m, .int x, .int t, .int f, .int (nI c)]) dX7_earliest_73 (Nat.le_of_ble_eq_true rfl) rfl ?_
        refine Z.iinc (v := nI c - 1) (L' := [.ref 35, .int k, .int m, .int x, .int t, .int f, .int (nI c - 1)]) dX7_earliest_75 rfl (nI_m1 _) rfl ?_
        refine Z.goto (tgt := 11) dX7_earliest_78 (by decide) ?_
        have e := ih f (by omega)
        refine Z.conseq (Q' := _) ?_ (fun _ _ _ h => h)
        rw [show eaU (pM I n) k m x t (c + 1) f = eaU (pM I n) k m x t c f by simp [eaU, mtM, h2, h3, h4]]
        exact e
      · refine Z.iload_n dX7_earliest_38 rfl ?_
        refine Z.iconst (v := (-1)) dX7_earliest_39 (by decide) ?_
        refine Z.icmp_eq (tgt := 54) dX7_earliest_40 (by decide) (fun h5 => ?_) (fun h5 => ?_)
        · refine Z.aload_n dX7_earliest_54 rfl ?_
          refine Z.getR (r := 52) dX7_earliest_55 cl7 flX7_58 (by decide) (fx35 hF) rfl ?_
          refine Z.iload dX7_earliest_58 rfl ?_
          refine Z.ialdv (j := c) (v := I 52 c) dX7_earliest_60 (fx52 hF) rfl (by omega) (by decide) (hE.at 52 c rfl) ?_
          refine Z.iload dX7_earliest_61 rfl ?_
          refine Z.icmp_gt (tgt := 71) dX7_earliest_63 (by decide) (fun h6 => ?_) (fun h6 => ?_)
          · refine Z.iload dX7_earliest_71 rfl ?_
            refine Z.istore (L' := [.ref 35, .int k, .int m, .int x, .int t, .int f, .int (nI c)]) dX7_earliest_73 (Nat.le_of_ble_eq_true rfl) rfl ?_
            refine Z.iinc (v := nI c - 1) (L' := [.ref 35, .int k, .int m, .int x, .int t, .int f, .int (nI c - 1)]) dX7_earliest_75 rfl (nI_m1 _) rfl ?_
            refine Z.goto (tgt := 11) dX7_earliest_78 (by decide) ?_
            have e := ih f (by omega)
            refine Z.conseq (Q' := _) ?_ (fun _ _ _ h => h)
            rw [show eaU (pM I n) k m x t (c + 1) f = eaU (pM I n) k m x t c f by simp [eaU, mtM, h2, h3, h4, h5, h6]]
            exact e
          · refine Z.iload dX7_earliest_66 rfl ?_
            refine Z.goto (tgt := 73) dX7_earliest_68 (by decide) ?_
            refine Z.istore (L' := [.ref 35, .int k, .int m, .int x, .int t, .int (nI c), .int (nI c)]) dX7_earliest_73 (Nat.le_of_ble_eq_true rfl) rfl ?_
            refine Z.iinc (v := nI c - 1) (L' := [.ref 35, .int k, .int m, .int x, .int t, .int (nI c), .int (nI c - 1)]) dX7_earliest_75 rfl (nI_m1 _) rfl ?_
            refine Z.goto (tgt := 11) dX7_earliest_78 (by decide) ?_
            have e := ih (nI c) (by omega)
            refine Z.conseq (Q' := _) ?_ (fun _ _ _ h => h)
            rw [show eaU (pM I n) k m x t (c + 1) f = eaU (pM I n) k m x t c (nI c) by simp [eaU, mtM, h2, h3, h4, h5, h6]]
            exact e
        · refine Z.aload_n dX7_earliest_43 rfl ?_
          refine Z.getR (r := 51) dX7_earliest_44 cl7 flX7_55 (by decide) (fx35 hF) rfl ?_
          refine Z.iload dX7_earliest_47 rfl ?_
          refine Z.ialdv (j := c) (v := I 51 c) dX7_earliest_49 (fx51 hF) rfl (by omega) (by decide) (hE.at 51 c rfl) ?_
          refine Z.iload_n dX7_earliest_50 rfl ?_
          refine Z.icmp_ne (tgt := 71) dX7_earliest_51 (by decide) (fun h7 => ?_) (fun h7 => ?_)
          · refine Z.iload dX7_earliest_71 rfl ?_
            refine Z.istore (L' := [.ref 35, .int k, .int m, .int x, .int t, .int f, .int (nI c)]) dX7_earliest_73 (Nat.le_of_ble_eq_true rfl) rfl ?_
            refine Z.iinc (v := nI c - 1) (L' := [.ref 35, .int k, .int m, .int x, .int t, .int f, .int (nI c - 1)]) dX7_earliest_75 rfl (nI_m1 _) rfl ?_
            refine Z.goto (tgt := 11) dX7_earliest_78 (by decide) ?_
            have e := ih f (by omega)
            refine Z.conseq (Q' := _) ?_ (fun _ _ _ h => h)
            rw [show eaU (pM I n) k m x t (c + 1) f = eaU (pM I n) k m x t c f by simp [eaU, mtM, h2, h3, h4, h5, h7]]
            exact e
          · refine Z.aload_n dX7_earliest_54 rfl ?_
            refine Z.getR (r := 52) dX7_earliest_55 cl7 flX7_58 (by decide) (fx35 hF) rfl ?_
            refine Z.iload dX7_earliest_58 rfl ?_
            refine Z.ialdv (j := c) (v := I 52 c) dX7_earliest_60 (fx52 hF) rfl (by omega) (by decide) (hE.at 52 c rfl) ?_
            refine Z.iload dX7_earliest_61 rfl ?_
            refine Z.icmp_gt (tgt := 71) dX7_earliest_63 (by decide) (fun h8 => ?_) (fun h8 => ?_)
            · refine Z.iload dX7_earliest_71 rfl ?_
              refine Z.istore (L' := [.ref 35, .int k, .int m, .int x, .int t, .int f, .int (nI c)]) dX7_earliest_73 (Nat.le_of_ble_eq_true rfl) rfl ?_
              refine Z.iinc (v := nI c - 1) (L' := [.ref 35, .int k, .int m, .int x, .int t, .int f, .int (nI c - 1)]) dX7_earliest_75 rfl (nI_m1 _) rfl ?_
              refine Z.goto (tgt := 11) dX7_earliest_78 (by decide) ?_
              have e := ih f (by omega)
              refine Z.conseq (Q' := _) ?_ (fun _ _ _ h => h)
              rw [show eaU (pM I n) k m x t (c + 1) f = eaU (pM I n) k m x t c f by simp [eaU, mtM, h2, h3, h4, h5, h7, h8]]
              exact e
            · refine Z.iload dX7_earliest_66 rfl ?_
              refine Z.goto (tgt := 73) dX7_earliest_68 (by decide) ?_
              refine Z.istore (L' := [.ref 35, .int k, .int m, .int x, .int t, .int (nI c), .int (nI c)]) dX7_earliest_73 (Nat.le_of_ble_eq_true rfl) rfl ?_
              refine Z.iinc (v := nI c - 1) (L' := [.ref 35, .int k, .int m, .int x, .int t, .int (nI c), .int (nI c - 1)]) dX7_earliest_75 rfl (nI_m1 _) rfl ?_
              refine Z.goto (tgt := 11) dX7_earliest_78 (by decide) ?_
              have e := ih (nI c) (by omega)
              refine Z.conseq (Q' := _) ?_ (fun _ _ _ h => h)
              rw [show eaU (pM I n) k m x t (c + 1) f = eaU (pM I n) k m x t c (nI c) by simp [eaU, mtM, h2, h3, h4, h5, h7, h8]]
              exact e

set_option maxHeartbeats 4000000 in
set_option maxRecDepth 100000 in
theorem ct_earliest {g : GP} {I J : IM} {S : SH} (hE : Ex I J) (k m x t : Int32) (hF : Fx S) {n : Nat} (hn : Mp I n) : Z g 0 0 0 mX7_earliest 0 (enL mX7_earliest [.ref 35, .int k, .int m, .int x, .int t]) [] J S (PQ (.int (eaF (pM I n) k m x t)) J S) := by
  show Z g 0 0 0 mX7_earliest 0 [.ref 35, .int k, .int m, .int x, .int t, .retAddr 0, .retAddr 0] [] J S _
  refine Z.iconst (v := (-1)) dX7_earliest_0 (by decide) ?_
  refine Z.istore (L' := [.ref 35, .int k, .int m, .int x, .int t, .int ((-1)), .retAddr 0]) dX7_earliest_1 (Nat.le_of_ble_eq_true rfl) rfl ?_
  refine Z.aload_n dX7_earliest_3 rfl ?_
  refine Z.getIv (v := nI n) dX7_earliest_4 cl7 flX7_105 (by decide) (fx35 hF) ((hE.at 35 17 rfl).trans hn.1) ?_
  refine Z.iconst (v := 1) dX7_earliest_7 (by decide) ?_
  refine Z.isub dX7_earliest_8 ?_
  refine Z.istore (L' := [.ref 35, .int k, .int m, .int x, .int t, .int ((-1)), .int ((nI n) - 1)]) dX7_earliest_9 (Nat.le_of_ble_eq_true rfl) rfl ?_
  exact lp_earliest hE k m x t hF hn n (Nat.le_refl _) (-1)

set_option maxHeartbeats 4000000 in
set_option maxRecDepth 100000 in
theorem lp_countOf {g : GP} {I J : IM} {S : SH} (hE : Ex I J) (k m t : Int32) (hF : Fx S) {n : Nat} (hn : Mp I n) : ∀ i, i ≤ n → Z g 0 0 0 mX7_countOf 6 [.ref 35, .int k, .int m, .int t, .int (nI (cntU (pM I n) k m t i)), .int (nI i)] [] J S (PQ (.int (nI (cntF (pM I n) k m t))) J S) := by
  refine upZ n (fun i hi ih => ?_)
  have hn2 := hn.2
  refine Z.iload dX7_countOf_6 rfl ?_
  refine Z.aload_n dX7_countOf_8 rfl ?_
  refine Z.getIv (v := nI n) dX7_countOf_9 cl7 flX7_105 (by decide) (fx35 hF) ((hE.at 35 17 rfl).trans hn.1) ?_
  refine Z.icmp_geN (a := i) (b := n) (by omega) (by omega) (tgt := 64) dX7_countOf_12 (by decide) (fun h1 => ?_) (fun h1 => ?_)
  · refine Z.iload dX7_countOf_64 rfl ?_
    exact Z.iret dX7_countOf_66 rfl ⟨by rw [show i = n by omega]; rfl, rfl, rfl⟩
  · refine Z.iload dX7_countOf_15 rfl ?_
    refine Z.aload_n dX7_countOf_17 rfl ?_
    refine Z.getR (r := 49) dX7_countOf_18 cl7 flX7_49 (by decide) (fx35 hF) rfl ?_
    refine Z.iload dX7_countOf_21 rfl ?_
    refine Z.ialdv (j := i) (v := I 49 i) dX7_countOf_23 (fx49 hF) rfl (by omega) (by decide) (hE.at 49 i rfl) ?_
    refine Z.iload_n dX7_countOf_24 rfl ?_
    refine Z.icmp_ne (tgt := 54) dX7_countOf_25 (by decide) (fun h2 => ?_) (fun h2 => ?_)
    · refine Z.iconst (v := 0) dX7_countOf_54 (by decide) ?_
      refine Z.iaddN (a := cntU (pM I n) k m t i) (b := 0) dX7_countOf_55 ?_
      refine Z.istore (L' := [.ref 35, .int k, .int m, .int t, .int (nI ((cntU (pM I n) k m t i) + 0)), .int (nI i)]) dX7_countOf_56 (Nat.le_of_ble_eq_true rfl) rfl ?_
      refine Z.iinc (v := nI (i + 1)) (L' := [.ref 35, .int k, .int m, .int t, .int (nI ((cntU (pM I n) k m t i) + 0)), .int (nI (i + 1))]) dX7_countOf_58 rfl (nI_1 _) rfl ?_
      refine Z.goto (tgt := 6) dX7_countOf_61 (by decide) ?_
      have e := ih (by omega)
      rw [show cntU (pM I n) k m t (i + 1) = (cntU (pM I n) k m t i) + 0 by simp [cntU, pM, h1, h2]] at e
      exact e
    · refine Z.aload_n dX7_countOf_28 rfl ?_
      refine Z.getR (r := 50) dX7_countOf_29 cl7 flX7_52 (by decide) (fx35 hF) rfl ?_
      refine Z.iload dX7_countOf_32 rfl ?_
      refine Z.ialdv (j := i) (v := I 50 i) dX7_countOf_34 (fx50 hF) rfl (by omega) (by decide) (hE.at 50 i rfl) ?_
      refine Z.iload_n dX7_countOf_35 rfl ?_
      refine Z.icmp_ne (tgt := 54) dX7_countOf_36 (by decide) (fun h3 => ?_) (fun h3 => ?_)
      · refine Z.iconst (v := 0) dX7_countOf_54 (by decide) ?_
        refine Z.iaddN (a := cntU (pM I n) k m t i) (b := 0) dX7_countOf_55 ?_
        refine Z.istore (L' := [.ref 35, .int k, .int m, .int t, .int (nI ((cntU (pM I n) k m t i) + 0)), .int (nI i)]) dX7_countOf_56 (Nat.le_of_ble_eq_true rfl) rfl ?_
        refine Z.iinc (v := nI (i + 1)) (L' := [.ref 35, .int k, .int m, .int t, .int (nI ((cntU (pM I n) k m t i) + 0)), .int (nI (i + 1))]) dX7_countOf_58 rfl (nI_1 _) rfl ?_
        refine Z.goto (tgt := 6) dX7_countOf_61 (by decide) ?_
        have e := ih (by omega)
        rw [show cntU (pM I n) k m t (i + 1) = (cntU (pM I n) k m t i) + 0 by simp [cntU, pM, h1, h2, h3]] at e
        exact e
      · refine Z.aload_n dX7_countOf_39 rfl ?_
        refine Z.getR (r := 52) dX7_countOf_40 cl7 flX7_58 (by decide) (fx35 hF) rfl ?_
        refine Z.iload dX7_countOf_43 rfl ?_
        refine Z.ialdv (j := i) (v := I 52 i) dX7_countOf_45 (fx52 hF) rfl (by omega) (by decide) (hE.at 52 i rfl) ?_
        refine Z.iload_n dX7_countOf_46 rfl ?_
        refine Z.icmp_gt (tgt := 54) dX7_countOf_47 (by decide) (fun h4 => ?_) (fun h4 => ?_)
        · refine Z.iconst (v := 0) dX7_countOf_54 (by decide) ?_
          refine Z.iaddN (a := cntU (pM I n) k m t i) (b := 0) dX7_countOf_55 ?_
          refine Z.istore (L' := [.ref 35, .int k, .int m, .int t, .int (nI ((cntU (pM I n) k m t i) + 0)), .int (nI i)]) dX7_countOf_56 (Nat.le_of_ble_eq_true rfl) rfl ?_
          refine Z.iinc (v := nI (i + 1)) (L' := [.ref 35, .int k, .int m, .int t, .int (nI ((cntU (pM I n) k m t i) + 0)), .int (nI (i + 1))]) dX7_countOf_58 rfl (nI_1 _) rfl ?_
          refine Z.goto (tgt := 6) dX7_countOf_61 (by decide) ?_
          have e := ih (by omega)
          rw [show cntU (pM I n) k m t (i + 1) = (cntU (pM I n) k m t i) + 0 by simp [cntU, pM, h1, h2, h3, h4]] at e
          exact e
        · refine Z.iconst (v := 1) dX7_countOf_50 (by decide) ?_
          refine Z.goto (tgt := 55) dX7_countOf_51 (by decide) ?_
          refine Z.iaddN (a := cntU (pM I n) k m t i) (b := 1) dX7_countOf_55 ?_
          refine Z.istore (L' := [.ref 35, .int k, .int m, .int t, .int (nI ((cntU (pM I n) k m t i) + 1)), .int (nI i)]) dX7_countOf_56 (Nat.le_of_ble_eq_true rfl) rfl ?_
          refine Z.iinc (v := nI (i + 1)) (L' := [.ref 35, .int k, .int m, .int t, .int (nI ((cntU (pM I n) k m t i) + 1)), .int (nI (i + 1))]) dX7_countOf_58 rfl (nI_1 _) rfl ?_
          refine Z.goto (tgt := 6) dX7_countOf_61 (by decide) ?_
          have e := ih (by omega)
          rw [show cntU (pM I n) k m t (i + 1) = (cntU (pM I n) k m t i) + 1 by simp [cntU, pM, h1, h2, h3, h4]] at e
          exact e

set_option maxHeartbeats 4000000 in
set_option maxRecDepth 100000 in
theorem ct_countOf {g : GP} {I J : IM} {S : SH} (hE : Ex I J) (k m t : Int32) (hF : Fx S) {n : Nat} (hn : Mp I n) : Z g 0 0 0 mX7_countOf 0 (enL mX7_countOf [.ref 35, .int k, .int m, .int t]) [] J S (PQ (.int (nI (cntF (pM I n) k m t))) J S) := by
  show Z g 0 0 0 mX7_countOf 0 [.ref 35, .int k, .int m, .int t, .retAddr 0, .retAddr 0] [] J S _
  refine Z.iconst (v := 0) dX7_countOf_0 (by decide) ?_
  refine Z.istore (L' := [.ref 35, .int k, .int m, .int t, .int 0, .retAddr 0]) dX7_countOf_1 (Nat.le_of_ble_eq_true rfl) rfl ?_
  refine Z.iconst (v := 0) dX7_countOf_3 (by decide) ?_
  refine Z.istore (L' := [.ref 35, .int k, .int m, .int t, .int 0, .int 0]) dX7_countOf_4 (Nat.le_of_ble_eq_true rfl) rfl ?_
  exact lp_countOf hE k m t hF hn 0 (Nat.zero_le _)

