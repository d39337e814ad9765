def GQ (r : Nat) (G : Nat × (Nat → Int32)) (J : IM) (S : SH) : ZQ := fun v J' T => v = some (.int (nI G.1)) ∧ ∃ f, J' = va_up J r f ∧ (∀ k, k < G.1 → f k = G.2 k) ∧ T = S
theorem gS_le {p : PL} {m t : Int32} : (gS p m t).1 ≤ p.2.2.2.2 := giU_le _
theorem ct_goodsA2 {g : GP} {I J : IM} {S : SH} (hE : Ex I J) (m t : Int32) (hF : Fx S) {n : Nat} (hn : Mp I n) : Z g 2 0 0 mX7_goodsInto 0 (enL mX7_goodsInto [.ref 35, .int m, .int t, .ref 56]) [] J S (GQ 56 (gS (pM I n) m t) J S) := by
  refine (ct_goodsIntoA (g := g) hE m t hF hn).conseq (fun v J' T q => ?_)
  obtain ⟨h1, h2⟩ := giU_ag (p := pM I n) (m := m) (t := t) (f0 := J 56) (f1 := fun _ => 0) n
  exact ⟨by rw [q.1, h1]; rfl, _, q.2.1, fun k hk => h2 k (by rw [h1]; exact hk), q.2.2⟩

theorem ct_goodsB2 {g : GP} {I J : IM} {S : SH} (hE : Ex I J) (m t : Int32) (hF : Fx S) {n : Nat} (hn : Mp I n) : Z g 2 0 0 mX7_goodsInto 0 (enL mX7_goodsInto [.ref 35, .int m, .int t, .ref 57]) [] J S (GQ 57 (gS (pM I n) m t) J S) := by
  refine (ct_goodsIntoB (g := g) hE m t hF hn).conseq (fun v J' T q => ?_)
  obtain ⟨h1, h2⟩ := giU_ag (p := pM I n) (m := m) (t := t) (f0 := J 57) (f1 := fun _ => 0) n
  exact ⟨by rw [q.1, h1]; rfl, _, q.2.1, fun k hk => h2 k (by rw [h1]; exact hk), q.2.2⟩

set_option maxHeartbeats 4000000 in
set_option maxRecDepth 100000 in
theorem ct_mayClash {g : GP} {I J : IM} {S : SH} (hE : Ex I J) (a b : Nat) (t : Int32) (hF : Fx S) {n : Nat} (hn : Mp I n) (hM : MIv I) (ha : a < 120) (hb : b < 120) : Z g 6 0 0 mX7_mayClash 0 (enL mX7_mayClash [.ref 35, .int (nI a), .int (nI b), .int t]) [] J S (NQ (.int (bI (mcF I n a b t))) I S) := by
  show Z g 6 0 0 mX7_mayClash 0 [.ref 35, .int (nI a), .int (nI b), .int t] [] J S _
  refine Z.aload_n dX7_mayClash_0 rfl ?_
  refine Z.getR (r := 44) dX7_mayClash_1 cl7 flX7_34 (by decide) (fx35 hF) rfl ?_
  refine Z.iload_n dX7_mayClash_4 rfl ?_
  refine Z.ialdv (j := a) (v := I 44 a) dX7_mayClash_5 (fx44 hF) rfl (by omega) (by decide) (hE.at 44 a rfl) ?_
  refine Z.aload_n dX7_mayClash_6 rfl ?_
  refine Z.getR (r := 44) dX7_mayClash_7 cl7 flX7_34 (by decide) (fx35 hF) rfl ?_
  refine Z.iload_n dX7_mayClash_10 rfl ?_
  refine Z.ialdv (j := b) (v := I 44 b) dX7_mayClash_11 (fx44 hF) rfl (by omega) (by decide) (hE.at 44 b rfl) ?_
  refine Z.icmp_eq (tgt := 43) dX7_mayClash_12 (by decide) (fun h1 => ?_) (fun h1 => ?_)
  · refine Z.iconst (v := 0) dX7_mayClash_43 (by decide) ?_
    exact Z.zret dX7_mayClash_44 rfl (by decide) ⟨by simp [mcF, bI, h1], hE, rfl⟩
  · refine Z.aload_n dX7_mayClash_15 rfl ?_
    refine Z.iload_n dX7_mayClash_16 rfl ?_
    refine Z.aload_n dX7_mayClash_17 rfl ?_
    refine Z.getR (r := 44) dX7_mayClash_18 cl7 flX7_34 (by decide) (fx35 hF) rfl ?_
    refine Z.iload_n dX7_mayClash_21 rfl ?_
    refine Z.ialdv (j := b) (v := I 44 b) dX7_mayClash_22 (fx44 hF) rfl (by omega) (by decide) (hE.at 44 b rfl) ?_
    refine Z.iload_n dX7_mayClash_23 rfl ?_
    refine Z.callVp (M := mX7_mayClash) (pc := 24) (st := []) (N := mX7_hasLeave) (n := 3) (r := .int (bI (leF (pM I n) (nI a) (I 44 b) t))) dX7_mayClash_24 mlX7_170 mkX7_hasLeave imX7_hasLeave seX7_hasLeave (fx35 hF) cl7 rfl (d1 := 1) (by decide) (As := [.int (nI a), .int (I 44 b), .int t]) rfl ⟨rfl, Nat.le_of_ble_eq_true rfl⟩ ⟨rfl, Nat.le_of_ble_eq_true rfl⟩ (ct_hasLeave hE (nI a) (I 44 b) t hF hn) rfl ?_
    refine Z.if_neB (tgt := 43) dX7_mayClash_27 (by decide) (fun h2 => ?_) (fun h2 => ?_)
    · refine Z.iconst (v := 0) dX7_mayClash_43 (by decide) ?_
      exact Z.zret dX7_mayClash_44 rfl (by decide) ⟨by simp [mcF, bI, h1, h2], hE, rfl⟩
    · refine Z.aload_n dX7_mayClash_30 rfl ?_
      refine Z.iload_n dX7_mayClash_31 rfl ?_
      refine Z.iload_n dX7_mayClash_32 rfl ?_
      refine Z.callVg (M := mX7_mayClash) (pc := 33) (st := []) (N := mX7_isAlike) (n := 2) dX7_mayClash_33 mlX7_173 mkX7_isAlike imX7_isAlike seX7_isAlike (fx35 hF) cl7 rfl (d1 := 5) (by decide) (As := [.int (nI a), .int (nI b)]) rfl ⟨rfl, Nat.le_of_ble_eq_true rfl⟩ ⟨rfl, Nat.le_of_ble_eq_true rfl⟩ (ct_isAlike hE a b hF hM (by omega) (by omega)) rfl (fun v_ J1 S_ h_ => ?_)
      obtain ⟨rfl, hE, rfl⟩ := h_
      refine Z.if_eqB (tgt := 43) dX7_mayClash_36 (by decide) (fun h3 => ?_) (fun h3 => ?_)
      · refine Z.iconst (v := 0) dX7_mayClash_43 (by decide) ?_
        exact Z.zret dX7_mayClash_44 rfl (by decide) ⟨by simp [mcF, bI, h1, h2, h3], hE, rfl⟩
      · refine Z.iconst (v := 1) dX7_mayClash_39 (by decide) ?_
        refine Z.goto (tgt := 44) dX7_mayClash_40 (by decide) ?_
        exact Z.zret dX7_mayClash_44 rfl (by decide) ⟨by simp [mcF, bI, h1, h2, h3], hE, rfl⟩

set_option maxHeartbeats 4000000 in
set_option maxRecDepth 100000 in
theorem ct_clashes {g : GP} {I J : IM} {S : SH} (hE : Ex I J) (a b c t g_ h_ : Int32) (hF : Fx S) {n : Nat} (hn : Mp I n) {nq : Nat} (hq : Mq I nq) : Z g 5 0 0 mX7_clashes 0 (enL mX7_clashes [.ref 35, .int a, .int b, .int c, .int t, .int g_, .int h_]) [] J S (PQ (.int (bI (chF (pM I n) (qM I nq) (I 35 9) a b c t g_ h_))) J S) := by
  show Z g 5 0 0 mX7_clashes 0 [.ref 35, .int a, .int b, .int c, .int t, .int g_, .int h_, .retAddr 0, .retAddr 0] [] J S _
  refine Z.aload_n dX7_clashes_0 rfl ?_
  refine Z.iload_n dX7_clashes_1 rfl ?_
  refine Z.iload dX7_clashes_2 rfl ?_
  refine Z.iload dX7_clashes_4 rfl ?_
  refine Z.iload dX7_clashes_6 rfl ?_
  refine Z.callVp (M := mX7_clashes) (pc := 8) (st := []) (N := mX7_isNear) (n := 4) (r := .int (bI (neF (pM I n) (qM I nq) (I 35 9) a g_ h_ t))) dX7_clashes_8 mlX7_176 mkX7_isNear imX7_isNear seX7_isNear (fx35 hF) cl7 rfl (d1 := 2) (by decide) (As := [.int a, .int g_, .int h_, .int t]) rfl ⟨rfl, Nat.le_of_ble_eq_true rfl⟩ ⟨rfl, Nat.le_of_ble_eq_true rfl⟩ (ct_isNear hE a g_ h_ t hF hn hq) rfl ?_
  refine Z.if_eqB (tgt := 40) dX7_clashes_11 (by decide) (fun h1 => ?_) (fun h1 => ?_)
  · refine Z.iconst (v := 0) dX7_clashes_40 (by decide) ?_
    exact Z.zret dX7_clashes_41 rfl (by decide) ⟨by simp [chF, bI, h1], rfl, rfl⟩
  · refine Z.aload_n dX7_clashes_14 rfl ?_
    refine Z.iload_n dX7_clashes_15 rfl ?_
    refine Z.iload dX7_clashes_16 rfl ?_
    refine Z.iload_n dX7_clashes_18 rfl ?_
    refine Z.iload dX7_clashes_19 rfl ?_
    refine Z.callVp (M := mX7_clashes) (pc := 21) (st := []) (N := mX7_stands) (n := 4) (r := .int (bI (standsF (pM I n) a g_ c t))) dX7_clashes_21 mlX7_180 mkX7_stands imX7_stands seX7_stands (fx35 hF) cl7 rfl (d1 := 4) (by decide) (As := [.int a, .int g_, .int c, .int t]) rfl ⟨rfl, Nat.le_of_ble_eq_true rfl⟩ ⟨rfl, Nat.le_of_ble_eq_true rfl⟩ (ct_stands hE a g_ c t hF hn) rfl ?_
    refine Z.if_eqB (tgt := 40) dX7_clashes_24 (by decide) (fun h2 => ?_) (fun h2 => ?_)
    · refine Z.iconst (v := 0) dX7_clashes_40 (by decide) ?_
      exact Z.zret dX7_clashes_41 rfl (by decide) ⟨by simp [chF, bI, h1, h2], rfl, rfl⟩
    · refine Z.aload_n dX7_clashes_27 rfl ?_
      refine Z.iload_n dX7_clashes_28 rfl ?_
      refine Z.iload dX7_clashes_29 rfl ?_
      refine Z.iload_n dX7_clashes_31 rfl ?_
      refine Z.iload dX7_clashes_32 rfl ?_
      refine Z.callVp (M := mX7_clashes) (pc := 34) (st := []) (N := mX7_stands) (n := 4) (r := .int (bI (standsF (pM I n) b h_ c t))) dX7_clashes_34 mlX7_180 mkX7_stands imX7_stands seX7_stands (fx35 hF) cl7 rfl (d1 := 4) (by decide) (As := [.int b, .int h_, .int c, .int t]) rfl ⟨rfl, Nat.le_of_ble_eq_true rfl⟩ ⟨rfl, Nat.le_of_ble_eq_true rfl⟩ (ct_stands hE b h_ c t hF hn) rfl ?_
      refine Z.if_neB (tgt := 42) dX7_clashes_37 (by decide) (fun h3 => ?_) (fun h3 => ?_)
      · refine Z.aload_n dX7_clashes_42 rfl ?_
        refine Z.iload_n dX7_clashes_43 rfl ?_
        refine Z.iload dX7_clashes_44 rfl ?_
        refine Z.iload_n dX7_clashes_46 rfl ?_
        refine Z.iload dX7_clashes_47 rfl ?_
        refine Z.callVp (M := mX7_clashes) (pc := 49) (st := []) (N := mX7_rightOf) (n := 4) (r := .int (rightF (pM I n) a g_ c t)) dX7_clashes_49 mlX7_158 mkX7_rightOf imX7_rightOf seX7_rightOf (fx35 hF) cl7 rfl (d1 := 2) (by decide) (As := [.int a, .int g_, .int c, .int t]) rfl ⟨rfl, Nat.le_of_ble_eq_true rfl⟩ ⟨rfl, Nat.le_of_ble_eq_true rfl⟩ (ct_rightOf hE a g_ c t hF hn) rfl ?_
        refine Z.istore (L' := [.ref 35, .int a, .int b, .int c, .int t, .int g_, .int h_, .int (rightF (pM I n) a g_ c t), .retAddr 0]) dX7_clashes_52 (Nat.le_of_ble_eq_true rfl) rfl ?_
        refine Z.aload_n dX7_clashes_54 rfl ?_
        refine Z.iload_n dX7_clashes_55 rfl ?_
        refine Z.iload dX7_clashes_56 rfl ?_
        refine Z.iload_n dX7_clashes_58 rfl ?_
        refine Z.iload dX7_clashes_59 rfl ?_
        refine Z.callVp (M := mX7_clashes) (pc := 61) (st := []) (N := mX7_rightOf) (n := 4) (r := .int (rightF (pM I n) b h_ c t)) dX7_clashes_61 mlX7_158 mkX7_rightOf imX7_rightOf seX7_rightOf (fx35 hF) cl7 rfl (d1 := 2) (by decide) (As := [.int b, .int h_, .int c, .int t]) rfl ⟨rfl, Nat.le_of_ble_eq_true rfl⟩ ⟨rfl, Nat.le_of_ble_eq_true rfl⟩ (ct_rightOf hE b h_ c t hF hn) rfl ?_
        refine Z.istore (L' := [.ref 35, .int a, .int b, .int c, .int t, .int g_, .int h_, .int (rightF (pM I n) a g_ c t), .int (rightF (pM I n) b h_ c t)]) dX7_clashes_64 (Nat.le_of_ble_eq_true rfl) rfl ?_
        refine Z.iload dX7_clashes_66 rfl ?_
        refine Z.iload dX7_clashes_68 rfl ?_
        refine Z.icmp_lt (tgt := 85) dX7_clashes_70 (by decide) (fun h4 => ?_) (fun h4 => ?_)
        · refine Z.aload_n dX7_clashes_85 rfl ?_
          refine Z.iload_n dX7_clashes_86 rfl ?_
          refine Z.iload dX7_clashes_87 rfl ?_
          refine Z.iload_n dX7_clashes_89 rfl ?_
          refine Z.iload dX7_clashes_90 rfl ?_
          refine Z.callVp (M := mX7_clashes) (pc := 92) (st := []) (N := mX7_stands) (n := 4) (r := .int (bI (standsF (pM I n) a g_ c (rightF (pM I n) b h_ c t)))) dX7_clashes_92 mlX7_180 mkX7_stands imX7_stands seX7_stands (fx35 hF) cl7 rfl (d1 := 4) (by decide) (As := [.int a, .int g_, .int c, .int (rightF (pM I n) b h_ c t)]) rfl ⟨rfl, Nat.le_of_ble_eq_true rfl⟩ ⟨rfl, Nat.le_of_ble_eq_true rfl⟩ (ct_stands hE a g_ c (rightF (pM I n) b h_ c t) hF hn) rfl ?_
          refine Z.if_eqB (tgt := 102) dX7_clashes_95 (by decide) (fun h5 => ?_) (fun h5 => ?_)
          · refine Z.iconst (v := 0) dX7_clashes_102 (by decide) ?_
            exact Z.zret dX7_clashes_103 rfl (by decide) ⟨by simp [chF, bI, h1, h2, h3, h4, h5], rfl, rfl⟩
          · refine Z.iconst (v := 1) dX7_clashes_98 (by decide) ?_
            refine Z.goto (tgt := 103) dX7_clashes_99 (by decide) ?_
            exact Z.zret dX7_clashes_103 rfl (by decide) ⟨by simp [chF, bI, h1, h2, h3, h4, h5], rfl, rfl⟩
        · refine Z.iload dX7_clashes_73 rfl ?_
          refine Z.iload dX7_clashes_75 rfl ?_
          refine Z.icmp_ne (tgt := 102) dX7_clashes_77 (by decide) (fun h6 => ?_) (fun h6 => ?_)
          · refine Z.iconst (v := 0) dX7_clashes_102 (by decide) ?_
            exact Z.zret dX7_clashes_103 rfl (by decide) ⟨by simp [chF, bI, h1, h2, h3, h4, h6], rfl, rfl⟩
          · refine Z.iload_n dX7_clashes_80 rfl ?_
            refine Z.iload_n dX7_clashes_81 rfl ?_
            refine Z.icmp_ge (tgt := 102) dX7_clashes_82 (by decide) (fun h7 => ?_) (fun h7 => ?_)
            · refine Z.iconst (v := 0) dX7_clashes_102 (by decide) ?_
              exact Z.zret dX7_clashes_103 rfl (by decide) ⟨by simp [chF, bI, h1, h2, h3, h4, h6, h7], rfl, rfl⟩
            · refine Z.aload_n dX7_clashes_85 rfl ?_
              refine Z.iload_n dX7_clashes_86 rfl ?_
              refine Z.iload dX7_clashes_87 rfl ?_
              refine Z.iload_n dX7_clashes_89 rfl ?_
              refine Z.iload dX7_clashes_90 rfl ?_
              refine Z.callVp (M := mX7_clashes) (pc := 92) (st := []) (N := mX7_stands) (n := 4) (r := .int (bI (standsF (pM I n) a g_ c (rightF (pM I n) b h_ c t)))) dX7_clashes_92 mlX7_180 mkX7_stands imX7_stands seX7_stands (fx35 hF) cl7 rfl (d1 := 4) (by decide) (As := [.int a, .int g_, .int c, .int (rightF (pM I n) b h_ c t)]) rfl ⟨rfl, Nat.le_of_ble_eq_true rfl⟩ ⟨rfl, Nat.le_of_ble_eq_true rfl⟩ (ct_stands hE a g_ c (rightF (pM I n) b h_ c t) hF hn) rfl ?_
              refine Z.if_eqB (tgt := 102) dX7_clashes_95 (by decide) (fun h8 => ?_) (fun h8 => ?_)
              · refine Z.iconst (v := 0) dX7_clashes_102 (by decide) ?_
                exact Z.zret dX7_clashes_103 rfl (by decide) ⟨by simp [chF, bI, h1, h2, h3, h4, h6, h7, h8], rfl, rfl⟩
              · refine Z.iconst (v := 1) dX7_clashes_98 (by decide) ?_
                refine Z.goto (tgt := 103) dX7_clashes_99 (by decide) ?_
                exact Z.zret dX7_clashes_103 rfl (by decide) ⟨by simp [chF, bI, h1, h2, h3, h4, h6, h7, h8], rfl, rfl⟩
      · refine Z.iconst (v := 0) dX7_clashes_40 (by decide) ?_
        exact Z.zret dX7_clashes_41 rfl (by decide) ⟨by simp [chF, bI, h1, h2, h3], rfl, rfl⟩

def coO (o : Option (Nat × Nat)) (v : Nat × Nat → Int32) : Int32 := match o with
  | some x => v x
  | none => -1
def coF (I : IM) (n nq a b : Nat) (c t : Int32) : Int32 := if mcF I n a b t = true then coO (fs2 (fun i j => chF (pM I n) (qM I nq) (I 35 9) (nI a) (nI b) c t ((gS (pM I n) (nI a) t).2 i) ((gS (pM I n) (nI b) t).2 j)) (gS (pM I n) (nI b) t).1 (gS (pM I n) (nI a) t).1 0) (fun (x : Nat × Nat) => 360 * (gS (pM I n) (nI a) t).2 x.1 + (gS (pM I n) (nI b) t).2 x.2) else -1
def crF (I : IM) (n nq a b : Nat) (c t : Int32) : Int32 := if mcF I n a b t = true then crI (fun i j => chF (pM I n) (qM I nq) (I 35 9) (nI a) (nI b) c t ((gS (pM I n) (nI a) t).2 i) ((gS (pM I n) (nI b) t).2 j)) (fun i => rightF (pM I n) (nI a) ((gS (pM I n) (nI a) t).2 i) c t) (gS (pM I n) (nI b) t).1 (gS (pM I n) (nI a) t).1 else -1
set_option maxHeartbeats 4000000 in
set_option maxRecDepth 100000 in
theorem lp_co2 {g : GP} {I J : IM} {S : SH} (hE : Ex I J) (a b : Nat) (c t : Int32) (hF : Fx S) {n : Nat} (hn : Mp I n) {nq : Nat} (hq : Mq I nq) (hM : MIv I) (ha : a < 120) (hb : b < 120) (fA56 fB57 : Nat → Int32) (hfA56 : ∀ k, k < (gS (pM I n) (nI a) t).1 → fA56 k = (gS (pM I n) (nI a) t).2 k) (hfB57 : ∀ k, k < (gS (pM I n) (nI b) t).1 → fB57 k = (gS (pM I n) (nI b) t).2 k) (i : Nat) (hi : i < (gS (pM I n) (nI a) t).1) (hk : fstW ((fun i j => chF (pM I n) (qM I nq) (I 35 9) (nI a) (nI b) c t ((gS (pM I n) (nI a) t).2 i) ((gS (pM I n) (nI b) t).2 j)) i) (gS (pM I n) (nI b) t).1 0 = none → Z g 7 0 0 mX7_clashOf 42 [.ref 35, .int (nI a), .int (nI b), .int c, .int t, .int (nI ((gS (pM I n) (nI a) t).1)), .int (nI ((gS (pM I n) (nI b) t).1)), .int (nI (i + 1)), .retAddr 0] [] (va_up (va_up J 56 fA56) 57 fB57) S (NQ (.int (coF I n nq a b c t)) I S)) (hr : ∀ j, fstW ((fun i j => chF (pM I n) (qM I nq) (I 35 9) (nI a) (nI b) c t ((gS (pM I n) (nI a) t).2 i) ((gS (pM I n) (nI b) t).2 j)) i) (gS (pM I n) (nI b) t).1 0 = some j → coF I n nq a b c t = 360 * (gS (pM I n) (nI a) t).2 i + (gS (pM I n) (nI b) t).2 j) : ∀ j, j ≤ (gS (pM I n) (nI b) t).1 → fstW ((fun i j => chF (pM I n) (qM I nq) (I 35 9) (nI a) (nI b) c t ((gS (pM I n) (nI a) t).2 i) ((gS (pM I n) (nI b) t).2 j)) i) (gS (pM I n) (nI b) t).1 0 = fstW ((fun i j => chF (pM I n) (qM I nq) (I 35 9) (nI a) (nI b) c t ((gS (pM I n) (nI a) t).2 i) ((gS (pM I n) (nI b) t).2 j)) i) ((gS (pM I n) (nI b) t).1 - j) j → Z g 7 0 0 mX7_clashOf 52 [.ref 35, .int (nI a), .int (nI b), .int c, .int t, .int (nI ((gS (pM I n) (nI a) t).1)), .int (nI ((gS (pM I n) (nI b) t).1)), .int (nI i), .int (nI j)] [] (va_up (va_up J 56 fA56) 57 fB57) S (NQ (.int (coF I n nq a b c t)) I S) := by
  have hle1 : (gS (pM I n) (nI a) t).1 ≤ n := gS_le
  have hle2 : (gS (pM I n) (nI b) t).1 ≤ n := gS_le
  have hn2 := hn.2
  refine upZ _ (fun j hj ih hno => ?_)
  refine Z.iload dX7_clashOf_52 rfl ?_
  refine Z.iload dX7_clashOf_54 rfl ?_
  refine Z.icmp_geN (a := j) (b := (gS (pM I n) (nI b) t).1) (by omega) (by omega) (tgt := 111) dX7_clashOf_56 (by decide) (fun h1 => ?_) (fun h1 => ?_)
  · refine Z.iinc (v := nI (i + 1)) (L' := [.ref 35, .int (nI a), .int (nI b), .int c, .int t, .int (nI ((gS (pM I n) (nI a) t).1)), .int (nI ((gS (pM I n) (nI b) t).1)), .int (nI (i + 1)), .int (nI j)]) dX7_clashOf_111 rfl (nI_1 _) rfl ?_
    refine Z.goto (tgt := 42) dX7_clashOf_114 (by decide) ?_
    refine Z.drop (i := 8) (L' := [.ref 35, .int (nI a), .int (nI b), .int c, .int t, .int (nI ((gS (pM I n) (nI a) t).1)), .int (nI ((gS (pM I n) (nI b) t).1)), .int (nI (i + 1)), .retAddr 0]) rfl ?_
    exact hk (by rw [fstW_n (by omega)] at hno; exact hno)
  · refine Z.aload_n dX7_clashOf_59 rfl ?_
    refine Z.iload_n dX7_clashOf_60 rfl ?_
    refine Z.iload_n dX7_clashOf_61 rfl ?_
    refine Z.iload_n dX7_clashOf_62 rfl ?_
    refine Z.iload dX7_clashOf_63 rfl ?_
    refine Z.aload_n dX7_clashOf_65 rfl ?_
    refine Z.getR (r := 56) dX7_clashOf_66 cl7 flX7_70 (by decide) (fx35 hF) rfl ?_
    refine Z.iload dX7_clashOf_69 rfl ?_
    refine Z.ialdv (j := i) (v := (gS (pM I n) (nI a) t).2 i) dX7_clashOf_71 (fx56 hF) rfl (by omega) (by decide) (hfA56 i (by omega)) ?_
    refine Z.aload_n dX7_clashOf_72 rfl ?_
    refine Z.getR (r := 57) dX7_clashOf_73 cl7 flX7_73 (by decide) (fx35 hF) rfl ?_
    refine Z.iload dX7_clashOf_76 rfl ?_
    refine Z.ialdv (j := j) (v := (gS (pM I n) (nI b) t).2 j) dX7_clashOf_78 (fx57 hF) rfl (by omega) (by decide) (hfB57 j (by omega)) ?_
    refine Z.callVp (M := mX7_clashOf) (pc := 79) (st := []) (N := mX7_clashes) (n := 6) (r := .int (bI (chF (pM I n) (qM I nq) (I 35 9) (nI a) (nI b) c t ((gS (pM I n) (nI a) t).2 i) ((gS (pM I n) (nI b) t).2 j)))) dX7_clashOf_79 mlX7_190 mkX7_clashes imX7_clashes seX7_clashes (fx35 hF) cl7 rfl (d1 := 5) (by decide) (As := [.int (nI a), .int (nI b), .int c, .int t, .int ((gS (pM I n) (nI a) t).2 i), .int ((gS (pM I n) (nI b) t).2 j)]) rfl ⟨rfl, Nat.le_of_ble_eq_true rfl⟩ ⟨rfl, Nat.le_of_ble_eq_true rfl⟩ (ct_clashes ((hE.up (a := 56) rfl).up (a := 57) rfl) (nI a) (nI b) c t ((gS (pM I n) (nI a) t).2 i) ((gS (pM I n) (nI b) t).2 j) hF hn hq) rfl ?_
    refine Z.if_eqB (tgt := 105) dX7_clashOf_82 (by decide) (fun h2 => ?_) (fun h2 => ?_)
    · refine Z.iinc (v := nI (j + 1)) (L' := [.ref 35, .int (nI a), .int (nI b), .int c, .int t, .int (nI ((gS (pM I n) (nI a) t).1)), .int (nI ((gS (pM I n) (nI b) t).1)), .int (nI i), .int (nI (j + 1))]) dX7_clashOf_105 rfl (nI_1 _) rfl ?_
      refine Z.goto (tgt := 52) dX7_clashOf_108 (by decide) ?_
      exact ih (by omega) (by rw [fstW_s (by omega), if_neg (by rw [show (fun i j => chF (pM I n) (qM I nq) (I 35 9) (nI a) (nI b) c t ((gS (pM I n) (nI a) t).2 i) ((gS (pM I n) (nI b) t).2 j)) i j = false from h2]; decide)] at hno; exact hno)
    · refine Z.sipush (v := 360) dX7_clashOf_85 (by decide) ?_
      refine Z.aload_n dX7_clashOf_88 rfl ?_
      refine Z.getR (r := 56) dX7_clashOf_89 cl7 flX7_70 (by decide) (fx35 hF) rfl ?_
      refine Z.iload dX7_clashOf_92 rfl ?_
      refine Z.ialdv (j := i) (v := (gS (pM I n) (nI a) t).2 i) dX7_clashOf_94 (fx56 hF) rfl (by omega) (by decide) (hfA56 i (by omega)) ?_
      refine Z.imul dX7_clashOf_95 ?_
      refine Z.aload_n dX7_clashOf_96 rfl ?_
      refine Z.getR (r := 57) dX7_clashOf_97 cl7 flX7_73 (by decide) (fx35 hF) rfl ?_
      refine Z.iload dX7_clashOf_100 rfl ?_
      refine Z.ialdv (j := j) (v := (gS (pM I n) (nI b) t).2 j) dX7_clashOf_102 (fx57 hF) rfl (by omega) (by decide) (hfB57 j (by omega)) ?_
      refine Z.iadd dX7_clashOf_103 ?_
      exact Z.iret dX7_clashOf_104 rfl ⟨by rw [hr j (by rw [fstW_s (by omega), if_pos h2] at hno; exact hno)], ((hE.up (a := 56) rfl).up (a := 57) rfl), rfl⟩

set_option maxHeartbeats 4000000 in
set_option maxRecDepth 100000 in
theorem lp_co1 {g : GP} {I J : IM} {S : SH} (hE : Ex I J) (a b : Nat) (c t : Int32) (hF : Fx S) {n : Nat} (hn : Mp I n) {nq : Nat} (hq : Mq I nq) (hM : MIv I) (ha : a < 120) (hb : b < 120) (fA56 fB57 : Nat → Int32) (hfA56 : ∀ k, k < (gS (pM I n) (nI a) t).1 → fA56 k = (gS (pM I n) (nI a) t).2 k) (hfB57 : ∀ k, k < (gS (pM I n) (nI b) t).1 → fB57 k = (gS (pM I n) (nI b) t).2 k) (hmc : mcF I n a b t = true) : ∀ i, i ≤ (gS (pM I n) (nI a) t).1 → fs2 (fun i j => chF (pM I n) (qM I nq) (I 35 9) (nI a) (nI b) c t ((gS (pM I n) (nI a) t).2 i) ((gS (pM I n) (nI b) t).2 j)) (gS (pM I n) (nI b) t).1 (gS (pM I n) (nI a) t).1 0 = fs2 (fun i j => chF (pM I n) (qM I nq) (I 35 9) (nI a) (nI b) c t ((gS (pM I n) (nI a) t).2 i) ((gS (pM I n) (nI b) t).2 j)) (gS (pM I n) (nI b) t).1 ((gS (pM I n) (nI a) t).1 - i) i → Z g 7 0 0 mX7_clashOf 42 [.ref 35, .int (nI a), .int (nI b), .int c, .int t, .int (nI ((gS (pM I n) (nI a) t).1)), .int (nI ((gS (pM I n) (nI b) t).1)), .int (nI i), .retAddr 0] [] (va_up (va_up J 56 fA56) 57 fB57) S (NQ (.int (coF I n nq a b c t)) I S) := by
  have hle1 : (gS (pM I n) (nI a) t).1 ≤ n := gS_le
  have hle2 : (gS (pM I n) (nI b) t).1 ≤ n := gS_le
  have hn2 := hn.2
  refine upZ _ (fun i hi ih hno => ?_)
  refine Z.iload dX7_clashOf_42 rfl ?_
  refine Z.iload dX7_clashOf_44 rfl ?_
  refine Z.icmp_geN (a := i) (b := (gS (pM I n) (nI a) t).1) (by omega) (by omega) (tgt := 117) dX7_clashOf_46 (by decide) (fun h1 => ?_) (fun h1 => ?_)
  · refine Z.iconst (v := (-1)) dX7_clashOf_117 (by decide) ?_
    exact Z.iret dX7_clashOf_118 rfl ⟨by rw [fs2_n (by omega)] at hno; rw [coF, if_pos hmc, hno]; rfl, ((hE.up (a := 56) rfl).up (a := 57) rfl), rfl⟩
  · refine Z.iconst (v := 0) dX7_clashOf_49 (by decide) ?_
    refine Z.istore (L' := [.ref 35, .int (nI a), .int (nI b), .int c, .int t, .int (nI ((gS (pM I n) (nI a) t).1)), .int (nI ((gS (pM I n) (nI b) t).1)), .int (nI i), .int 0]) dX7_clashOf_50 (Nat.le_of_ble_eq_true rfl) rfl ?_
    refine lp_co2 hE a b c t hF hn hq hM ha hb fA56 fB57 hfA56 hfB57 i (by omega) (fun hnone => ih (by omega) ?_) (fun j hj => ?_) 0 (Nat.zero_le _) rfl
    · rw [fs2_s (by omega), hnone] at hno
      exact hno
    · rw [fs2_s (by omega), hj] at hno
      rw [coF, if_pos hmc, hno]
      rfl

set_option maxHeartbeats 4000000 in
set_option maxRecDepth 100000 in
theorem ct_clashOf {g : GP} {I J : IM} {S : SH} (hE : Ex I J) (a b : Nat) (c t : Int32) (hF : Fx S) {n : Nat} (hn : Mp I n) {nq : Nat} (hq : Mq I nq) (hM : MIv I) (ha : a < 120) (hb : b < 120) : Z g 7 0 0 mX7_clashOf 0 (enL mX7_clashOf [.ref 35, .int (nI a), .int (nI b), .int c, .int t]) [] J S (NQ (.int (coF I n nq a b c t)) I S) := by
  show Z g 7 0 0 mX7_clashOf 0 [.ref 35, .int (nI a), .int (nI b), .int c, .int t, .retAddr 0, .retAddr 0, .retAddr 0, .retAddr 0] [] J S _
  have hn2 := hn.2
  refine Z.aload_n dX7_clashOf_0 rfl ?_
  refine Z.iload_n dX7_clashOf_1 rfl ?_
  refine Z.iload_n dX7_clashOf_2 rfl ?_
  refine Z.iload dX7_clashOf_3 rfl ?_
  refine Z.callVg (M := mX7_clashOf) (pc := 5) (st := []) (N := mX7_mayClash) (n := 3) dX7_clashOf_5 mlX7_183 mkX7_mayClash imX7_mayClash seX7_mayClash (fx35 hF) cl7 rfl (d1 := 6) (by decide) (As := [.int (nI a), .int (nI b), .int t]) rfl ⟨rfl, Nat.le_of_ble_eq_true rfl⟩ ⟨rfl, Nat.le_of_ble_eq_true rfl⟩ (ct_mayClash hE a b t hF hn hM (by omega) (by omega)) rfl (fun v_ J1 S_ h_ => ?_)
  obtain ⟨rfl, hE, rfl⟩ := h_
  refine Z.if_neB (tgt := 13) dX7_clashOf_8 (by decide) (fun h1 => ?_) (fun h1 => ?_)
  · refine Z.aload_n dX7_clashOf_13 rfl ?_
    refine Z.iload_n dX7_clashOf_14 rfl ?_
    refine Z.iload dX7_clashOf_15 rfl ?_
    refine Z.aload_n dX7_clashOf_17 rfl ?_
    refine Z.getR (r := 56) dX7_clashOf_18 cl7 flX7_70 (by decide) (fx35 hF) rfl ?_
    refine Z.callVg (M := mX7_clashOf) (pc := 21) (st := []) (N := mX7_goodsInto) (n := 3) dX7_clashOf_21 mlX7_186 mkX7_goodsInto imX7_goodsInto seX7_goodsInto (fx35 hF) cl7 rfl (d1 := 2) (by decide) (As := [.int (nI a), .int t, .ref 56]) rfl ⟨rfl, Nat.le_of_ble_eq_true rfl⟩ ⟨rfl, Nat.le_of_ble_eq_true rfl⟩ (ct_goodsA2 hE (nI a) t hF hn) rfl (fun v_ J2 S_ h_ => ?_)
    obtain ⟨rfl, fA56, rfl, hfA56, rfl⟩ := h_
    have hfA56le : (gS (pM I n) (nI a) t).1 ≤ n := gS_le
    refine Z.istore (L' := [.ref 35, .int (nI a), .int (nI b), .int c, .int t, .int (nI ((gS (pM I n) (nI a) t).1)), .retAddr 0, .retAddr 0, .retAddr 0]) dX7_clashOf_24 (Nat.le_of_ble_eq_true rfl) rfl ?_
    refine Z.aload_n dX7_clashOf_26 rfl ?_
    refine Z.iload_n dX7_clashOf_27 rfl ?_
    refine Z.iload dX7_clashOf_28 rfl ?_
    refine Z.aload_n dX7_clashOf_30 rfl ?_
    refine Z.getR (r := 57) dX7_clashOf_31 cl7 flX7_73 (by decide) (fx35 hF) rfl ?_
    refine Z.callVg (M := mX7_clashOf) (pc := 34) (st := []) (N := mX7_goodsInto) (n := 3) dX7_clashOf_34 mlX7_186 mkX7_goodsInto imX7_goodsInto seX7_goodsInto (fx35 hF) cl7 rfl (d1 := 2) (by decide) (As := [.int (nI b), .int t, .ref 57]) rfl ⟨rfl, Nat.le_of_ble_eq_true rfl⟩ ⟨rfl, Nat.le_of_ble_eq_true rfl⟩ (ct_goodsB2 (hE.up (a := 56) rfl) (nI b) t hF hn) rfl (fun v_ J3 S_ h_ => ?_)
    obtain ⟨rfl, fB57, rfl, hfB57, rfl⟩ := h_
    have hfB57le : (gS (pM I n) (nI b) t).1 ≤ n := gS_le
    refine Z.istore (L' := [.ref 35, .int (nI a), .int (nI b), .int c, .int t, .int (nI ((gS (pM I n) (nI a) t).1)), .int (nI ((gS (pM I n) (nI b) t).1)), .retAddr 0, .retAddr 0]) dX7_clashOf_37 (Nat.le_of_ble_eq_true rfl) rfl ?_
    refine Z.iconst (v := 0) dX7_clashOf_39 (by decide) ?_
    refine Z.istore (L' := [.ref 35, .int (nI a), .int (nI b), .int c, .int t, .int (nI ((gS (pM I n) (nI a) t).1)), .int (nI ((gS (pM I n) (nI b) t).1)), .int 0, .retAddr 0]) dX7_clashOf_40 (Nat.le_of_ble_eq_true rfl) rfl ?_
    exact lp_co1 hE a b c t hF hn hq hM ha hb fA56 fB57 hfA56 hfB57 h1 0 (Nat.zero_le _) rfl
  · refine Z.iconst (v := (-1)) dX7_clashOf_11 (by decide) ?_
    exact Z.iret dX7_clashOf_12 rfl ⟨by simp [coF, h1], hE, rfl⟩

