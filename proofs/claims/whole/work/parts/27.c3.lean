theorem up_eqk {I : IM} {a k : Nat} {f : Nat → Int32} : va_up I a f a k = f k := by simp [va_up]
theorem up_nek {I : IM} {a b k : Nat} {f : Nat → Int32} (h : ¬ a = b) : va_up I b f a k = I a k := by simp [va_up, h]
/-- how many codes mark j may have -/
def clL (I : IM) (j : Nat) : Nat := if I 43 j = 1 ∨ I 43 j = 2 then 12 else 0
theorem clL_le {I : IM} {j : Nat} : clL I j ≤ 12 := by unfold clL; split <;> omega
/-- the class's mark j -/
def Mo (I : IM) (S : SH) (j : Nat) : Prop := Mk S (58 + 3 * j) (clL I j) ∧ Cm1 I j ∧ (I 47 j).toNatClampNeg ≤ clL I j
theorem scr58 (j k : Nat) : scr (58 + 3 * j + k) = false := scr_ge (by omega)
theorem scr58_0 (j : Nat) : scr (58 + 3 * j) = false := scr_ge (by omega)
set_option maxHeartbeats 4000000 in
set_option maxRecDepth 100000 in
theorem cc_hasPicture {g : GP} {I J : IM} {S : SH} (hE : Ex I J)  (hF : Fx S) (hC : Cp I) (hM : MIv I) {j : Nat} (h_j : j < 120) (ho_j : Mo I S j) : Z g 0 0 0 mX1_hasPicture 0 (enL mX1_hasPicture [.ref (58 + 3 * j)]) [] J S (PQ (.int (bI (decide (I 43 j = 1) || decide (I 43 j = 2)))) J S) := by
  show Z g 0 0 0 mX1_hasPicture 0 [.ref (58 + 3 * j)] [] J S _
  have hw := hM.2.2.2.2.1
  have hl_j := hM.2.2.1 _ h_j
  have hc_j := hM.2.2.2.1 _ h_j
  have hl2_j := hl_j.2
  have hc2_j := hc_j.2
  have hcl_j := ho_j.2.2
  have h12_j := clL_le (I := I) (j := j)
  refine Z.aload_n dX1_hasPicture_0 rfl ?_
  refine Z.getIv (v := I 43 j) dX1_hasPicture_1 cl1 flX1_22 (by decide) ho_j.1.1 ((hE.at (58 + 3 * j) 0 (scr58_0 j)).trans ho_j.2.1.1) ?_
  refine Z.iconst (v := 1) dX1_hasPicture_4 (by decide) ?_
  refine Z.icmp_eq (tgt := 16) dX1_hasPicture_5 (by decide) (fun h1 => ?_) (fun h1 => ?_)
  · refine Z.iconst (v := 1) dX1_hasPicture_16 (by decide) ?_
    refine Z.goto (tgt := 21) dX1_hasPicture_17 (by decide) ?_
    exact Z.zret dX1_hasPicture_21 rfl (by decide) ⟨by simp [bI, eq_true h1], rfl, rfl⟩
  · refine Z.aload_n dX1_hasPicture_8 rfl ?_
    refine Z.getIv (v := I 43 j) dX1_hasPicture_9 cl1 flX1_22 (by decide) ho_j.1.1 ((hE.at (58 + 3 * j) 0 (scr58_0 j)).trans ho_j.2.1.1) ?_
    refine Z.iconst (v := 2) dX1_hasPicture_12 (by decide) ?_
    refine Z.icmp_ne (tgt := 20) dX1_hasPicture_13 (by decide) (fun h2 => ?_) (fun h2 => ?_)
    · refine Z.iconst (v := 0) dX1_hasPicture_20 (by decide) ?_
      exact Z.zret dX1_hasPicture_21 rfl (by decide) ⟨by simp [bI, h1, h2], rfl, rfl⟩
    · refine Z.iconst (v := 1) dX1_hasPicture_16 (by decide) ?_
      refine Z.goto (tgt := 21) dX1_hasPicture_17 (by decide) ?_
      exact Z.zret dX1_hasPicture_21 rfl (by decide) ⟨by simp [bI, h1, eq_true h2], rfl, rfl⟩

set_option maxHeartbeats 4000000 in
set_option maxRecDepth 100000 in
theorem lc_hasCode {g : GP} {I J : IM} {S : SH} (hE : Ex I J) (c : Int32) (hF : Fx S) (hC : Cp I) (hM : MIv I) {j : Nat} (h_j : j < 120) (ho_j : Mo I S j) : ∀ i, i ≤ (I 47 j).toNatClampNeg → (∀ k, k < i → ¬ I 48 (12 * j + k) = c) → Z g 0 0 0 mX1_hasCode 2 [.ref (58 + 3 * j), .int c, .int (nI i)] [] J S (PQ (.int (bI (hasCF (I 48) (12 * j) (I 47 j) c))) J S) := by
  refine upZ ((I 47 j).toNatClampNeg) (fun i hi ih hno => ?_)
  have hw := hM.2.2.2.2.1
  have hl_j := hM.2.2.1 _ h_j
  have hc_j := hM.2.2.2.1 _ h_j
  have hl2_j := hl_j.2
  have hc2_j := hc_j.2
  have hcl_j := ho_j.2.2
  have h12_j := clL_le (I := I) (j := j)
  refine Z.iload_n dX1_hasCode_2 rfl ?_
  refine Z.aload_n dX1_hasCode_3 rfl ?_
  refine Z.getIv (v := nI ((I 47 j).toNatClampNeg)) dX1_hasCode_4 cl1 flX1_19 (by decide) ho_j.1.1 ((hE.at (58 + 3 * j) 5 (scr58_0 j)).trans (ho_j.2.1.2.2.2.1.trans hc_j.1)) ?_
  refine Z.icmp_geN (a := i) (b := (I 47 j).toNatClampNeg) (by omega) (by omega) (tgt := 28) dX1_hasCode_7 (by decide) (fun h1 => ?_) (fun h1 => ?_)
  · refine Z.iconst (v := 0) dX1_hasCode_28 (by decide) ?_
    exact Z.zret dX1_hasCode_29 rfl (by decide) ⟨by rw [hasCF, hasCU_f (fun k hk => hno k (by omega))]; rfl, rfl, rfl⟩
  · refine Z.aload_n dX1_hasCode_10 rfl ?_
    refine Z.getR (r := 58 + 3 * j + 2) dX1_hasCode_11 cl1 flX1_28 (by decide) ho_j.1.1 rfl ?_
    refine Z.iload_n dX1_hasCode_14 rfl ?_
    refine Z.ialdv (j := i) (v := I 48 (12 * j + i)) dX1_hasCode_15 ho_j.1.2.2 rfl (by omega) (by omega) ((hE.at (58 + 3 * j + 2) i (scr58 j 2)).trans (ho_j.2.1.2.2.2.2.2 i (by omega))) ?_
    refine Z.iload_n dX1_hasCode_16 rfl ?_
    refine Z.icmp_ne (tgt := 22) dX1_hasCode_17 (by decide) (fun h2 => ?_) (fun h2 => ?_)
    · refine Z.iinc (v := nI (i + 1)) (L' := [.ref (58 + 3 * j), .int c, .int (nI (i + 1))]) dX1_hasCode_22 rfl (nI_1 _) rfl ?_
      refine Z.goto (tgt := 2) dX1_hasCode_25 (by decide) ?_
      exact ih (by omega) (fun k hk => by by_cases q : k = i; exact q ▸ h2; exact hno k (by omega))
    · refine Z.iconst (v := 1) dX1_hasCode_20 (by decide) ?_
      exact Z.zret dX1_hasCode_21 rfl (by decide) ⟨by rw [hasCF, hasCU_t (i := i) (by omega) h2]; rfl, rfl, rfl⟩

set_option maxHeartbeats 4000000 in
set_option maxRecDepth 100000 in
theorem cc_hasCode {g : GP} {I J : IM} {S : SH} (hE : Ex I J) (c : Int32) (hF : Fx S) (hC : Cp I) (hM : MIv I) {j : Nat} (h_j : j < 120) (ho_j : Mo I S j) : Z g 0 0 0 mX1_hasCode 0 (enL mX1_hasCode [.ref (58 + 3 * j), .int c]) [] J S (PQ (.int (bI (hasCF (I 48) (12 * j) (I 47 j) c))) J S) := by
  show Z g 0 0 0 mX1_hasCode 0 [.ref (58 + 3 * j), .int c, .retAddr 0] [] J S _
  refine Z.iconst (v := 0) dX1_hasCode_0 (by decide) ?_
  refine Z.istore_n (L' := [.ref (58 + 3 * j), .int c, .int 0]) dX1_hasCode_1 (Nat.le_of_ble_eq_true rfl) rfl ?_
  exact lc_hasCode hE c hF hC hM h_j ho_j 0 (Nat.zero_le _) (fun k hk => absurd hk (Nat.not_lt_zero _))

def alN (I J : IM) (j : Nat) (l : Int32) : IM := va_up (va_up J (58 + 3 * j + 1) (upd (J (58 + 3 * j + 1)) (I 45 j).toNatClampNeg l)) (58 + 3 * j) (upd (J (58 + 3 * j)) 4 (nI ((I 45 j).toNatClampNeg + 1)))
def acN (I J : IM) (j : Nat) (c : Int32) : IM := va_up (va_up J (58 + 3 * j + 2) (upd (J (58 + 3 * j + 2)) (I 47 j).toNatClampNeg c)) (58 + 3 * j) (upd (J (58 + 3 * j)) 5 (nI ((I 47 j).toNatClampNeg + 1)))
set_option maxHeartbeats 4000000 in
set_option maxRecDepth 100000 in
theorem cc_addLetter {g : GP} {I J : IM} {S : SH} (hE : Ex I J) (l : Int32) (hF : Fx S) (hC : Cp I) (hM : MIv I) {j : Nat} (h_j : j < 120) (ho_j : Mo I S j) : Z g 0 0 0 mX1_addLetter 0 (enL mX1_addLetter [.ref (58 + 3 * j), .int l]) [] J S (PQ (.int (if (I 45 j).toNatClampNeg < 40 then nI ((I 45 j).toNatClampNeg + 1) else -1)) (if (I 45 j).toNatClampNeg < 40 then alN I J j l else J) S) := by
  show Z g 0 0 0 mX1_addLetter 0 [.ref (58 + 3 * j), .int l] [] J S _
  have hw := hM.2.2.2.2.1
  have hl_j := hM.2.2.1 _ h_j
  have hc_j := hM.2.2.2.1 _ h_j
  have hl2_j := hl_j.2
  have hc2_j := hc_j.2
  have hcl_j := ho_j.2.2
  have h12_j := clL_le (I := I) (j := j)
  refine Z.aload_n dX1_addLetter_0 rfl ?_
  refine Z.getIv (v := nI ((I 45 j).toNatClampNeg)) dX1_addLetter_1 cl1 flX1_15 (by decide) ho_j.1.1 ((hE.at (58 + 3 * j) 4 (scr58_0 j)).trans (ho_j.2.1.2.2.1.trans hl_j.1)) ?_
  refine Z.aload_n dX1_addLetter_4 rfl ?_
  refine Z.getR (r := 58 + 3 * j + 1) dX1_addLetter_5 cl1 flX1_9 (by decide) ho_j.1.1 rfl ?_
  refine Z.alen (k := 0) dX1_addLetter_8 ho_j.1.2.1 ?_
  refine Z.icmp_ltN (a := (I 45 j).toNatClampNeg) (b := 40) (by omega) (by decide) (tgt := 14) dX1_addLetter_9 (by decide) (fun h1 => ?_) (fun h1 => ?_)
  · refine Z.aload_n dX1_addLetter_14 rfl ?_
    refine Z.getR (r := 58 + 3 * j + 1) dX1_addLetter_15 cl1 flX1_9 (by decide) ho_j.1.1 rfl ?_
    refine Z.aload_n dX1_addLetter_18 rfl ?_
    refine Z.getIv (v := nI ((I 45 j).toNatClampNeg)) dX1_addLetter_19 cl1 flX1_15 (by decide) ho_j.1.1 ((hE.at (58 + 3 * j) 4 (scr58_0 j)).trans (ho_j.2.1.2.2.1.trans hl_j.1)) ?_
    refine Z.iload_n dX1_addLetter_22 rfl ?_
    refine Z.iast (j := (I 45 j).toNatClampNeg) (x := l) dX1_addLetter_23 ho_j.1.2.1 rfl (by omega) (by decide) ?_
    refine Z.aload_n dX1_addLetter_24 rfl ?_
    refine Z.dupR dX1_addLetter_25 ?_
    refine Z.getIv (v := nI ((I 45 j).toNatClampNeg)) dX1_addLetter_26 cl1 flX1_15 (by decide) ho_j.1.1 ((up_nek (k := 4) (by omega)).trans ((hE.at (58 + 3 * j) 4 (scr58_0 j)).trans (ho_j.2.1.2.2.1.trans hl_j.1))) ?_
    refine Z.iconst (v := 1) dX1_addLetter_29 (by decide) ?_
    refine Z.iaddN (a := (I 45 j).toNatClampNeg) (b := 1) dX1_addLetter_30 ?_
    refine Z.putI (x := nI (((I 45 j).toNatClampNeg) + 1)) dX1_addLetter_31 cl1 flX1_15 (by decide) ⟨rfl, rfl⟩ ho_j.1.1 ?_
    refine Z.aload_n dX1_addLetter_34 rfl ?_
    refine Z.getIv (v := nI (((I 45 j).toNatClampNeg) + 1)) dX1_addLetter_35 cl1 flX1_15 (by decide) ho_j.1.1 ((up_eqk (k := 4)).trans rfl) ?_
    exact Z.iret dX1_addLetter_38 rfl ⟨by rw [if_pos (by omega)], by rw [if_pos (by omega), va_up_ne _ _ (show 58 + 3 * j ≠ 58 + 3 * j + 1 by omega)]; rfl, rfl⟩
  · refine Z.iconst (v := (-1)) dX1_addLetter_12 (by decide) ?_
    exact Z.iret dX1_addLetter_13 rfl ⟨by rw [if_neg (by omega)], by rw [if_neg (by omega)], rfl⟩

set_option maxHeartbeats 4000000 in
set_option maxRecDepth 100000 in
theorem cc_addCode {g : GP} {I J : IM} {S : SH} (hE : Ex I J) (c : Int32) (hF : Fx S) (hC : Cp I) (hM : MIv I) {j : Nat} (h_j : j < 120) (ho_j : Mo I S j) : Z g 1 0 0 mX1_addCode 0 (enL mX1_addCode [.ref (58 + 3 * j), .int c]) [] J S (PQ (.int (if (decide ((I 47 j).toNatClampNeg < clL I j) && !hasCF (I 48) (12 * j) (I 47 j) c) = true then nI ((I 47 j).toNatClampNeg + 1) else -1)) (if (decide ((I 47 j).toNatClampNeg < clL I j) && !hasCF (I 48) (12 * j) (I 47 j) c) = true then acN I J j c else J) S) := by
  show Z g 1 0 0 mX1_addCode 0 [.ref (58 + 3 * j), .int c] [] J S _
  have hw := hM.2.2.2.2.1
  have hl_j := hM.2.2.1 _ h_j
  have hc_j := hM.2.2.2.1 _ h_j
  have hl2_j := hl_j.2
  have hc2_j := hc_j.2
  have hcl_j := ho_j.2.2
  have h12_j := clL_le (I := I) (j := j)
  refine Z.aload_n dX1_addCode_0 rfl ?_
  refine Z.getIv (v := nI ((I 47 j).toNatClampNeg)) dX1_addCode_1 cl1 flX1_19 (by decide) ho_j.1.1 ((hE.at (58 + 3 * j) 5 (scr58_0 j)).trans (ho_j.2.1.2.2.2.1.trans hc_j.1)) ?_
  refine Z.aload_n dX1_addCode_4 rfl ?_
  refine Z.getR (r := 58 + 3 * j + 2) dX1_addCode_5 cl1 flX1_28 (by decide) ho_j.1.1 rfl ?_
  refine Z.alen (k := 0) dX1_addCode_8 ho_j.1.2.2 ?_
  refine Z.icmp_geN (a := (I 47 j).toNatClampNeg) (b := clL I j) (by omega) (by omega) (tgt := 20) dX1_addCode_9 (by decide) (fun h1 => ?_) (fun h1 => ?_)
  · refine Z.iconst (v := (-1)) dX1_addCode_20 (by decide) ?_
    exact Z.iret dX1_addCode_21 rfl ⟨by rw [if_neg (by simp; omega)], by rw [if_neg (by simp; omega)], rfl⟩
  · refine Z.aload_n dX1_addCode_12 rfl ?_
    refine Z.iload_n dX1_addCode_13 rfl ?_
    refine Z.callVp (M := mX1_addCode) (pc := 14) (st := []) (N := mX1_hasCode) (n := 1) (r := .int (bI (hasCF (I 48) (12 * j) (I 47 j) c))) dX1_addCode_14 mlX1_31 mkX1_hasCode imX1_hasCode seX1_hasCode ho_j.1.1 cl1 rfl (d1 := 0) (by decide) (As := [.int c]) rfl ⟨rfl, Nat.le_of_ble_eq_true rfl⟩ ⟨rfl, Nat.le_of_ble_eq_true rfl⟩ (cc_hasCode hE c hF hC hM h_j ho_j) rfl ?_
    refine Z.if_eqB (tgt := 22) dX1_addCode_17 (by decide) (fun h2 => ?_) (fun h2 => ?_)
    · refine Z.aload_n dX1_addCode_22 rfl ?_
      refine Z.getR (r := 58 + 3 * j + 2) dX1_addCode_23 cl1 flX1_28 (by decide) ho_j.1.1 rfl ?_
      refine Z.aload_n dX1_addCode_26 rfl ?_
      refine Z.getIv (v := nI ((I 47 j).toNatClampNeg)) dX1_addCode_27 cl1 flX1_19 (by decide) ho_j.1.1 ((hE.at (58 + 3 * j) 5 (scr58_0 j)).trans (ho_j.2.1.2.2.2.1.trans hc_j.1)) ?_
      refine Z.iload_n dX1_addCode_30 rfl ?_
      refine Z.iast (j := (I 47 j).toNatClampNeg) (x := c) dX1_addCode_31 ho_j.1.2.2 rfl (by omega) (by omega) ?_
      refine Z.aload_n dX1_addCode_32 rfl ?_
      refine Z.dupR dX1_addCode_33 ?_
      refine Z.getIv (v := nI ((I 47 j).toNatClampNeg)) dX1_addCode_34 cl1 flX1_19 (by decide) ho_j.1.1 ((up_nek (k := 5) (by omega)).trans ((hE.at (58 + 3 * j) 5 (scr58_0 j)).trans (ho_j.2.1.2.2.2.1.trans hc_j.1))) ?_
      refine Z.iconst (v := 1) dX1_addCode_37 (by decide) ?_
      refine Z.iaddN (a := (I 47 j).toNatClampNeg) (b := 1) dX1_addCode_38 ?_
      refine Z.putI (x := nI (((I 47 j).toNatClampNeg) + 1)) dX1_addCode_39 cl1 flX1_19 (by decide) ⟨rfl, rfl⟩ ho_j.1.1 ?_
      refine Z.aload_n dX1_addCode_42 rfl ?_
      refine Z.getIv (v := nI (((I 47 j).toNatClampNeg) + 1)) dX1_addCode_43 cl1 flX1_19 (by decide) ho_j.1.1 ((up_eqk (k := 5)).trans rfl) ?_
      exact Z.iret dX1_addCode_46 rfl ⟨by rw [if_pos (by simp [h2]; omega)], by rw [if_pos (by simp [h2]; omega), va_up_ne _ _ (show 58 + 3 * j ≠ 58 + 3 * j + 2 by omega)]; rfl, rfl⟩
    · refine Z.iconst (v := (-1)) dX1_addCode_20 (by decide) ?_
      exact Z.iret dX1_addCode_21 rfl ⟨by rw [if_neg (by simp [h2])], by rw [if_neg (by simp [h2])], rfl⟩

set_option maxHeartbeats 4000000 in
set_option maxRecDepth 100000 in
theorem lc_lop {g : GP} {I J : IM} {S : SH} (hE : Ex I J)  (hF : Fx S) (hC : Cp I) (hM : MIv I) {a : Nat} (h_a : a < 120) (ho_a : Mo I S a) {b : Nat} (h_b : b < 120) (ho_b : Mo I S b) (hmx : 0 < mxN (I 47 a).toNatClampNeg (I 47 b).toNatClampNeg) : ∀ i, i ≤ (I 47 a).toNatClampNeg → Z g 1 0 0 mX1_likeOfPictures 23 [.ref (58 + 3 * a), .ref (58 + 3 * b), .int (nI (mxN (I 47 a).toNatClampNeg (I 47 b).toNatClampNeg)), .int (nI (bothU (I 48) (12 * a) (hasCF (I 48) (12 * b) (I 47 b)) i)), .int (nI i)] [] J S (PQ (.int (clM I a b)) J S) := by
  refine upZ ((I 47 a).toNatClampNeg) (fun i hi ih => ?_)
  have hw := hM.2.2.2.2.1
  have hl_a := hM.2.2.1 _ h_a
  have hc_a := hM.2.2.2.1 _ h_a
  have hl2_a := hl_a.2
  have hc2_a := hc_a.2
  have hcl_a := ho_a.2.2
  have h12_a := clL_le (I := I) (j := a)
  have hl_b := hM.2.2.1 _ h_b
  have hc_b := hM.2.2.2.1 _ h_b
  have hl2_b := hl_b.2
  have hc2_b := hc_b.2
  have hcl_b := ho_b.2.2
  have h12_b := clL_le (I := I) (j := b)
  have hbu : bothU (I 48) (12 * a) (hasCF (I 48) (12 * b) (I 47 b)) i ≤ i := bothU_le i
  have hm12 : mxN (I 47 a).toNatClampNeg (I 47 b).toNatClampNeg ≤ 12 := by unfold mxN; split <;> omega
  refine Z.iload dX1_likeOfPictures_23 rfl ?_
  refine Z.aload_n dX1_likeOfPictures_25 rfl ?_
  refine Z.getIv (v := nI ((I 47 a).toNatClampNeg)) dX1_likeOfPictures_26 cl1 flX1_19 (by decide) ho_a.1.1 ((hE.at (58 + 3 * a) 5 (scr58_0 a)).trans (ho_a.2.1.2.2.2.1.trans hc_a.1)) ?_
  refine Z.icmp_geN (a := i) (b := (I 47 a).toNatClampNeg) (by omega) (by omega) (tgt := 55) dX1_likeOfPictures_29 (by decide) (fun h1 => ?_) (fun h1 => ?_)
  · refine Z.sipush (v := 1000) dX1_likeOfPictures_55 (by decide) ?_
    refine Z.iload_n dX1_likeOfPictures_58 rfl ?_
    refine Z.imulN (a := 1000) (b := bothU (I 48) (12 * a) (hasCF (I 48) (12 * b) (I 47 b)) i) dX1_likeOfPictures_59 ?_
    refine Z.iload_n dX1_likeOfPictures_60 rfl ?_
    refine Z.idiv dX1_likeOfPictures_61 (nI_ne0 (by omega) (by omega)) ?_
    exact Z.iret dX1_likeOfPictures_62 rfl ⟨by have hie : i = (I 47 a).toNatClampNeg := (by omega); subst hie; rw [clM, clF, if_neg (by omega)], rfl, rfl⟩
  · refine Z.aload_n dX1_likeOfPictures_32 rfl ?_
    refine Z.aload_n dX1_likeOfPictures_33 rfl ?_
    refine Z.getR (r := 58 + 3 * a + 2) dX1_likeOfPictures_34 cl1 flX1_28 (by decide) ho_a.1.1 rfl ?_
    refine Z.iload dX1_likeOfPictures_37 rfl ?_
    refine Z.ialdv (j := i) (v := I 48 (12 * a + i)) dX1_likeOfPictures_39 ho_a.1.2.2 rfl (by omega) (by omega) ((hE.at (58 + 3 * a + 2) i (scr58 a 2)).trans (ho_a.2.1.2.2.2.2.2 i (by omega))) ?_
    refine Z.callVp (M := mX1_likeOfPictures) (pc := 40) (st := []) (N := mX1_hasCode) (n := 1) (r := .int (bI (hasCF (I 48) (12 * b) (I 47 b) (I 48 (12 * a + i))))) dX1_likeOfPictures_40 mlX1_31 mkX1_hasCode imX1_hasCode seX1_hasCode ho_b.1.1 cl1 rfl (d1 := 0) (by decide) (As := [.int (I 48 (12 * a + i))]) rfl ⟨rfl, Nat.le_of_ble_eq_true rfl⟩ ⟨rfl, Nat.le_of_ble_eq_true rfl⟩ (cc_hasCode hE (I 48 (12 * a + i)) hF hC hM h_b ho_b) rfl ?_
    refine Z.if_eqB (tgt := 49) dX1_likeOfPictures_43 (by decide) (fun h2 => ?_) (fun h2 => ?_)
    · refine Z.iinc (v := nI (i + 1)) (L' := [.ref (58 + 3 * a), .ref (58 + 3 * b), .int (nI (mxN (I 47 a).toNatClampNeg (I 47 b).toNatClampNeg)), .int (nI (bothU (I 48) (12 * a) (hasCF (I 48) (12 * b) (I 47 b)) i)), .int (nI (i + 1))]) dX1_likeOfPictures_49 rfl (nI_1 _) rfl ?_
      refine Z.goto (tgt := 23) dX1_likeOfPictures_52 (by decide) ?_
      have e := ih (by omega)
      rw [show nI (bothU (I 48) (12 * a) (hasCF (I 48) (12 * b) (I 47 b)) (i + 1)) = nI (bothU (I 48) (12 * a) (hasCF (I 48) (12 * b) (I 47 b)) i) by simp [bothU, h1, h2]] at e
      exact e
    · refine Z.iinc (v := nI ((bothU (I 48) (12 * a) (hasCF (I 48) (12 * b) (I 47 b)) i) + 1)) (L' := [.ref (58 + 3 * a), .ref (58 + 3 * b), .int (nI (mxN (I 47 a).toNatClampNeg (I 47 b).toNatClampNeg)), .int (nI ((bothU (I 48) (12 * a) (hasCF (I 48) (12 * b) (I 47 b)) i) + 1)), .int (nI i)]) dX1_likeOfPictures_46 rfl (nI_1 _) rfl ?_
      refine Z.iinc (v := nI (i + 1)) (L' := [.ref (58 + 3 * a), .ref (58 + 3 * b), .int (nI (mxN (I 47 a).toNatClampNeg (I 47 b).toNatClampNeg)), .int (nI ((bothU (I 48) (12 * a) (hasCF (I 48) (12 * b) (I 47 b)) i) + 1)), .int (nI (i + 1))]) dX1_likeOfPictures_49 rfl (nI_1 _) rfl ?_
      refine Z.goto (tgt := 23) dX1_likeOfPictures_52 (by decide) ?_
      have e := ih (by omega)
      rw [show nI (bothU (I 48) (12 * a) (hasCF (I 48) (12 * b) (I 47 b)) (i + 1)) = nI ((bothU (I 48) (12 * a) (hasCF (I 48) (12 * b) (I 47 b)) i) + 1) by simp [bothU, h1, h2]] at e
      exact e

set_option maxHeartbeats 4000000 in
set_option maxRecDepth 100000 in
theorem cc_lop {g : GP} {I J : IM} {S : SH} (hE : Ex I J)  (hF : Fx S) (hC : Cp I) (hM : MIv I) {a : Nat} (h_a : a < 120) (ho_a : Mo I S a) {b : Nat} (h_b : b < 120) (ho_b : Mo I S b) : Z g 1 0 0 mX1_likeOfPictures 0 (enL mX1_likeOfPictures [.ref (58 + 3 * a), .ref (58 + 3 * b)]) [] J S (PQ (.int (clM I a b)) J S) := by
  show Z g 1 0 0 mX1_likeOfPictures 0 [.ref (58 + 3 * a), .ref (58 + 3 * b), .retAddr 0, .retAddr 0, .retAddr 0] [] J S _
  have hw := hM.2.2.2.2.1
  have hl_a := hM.2.2.1 _ h_a
  have hc_a := hM.2.2.2.1 _ h_a
  have hl2_a := hl_a.2
  have hc2_a := hc_a.2
  have hcl_a := ho_a.2.2
  have h12_a := clL_le (I := I) (j := a)
  have hl_b := hM.2.2.1 _ h_b
  have hc_b := hM.2.2.2.1 _ h_b
  have hl2_b := hl_b.2
  have hc2_b := hc_b.2
  have hcl_b := ho_b.2.2
  have h12_b := clL_le (I := I) (j := b)
  have hm12 : mxN (I 47 a).toNatClampNeg (I 47 b).toNatClampNeg ≤ 12 := by unfold mxN; split <;> omega
  refine Z.aload_n dX1_likeOfPictures_0 rfl ?_
  refine Z.getIv (v := nI ((I 47 a).toNatClampNeg)) dX1_likeOfPictures_1 cl1 flX1_19 (by decide) ho_a.1.1 ((hE.at (58 + 3 * a) 5 (scr58_0 a)).trans (ho_a.2.1.2.2.2.1.trans hc_a.1)) ?_
  refine Z.aload_n dX1_likeOfPictures_4 rfl ?_
  refine Z.getIv (v := nI ((I 47 b).toNatClampNeg)) dX1_likeOfPictures_5 cl1 flX1_19 (by decide) ho_b.1.1 ((hE.at (58 + 3 * b) 5 (scr58_0 b)).trans (ho_b.2.1.2.2.2.1.trans hc_b.1)) ?_
  refine Z.mmaxN (a := (I 47 a).toNatClampNeg) (b := (I 47 b).toNatClampNeg) (by omega) (by omega) dX1_likeOfPictures_8 mlX1_35 (by decide) ⟨rfl, Nat.le_of_ble_eq_true rfl⟩ ?_
  refine Z.istore_n (L' := [.ref (58 + 3 * a), .ref (58 + 3 * b), .int (nI (mxN ((I 47 a).toNatClampNeg) ((I 47 b).toNatClampNeg))), .retAddr 0, .retAddr 0]) dX1_likeOfPictures_11 (Nat.le_of_ble_eq_true rfl) rfl ?_
  refine Z.iload_n dX1_likeOfPictures_12 rfl ?_
  refine Z.if_neN (a := mxN ((I 47 a).toNatClampNeg) ((I 47 b).toNatClampNeg)) (by omega) (tgt := 18) dX1_likeOfPictures_13 (by decide) (fun h1 => ?_) (fun h1 => ?_)
  · refine Z.iconst (v := 0) dX1_likeOfPictures_18 (by decide) ?_
    refine Z.istore_n (L' := [.ref (58 + 3 * a), .ref (58 + 3 * b), .int (nI (mxN ((I 47 a).toNatClampNeg) ((I 47 b).toNatClampNeg))), .int 0, .retAddr 0]) dX1_likeOfPictures_19 (Nat.le_of_ble_eq_true rfl) rfl ?_
    refine Z.iconst (v := 0) dX1_likeOfPictures_20 (by decide) ?_
    refine Z.istore (L' := [.ref (58 + 3 * a), .ref (58 + 3 * b), .int (nI (mxN ((I 47 a).toNatClampNeg) ((I 47 b).toNatClampNeg))), .int 0, .int 0]) dX1_likeOfPictures_21 (Nat.le_of_ble_eq_true rfl) rfl ?_
    exact lc_lop hE hF hC hM h_a ho_a h_b ho_b (by omega) 0 (Nat.zero_le _)
  · refine Z.iconst (v := 0) dX1_likeOfPictures_16 (by decide) ?_
    exact Z.iret dX1_likeOfPictures_17 rfl ⟨by rw [clM, clF, if_pos (by omega)], rfl, rfl⟩

set_option maxHeartbeats 4000000 in
set_option maxRecDepth 100000 in
theorem cc_placesOf {g : GP} {I J : IM} {S : SH} (hE : Ex I J) (l : Nat) (hF : Fx S) (hC : Cp I) (hM : MIv I) (hl : l < 26) : Z g 0 0 0 mX4_placesOf 0 (enL mX4_placesOf [.ref 1, .int (nI l)]) [] J S (PQ (.int (I 36 l)) J S) := by
  show Z g 0 0 0 mX4_placesOf 0 [.ref 1, .int (nI l)] [] J S _
  refine Z.aload_n dX4_placesOf_0 rfl ?_
  refine Z.getR (r := 2) dX4_placesOf_1 cl4 flX4_9 (by decide) (fx1 hF) rfl ?_
  refine Z.iload_n dX4_placesOf_4 rfl ?_
  refine Z.ialdv (j := l) (v := I 36 l) dX4_placesOf_5 (fx2 hF) rfl (by omega) (by decide) ((hE.at 2 l rfl).trans (congrFun (hC.c2) l)) ?_
  exact Z.iret dX4_placesOf_6 rfl ⟨rfl, rfl, rfl⟩

set_option maxHeartbeats 4000000 in
set_option maxRecDepth 100000 in
theorem lc_setPlaces {g : GP} {I J : IM} {S : SH} (hE : Ex I J) (l : Nat) (c : Int32) (f2 : Nat → Int32) (hF : Fx S) (hC : Cp I) (hM : MIv I) (hl : l < 26) : ∀ p, p ≤ 27 → Z g 0 0 0 mX4_setPlaces 9 [.ref 1, .int (nI l), .int c, .int (nI p)] [] (va_up (va_up J 2 (f2)) 3 (zf (J 3) (27 * l) p)) S (VQ (va_up (va_up J 2 f2) 3 (zf (J 3) (27 * l) 27)) S) := by
  refine upZ 27 (fun p hi ih => ?_)
  refine Z.iload_n dX4_setPlaces_9 rfl ?_
  refine Z.bipush (v := 27) dX4_setPlaces_10 (by decide) ?_
  refine Z.icmp_geN (a := p) (b := 27) (by omega) (by decide) (tgt := 33) dX4_setPlaces_12 (by decide) (fun h1 => ?_) (fun h1 => ?_)
  · exact Z.vret dX4_setPlaces_33 rfl ⟨rfl, by rw [show p = 27 by omega], rfl⟩
  · refine Z.aload_n dX4_setPlaces_15 rfl ?_
    refine Z.getR (r := 3) dX4_setPlaces_16 cl4 flX4_15 (by decide) (fx1 hF) rfl ?_
    refine Z.iload_n dX4_setPlaces_19 rfl ?_
    refine Z.bipush (v := 27) dX4_setPlaces_20 (by decide) ?_
    refine Z.imulN (a := l) (b := 27) dX4_setPlaces_22 ?_
    refine Z.iload_n dX4_setPlaces_23 rfl ?_
    refine Z.iaddN (a := l * 27) (b := p) dX4_setPlaces_24 ?_
    refine Z.eqLs (L' := [.ref 1, .int (nI l), .int c, .int (nI p)]) (st' := [.int (nI (27 * l + p)), .ref 3]) rfl (by rw [show l * 27 + p = 27 * l + p by omega]) ?_
    refine Z.iconst (v := 0) dX4_setPlaces_25 (by decide) ?_
    refine Z.iast (j := 27 * l + p) (x := 0) dX4_setPlaces_26 (fx3 hF) rfl (by omega) (by decide) ?_
    refine Z.eqI (bx_uu _ _ _ _) ?_
    refine Z.iinc (v := nI (p + 1)) (L' := [.ref 1, .int (nI l), .int c, .int (nI (p + 1))]) dX4_setPlaces_27 rfl (nI_1 _) rfl ?_
    refine Z.goto (tgt := 9) dX4_setPlaces_30 (by decide) ?_
    exact ih (by omega)

set_option maxHeartbeats 4000000 in
set_option maxRecDepth 100000 in
theorem cc_setPlaces {g : GP} {I J : IM} {S : SH} (hE : Ex I J) (l : Nat) (c : Int32) (hF : Fx S) (hC : Cp I) (hM : MIv I) (hl : l < 26) : Z g 0 0 0 mX4_setPlaces 0 (enL mX4_setPlaces [.ref 1, .int (nI l), .int c]) [] J S (VQ (va_up (va_up J 2 (upd (J 2) l c)) 3 (zf (J 3) (27 * l) 27)) S) := by
  show Z g 0 0 0 mX4_setPlaces 0 [.ref 1, .int (nI l), .int c, .retAddr 0] [] J S _
  refine Z.aload_n dX4_setPlaces_0 rfl ?_
  refine Z.getR (r := 2) dX4_setPlaces_1 cl4 flX4_9 (by decide) (fx1 hF) rfl ?_
  refine Z.iload_n dX4_setPlaces_4 rfl ?_
  refine Z.iload_n dX4_setPlaces_5 rfl ?_
  refine Z.iast (j := l) (x := c) dX4_setPlaces_6 (fx2 hF) rfl (by omega) (by decide) ?_
  refine Z.iconst (v := 0) dX4_setPlaces_7 (by decide) ?_
  refine Z.istore_n (L' := [.ref 1, .int (nI l), .int c, .int 0]) dX4_setPlaces_8 (Nat.le_of_ble_eq_true rfl) rfl ?_
  refine Z.eqI (up_self (a := 3)).symm ?_
  exact lc_setPlaces hE l c _ hF hC hM hl 0 (Nat.zero_le _)

set_option maxHeartbeats 4000000 in
set_option maxRecDepth 100000 in
theorem cc_setPlace {g : GP} {I J : IM} {S : SH} (hE : Ex I J) (l p : Nat) (s_ : Int32) (hF : Fx S) (hC : Cp I) (hM : MIv I) (hl : l < 26) (hp : p < 27) : Z g 0 0 0 mX4_setPlace 0 (enL mX4_setPlace [.ref 1, .int (nI l), .int (nI p), .int s_]) [] J S (VQ (va_up J 3 (upd (J 3) (27 * l + p) s_)) S) := by
  show Z g 0 0 0 mX4_setPlace 0 [.ref 1, .int (nI l), .int (nI p), .int s_] [] J S _
  refine Z.aload_n dX4_setPlace_0 rfl ?_
  refine Z.getR (r := 3) dX4_setPlace_1 cl4 flX4_15 (by decide) (fx1 hF) rfl ?_
  refine Z.iload_n dX4_setPlace_4 rfl ?_
  refine Z.bipush (v := 27) dX4_setPlace_5 (by decide) ?_
  refine Z.imulN (a := l) (b := 27) dX4_setPlace_7 ?_
  refine Z.iload_n dX4_setPlace_8 rfl ?_
  refine Z.iaddN (a := l * 27) (b := p) dX4_setPlace_9 ?_
  refine Z.eqLs (L' := [.ref 1, .int (nI l), .int (nI p), .int s_]) (st' := [.int (nI (27 * l + p)), .ref 3]) rfl (by rw [show l * 27 + p = 27 * l + p by omega]) ?_
  refine Z.iload_n dX4_setPlace_10 rfl ?_
  refine Z.iast (j := 27 * l + p) (x := s_) dX4_setPlace_11 (fx3 hF) rfl (by omega) (by decide) ?_
  exact Z.vret dX4_setPlace_12 rfl ⟨rfl, rfl, rfl⟩

set_option maxHeartbeats 4000000 in
set_option maxRecDepth 100000 in
theorem cc_setPutCost {g : GP} {I J : IM} {S : SH} (hE : Ex I J) (a : Nat) (c : Int32) (hF : Fx S) (hC : Cp I) (hM : MIv I) (ha : a < 66) : Z g 0 0 0 mX4_setPutCost 0 (enL mX4_setPutCost [.ref 1, .int (nI a), .int c]) [] J S (VQ (va_up J 4 (upd (J 4) a c)) S) := by
  show Z g 0 0 0 mX4_setPutCost 0 [.ref 1, .int (nI a), .int c] [] J S _
  refine Z.aload_n dX4_setPutCost_0 rfl ?_
  refine Z.getR (r := 4) dX4_setPutCost_1 cl4 flX4_18 (by decide) (fx1 hF) rfl ?_
  refine Z.iload_n dX4_setPutCost_4 rfl ?_
  refine Z.iload_n dX4_setPutCost_5 rfl ?_
  refine Z.iast (j := a) (x := c) dX4_setPutCost_6 (fx4 hF) rfl (by omega) (by decide) ?_
  exact Z.vret dX4_setPutCost_7 rfl ⟨rfl, rfl, rfl⟩

set_option maxHeartbeats 4000000 in
set_option maxRecDepth 100000 in
theorem cc_setChangeCost {g : GP} {I J : IM} {S : SH} (hE : Ex I J) (a b : Nat) (c : Int32) (hF : Fx S) (hC : Cp I) (hM : MIv I) (ha : a < 66) (hb : b < 66) : Z g 0 0 0 mX4_setChangeCost 0 (enL mX4_setChangeCost [.ref 1, .int (nI a), .int (nI b), .int c]) [] J S (VQ (va_up J 5 (upd (upd (J 5) (66 * a + b) c) (66 * b + a) c)) S) := by
  show Z g 0 0 0 mX4_setChangeCost 0 [.ref 1, .int (nI a), .int (nI b), .int c] [] J S _
  refine Z.aload_n dX4_setChangeCost_0 rfl ?_
  refine Z.getR (r := 5) dX4_setChangeCost_1 cl4 flX4_21 (by decide) (fx1 hF) rfl ?_
  refine Z.iload_n dX4_setChangeCost_4 rfl ?_
  refine Z.bipush (v := 66) dX4_setChangeCost_5 (by decide) ?_
  refine Z.imulN (a := a) (b := 66) dX4_setChangeCost_7 ?_
  refine Z.iload_n dX4_setChangeCost_8 rfl ?_
  refine Z.iaddN (a := a * 66) (b := b) dX4_setChangeCost_9 ?_
  refine Z.eqLs (L' := [.ref 1, .int (nI a), .int (nI b), .int c]) (st' := [.int (nI (66 * a + b)), .ref 5]) rfl (by rw [show a * 66 + b = 66 * a + b by omega]) ?_
  refine Z.iload_n dX4_setChangeCost_10 rfl ?_
  refine Z.iast (j := 66 * a + b) (x := c) dX4_setChangeCost_11 (fx5 hF) rfl (by omega) (by decide) ?_
  refine Z.aload_n dX4_setChangeCost_12 rfl ?_
  refine Z.getR (r := 5) dX4_setChangeCost_13 cl4 flX4_21 (by decide) (fx1 hF) rfl ?_
  refine Z.iload_n dX4_setChangeCost_16 rfl ?_
  refine Z.bipush (v := 66) dX4_setChangeCost_17 (by decide) ?_
  refine Z.imulN (a := b) (b := 66) dX4_setChangeCost_19 ?_
  refine Z.iload_n dX4_setChangeCost_20 rfl ?_
  refine Z.iaddN (a := b * 66) (b := a) dX4_setChangeCost_21 ?_
  refine Z.eqLs (L' := [.ref 1, .int (nI a), .int (nI b), .int c]) (st' := [.int (nI (66 * b + a)), .ref 5]) rfl (by rw [show b * 66 + a = 66 * b + a by omega]) ?_
  refine Z.iload_n dX4_setChangeCost_22 rfl ?_
  refine Z.iast (j := 66 * b + a) (x := c) dX4_setChangeCost_23 (fx5 hF) rfl (by omega) (by decide) ?_
  refine Z.eqI (bx_uu _ _ _ _) ?_
  exact Z.vret dX4_setChangeCost_24 rfl ⟨rfl, rfl, rfl⟩

set_option maxHeartbeats 4000000 in
set_option maxRecDepth 100000 in
theorem cc_heard {g : GP} {I J : IM} {S : SH} (hE : Ex I J) (l x : Nat) (hF : Fx S) (hC : Cp I) (hM : MIv I) (hl : l < 26) (hx : x < 27) : Z g 0 0 0 mX4_heard 0 (enL mX4_heard [.ref 1, .int (nI l), .int (nI x)]) [] J S (PQ (.int (heardF (I 36) (I 37) l x)) J S) := by
  show Z g 0 0 0 mX4_heard 0 [.ref 1, .int (nI l), .int (nI x)] [] J S _
  refine Z.aload_n dX4_heard_0 rfl ?_
  refine Z.getR (r := 2) dX4_heard_1 cl4 flX4_9 (by decide) (fx1 hF) rfl ?_
  refine Z.iload_n dX4_heard_4 rfl ?_
  refine Z.ialdv (j := l) (v := I 36 l) dX4_heard_5 (fx2 hF) rfl (by omega) (by decide) ((hE.at 2 l rfl).trans (congrFun (hC.c2) l)) ?_
  refine Z.iconst (v := (-1)) dX4_heard_6 (by decide) ?_
  refine Z.icmp_ne (tgt := 15) dX4_heard_7 (by decide) (fun h1 => ?_) (fun h1 => ?_)
  · refine Z.iload_n dX4_heard_15 rfl ?_
    refine Z.aload_n dX4_heard_16 rfl ?_
    refine Z.getR (r := 2) dX4_heard_17 cl4 flX4_9 (by decide) (fx1 hF) rfl ?_
    refine Z.iload_n dX4_heard_20 rfl ?_
    refine Z.ialdv (j := l) (v := I 36 l) dX4_heard_21 (fx2 hF) rfl (by omega) (by decide) ((hE.at 2 l rfl).trans (congrFun (hC.c2) l)) ?_
    refine Z.icmp_ge (tgt := 39) dX4_heard_22 (by decide) (fun h2 => ?_) (fun h2 => ?_)
    · refine Z.iconst (v := (-1)) dX4_heard_39 (by decide) ?_
      exact Z.iret dX4_heard_40 rfl ⟨by simp [heardF, h1, h2], rfl, rfl⟩
    · refine Z.aload_n dX4_heard_25 rfl ?_
      refine Z.getR (r := 3) dX4_heard_26 cl4 flX4_15 (by decide) (fx1 hF) rfl ?_
      refine Z.iload_n dX4_heard_29 rfl ?_
      refine Z.bipush (v := 27) dX4_heard_30 (by decide) ?_
      refine Z.imulN (a := l) (b := 27) dX4_heard_32 ?_
      refine Z.iload_n dX4_heard_33 rfl ?_
      refine Z.iaddN (a := l * 27) (b := x) dX4_heard_34 ?_
      refine Z.eqLs (L' := [.ref 1, .int (nI l), .int (nI x)]) (st' := [.int (nI (27 * l + x)), .ref 3]) rfl (by rw [show l * 27 + x = 27 * l + x by omega]) ?_
      refine Z.ialdv (j := 27 * l + x) (v := I 37 (27 * l + x)) dX4_heard_35 (fx3 hF) rfl (by omega) (by decide) ((hE.at 3 (27 * l + x) rfl).trans (congrFun (hC.c3) (27 * l + x))) ?_
      refine Z.goto (tgt := 40) dX4_heard_36 (by decide) ?_
      exact Z.iret dX4_heard_40 rfl ⟨by simp [heardF, h1, h2], rfl, rfl⟩
  · refine Z.bipush (v := 40) dX4_heard_10 (by decide) ?_
    refine Z.iload_n dX4_heard_12 rfl ?_
    refine Z.iaddN (a := 40) (b := l) dX4_heard_13 ?_
    exact Z.iret dX4_heard_14 rfl ⟨by simp [heardF, eq_true h1], rfl, rfl⟩

theorem heard_c {pl sa : Nat → Int32} {l nx : Nat} (hl : l ≤ 25) (hx : nx ≤ 26) (hsa : ∀ i, i < 702 → rg (sa i) 39) : heardF pl sa l nx = -1 ∨ ¬ heardF pl sa l nx < 0 := by
  unfold heardF
  split
  · exact Or.inr (nI_pos (by omega))
  · split
    · exact Or.inr (rg_lt (hsa (27 * l + nx) (by omega)) (by decide))
    · exact Or.inl rfl
theorem so_c {I : IM} {j k : Nat} (hM : MIv I) (hj : j < 120) (hk : k < (I 45 j).toNatClampNeg) : soG (I 36) (I 37) (wM I j) (I 45 j).toNatClampNeg k = -1 ∨ ¬ soG (I 36) (I 37) (wM I j) (I 45 j).toNatClampNeg k < 0 := by
  have hl := (hM.2.2.1 j hj).2
  unfold soG wM
  refine heard_c (hM.2.2.2.2.1 _ (by omega)).2 ?_ hM.2.2.2.2.2.2.1
  split
  · have := (hM.2.2.2.2.1 (40 * j + (k + 1)) (by omega)).2
    omega
  · omega
set_option maxHeartbeats 4000000 in
set_option maxRecDepth 100000 in
theorem lc_spellA {g : GP} {I J : IM} {S : SH} (hE : Ex I J)  (hF : Fx S) (hC : Cp I) (hM : MIv I) {j : Nat} (h_j : j < 120) (ho_j : Mo I S j) : ∀ i, i ≤ (I 45 j).toNatClampNeg → Z g 1 0 0 mX4_spell 5 [.ref 1, .ref (58 + 3 * j), .ref 6, .int (nI ((siU (I 36) (I 37) (wM I j) (I 45 j).toNatClampNeg (J 6) i).1)), .int (nI i), .retAddr 0, .retAddr 0] [] (va_up J 6 ((siU (I 36) (I 37) (wM I j) (I 45 j).toNatClampNeg (J 6) i).2)) S (PQ (.int (nI (siU (I 36) (I 37) (wM I j) (I 45 j).toNatClampNeg (J 6) (I 45 j).toNatClampNeg).1)) (va_up J 6 (siU (I 36) (I 37) (wM I j) (I 45 j).toNatClampNeg (J 6) (I 45 j).toNatClampNeg).2) S) := by
  refine upZ ((I 45 j).toNatClampNeg) (fun i hi ih => ?_)
  have hw := hM.2.2.2.2.1
  have hl_j := hM.2.2.1 _ h_j
  have hc_j := hM.2.2.2.1 _ h_j
  have hl2_j := hl_j.2
  have hc2_j := hc_j.2
  have hcl_j := ho_j.2.2
  have h12_j := clL_le (I := I) (j := j)
  have hle : (siU (I 36) (I 37) (wM I j) (I 45 j).toNatClampNeg (J 6) i).1 ≤ i := siU_le i
  refine Z.iload dX4_spell_5 rfl ?_
  refine Z.aload_n dX4_spell_7 rfl ?_
  refine Z.getIv (v := nI ((I 45 j).toNatClampNeg)) dX4_spell_8 cl1 flX4_56 (by decide) ho_j.1.1 ((up_nek (k := 4) (by omega)).trans ((hE.at (58 + 3 * j) 4 (scr58_0 j)).trans (ho_j.2.1.2.2.1.trans hl_j.1))) ?_
  refine Z.icmp_geN (a := i) (b := (I 45 j).toNatClampNeg) (by omega) (by omega) (tgt := 76) dX4_spell_11 (by decide) (fun h1 => ?_) (fun h1 => ?_)
  · refine Z.iload_n dX4_spell_76 rfl ?_
    exact Z.iret dX4_spell_77 rfl ⟨by rw [show i = (I 45 j).toNatClampNeg by omega], by rw [show i = (I 45 j).toNatClampNeg by omega], rfl⟩
  · refine Z.iload dX4_spell_14 rfl ?_
    refine Z.iconst (v := 1) dX4_spell_16 (by decide) ?_
    refine Z.iaddN (a := i) (b := 1) dX4_spell_17 ?_
    refine Z.aload_n dX4_spell_18 rfl ?_
    refine Z.getIv (v := nI ((I 45 j).toNatClampNeg)) dX4_spell_19 cl1 flX4_56 (by decide) ho_j.1.1 ((up_nek (k := 4) (by omega)).trans ((hE.at (58 + 3 * j) 4 (scr58_0 j)).trans (ho_j.2.1.2.2.1.trans hl_j.1))) ?_
    refine Z.icmp_geN (a := i + 1) (b := (I 45 j).toNatClampNeg) (by omega) (by omega) (tgt := 37) dX4_spell_22 (by decide) (fun h2 => ?_) (fun h2 => ?_)
    · refine Z.bipush (v := 26) dX4_spell_37 (by decide) ?_
      refine Z.istore (L' := [.ref 1, .ref (58 + 3 * j), .ref 6, .int (nI ((siU (I 36) (I 37) (wM I j) (I 45 j).toNatClampNeg (J 6) i).1)), .int (nI i), .int 26, .retAddr 0]) dX4_spell_39 (Nat.le_of_ble_eq_true rfl) rfl ?_
      have hw1 := (hw (40 * j + i) (by omega)).2
      refine Z.aload_n dX4_spell_41 rfl ?_
      refine Z.aload_n dX4_spell_42 rfl ?_
      refine Z.getR (r := 58 + 3 * j + 1) dX4_spell_43 cl1 flX4_62 (by decide) ho_j.1.1 rfl ?_
      refine Z.iload dX4_spell_46 rfl ?_
      refine Z.ialdv (j := i) (v := nI ((I 46 (40 * j + i)).toNatClampNeg)) dX4_spell_48 ho_j.1.2.1 rfl (by omega) (by decide) ((up_nek (k := i) (by omega)).trans ((hE.at (58 + 3 * j + 1) i (scr58 j 1)).trans ((ho_j.2.1.2.2.2.2.1 i (by omega)).trans (hw (40 * j + i) (by omega)).1))) ?_
      refine Z.iload dX4_spell_49 rfl ?_
      refine Z.callVp (M := mX4_spell) (pc := 51) (st := []) (N := mX4_heard) (n := 2) (r := .int (heardF (I 36) (I 37) ((I 46 (40 * j + i)).toNatClampNeg) 26)) dX4_spell_51 mlX4_65 mkX4_heard imX4_heard seX4_heard (fx1 hF) cl4 rfl (d1 := 0) (by decide) (As := [.int (nI ((I 46 (40 * j + i)).toNatClampNeg)), .int 26]) rfl ⟨rfl, Nat.le_of_ble_eq_true rfl⟩ ⟨rfl, Nat.le_of_ble_eq_true rfl⟩ (cc_heard (hE.up (a := 6) rfl) ((I 46 (40 * j + i)).toNatClampNeg) 26 hF hC hM (by omega) (by omega)) rfl ?_
      refine Z.eqLs (L' := [.ref 1, .ref (58 + 3 * j), .ref 6, .int (nI ((siU (I 36) (I 37) (wM I j) (I 45 j).toNatClampNeg (J 6) i).1)), .int (nI i), .int 26, .retAddr 0]) (st' := [.int (soG (I 36) (I 37) (wM I j) (I 45 j).toNatClampNeg i)]) rfl (by rw [show heardF (I 36) (I 37) ((I 46 (40 * j + i)).toNatClampNeg) 26 = soG (I 36) (I 37) (wM I j) (I 45 j).toNatClampNeg i by unfold soG wM; rw [if_neg (by omega)]]) ?_
      refine Z.istore (L' := [.ref 1, .ref (58 + 3 * j), .ref 6, .int (nI ((siU (I 36) (I 37) (wM I j) (I 45 j).toNatClampNeg (J 6) i).1)), .int (nI i), .int 26, .int (soG (I 36) (I 37) (wM I j) (I 45 j).toNatClampNeg i)]) dX4_spell_54 (Nat.le_of_ble_eq_true rfl) rfl ?_
      refine Z.iload dX4_spell_56 rfl ?_
      refine Z.iconst (v := (-1)) dX4_spell_58 (by decide) ?_
      refine Z.icmp_eq (tgt := 70) dX4_spell_59 (by decide) (fun h3 => ?_) (fun h3 => ?_)
      · refine Z.iinc (v := nI (i + 1)) (L' := [.ref 1, .ref (58 + 3 * j), .ref 6, .int (nI ((siU (I 36) (I 37) (wM I j) (I 45 j).toNatClampNeg (J 6) i).1)), .int (nI (i + 1)), .int 26, .int (soG (I 36) (I 37) (wM I j) (I 45 j).toNatClampNeg i)]) dX4_spell_70 rfl (nI_1 _) rfl ?_
        refine Z.goto (tgt := 5) dX4_spell_73 (by decide) ?_
        refine Z.drop (i := 5) (L' := [.ref 1, .ref (58 + 3 * j), .ref 6, .int (nI ((siU (I 36) (I 37) (wM I j) (I 45 j).toNatClampNeg (J 6) i).1)), .int (nI (i + 1)), .retAddr 0, .int (soG (I 36) (I 37) (wM I j) (I 45 j).toNatClampNeg i)]) rfl ?_
        refine Z.drop (i := 6) (L' := [.ref 1, .ref (58 + 3 * j), .ref 6, .int (nI ((siU (I 36) (I 37) (wM I j) (I 45 j).toNatClampNeg (J 6) i).1)), .int (nI (i + 1)), .retAddr 0, .retAddr 0]) rfl ?_
        have e := ih (by omega)
        rw [show siU (I 36) (I 37) (wM I j) (I 45 j).toNatClampNeg (J 6) (i + 1) = siU (I 36) (I 37) (wM I j) (I 45 j).toNatClampNeg (J 6) i by rw [siU, if_pos (by rw [h3]; decide)]] at e
        exact e
      · refine Z.aload_n dX4_spell_62 rfl ?_
        refine Z.iload_n dX4_spell_63 rfl ?_
        refine Z.iload dX4_spell_64 rfl ?_
        refine Z.iast (j := (siU (I 36) (I 37) (wM I j) (I 45 j).toNatClampNeg (J 6) i).1) (x := soG (I 36) (I 37) (wM I j) (I 45 j).toNatClampNeg i) dX4_spell_66 (fx6 hF) rfl (by omega) (by decide) ?_
        refine Z.eqI (bx_uu _ _ _ _) ?_
        refine Z.iinc (v := nI (((siU (I 36) (I 37) (wM I j) (I 45 j).toNatClampNeg (J 6) i).1) + 1)) (L' := [.ref 1, .ref (58 + 3 * j), .ref 6, .int (nI (((siU (I 36) (I 37) (wM I j) (I 45 j).toNatClampNeg (J 6) i).1) + 1)), .int (nI i), .int 26, .int (soG (I 36) (I 37) (wM I j) (I 45 j).toNatClampNeg i)]) dX4_spell_67 rfl (nI_1 _) rfl ?_
        refine Z.iinc (v := nI (i + 1)) (L' := [.ref 1, .ref (58 + 3 * j), .ref 6, .int (nI (((siU (I 36) (I 37) (wM I j) (I 45 j).toNatClampNeg (J 6) i).1) + 1)), .int (nI (i + 1)), .int 26, .int (soG (I 36) (I 37) (wM I j) (I 45 j).toNatClampNeg i)]) dX4_spell_70 rfl (nI_1 _) rfl ?_
        refine Z.goto (tgt := 5) dX4_spell_73 (by decide) ?_
        refine Z.drop (i := 5) (L' := [.ref 1, .ref (58 + 3 * j), .ref 6, .int (nI (((siU (I 36) (I 37) (wM I j) (I 45 j).toNatClampNeg (J 6) i).1) + 1)), .int (nI (i + 1)), .retAddr 0, .int (soG (I 36) (I 37) (wM I j) (I 45 j).toNatClampNeg i)]) rfl ?_
        refine Z.drop (i := 6) (L' := [.ref 1, .ref (58 + 3 * j), .ref 6, .int (nI (((siU (I 36) (I 37) (wM I j) (I 45 j).toNatClampNeg (J 6) i).1) + 1)), .int (nI (i + 1)), .retAddr 0, .retAddr 0]) rfl ?_
        have e := ih (by omega)
        rw [show siU (I 36) (I 37) (wM I j) (I 45 j).toNatClampNeg (J 6) (i + 1) = ((siU (I 36) (I 37) (wM I j) (I 45 j).toNatClampNeg (J 6) i).1 + 1, upd (siU (I 36) (I 37) (wM I j) (I 45 j).toNatClampNeg (J 6) i).2 (siU (I 36) (I 37) (wM I j) (I 45 j).toNatClampNeg (J 6) i).1 (soG (I 36) (I 37) (wM I j) (I 45 j).toNatClampNeg i)) by rw [siU, if_neg ((so_c hM h_j (by omega)).resolve_left h3)]] at e
        exact e
    · refine Z.aload_n dX4_spell_25 rfl ?_
      refine Z.getR (r := 58 + 3 * j + 1) dX4_spell_26 cl1 flX4_62 (by decide) ho_j.1.1 rfl ?_
      refine Z.iload dX4_spell_29 rfl ?_
      refine Z.iconst (v := 1) dX4_spell_31 (by decide) ?_
      refine Z.iaddN (a := i) (b := 1) dX4_spell_32 ?_
      refine Z.ialdv (j := i + 1) (v := nI ((I 46 (40 * j + i + 1)).toNatClampNeg)) dX4_spell_33 ho_j.1.2.1 rfl (by omega) (by decide) ((up_nek (k := (i + 1)) (by omega)).trans ((hE.at (58 + 3 * j + 1) (i + 1) (scr58 j 1)).trans ((ho_j.2.1.2.2.2.2.1 (i + 1) (by omega)).trans (hw (40 * j + i + 1) (by omega)).1))) ?_
      refine Z.goto (tgt := 39) dX4_spell_34 (by decide) ?_
      have hw2 := (hw (40 * j + i + 1) (by omega)).2
      refine Z.istore (L' := [.ref 1, .ref (58 + 3 * j), .ref 6, .int (nI ((siU (I 36) (I 37) (wM I j) (I 45 j).toNatClampNeg (J 6) i).1)), .int (nI i), .int (nI ((I 46 (40 * j + i + 1)).toNatClampNeg)), .retAddr 0]) dX4_spell_39 (Nat.le_of_ble_eq_true rfl) rfl ?_
      have hw1 := (hw (40 * j + i) (by omega)).2
      refine Z.aload_n dX4_spell_41 rfl ?_
      refine Z.aload_n dX4_spell_42 rfl ?_
      refine Z.getR (r := 58 + 3 * j + 1) dX4_spell_43 cl1 flX4_62 (by decide) ho_j.1.1 rfl ?_
      refine Z.iload dX4_spell_46 rfl ?_
      refine Z.ialdv (j := i) (v := nI ((I 46 (40 * j + i)).toNatClampNeg)) dX4_spell_48 ho_j.1.2.1 rfl (by omega) (by decide) ((up_nek (k := i) (by omega)).trans ((hE.at (58 + 3 * j + 1) i (scr58 j 1)).trans ((ho_j.2.1.2.2.2.2.1 i (by omega)).trans (hw (40 * j + i) (by omega)).1))) ?_
      refine Z.iload dX4_spell_49 rfl ?_
      refine Z.callVp (M := mX4_spell) (pc := 51) (st := []) (N := mX4_heard) (n := 2) (r := .int (heardF (I 36) (I 37) ((I 46 (40 * j + i)).toNatClampNeg) ((I 46 (40 * j + i + 1)).toNatClampNeg))) dX4_spell_51 mlX4_65 mkX4_heard imX4_heard seX4_heard (fx1 hF) cl4 rfl (d1 := 0) (by decide) (As := [.int (nI ((I 46 (40 * j + i)).toNatClampNeg)), .int (nI ((I 46 (40 * j + i + 1)).toNatClampNeg))]) rfl ⟨rfl, Nat.le_of_ble_eq_true rfl⟩ ⟨rfl, Nat.le_of_ble_eq_true rfl⟩ (cc_heard (hE.up (a := 6) rfl) ((I 46 (40 * j + i)).toNatClampNeg) ((I 46 (40 * j + i + 1)).toNatClampNeg) hF hC hM (by omega) (by omega)) rfl ?_
      refine Z.eqLs (L' := [.ref 1, .ref (58 + 3 * j), .ref 6, .int (nI ((siU (I 36) (I 37) (wM I j) (I 45 j).toNatClampNeg (J 6) i).1)), .int (nI i), .int (nI ((I 46 (40 * j + i + 1)).toNatClampNeg)), .retAddr 0]) (st' := [.int (soG (I 36) (I 37) (wM I j) (I 45 j).toNatClampNeg i)]) rfl (by rw [show heardF (I 36) (I 37) ((I 46 (40 * j + i)).toNatClampNeg) ((I 46 (40 * j + i + 1)).toNatClampNeg) = soG (I 36) (I 37) (wM I j) (I 45 j).toNatClampNeg i by unfold soG wM; rw [if_pos (by omega)]; rfl]) ?_
      refine Z.istore (L' := [.ref 1, .ref (58 + 3 * j), .ref 6, .int (nI ((siU (I 36) (I 37) (wM I j) (I 45 j).toNatClampNeg (J 6) i).1)), .int (nI i), .int (nI ((I 46 (40 * j + i + 1)).toNatClampNeg)), .int (soG (I 36) (I 37) (wM I j) (I 45 j).toNatClampNeg i)]) dX4_spell_54 (Nat.le_of_ble_eq_true rfl) rfl ?_
      refine Z.iload dX4_spell_56 rfl ?_
      refine Z.iconst (v := (-1)) dX4_spell_58 (by decide) ?_
      refine Z.icmp_eq (tgt := 70) dX4_spell_59 (by decide) (fun h4 => ?_) (fun h4 => ?_)
      · refine Z.iinc (v := nI (i + 1)) (L' := [.ref 1, .ref (58 + 3 * j), .ref 6, .int (nI ((siU (I 36) (I 37) (wM I j) (I 45 j).toNatClampNeg (J 6) i).1)), .int (nI (i + 1)), .int (nI ((I 46 (40 * j + i + 1)).toNatClampNeg)), .int (soG (I 36) (I 37) (wM I j) (I 45 j).toNatClampNeg i)]) dX4_spell_70 rfl (nI_1 _) rfl ?_
        refine Z.goto (tgt := 5) dX4_spell_73 (by decide) ?_
        refine Z.drop (i := 5) (L' := [.ref 1, .ref (58 + 3 * j), .ref 6, .int (nI ((siU (I 36) (I 37) (wM I j) (I 45 j).toNatClampNeg (J 6) i).1)), .int (nI (i + 1)), .retAddr 0, .int (soG (I 36) (I 37) (wM I j) (I 45 j).toNatClampNeg i)]) rfl ?_
        refine Z.drop (i := 6) (L' := [.ref 1, .ref (58 + 3 * j), .ref 6, .int (nI ((siU (I 36) (I 37) (wM I j) (I 45 j).toNatClampNeg (J 6) i).1)), .int (nI (i + 1)), .retAddr 0, .retAddr 0]) rfl ?_
        have e := ih (by omega)
        rw [show siU (I 36) (I 37) (wM I j) (I 45 j).toNatClampNeg (J 6) (i + 1) = siU (I 36) (I 37) (wM I j) (I 45 j).toNatClampNeg (J 6) i by rw [siU, if_pos (by rw [h4]; decide)]] at e
        exact e
      · refine Z.aload_n dX4_spell_62 rfl ?_
        refine Z.iload_n dX4_spell_63 rfl ?_
        refine Z.iload dX4_spell_64 rfl ?_
        refine Z.iast (j := (siU (I 36) (I 37) (wM I j) (I 45 j).toNatClampNeg (J 6) i).1) (x := soG (I 36) (I 37) (wM I j) (I 45 j).toNatClampNeg i) dX4_spell_66 (fx6 hF) rfl (by omega) (by decide) ?_
        refine Z.eqI (bx_uu _ _ _ _) ?_
        refine Z.iinc (v := nI (((siU (I 36) (I 37) (wM I j) (I 45 j).toNatClampNeg (J 6) i).1) + 1)) (L' := [.ref 1, .ref (58 + 3 * j), .ref 6, .int (nI (((siU (I 36) (I 37) (wM I j) (I 45 j).toNatClampNeg (J 6) i).1) + 1)), .int (nI i), .int (nI ((I 46 (40 * j + i + 1)).toNatClampNeg)), .int (soG (I 36) (I 37) (wM I j) (I 45 j).toNatClampNeg i)]) dX4_spell_67 rfl (nI_1 _) rfl ?_
        refine Z.iinc (v := nI (i + 1)) (L' := [.ref 1, .ref (58 + 3 * j), .ref 6, .int (nI (((siU (I 36) (I 37) (wM I j) (I 45 j).toNatClampNeg (J 6) i).1) + 1)), .int (nI (i + 1)), .int (nI ((I 46 (40 * j + i + 1)).toNatClampNeg)), .int (soG (I 36) (I 37) (wM I j) (I 45 j).toNatClampNeg i)]) dX4_spell_70 rfl (nI_1 _) rfl ?_
        refine Z.goto (tgt := 5) dX4_spell_73 (by decide) ?_
        refine Z.drop (i := 5) (L' := [.ref 1, .ref (58 + 3 * j), .ref 6, .int (nI (((siU (I 36) (I 37) (wM I j) (I 45 j).toNatClampNeg (J 6) i).1) + 1)), .int (nI (i + 1)), .retAddr 0, .int (soG (I 36) (I 37) (wM I j) (I 45 j).toNatClampNeg i)]) rfl ?_
        refine Z.drop (i := 6) (L' := [.ref 1, .ref (58 + 3 * j), .ref 6, .int (nI (((siU (I 36) (I 37) (wM I j) (I 45 j).toNatClampNeg (J 6) i).1) + 1)), .int (nI (i + 1)), .retAddr 0, .retAddr 0]) rfl ?_
        have e := ih (by omega)
        rw [show siU (I 36) (I 37) (wM I j) (I 45 j).toNatClampNeg (J 6) (i + 1) = ((siU (I 36) (I 37) (wM I j) (I 45 j).toNatClampNeg (J 6) i).1 + 1, upd (siU (I 36) (I 37) (wM I j) (I 45 j).toNatClampNeg (J 6) i).2 (siU (I 36) (I 37) (wM I j) (I 45 j).toNatClampNeg (J 6) i).1 (soG (I 36) (I 37) (wM I j) (I 45 j).toNatClampNeg i)) by rw [siU, if_neg ((so_c hM h_j (by omega)).resolve_left h4)]] at e
        exact e

set_option maxHeartbeats 4000000 in
set_option maxRecDepth 100000 in
theorem cc_spellA {g : GP} {I J : IM} {S : SH} (hE : Ex I J)  (hF : Fx S) (hC : Cp I) (hM : MIv I) {j : Nat} (h_j : j < 120) (ho_j : Mo I S j) : Z g 1 0 0 mX4_spell 0 (enL mX4_spell [.ref 1, .ref (58 + 3 * j), .ref 6]) [] J S (PQ (.int (nI (siU (I 36) (I 37) (wM I j) (I 45 j).toNatClampNeg (J 6) (I 45 j).toNatClampNeg).1)) (va_up J 6 (siU (I 36) (I 37) (wM I j) (I 45 j).toNatClampNeg (J 6) (I 45 j).toNatClampNeg).2) S) := by
  show Z g 1 0 0 mX4_spell 0 [.ref 1, .ref (58 + 3 * j), .ref 6, .retAddr 0, .retAddr 0, .retAddr 0, .retAddr 0] [] J S _
  refine Z.iconst (v := 0) dX4_spell_0 (by decide) ?_
  refine Z.istore_n (L' := [.ref 1, .ref (58 + 3 * j), .ref 6, .int 0, .retAddr 0, .retAddr 0, .retAddr 0]) dX4_spell_1 (Nat.le_of_ble_eq_true rfl) rfl ?_
  refine Z.iconst (v := 0) dX4_spell_2 (by decide) ?_
  refine Z.istore (L' := [.ref 1, .ref (58 + 3 * j), .ref 6, .int 0, .int 0, .retAddr 0, .retAddr 0]) dX4_spell_3 (Nat.le_of_ble_eq_true rfl) rfl ?_
  refine Z.eqI (up_self (a := 6)).symm ?_
  exact lc_spellA hE hF hC hM h_j ho_j 0 (Nat.zero_le _)

set_option maxHeartbeats 4000000 in
set_option maxRecDepth 100000 in
theorem lc_spellB {g : GP} {I J : IM} {S : SH} (hE : Ex I J)  (hF : Fx S) (hC : Cp I) (hM : MIv I) {j : Nat} (h_j : j < 120) (ho_j : Mo I S j) : ∀ i, i ≤ (I 45 j).toNatClampNeg → Z g 1 0 0 mX4_spell 5 [.ref 1, .ref (58 + 3 * j), .ref 7, .int (nI ((siU (I 36) (I 37) (wM I j) (I 45 j).toNatClampNeg (J 7) i).1)), .int (nI i), .retAddr 0, .retAddr 0] [] (va_up J 7 ((siU (I 36) (I 37) (wM I j) (I 45 j).toNatClampNeg (J 7) i).2)) S (PQ (.int (nI (siU (I 36) (I 37) (wM I j) (I 45 j).toNatClampNeg (J 7) (I 45 j).toNatClampNeg).1)) (va_up J 7 (siU (I 36) (I 37) (wM I j) (I 45 j).toNatClampNeg (J 7) (I 45 j).toNatClampNeg).2) S) := by
  refine upZ ((I 45 j).toNatClampNeg) (fun i hi ih => ?_)
  have hw := hM.2.2.2.2.1
  have hl_j := hM.2.2.1 _ h_j
  have hc_j := hM.2.2.2.1 _ h_j
  have hl2_j := hl_j.2
  have hc2_j := hc_j.2
  have hcl_j := ho_j.2.2
  have h12_j := clL_le (I := I) (j := j)
  have hle : (siU (I 36) (I 37) (wM I j) (I 45 j).toNatClampNeg (J 7) i).1 ≤ i := siU_le i
  refine Z.iload dX4_spell_5 rfl ?_
  refine Z.aload_n dX4_spell_7 rfl ?_
  refine Z.getIv (v := nI ((I 45 j).toNatClampNeg)) dX4_spell_8 cl1 flX4_56 (by decide) ho_j.1.1 ((up_nek (k := 4) (by omega)).trans ((hE.at (58 + 3 * j) 4 (scr58_0 j)).trans (ho_j.2.1.2.2.1.trans hl_j.1))) ?_
  refine Z.icmp_geN (a := i) (b := (I 45 j).toNatClampNeg) (by omega) (by omega) (tgt := 76) dX4_spell_11 (by decide) (fun h1 => ?_) (fun h1 => ?_)
  · refine Z.iload_n dX4_spell_76 rfl ?_
    exact Z.iret dX4_spell_77 rfl ⟨by rw [show i = (I 45 j).toNatClampNeg by omega], by rw [show i = (I 45 j).toNatClampNeg by omega], rfl⟩
  · refine Z.iload dX4_spell_14 rfl ?_
    refine Z.iconst (v := 1) dX4_spell_16 (by decide) ?_
    refine Z.iaddN (a := i) (b := 1) dX4_spell_17 ?_
    refine Z.aload_n dX4_spell_18 rfl ?_
    refine Z.getIv (v := nI ((I 45 j).toNatClampNeg)) dX4_spell_19 cl1 flX4_56 (by decide) ho_j.1.1 ((up_nek (k := 4) (by omega)).trans ((hE.at (58 + 3 * j) 4 (scr58_0 j)).trans (ho_j.2.1.2.2.1.trans hl_j.1))) ?_
    refine Z.icmp_geN (a := i + 1) (b := (I 45 j).toNatClampNeg) (by omega) (by omega) (tgt := 37) dX4_spell_22 (by decide) (fun h2 => ?_) (fun h2 => ?_)
    · refine Z.bipush (v := 26) dX4_spell_37 (by decide) ?_
      refine Z.istore (L' := [.ref 1, .ref (58 + 3 * j), .ref 7, .int (nI ((siU (I 36) (I 37) (wM I j) (I 45 j).toNatClampNeg (J 7) i).1)), .int (nI i), .int 26, .retAddr 0]) dX4_spell_39 (Nat.le_of_ble_eq_true rfl) rfl ?_
      have hw1 := (hw (40 * j + i) (by omega)).2
      refine Z.aload_n dX4_spell_41 rfl ?_
      refine Z.aload_n dX4_spell_42 rfl ?_
      refine Z.getR (r := 58 + 3 * j + 1) dX4_spell_43 cl1 flX4_62 (by decide) ho_j.1.1 rfl ?_
      refine Z.iload dX4_spell_46 rfl ?_
      refine Z.ialdv (j := i) (v := nI ((I 46 (40 * j + i)).toNatClampNeg)) dX4_spell_48 ho_j.1.2.1 rfl (by omega) (by decide) ((up_nek (k := i) (by omega)).trans ((hE.at (58 + 3 * j + 1) i (scr58 j 1)).trans ((ho_j.2.1.2.2.2.2.1 i (by omega)).trans (hw (40 * j + i) (by omega)).1))) ?_
      refine Z.iload dX4_spell_49 rfl ?_
      refine Z.callVp (M := mX4_spell) (pc := 51) (st := []) (N := mX4_heard) (n := 2) (r := .int (heardF (I 36) (I 37) ((I 46 (40 * j + i)).toNatClampNeg) 26)) dX4_spell_51 mlX4_65 mkX4_heard imX4_heard seX4_heard (fx1 hF) cl4 rfl (d1 := 0) (by decide) (As := [.int (nI ((I 46 (40 * j + i)).toNatClampNeg)), .int 26]) rfl ⟨rfl, Nat.le_of_ble_eq_true rfl⟩ ⟨rfl, Nat.le_of_ble_eq_true rfl⟩ (cc_heard (hE.up (a := 7) rfl) ((I 46 (40 * j + i)).toNatClampNeg) 26 hF hC hM (by omega) (by omega)) rfl ?_
      refine Z.eqLs (L' := [.ref 1, .ref (58 + 3 * j), .ref 7, .int (nI ((siU (I 36) (I 37) (wM I j) (I 45 j).toNatClampNeg (J 7) i).1)), .int (nI i), .int 26, .retAddr 0]) (st' := [.int (soG (I 36) (I 37) (wM I j) (I 45 j).toNatClampNeg i)]) rfl (by rw [show heardF (I 36) (I 37) ((I 46 (40 * j + i)).toNatClampNeg) 26 = soG (I 36) (I 37) (wM I j) (I 45 j).toNatClampNeg i by unfold soG wM; rw [if_neg (by omega)]]) ?_
      refine Z.istore (L' := [.ref 1, .ref (58 + 3 * j), .ref 7, .int (nI ((siU (I 36) (I 37) (wM I j) (I 45 j).toNatClampNeg (J 7) i).1)), .int (nI i), .int 26, .int (soG (I 36) (I 37) (wM I j) (I 45 j).toNatClampNeg i)]) dX4_spell_54 (Nat.le_of_ble_eq_true rfl) rfl ?_
      refine Z.iload dX4_spell_56 rfl ?_
      refine Z.iconst (v := (-1)) dX4_spell_58 (by decide) ?_
      refine Z.icmp_eq (tgt := 70) dX4_spell_59 (by decide) (fun h3 => ?_) (fun h3 => ?_)
      · refine Z.iinc (v := nI (i + 1)) (L' := [.ref 1, .ref (58 + 3 * j), .ref 7, .int (nI ((siU (I 36) (I 37) (wM I j) (I 45 j).toNatClampNeg (J 7) i).1)), .int (nI (i + 1)), .int 26, .int (soG (I 36) (I 37) (wM I j) (I 45 j).toNatClampNeg i)]) dX4_spell_70 rfl (nI_1 _) rfl ?_
        refine Z.goto (tgt := 5) dX4_spell_73 (by decide) ?_
        refine Z.drop (i := 5) (L' := [.ref 1, .ref (58 + 3 * j), .ref 7, .int (nI ((siU (I 36) (I 37) (wM I j) (I 45 j).toNatClampNeg (J 7) i).1)), .int (nI (i + 1)), .retAddr 0, .int (soG (I 36) (I 37) (wM I j) (I 45 j).toNatClampNeg i)]) rfl ?_
        refine Z.drop (i := 6) (L' := [.ref 1, .ref (58 + 3 * j), .ref 7, .int (nI ((siU (I 36) (I 37) (wM I j) (I 45 j).toNatClampNeg (J 7) i).1)), .int (nI (i + 1)), .retAddr 0, .retAddr 0]) rfl ?_
        have e := ih (by omega)
        rw [show siU (I 36) (I 37) (wM I j) (I 45 j).toNatClampNeg (J 7) (i + 1) = siU (I 36) (I 37) (wM I j) (I 45 j).toNatClampNeg (J 7) i by rw [siU, if_pos (by rw [h3]; decide)]] at e
        exact e
      · refine Z.aload_n dX4_spell_62 rfl ?_
        refine Z.iload_n dX4_spell_63 rfl ?_
        refine Z.iload dX4_spell_64 rfl ?_
        refine Z.iast (j := (siU (I 36) (I 37) (wM I j) (I 45 j).toNatClampNeg (J 7) i).1) (x := soG (I 36) (I 37) (wM I j) (I 45 j).toNatClampNeg i) dX4_spell_66 (fx7 hF) rfl (by omega) (by decide) ?_
        refine Z.eqI (bx_uu _ _ _ _) ?_
        refine Z.iinc (v := nI (((siU (I 36) (I 37) (wM I j) (I 45 j).toNatClampNeg (J 7) i).1) + 1)) (L' := [.ref 1, .ref (58 + 3 * j), .ref 7, .int (nI (((siU (I 36) (I 37) (wM I j) (I 45 j).toNatClampNeg (J 7) i).1) + 1)), .int (nI i), .int 26, .int (soG (I 36) (I 37) (wM I j) (I 45 j).toNatClampNeg i)]) dX4_spell_67 rfl (nI_1 _) rfl ?_
        refine Z.iinc (v := nI (i + 1)) (L' := [.ref 1, .ref (58 + 3 * j), .ref 7, .int (nI (((siU (I 36) (I 37) (wM I j) (I 45 j).toNatClampNeg (J 7) i).1) + 1)), .int (nI (i + 1)), .int 26, .int (soG (I 36) (I 37) (wM I j) (I 45 j).toNatClampNeg i)]) dX4_spell_70 rfl (nI_1 _) rfl ?_
        refine Z.goto (tgt := 5) dX4_spell_73 (by decide) ?_
        refine Z.drop (i := 5) (L' := [.ref 1, .ref (58 + 3 * j), .ref 7, .int (nI (((siU (I 36) (I 37) (wM I j) (I 45 j).toNatClampNeg (J 7) i).1) + 1)), .int (nI (i + 1)), .retAddr 0, .int (soG (I 36) (I 37) (wM I j) (I 45 j).toNatClampNeg i)]) rfl ?_
        refine Z.drop (i := 6) (L' := [.ref 1, .ref (58 + 3 * j), .ref 7, .int (nI (((siU (I 36) (I 37) (wM I j) (I 45 j).toNatClampNeg (J 7) i).1) + 1)), .int (nI (i + 1)), .retAddr 0, .retAddr 0]) rfl ?_
        have e := ih (by omega)
        rw [show siU (I 36) (I 37) (wM I j) (I 45 j).toNatClampNeg (J 7) (i + 1) = ((siU (I 36) (I 37) (wM I j) (I 45 j).toNatClampNeg (J 7) i).1 + 1, upd (siU (I 36) (I 37) (wM I j) (I 45 j).toNatClampNeg (J 7) i).2 (siU (I 36) (I 37) (wM I j) (I 45 j).toNatClampNeg (J 7) i).1 (soG (I 36) (I 37) (wM I j) (I 45 j).toNatClampNeg i)) by rw [siU, if_neg ((so_c hM h_j (by omega)).resolve_left h3)]] at e
        exact e
    · refine Z.aload_n dX4_spell_25 rfl ?_
      refine Z.getR (r := 58 + 3 * j + 1) dX4_spell_26 cl1 flX4_62 (by decide) ho_j.1.1 rfl ?_
      refine Z.iload dX4_spell_29 rfl ?_
      refine Z.iconst (v := 1) dX4_spell_31 (by decide) ?_
      refine Z.iaddN (a := i) (b := 1) dX4_spell_32 ?_
      refine Z.ialdv (j := i + 1) (v := nI ((I 46 (40 * j + i + 1)).toNatClampNeg)) dX4_spell_33 ho_j.1.2.1 rfl (by omega) (by decide) ((up_nek (k := (i + 1)) (by omega)).trans ((hE.at (58 + 3 * j + 1) (i + 1) (scr58 j 1)).trans ((ho_j.2.1.2.2.2.2.1 (i + 1) (by omega)).trans (hw (40 * j + i + 1) (by omega)).1))) ?_
      refine Z.goto (tgt := 39) dX4_spell_34 (by decide) ?_
      have hw2 := (hw (40 * j + i + 1) (by omega)).2
      refine Z.istore (L' := [.ref 1, .ref (58 + 3 * j), .ref 7, .int (nI ((siU (I 36) (I 37) (wM I j) (I 45 j).toNatClampNeg (J 7) i).1)), .int (nI i), .int (nI ((I 46 (40 * j + i + 1)).toNatClampNeg)), .retAddr 0]) dX4_spell_39 (Nat.le_of_ble_eq_true rfl) rfl ?_
      have hw1 := (hw (40 * j + i) (by omega)).2
      refine Z.aload_n dX4_spell_41 rfl ?_
      refine Z.aload_n dX4_spell_42 rfl ?_
      refine Z.getR (r := 58 + 3 * j + 1) dX4_spell_43 cl1 flX4_62 (by decide) ho_j.1.1 rfl ?_
      refine Z.iload dX4_spell_46 rfl ?_
      refine Z.ialdv (j := i) (v := nI ((I 46 (40 * j + i)).toNatClampNeg)) dX4_spell_48 ho_j.1.2.1 rfl (by omega) (by decide) ((up_nek (k := i) (by omega)).trans ((hE.at (58 + 3 * j + 1) i (scr58 j 1)).trans ((ho_j.2.1.2.2.2.2.1 i (by omega)).trans (hw (40 * j + i) (by omega)).1))) ?_
      refine Z.iload dX4_spell_49 rfl ?_
      refine Z.callVp (M := mX4_spell) (pc := 51) (st := []) (N := mX4_heard) (n := 2) (r := .int (heardF (I 36) (I 37) ((I 46 (40 * j + i)).toNatClampNeg) ((I 46 (40 * j + i + 1)).toNatClampNeg))) dX4_spell_51 mlX4_65 mkX4_heard imX4_heard seX4_heard (fx1 hF) cl4 rfl (d1 := 0) (by decide) (As := [.int (nI ((I 46 (40 * j + i)).toNatClampNeg)), .int (nI ((I 46 (40 * j + i + 1)).toNatClampNeg))]) rfl ⟨rfl, Nat.le_of_ble_eq_true rfl⟩ ⟨rfl, Nat.le_of_ble_eq_true rfl⟩ (cc_heard (hE.up (a := 7) rfl) ((I 46 (40 * j + i)).toNatClampNeg) ((I 46 (40 * j + i + 1)).toNatClampNeg) hF hC hM (by omega) (by omega)) rfl ?_
      refine Z.eqLs (L' := [.ref 1, .ref (58 + 3 * j), .ref 7, .int (nI ((siU (I 36) (I 37) (wM I j) (I 45 j).toNatClampNeg (J 7) i).1)), .int (nI i), .int (nI ((I 46 (40 * j + i + 1)).toNatClampNeg)), .retAddr 0]) (st' := [.int (soG (I 36) (I 37) (wM I j) (I 45 j).toNatClampNeg i)]) rfl (by rw [show heardF (I 36) (I 37) ((I 46 (40 * j + i)).toNatClampNeg) ((I 46 (40 * j + i + 1)).toNatClampNeg) = soG (I 36) (I 37) (wM I j) (I 45 j).toNatClampNeg i by unfold soG wM; rw [if_pos (by omega)]; rfl]) ?_
      refine Z.istore (L' := [.ref 1, .ref (58 + 3 * j), .ref 7, .int (nI ((siU (I 36) (I 37) (wM I j) (I 45 j).toNatClampNeg (J 7) i).1)), .int (nI i), .int (nI ((I 46 (40 * j + i + 1)).toNatClampNeg)), .int (soG (I 36) (I 37) (wM I j) (I 45 j).toNatClampNeg i)]) dX4_spell_54 (Nat.le_of_ble_eq_true rfl) rfl ?_
      refine Z.iload dX4_spell_56 rfl ?_
      refine Z.iconst (v := (-1)) dX4_spell_58 (by decide) ?_
      refine Z.icmp_eq (tgt := 70) dX4_spell_59 (by decide) (fun h4 => ?_) (fun h4 => ?_)
      · refine Z.iinc (v := nI (i + 1)) (L' := [.ref 1, .ref (58 + 3 * j), .ref 7, .int (nI ((siU (I 36) (I 37) (wM I j) (I 45 j).toNatClampNeg (J 7) i).1)), .int (nI (i + 1)), .int (nI ((I 46 (40 * j + i + 1)).toNatClampNeg)), .int (soG (I 36) (I 37) (wM I j) (I 45 j).toNatClampNeg i)]) dX4_spell_70 rfl (nI_1 _) rfl ?_
        refine Z.goto (tgt := 5) dX4_spell_73 (by decide) ?_
        refine Z.drop (i := 5) (L' := [.ref 1, .ref (58 + 3 * j), .ref 7, .int (nI ((siU (I 36) (I 37) (wM I j) (I 45 j).toNatClampNeg (J 7) i).1)), .int (nI (i + 1)), .retAddr 0, .int (soG (I 36) (I 37) (wM I j) (I 45 j).toNatClampNeg i)]) rfl ?_
        refine Z.drop (i := 6) (L' := [.ref 1, .ref (58 + 3 * j), .ref 7, .int (nI ((siU (I 36) (I 37) (wM I j) (I 45 j).toNatClampNeg (J 7) i).1)), .int (nI (i + 1)), .retAddr 0, .retAddr 0]) rfl ?_
        have e := ih (by omega)
        rw [show siU (I 36) (I 37) (wM I j) (I 45 j).toNatClampNeg (J 7) (i + 1) = siU (I 36) (I 37) (wM I j) (I 45 j).toNatClampNeg (J 7) i by rw [siU, if_pos (by rw [h4]; decide)]] at e
        exact e
      · refine Z.aload_n dX4_spell_62 rfl ?_
        refine Z.iload_n dX4_spell_63 rfl ?_
        refine Z.iload dX4_spell_64 rfl ?_
        refine Z.iast (j := (siU (I 36) (I 37) (wM I j) (I 45 j).toNatClampNeg (J 7) i).1) (x := soG (I 36) (I 37) (wM I j) (I 45 j).toNatClampNeg i) dX4_spell_66 (fx7 hF) rfl (by omega) (by decide) ?_
        refine Z.eqI (bx_uu _ _ _ _) ?_
        refine Z.iinc (v := nI (((siU (I 36) (I 37) (wM I j) (I 45 j).toNatClampNeg (J 7) i).1) + 1)) (L' := [.ref 1, .ref (58 + 3 * j), .ref 7, .int (nI (((siU (I 36) (I 37) (wM I j) (I 45 j).toNatClampNeg (J 7) i).1) + 1)), .int (nI i), .int (nI ((I 46 (40 * j + i + 1)).toNatClampNeg)), .int (soG (I 36) (I 37) (wM I j) (I 45 j).toNatClampNeg i)]) dX4_spell_67 rfl (nI_1 _) rfl ?_
        refine Z.iinc (v := nI (i + 1)) (L' := [.ref 1, .ref (58 + 3 * j), .ref 7, .int (nI (((siU (I 36) (I 37) (wM I j) (I 45 j).toNatClampNeg (J 7) i).1) + 1)), .int (nI (i + 1)), .int (nI ((I 46 (40 * j + i + 1)).toNatClampNeg)), .int (soG (I 36) (I 37) (wM I j) (I 45 j).toNatClampNeg i)]) dX4_spell_70 rfl (nI_1 _) rfl ?_
        refine Z.goto (tgt := 5) dX4_spell_73 (by decide) ?_
        refine Z.drop (i := 5) (L' := [.ref 1, .ref (58 + 3 * j), .ref 7, .int (nI (((siU (I 36) (I 37) (wM I j) (I 45 j).toNatClampNeg (J 7) i).1) + 1)), .int (nI (i + 1)), .retAddr 0, .int (soG (I 36) (I 37) (wM I j) (I 45 j).toNatClampNeg i)]) rfl ?_
        refine Z.drop (i := 6) (L' := [.ref 1, .ref (58 + 3 * j), .ref 7, .int (nI (((siU (I 36) (I 37) (wM I j) (I 45 j).toNatClampNeg (J 7) i).1) + 1)), .int (nI (i + 1)), .retAddr 0, .retAddr 0]) rfl ?_
        have e := ih (by omega)
        rw [show siU (I 36) (I 37) (wM I j) (I 45 j).toNatClampNeg (J 7) (i + 1) = ((siU (I 36) (I 37) (wM I j) (I 45 j).toNatClampNeg (J 7) i).1 + 1, upd (siU (I 36) (I 37) (wM I j) (I 45 j).toNatClampNeg (J 7) i).2 (siU (I 36) (I 37) (wM I j) (I 45 j).toNatClampNeg (J 7) i).1 (soG (I 36) (I 37) (wM I j) (I 45 j).toNatClampNeg i)) by rw [siU, if_neg ((so_c hM h_j (by omega)).resolve_left h4)]] at e
        exact e

set_option maxHeartbeats 4000000 in
set_option maxRecDepth 100000 in
theorem cc_spellB {g : GP} {I J : IM} {S : SH} (hE : Ex I J)  (hF : Fx S) (hC : Cp I) (hM : MIv I) {j : Nat} (h_j : j < 120) (ho_j : Mo I S j) : Z g 1 0 0 mX4_spell 0 (enL mX4_spell [.ref 1, .ref (58 + 3 * j), .ref 7]) [] J S (PQ (.int (nI (siU (I 36) (I 37) (wM I j) (I 45 j).toNatClampNeg (J 7) (I 45 j).toNatClampNeg).1)) (va_up J 7 (siU (I 36) (I 37) (wM I j) (I 45 j).toNatClampNeg (J 7) (I 45 j).toNatClampNeg).2) S) := by
  show Z g 1 0 0 mX4_spell 0 [.ref 1, .ref (58 + 3 * j), .ref 7, .retAddr 0, .retAddr 0, .retAddr 0, .retAddr 0] [] J S _
  refine Z.iconst (v := 0) dX4_spell_0 (by decide) ?_
  refine Z.istore_n (L' := [.ref 1, .ref (58 + 3 * j), .ref 7, .int 0, .retAddr 0, .retAddr 0, .retAddr 0]) dX4_spell_1 (Nat.le_of_ble_eq_true rfl) rfl ?_
  refine Z.iconst (v := 0) dX4_spell_2 (by decide) ?_
  refine Z.istore (L' := [.ref 1, .ref (58 + 3 * j), .ref 7, .int 0, .int 0, .retAddr 0, .retAddr 0]) dX4_spell_3 (Nat.le_of_ble_eq_true rfl) rfl ?_
  refine Z.eqI (up_self (a := 7)).symm ?_
  exact lc_spellB hE hF hC hM h_j ho_j 0 (Nat.zero_le _)

