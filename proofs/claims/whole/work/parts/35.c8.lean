theorem sw_0_7 (x : Int32) : x = 0 ∨ x = 1 ∨ x = 2 ∨ x = 3 ∨ x = 4 ∨ x = 5 ∨ x = 6 ∨ x = 7 ∨ (x.toInt < 0 ∨ 7 < x.toInt) := by
  by_cases h : x.toInt < 0 ∨ ((7 : Nat) : Int) < x.toInt
  · rcases h with h | h <;> (right; right; right; right; right; right; right; right <;> omega)
  · obtain ⟨j, hj, rfl⟩ := sw_aux h (by decide)
    match j, hj with
    | 0, _ => exact Or.inl rfl
    | 1, _ => exact Or.inr (Or.inl rfl)
    | 2, _ => exact Or.inr (Or.inr (Or.inl rfl))
    | 3, _ => exact Or.inr (Or.inr (Or.inr (Or.inl rfl)))
    | 4, _ => exact Or.inr (Or.inr (Or.inr (Or.inr (Or.inl rfl))))
    | 5, _ => exact Or.inr (Or.inr (Or.inr (Or.inr (Or.inr (Or.inl rfl)))))
    | 6, _ => exact Or.inr (Or.inr (Or.inr (Or.inr (Or.inr (Or.inr (Or.inl rfl))))))
    | 7, _ => exact Or.inr (Or.inr (Or.inr (Or.inr (Or.inr (Or.inr (Or.inr (Or.inl rfl)))))))
    | j + 8, hj => exact absurd hj (by omega)
theorem sw07_o {x : Int32} (h : x.toInt < 0 ∨ 7 < x.toInt) : ¬ x = 0 ∧ ¬ x = 1 ∧ ¬ x = 2 ∧ ¬ x = 3 ∧ ¬ x = 4 ∧ ¬ x = 5 ∧ ¬ x = 6 ∧ ¬ x = 7 := by
  refine ⟨?_, ?_, ?_, ?_, ?_, ?_, ?_, ?_⟩ <;> (intro q; rw [q] at h; revert h; decide)
theorem VA_0 {I : IM} {m c t : Int32} {F : Nat → Int32} (h0 : F 0 = t) (h1 : F 1 = -1) (h2 : F 2 = -1) (h3 : F 3 = 0) (h4 : F 4 = 0) (h5 : F 5 = 0) (h6 : F 6 = 0) (h7 : F 7 = 0) (h8 : F 8 = 0) : VA I 0 m c t F 0 := by
  have e : ∀ k x, eaF (pM I 0) k m x t = -1 := fun k x => rfl
  have l : ∀ k x, latF (pM I 0) k m x t = -1 := fun k x => rfl
  refine ⟨h0, ?_, fun _ => ?_, h3, h4, ?_, ?_, ?_, h8, by omega⟩
  · rw [h1, firF, e, if_pos (by decide)]
  · rw [h2, enF, e, if_pos (by decide)]
  · rw [h5, strF, l]; decide
  · rw [h6, l]; decide
  · rw [h7, l]; decide
theorem VB_0 {I : IM} {m t : Int32} {G Sn Us Gv : Nat → Int32} : VB I 0 m t G Sn Us Gv 0 := by
  refine ⟨fun q h => absurd h (Nat.not_lt_zero _), fun g _ h => absurd ?_ h, fun q r h => absurd h (Nat.not_lt_zero _)⟩
  have l : ∀ k x, latF (pM I 0) k m x t = -1 := fun k x => rfl
  rw [sinceF, l, if_pos (Or.inl (by decide))]
  decide
/-- what holds of the log -/
def LG (I : IM) (n : Nat) : Prop := Dn I n ∧ So I n ∧ ∀ i, i < n → PW I i
theorem V_rest {I : IM} {n K : Nat} {m c t : Int32} {F G Sn Us Gv : Nat → Int32} (hn4 : n ≤ 400) : ∀ (k i : Nat), i + k = n → (∀ j, i ≤ j → j < n → t < I 52 j) → VA I i m c t F K → VB I i m t G Sn Us Gv K → VA I n m c t F K ∧ VB I n m t G Sn Us Gv K
  | 0, i, hi, _, hA, hB => by
    have : i = n := by omega
    subst this
    exact ⟨hA, hB⟩
  | k + 1, i, hi, hl, hA, hB => by
    have hs : ¬ (I 50 i = m ∧ ¬ t < I 52 i) := fun z => z.2 (hl i (Nat.le_refl _) (by omega))
    exact V_rest hn4 k (i + 1) (by omega) (fun j h1 h2 => hl j (by omega) h2) (VA_sk (by omega) hs hA) (VB_sk hs hB)
set_option maxHeartbeats 4000000 in
set_option maxRecDepth 100000 in
theorem cv_readPaper19 {g : GP} {I J : IM} {S : SH} (hE : Ex I J)  {i n K : Nat} {m c t : Int32} (hF : Fx S) (hin : i < n) (hn4 : n ≤ 400) (hD : Dn I n) (hso : So I n) (hpw : PW I i) (hm : I 50 i = m) (hd : ¬ t < I 52 i) (hA : VA I i m c t (J 19) K) (hB : VB I i m t (J 20) (J 21) (J 22) (J 23) K) : Z g 2 0 0 mX5_readPaper 0 (enL mX5_readPaper [.ref 19, .int (I 49 i), .int (I 51 i), .int (I 52 i), .int c]) [] J S (RQ19 I J S (i + 1) m c t) := by
  show Z g 2 0 0 mX5_readPaper 0 [.ref 19, .int (I 49 i), .int (I 51 i), .int (I 52 i), .int c] [] J S _
  have hi4 : i ≤ 400 := by omega
  have hK := hA.2.2.2.2.2.2.2.2.2
  have hcn1 := cntU_le (p := pM I i) (k := 1) (m := m) (t := t) i
  have hcn2 := cntU_le (p := pM I i) (k := 2) (m := m) (t := t) i
  refine Z.iload_n dX5_readPaper_0 rfl ?_
  rcases sw_0_7 (I 49 i) with h1 | h1 | h1 | h1 | h1 | h1 | h1 | h1 | h1
  · refine Z.tableIn (off := 47) (tgt := 48) dX5_readPaper_1 (by rw [h1]; decide) (by rw [h1]; decide) (by rw [h1]; decide) (by decide) ?_
    refine Z.aload_n dX5_readPaper_48 rfl ?_
    refine Z.iload_n dX5_readPaper_49 rfl ?_
    refine Z.iload_n dX5_readPaper_50 rfl ?_
    refine Z.callVg (M := mX5_readPaper) (pc := 51) (st := []) (N := mX5_readGoods) (n := 2) dX5_readPaper_51 mlX5_109 mkX5_readGoods imX5_readGoods seX5_readGoods (fx19 hF) cl5 rfl (d1 := 1) (by decide) (As := [.int (I 51 i), .int (I 52 i)]) rfl ⟨rfl, Nat.le_of_ble_eq_true rfl⟩ ⟨rfl, Nat.le_of_ble_eq_true rfl⟩ (cv_readGoods19 hE hF hin hn4 hD hso hpw hm hd h1 hA hB) rfl (fun v_ J1 S_ h_ => ?_)
    obtain ⟨rfl, hw2, hV2, rfl⟩ := h_
    refine Z.goto (tgt := 115) dX5_readPaper_54 (by decide) ?_
    exact Z.vret dX5_readPaper_115 rfl ⟨rfl, hw2, hV2, rfl⟩
  · refine Z.tableIn (off := 56) (tgt := 57) dX5_readPaper_1 (by rw [h1]; decide) (by rw [h1]; decide) (by rw [h1]; decide) (by decide) ?_
    refine Z.aload_n dX5_readPaper_57 rfl ?_
    refine Z.iload_n dX5_readPaper_58 rfl ?_
    refine Z.iload_n dX5_readPaper_59 rfl ?_
    refine Z.iload dX5_readPaper_60 rfl ?_
    refine Z.callVg (M := mX5_readPaper) (pc := 62) (st := []) (N := mX5_readEnter) (n := 3) dX5_readPaper_62 mlX5_113 mkX5_readEnter imX5_readEnter seX5_readEnter (fx19 hF) cl5 rfl (d1 := 0) (by decide) (As := [.int (I 51 i), .int (I 52 i), .int c]) rfl ⟨rfl, Nat.le_of_ble_eq_true rfl⟩ ⟨rfl, Nat.le_of_ble_eq_true rfl⟩ (cv_readEnter19 hE hF hin hn4 hD hso hpw hm hd h1 hA hB) rfl (fun v_ J2 S_ h_ => ?_)
    obtain ⟨rfl, hw2, hV2, rfl⟩ := h_
    refine Z.goto (tgt := 115) dX5_readPaper_65 (by decide) ?_
    exact Z.vret dX5_readPaper_115 rfl ⟨rfl, hw2, hV2, rfl⟩
  · refine Z.tableIn (off := 67) (tgt := 68) dX5_readPaper_1 (by rw [h1]; decide) (by rw [h1]; decide) (by rw [h1]; decide) (by decide) ?_
    refine Z.aload_n dX5_readPaper_68 rfl ?_
    refine Z.dupR dX5_readPaper_69 ?_
    refine Z.getIv (v := nI (cntF (pM I i) 2 m t)) dX5_readPaper_70 cl5 flX5_58 (by decide) (fx19 hF) hA.2.2.2.2.1 ?_
    refine Z.iconst (v := 1) dX5_readPaper_73 (by decide) ?_
    refine Z.iaddN (a := cntF (pM I i) 2 m t) (b := 1) dX5_readPaper_74 ?_
    refine Z.putI (x := nI ((cntF (pM I i) 2 m t) + 1)) dX5_readPaper_75 cl5 flX5_58 (by decide) ⟨rfl, rfl⟩ (fx19 hF) ?_
    refine Z.goto (tgt := 115) dX5_readPaper_78 (by decide) ?_
    exact Z.vret dX5_readPaper_115 rfl ⟨rfl, (fun a ha => by simp [va_up, show ¬ a = 19 by omega]), ⟨K, (VA_step hin hn4 hD hso hpw hm hd hA rfl (by rw [h1, if_neg (fun z => absurd z.1 (by decide))] <;> rfl) (by rw [h1, if_neg (fun z => absurd z.1 (by decide))] <;> rfl) (by rw [h1, if_neg (by decide)] <;> rfl) (by rw [h1, if_pos (by decide)] <;> rfl) (by rw [h1, if_neg (by decide)] <;> rfl) (by rw [h1, if_neg (by decide)] <;> rfl) (by rw [h1, if_neg (by decide)] <;> rfl) (hA.2.2.2.2.2.2.2.2.1) (hA.2.2.2.2.2.2.2.2.2)), (VB_oth hm hd (by rw [h1]; decide) (by rw [h1]; decide) (by rw [h1]; decide) hB)⟩, rfl⟩
  · refine Z.tableIn (off := 80) (tgt := 81) dX5_readPaper_1 (by rw [h1]; decide) (by rw [h1]; decide) (by rw [h1]; decide) (by decide) ?_
    refine Z.aload_n dX5_readPaper_81 rfl ?_
    refine Z.iload_n dX5_readPaper_82 rfl ?_
    refine Z.iload_n dX5_readPaper_83 rfl ?_
    refine Z.callVg (M := mX5_readPaper) (pc := 84) (st := []) (N := mX5_readGive) (n := 2) dX5_readPaper_84 mlX5_117 mkX5_readGive imX5_readGive seX5_readGive (fx19 hF) cl5 rfl (d1 := 1) (by decide) (As := [.int (I 51 i), .int (I 52 i)]) rfl ⟨rfl, Nat.le_of_ble_eq_true rfl⟩ ⟨rfl, Nat.le_of_ble_eq_true rfl⟩ (cv_readGive19 hE hF hin hn4 hD hso hpw hm hd h1 hA hB) rfl (fun v_ J3 S_ h_ => ?_)
    obtain ⟨rfl, hw2, hV2, rfl⟩ := h_
    refine Z.goto (tgt := 115) dX5_readPaper_87 (by decide) ?_
    exact Z.vret dX5_readPaper_115 rfl ⟨rfl, hw2, hV2, rfl⟩
  · refine Z.tableIn (off := 89) (tgt := 90) dX5_readPaper_1 (by rw [h1]; decide) (by rw [h1]; decide) (by rw [h1]; decide) (by decide) ?_
    refine Z.aload_n dX5_readPaper_90 rfl ?_
    refine Z.iconst (v := 1) dX5_readPaper_91 (by decide) ?_
    refine Z.putI (x := 1) dX5_readPaper_92 cl5 flX5_89 (by decide) ⟨by decide, by decide⟩ (fx19 hF) ?_
    refine Z.goto (tgt := 115) dX5_readPaper_95 (by decide) ?_
    exact Z.vret dX5_readPaper_115 rfl ⟨rfl, (fun a ha => by simp [va_up, show ¬ a = 19 by omega]), ⟨K, (VA_step hin hn4 hD hso hpw hm hd hA rfl (by rw [h1, if_neg (fun z => absurd z.1 (by decide))] <;> rfl) (by rw [h1, if_neg (fun z => absurd z.1 (by decide))] <;> rfl) (by rw [h1, if_neg (by decide)] <;> rfl) (by rw [h1, if_neg (by decide)] <;> rfl) (by rw [h1, if_pos (by decide)] <;> rfl) (by rw [h1, if_neg (by decide)] <;> rfl) (by rw [h1, if_neg (by decide)] <;> rfl) (hA.2.2.2.2.2.2.2.2.1) (hA.2.2.2.2.2.2.2.2.2)), (VB_oth hm hd (by rw [h1]; decide) (by rw [h1]; decide) (by rw [h1]; decide) hB)⟩, rfl⟩
  · refine Z.tableIn (off := 114) (tgt := 115) dX5_readPaper_1 (by rw [h1]; decide) (by rw [h1]; decide) (by rw [h1]; decide) (by decide) ?_
    exact Z.vret dX5_readPaper_115 rfl ⟨rfl, (fun a ha => by simp [va_up]), ⟨K, (VA_step hin hn4 hD hso hpw hm hd hA rfl (by rw [h1, if_neg (fun z => absurd z.1 (by decide))] <;> rfl) (by rw [h1, if_neg (fun z => absurd z.1 (by decide))] <;> rfl) (by rw [h1, if_neg (by decide)] <;> rfl) (by rw [h1, if_neg (by decide)] <;> rfl) (by rw [h1, if_neg (by decide)] <;> rfl) (by rw [h1, if_neg (by decide)] <;> rfl) (by rw [h1, if_neg (by decide)] <;> rfl) (hA.2.2.2.2.2.2.2.2.1) (hA.2.2.2.2.2.2.2.2.2)), (VB_oth hm hd (by rw [h1]; decide) (by rw [h1]; decide) (by rw [h1]; decide) hB)⟩, rfl⟩
  · refine Z.tableIn (off := 97) (tgt := 98) dX5_readPaper_1 (by rw [h1]; decide) (by rw [h1]; decide) (by rw [h1]; decide) (by decide) ?_
    refine Z.aload_n dX5_readPaper_98 rfl ?_
    refine Z.iload_n dX5_readPaper_99 rfl ?_
    refine Z.iload_n dX5_readPaper_100 rfl ?_
    refine Z.callVg (M := mX5_readPaper) (pc := 101) (st := []) (N := mX5_readUse) (n := 2) dX5_readPaper_101 mlX5_120 mkX5_readUse imX5_readUse seX5_readUse (fx19 hF) cl5 rfl (d1 := 1) (by decide) (As := [.int (I 51 i), .int (I 52 i)]) rfl ⟨rfl, Nat.le_of_ble_eq_true rfl⟩ ⟨rfl, Nat.le_of_ble_eq_true rfl⟩ (cv_readUse19 hE hF hin hn4 hD hso hpw hm hd h1 hA hB) rfl (fun v_ J4 S_ h_ => ?_)
    obtain ⟨rfl, hw2, hV2, rfl⟩ := h_
    refine Z.goto (tgt := 115) dX5_readPaper_104 (by decide) ?_
    exact Z.vret dX5_readPaper_115 rfl ⟨rfl, hw2, hV2, rfl⟩
  · refine Z.tableIn (off := 106) (tgt := 107) dX5_readPaper_1 (by rw [h1]; decide) (by rw [h1]; decide) (by rw [h1]; decide) (by decide) ?_
    refine Z.aload_n dX5_readPaper_107 rfl ?_
    refine Z.iconst (v := 1) dX5_readPaper_108 (by decide) ?_
    refine Z.putI (x := 1) dX5_readPaper_109 cl5 flX5_103 (by decide) ⟨by decide, by decide⟩ (fx19 hF) ?_
    refine Z.goto (tgt := 115) dX5_readPaper_112 (by decide) ?_
    exact Z.vret dX5_readPaper_115 rfl ⟨rfl, (fun a ha => by simp [va_up, show ¬ a = 19 by omega]), ⟨K, (VA_step hin hn4 hD hso hpw hm hd hA rfl (by rw [h1, if_neg (fun z => absurd z.1 (by decide))] <;> rfl) (by rw [h1, if_neg (fun z => absurd z.1 (by decide))] <;> rfl) (by rw [h1, if_neg (by decide)] <;> rfl) (by rw [h1, if_neg (by decide)] <;> rfl) (by rw [h1, if_neg (by decide)] <;> rfl) (by rw [h1, if_pos (by decide)] <;> rfl) (by rw [h1, if_neg (by decide)] <;> rfl) (hA.2.2.2.2.2.2.2.2.1) (hA.2.2.2.2.2.2.2.2.2)), (VB_oth hm hd (by rw [h1]; decide) (by rw [h1]; decide) (by rw [h1]; decide) hB)⟩, rfl⟩
  · refine Z.tableOut (tgt := 115) dX5_readPaper_1 h1 (by decide) ?_
    exact Z.vret dX5_readPaper_115 rfl (by have hq_ := sw07_o h1; exact ⟨rfl, fun a ha => rfl, ⟨K, (VA_step hin hn4 hD hso hpw hm hd hA rfl (if_neg (fun z => hq_.2.1 z.1)).symm (if_neg (fun z => hq_.2.1 z.1)).symm (if_neg hq_.2.1).symm (if_neg hq_.2.2.1).symm (if_neg hq_.2.2.2.2.1).symm (if_neg hq_.2.2.2.2.2.2.2).symm (if_neg hq_.1).symm (hA.2.2.2.2.2.2.2.2.1) hA.2.2.2.2.2.2.2.2.2), (VB_oth hm hd hq_.1 hq_.2.2.2.1 hq_.2.2.2.2.2.2.1 hB)⟩, rfl⟩)

set_option maxHeartbeats 4000000 in
set_option maxRecDepth 100000 in
theorem cv_clear19 {g : GP} {I J : IM} {S : SH} (hE : Ex I J) (t : Int32) (hF : Fx S) : Z g 0 0 0 mX5_clear 0 (enL mX5_clear [.ref 19, .int t]) [] J S (VQ (va_up J 19 (upd (upd (upd (upd (upd (upd (upd (upd (upd (J 19) 0 t) 1 (-1)) 2 (-1)) 3 0) 4 0) 5 0) 6 0) 7 0) 8 0)) S) := by
  show Z g 0 0 0 mX5_clear 0 [.ref 19, .int t] [] J S _
  refine Z.aload_n dX5_clear_0 rfl ?_
  refine Z.iload_n dX5_clear_1 rfl ?_
  refine Z.putI (x := t) dX5_clear_2 cl5 flX5_61 (by decide) ⟨rfl, rfl⟩ (fx19 hF) ?_
  refine Z.aload_n dX5_clear_5 rfl ?_
  refine Z.iconst (v := (-1)) dX5_clear_6 (by decide) ?_
  refine Z.putI (x := (-1)) dX5_clear_7 cl5 flX5_51 (by decide) ⟨rfl, rfl⟩ (fx19 hF) ?_
  refine Z.eqI (bx_uu _ _ _ _) ?_
  refine Z.aload_n dX5_clear_10 rfl ?_
  refine Z.iconst (v := (-1)) dX5_clear_11 (by decide) ?_
  refine Z.putI (x := (-1)) dX5_clear_12 cl5 flX5_77 (by decide) ⟨rfl, rfl⟩ (fx19 hF) ?_
  refine Z.eqI (bx_uu _ _ _ _) ?_
  refine Z.aload_n dX5_clear_15 rfl ?_
  refine Z.iconst (v := 0) dX5_clear_16 (by decide) ?_
  refine Z.putI (x := 0) dX5_clear_17 cl5 flX5_100 (by decide) ⟨rfl, rfl⟩ (fx19 hF) ?_
  refine Z.eqI (bx_uu _ _ _ _) ?_
  refine Z.aload_n dX5_clear_20 rfl ?_
  refine Z.iconst (v := 0) dX5_clear_21 (by decide) ?_
  refine Z.putI (x := 0) dX5_clear_22 cl5 flX5_58 (by decide) ⟨rfl, rfl⟩ (fx19 hF) ?_
  refine Z.eqI (bx_uu _ _ _ _) ?_
  refine Z.aload_n dX5_clear_25 rfl ?_
  refine Z.iconst (v := 0) dX5_clear_26 (by decide) ?_
  refine Z.putI (x := 0) dX5_clear_27 cl5 flX5_89 (by decide) ⟨by decide, by decide⟩ (fx19 hF) ?_
  refine Z.eqI (bx_uu _ _ _ _) ?_
  refine Z.aload_n dX5_clear_30 rfl ?_
  refine Z.iconst (v := 0) dX5_clear_31 (by decide) ?_
  refine Z.putI (x := 0) dX5_clear_32 cl5 flX5_103 (by decide) ⟨by decide, by decide⟩ (fx19 hF) ?_
  refine Z.eqI (bx_uu _ _ _ _) ?_
  refine Z.aload_n dX5_clear_35 rfl ?_
  refine Z.iconst (v := 0) dX5_clear_36 (by decide) ?_
  refine Z.putI (x := 0) dX5_clear_37 cl5 flX5_106 (by decide) ⟨by decide, by decide⟩ (fx19 hF) ?_
  refine Z.eqI (bx_uu _ _ _ _) ?_
  refine Z.aload_n dX5_clear_40 rfl ?_
  refine Z.iconst (v := 0) dX5_clear_41 (by decide) ?_
  refine Z.putI (x := 0) dX5_clear_42 cl5 flX5_68 (by decide) ⟨rfl, rfl⟩ (fx19 hF) ?_
  refine Z.eqI (bx_uu _ _ _ _) ?_
  exact Z.vret dX5_clear_45 rfl ⟨rfl, rfl, rfl⟩

set_option maxHeartbeats 4000000 in
set_option maxRecDepth 100000 in
theorem lv_read19 {g : GP} {I J0 : IM} {S : SH} (hE0 : Ex I J0) (m c t : Int32) (hF : Fx S) (hC : Cp I) {n : Nat} (hn : Mp I n) (hL : LG I n) : ∀ i, i ≤ n → ∀ J, AW 19 J0 J → VW19 I i m c t J → Z g 3 0 0 mX5_read 9 [.ref 19, .ref 14, .int m, .int c, .int t, .int (nI i)] [] J S (RQ19 I J0 S n m c t) := by
  have hn2 := hn.2
  refine upZ n (fun i hi ih J hw hV => ?_)
  have hE := AW19.ex hw hE0
  obtain ⟨K, hA, hB⟩ := hV
  refine Z.iload dX5_read_9 rfl ?_
  refine Z.aload_n dX5_read_11 rfl ?_
  refine Z.getIv (v := nI n) dX5_read_12 cl3 flX5_29 (by decide) (fx14 hF) (((hE.at 14 4 rfl).trans hC.f14_4).trans hn.1) ?_
  refine Z.icmp_geN (a := i) (b := n) (by omega) (by omega) (tgt := 73) dX5_read_15 (by decide) (fun h1 => ?_) (fun h1 => ?_)
  · exact Z.vret dX5_read_73 rfl (by have e : i = n := (by omega); subst e; exact ⟨rfl, hw, ⟨K, hA, hB⟩, rfl⟩)
  · refine Z.aload_n dX5_read_18 rfl ?_
    refine Z.getR (r := 18) dX5_read_19 cl3 flX5_35 (by decide) (fx14 hF) rfl ?_
    refine Z.iload dX5_read_22 rfl ?_
    refine Z.ialdv (j := i) (v := I 52 i) dX5_read_24 (fx18 hF) rfl (by omega) (by decide) ((hE.at 18 i rfl).trans (congrFun (hC.c18) i)) ?_
    refine Z.iload dX5_read_25 rfl ?_
    refine Z.icmp_gt (tgt := 73) dX5_read_27 (by decide) (fun h2 => ?_) (fun h2 => ?_)
    · exact Z.vret dX5_read_73 rfl (by have e := V_rest (K := K) (c := c) hn2 (n - i) i (by omega) (fun j y1 y2 => lt_le2 h2 (hL.2.1 i j y1 y2)) hA hB; exact ⟨rfl, hw, ⟨K, e.1, e.2⟩, rfl⟩)
    · refine Z.aload_n dX5_read_30 rfl ?_
      refine Z.getR (r := 16) dX5_read_31 cl3 flX5_38 (by decide) (fx14 hF) rfl ?_
      refine Z.iload dX5_read_34 rfl ?_
      refine Z.ialdv (j := i) (v := I 50 i) dX5_read_36 (fx16 hF) rfl (by omega) (by decide) ((hE.at 16 i rfl).trans (congrFun (hC.c16) i)) ?_
      refine Z.iload_n dX5_read_37 rfl ?_
      refine Z.icmp_ne (tgt := 67) dX5_read_38 (by decide) (fun h3 => ?_) (fun h3 => ?_)
      · refine Z.iinc (v := nI (i + 1)) (L' := [.ref 19, .ref 14, .int m, .int c, .int t, .int (nI (i + 1))]) dX5_read_67 rfl (nI_1 _) rfl ?_
        refine Z.goto (tgt := 9) dX5_read_70 (by decide) ?_
        exact ih (by omega) _ hw ⟨K, VA_sk (by omega) (fun z => h3 z.1) hA, VB_sk (fun z => h3 z.1) hB⟩
      · refine Z.aload_n dX5_read_41 rfl ?_
        refine Z.aload_n dX5_read_42 rfl ?_
        refine Z.getR (r := 15) dX5_read_43 cl3 flX5_41 (by decide) (fx14 hF) rfl ?_
        refine Z.iload dX5_read_46 rfl ?_
        refine Z.ialdv (j := i) (v := I 49 i) dX5_read_48 (fx15 hF) rfl (by omega) (by decide) ((hE.at 15 i rfl).trans (congrFun (hC.c15) i)) ?_
        refine Z.aload_n dX5_read_49 rfl ?_
        refine Z.getR (r := 17) dX5_read_50 cl3 flX5_44 (by decide) (fx14 hF) rfl ?_
        refine Z.iload dX5_read_53 rfl ?_
        refine Z.ialdv (j := i) (v := I 51 i) dX5_read_55 (fx17 hF) rfl (by omega) (by decide) ((hE.at 17 i rfl).trans (congrFun (hC.c17) i)) ?_
        refine Z.aload_n dX5_read_56 rfl ?_
        refine Z.getR (r := 18) dX5_read_57 cl3 flX5_35 (by decide) (fx14 hF) rfl ?_
        refine Z.iload dX5_read_60 rfl ?_
        refine Z.ialdv (j := i) (v := I 52 i) dX5_read_62 (fx18 hF) rfl (by omega) (by decide) ((hE.at 18 i rfl).trans (congrFun (hC.c18) i)) ?_
        refine Z.iload_n dX5_read_63 rfl ?_
        refine Z.callVg (M := mX5_read) (pc := 64) (st := []) (N := mX5_readPaper) (n := 4) dX5_read_64 mlX5_47 mkX5_readPaper imX5_readPaper seX5_readPaper (fx19 hF) cl5 rfl (d1 := 2) (by decide) (As := [.int (I 49 i), .int (I 51 i), .int (I 52 i), .int c]) rfl ⟨rfl, Nat.le_of_ble_eq_true rfl⟩ ⟨rfl, Nat.le_of_ble_eq_true rfl⟩ (cv_readPaper19 hE hF (by omega) hn2 hL.1 hL.2.1 (hL.2.2 i (by omega)) h3 h2 hA hB) rfl (fun v_ J1 S_ h_ => ?_)
        obtain ⟨rfl, hw2, hV2, rfl⟩ := h_
        refine Z.iinc (v := nI (i + 1)) (L' := [.ref 19, .ref 14, .int m, .int c, .int t, .int (nI (i + 1))]) dX5_read_67 rfl (nI_1 _) rfl ?_
        refine Z.goto (tgt := 9) dX5_read_70 (by decide) ?_
        exact ih (by omega) _ (hw.tr hw2) hV2

set_option maxHeartbeats 4000000 in
set_option maxRecDepth 100000 in
theorem cv_read19 {g : GP} {I J : IM} {S : SH} (hE : Ex I J) (m c t : Int32) (hF : Fx S) (hC : Cp I) {n : Nat} (hn : Mp I n) (hL : LG I n) : Z g 3 0 0 mX5_read 0 (enL mX5_read [.ref 19, .ref 14, .int m, .int c, .int t]) [] J S (RQ19 I J S n m c t) := by
  show Z g 3 0 0 mX5_read 0 [.ref 19, .ref 14, .int m, .int c, .int t, .retAddr 0] [] J S _
  refine Z.aload_n dX5_read_0 rfl ?_
  refine Z.iload dX5_read_1 rfl ?_
  refine Z.callVg (M := mX5_read) (pc := 3) (st := []) (N := mX5_clear) (n := 1) dX5_read_3 mlX5_25 mkX5_clear imX5_clear seX5_clear (fx19 hF) cl5 rfl (d1 := 0) (by decide) (As := [.int t]) rfl ⟨rfl, Nat.le_of_ble_eq_true rfl⟩ ⟨rfl, Nat.le_of_ble_eq_true rfl⟩ (cv_clear19 hE t hF) rfl (fun v_ J1 S_ h_ => ?_)
  obtain ⟨rfl, rfl, rfl⟩ := h_
  refine Z.iconst (v := 0) dX5_read_6 (by decide) ?_
  refine Z.istore (L' := [.ref 19, .ref 14, .int m, .int c, .int t, .int 0]) dX5_read_7 (Nat.le_of_ble_eq_true rfl) rfl ?_
  exact lv_read19 hE m c t hF hC hn hL 0 (Nat.zero_le _) _ (fun a ha => by simp [va_up, show ¬ a = 19 by omega]) ⟨0, VA_0 rfl rfl rfl rfl rfl rfl rfl rfl rfl, VB_0⟩

set_option maxHeartbeats 4000000 in
set_option maxRecDepth 100000 in
theorem cv_readPaper24 {g : GP} {I J : IM} {S : SH} (hE : Ex I J)  {i n K : Nat} {m c t : Int32} (hF : Fx S) (hin : i < n) (hn4 : n ≤ 400) (hD : Dn I n) (hso : So I n) (hpw : PW I i) (hm : I 50 i = m) (hd : ¬ t < I 52 i) (hA : VA I i m c t (J 24) K) (hB : VB I i m t (J 25) (J 26) (J 27) (J 28) K) : Z g 2 0 0 mX5_readPaper 0 (enL mX5_readPaper [.ref 24, .int (I 49 i), .int (I 51 i), .int (I 52 i), .int c]) [] J S (RQ24 I J S (i + 1) m c t) := by
  show Z g 2 0 0 mX5_readPaper 0 [.ref 24, .int (I 49 i), .int (I 51 i), .int (I 52 i), .int c] [] J S _
  have hi4 : i ≤ 400 := by omega
  have hK := hA.2.2.2.2.2.2.2.2.2
  have hcn1 := cntU_le (p := pM I i) (k := 1) (m := m) (t := t) i
  have hcn2 := cntU_le (p := pM I i) (k := 2) (m := m) (t := t) i
  refine Z.iload_n dX5_readPaper_0 rfl ?_
  rcases sw_0_7 (I 49 i) with h1 | h1 | h1 | h1 | h1 | h1 | h1 | h1 | h1
  · refine Z.tableIn (off := 47) (tgt := 48) dX5_readPaper_1 (by rw [h1]; decide) (by rw [h1]; decide) (by rw [h1]; decide) (by decide) ?_
    refine Z.aload_n dX5_readPaper_48 rfl ?_
    refine Z.iload_n dX5_readPaper_49 rfl ?_
    refine Z.iload_n dX5_readPaper_50 rfl ?_
    refine Z.callVg (M := mX5_readPaper) (pc := 51) (st := []) (N := mX5_readGoods) (n := 2) dX5_readPaper_51 mlX5_109 mkX5_readGoods imX5_readGoods seX5_readGoods (fx24 hF) cl5 rfl (d1 := 1) (by decide) (As := [.int (I 51 i), .int (I 52 i)]) rfl ⟨rfl, Nat.le_of_ble_eq_true rfl⟩ ⟨rfl, Nat.le_of_ble_eq_true rfl⟩ (cv_readGoods24 hE hF hin hn4 hD hso hpw hm hd h1 hA hB) rfl (fun v_ J1 S_ h_ => ?_)
    obtain ⟨rfl, hw2, hV2, rfl⟩ := h_
    refine Z.goto (tgt := 115) dX5_readPaper_54 (by decide) ?_
    exact Z.vret dX5_readPaper_115 rfl ⟨rfl, hw2, hV2, rfl⟩
  · refine Z.tableIn (off := 56) (tgt := 57) dX5_readPaper_1 (by rw [h1]; decide) (by rw [h1]; decide) (by rw [h1]; decide) (by decide) ?_
    refine Z.aload_n dX5_readPaper_57 rfl ?_
    refine Z.iload_n dX5_readPaper_58 rfl ?_
    refine Z.iload_n dX5_readPaper_59 rfl ?_
    refine Z.iload dX5_readPaper_60 rfl ?_
    refine Z.callVg (M := mX5_readPaper) (pc := 62) (st := []) (N := mX5_readEnter) (n := 3) dX5_readPaper_62 mlX5_113 mkX5_readEnter imX5_readEnter seX5_readEnter (fx24 hF) cl5 rfl (d1 := 0) (by decide) (As := [.int (I 51 i), .int (I 52 i), .int c]) rfl ⟨rfl, Nat.le_of_ble_eq_true rfl⟩ ⟨rfl, Nat.le_of_ble_eq_true rfl⟩ (cv_readEnter24 hE hF hin hn4 hD hso hpw hm hd h1 hA hB) rfl (fun v_ J2 S_ h_ => ?_)
    obtain ⟨rfl, hw2, hV2, rfl⟩ := h_
    refine Z.goto (tgt := 115) dX5_readPaper_65 (by decide) ?_
    exact Z.vret dX5_readPaper_115 rfl ⟨rfl, hw2, hV2, rfl⟩
  · refine Z.tableIn (off := 67) (tgt := 68) dX5_readPaper_1 (by rw [h1]; decide) (by rw [h1]; decide) (by rw [h1]; decide) (by decide) ?_
    refine Z.aload_n dX5_readPaper_68 rfl ?_
    refine Z.dupR dX5_readPaper_69 ?_
    refine Z.getIv (v := nI (cntF (pM I i) 2 m t)) dX5_readPaper_70 cl5 flX5_58 (by decide) (fx24 hF) hA.2.2.2.2.1 ?_
    refine Z.iconst (v := 1) dX5_readPaper_73 (by decide) ?_
    refine Z.iaddN (a := cntF (pM I i) 2 m t) (b := 1) dX5_readPaper_74 ?_
    refine Z.putI (x := nI ((cntF (pM I i) 2 m t) + 1)) dX5_readPaper_75 cl5 flX5_58 (by decide) ⟨rfl, rfl⟩ (fx24 hF) ?_
    refine Z.goto (tgt := 115) dX5_readPaper_78 (by decide) ?_
    exact Z.vret dX5_readPaper_115 rfl ⟨rfl, (fun a ha => by simp [va_up, show ¬ a = 24 by omega]), ⟨K, (VA_step hin hn4 hD hso hpw hm hd hA rfl (by rw [h1, if_neg (fun z => absurd z.1 (by decide))] <;> rfl) (by rw [h1, if_neg (fun z => absurd z.1 (by decide))] <;> rfl) (by rw [h1, if_neg (by decide)] <;> rfl) (by rw [h1, if_pos (by decide)] <;> rfl) (by rw [h1, if_neg (by decide)] <;> rfl) (by rw [h1, if_neg (by decide)] <;> rfl) (by rw [h1, if_neg (by decide)] <;> rfl) (hA.2.2.2.2.2.2.2.2.1) (hA.2.2.2.2.2.2.2.2.2)), (VB_oth hm hd (by rw [h1]; decide) (by rw [h1]; decide) (by rw [h1]; decide) hB)⟩, rfl⟩
  · refine Z.tableIn (off := 80) (tgt := 81) dX5_readPaper_1 (by rw [h1]; decide) (by rw [h1]; decide) (by rw [h1]; decide) (by decide) ?_
    refine Z.aload_n dX5_readPaper_81 rfl ?_
    refine Z.iload_n dX5_readPaper_82 rfl ?_
    refine Z.iload_n dX5_readPaper_83 rfl ?_
    refine Z.callVg (M := mX5_readPaper) (pc := 84) (st := []) (N := mX5_readGive) (n := 2) dX5_readPaper_84 mlX5_117 mkX5_readGive imX5_readGive seX5_readGive (fx24 hF) cl5 rfl (d1 := 1) (by decide) (As := [.int (I 51 i), .int (I 52 i)]) rfl ⟨rfl, Nat.le_of_ble_eq_true rfl⟩ ⟨rfl, Nat.le_of_ble_eq_true rfl⟩ (cv_readGive24 hE hF hin hn4 hD hso hpw hm hd h1 hA hB) rfl (fun v_ J3 S_ h_ => ?_)
    obtain ⟨rfl, hw2, hV2, rfl⟩ := h_
    refine Z.goto (tgt := 115) dX5_readPaper_87 (by decide) ?_
    exact Z.vret dX5_readPaper_115 rfl ⟨rfl, hw2, hV2, rfl⟩
  · refine Z.tableIn (off := 89) (tgt := 90) dX5_readPaper_1 (by rw [h1]; decide) (by rw [h1]; decide) (by rw [h1]; decide) (by decide) ?_
    refine Z.aload_n dX5_readPaper_90 rfl ?_
    refine Z.iconst (v := 1) dX5_readPaper_91 (by decide) ?_
    refine Z.putI (x := 1) dX5_readPaper_92 cl5 flX5_89 (by decide) ⟨by decide, by decide⟩ (fx24 hF) ?_
    refine Z.goto (tgt := 115) dX5_readPaper_95 (by decide) ?_
    exact Z.vret dX5_readPaper_115 rfl ⟨rfl, (fun a ha => by simp [va_up, show ¬ a = 24 by omega]), ⟨K, (VA_step hin hn4 hD hso hpw hm hd hA rfl (by rw [h1, if_neg (fun z => absurd z.1 (by decide))] <;> rfl) (by rw [h1, if_neg (fun z => absurd z.1 (by decide))] <;> rfl) (by rw [h1, if_neg (by decide)] <;> rfl) (by rw [h1, if_neg (by decide)] <;> rfl) (by rw [h1, if_pos (by decide)] <;> rfl) (by rw [h1, if_neg (by decide)] <;> rfl) (by rw [h1, if_neg (by decide)] <;> rfl) (hA.2.2.2.2.2.2.2.2.1) (hA.2.2.2.2.2.2.2.2.2)), (VB_oth hm hd (by rw [h1]; decide) (by rw [h1]; decide) (by rw [h1]; decide) hB)⟩, rfl⟩
  · refine Z.tableIn (off := 114) (tgt := 115) dX5_readPaper_1 (by rw [h1]; decide) (by rw [h1]; decide) (by rw [h1]; decide) (by decide) ?_
    exact Z.vret dX5_readPaper_115 rfl ⟨rfl, (fun a ha => by simp [va_up]), ⟨K, (VA_step hin hn4 hD hso hpw hm hd hA rfl (by rw [h1, if_neg (fun z => absurd z.1 (by decide))] <;> rfl) (by rw [h1, if_neg (fun z => absurd z.1 (by decide))] <;> rfl) (by rw [h1, if_neg (by decide)] <;> rfl) (by rw [h1, if_neg (by decide)] <;> rfl) (by rw [h1, if_neg (by decide)] <;> rfl) (by rw [h1, if_neg (by decide)] <;> rfl) (by rw [h1, if_neg (by decide)] <;> rfl) (hA.2.2.2.2.2.2.2.2.1) (hA.2.2.2.2.2.2.2.2.2)), (VB_oth hm hd (by rw [h1]; decide) (by rw [h1]; decide) (by rw [h1]; decide) hB)⟩, rfl⟩
  · refine Z.tableIn (off := 97) (tgt := 98) dX5_readPaper_1 (by rw [h1]; decide) (by rw [h1]; decide) (by rw [h1]; decide) (by decide) ?_
    refine Z.aload_n dX5_readPaper_98 rfl ?_
    refine Z.iload_n dX5_readPaper_99 rfl ?_
    refine Z.iload_n dX5_readPaper_100 rfl ?_
    refine Z.callVg (M := mX5_readPaper) (pc := 101) (st := []) (N := mX5_readUse) (n := 2) dX5_readPaper_101 mlX5_120 mkX5_readUse imX5_readUse seX5_readUse (fx24 hF) cl5 rfl (d1 := 1) (by decide) (As := [.int (I 51 i), .int (I 52 i)]) rfl ⟨rfl, Nat.le_of_ble_eq_true rfl⟩ ⟨rfl, Nat.le_of_ble_eq_true rfl⟩ (cv_readUse24 hE hF hin hn4 hD hso hpw hm hd h1 hA hB) rfl (fun v_ J4 S_ h_ => ?_)
    obtain ⟨rfl, hw2, hV2, rfl⟩ := h_
    refine Z.goto (tgt := 115) dX5_readPaper_104 (by decide) ?_
    exact Z.vret dX5_readPaper_115 rfl ⟨rfl, hw2, hV2, rfl⟩
  · refine Z.tableIn (off := 106) (tgt := 107) dX5_readPaper_1 (by rw [h1]; decide) (by rw [h1]; decide) (by rw [h1]; decide) (by decide) ?_
    refine Z.aload_n dX5_readPaper_107 rfl ?_
    refine Z.iconst (v := 1) dX5_readPaper_108 (by decide) ?_
    refine Z.putI (x := 1) dX5_readPaper_109 cl5 flX5_103 (by decide) ⟨by decide, by decide⟩ (fx24 hF) ?_
    refine Z.goto (tgt := 115) dX5_readPaper_112 (by decide) ?_
    exact Z.vret dX5_readPaper_115 rfl ⟨rfl, (fun a ha => by simp [va_up, show ¬ a = 24 by omega]), ⟨K, (VA_step hin hn4 hD hso hpw hm hd hA rfl (by rw [h1, if_neg (fun z => absurd z.1 (by decide))] <;> rfl) (by rw [h1, if_neg (fun z => absurd z.1 (by decide))] <;> rfl) (by rw [h1, if_neg (by decide)] <;> rfl) (by rw [h1, if_neg (by decide)] <;> rfl) (by rw [h1, if_neg (by decide)] <;> rfl) (by rw [h1, if_pos (by decide)] <;> rfl) (by rw [h1, if_neg (by decide)] <;> rfl) (hA.2.2.2.2.2.2.2.2.1) (hA.2.2.2.2.2.2.2.2.2)), (VB_oth hm hd (by rw [h1]; decide) (by rw [h1]; decide) (by rw [h1]; decide) hB)⟩, rfl⟩
  · refine Z.tableOut (tgt := 115) dX5_readPaper_1 h1 (by decide) ?_
    exact Z.vret dX5_readPaper_115 rfl (by have hq_ := sw07_o h1; exact ⟨rfl, fun a ha => rfl, ⟨K, (VA_step hin hn4 hD hso hpw hm hd hA rfl (if_neg (fun z => hq_.2.1 z.1)).symm (if_neg (fun z => hq_.2.1 z.1)).symm (if_neg hq_.2.1).symm (if_neg hq_.2.2.1).symm (if_neg hq_.2.2.2.2.1).symm (if_neg hq_.2.2.2.2.2.2.2).symm (if_neg hq_.1).symm (hA.2.2.2.2.2.2.2.2.1) hA.2.2.2.2.2.2.2.2.2), (VB_oth hm hd hq_.1 hq_.2.2.2.1 hq_.2.2.2.2.2.2.1 hB)⟩, rfl⟩)

set_option maxHeartbeats 4000000 in
set_option maxRecDepth 100000 in
theorem cv_clear24 {g : GP} {I J : IM} {S : SH} (hE : Ex I J) (t : Int32) (hF : Fx S) : Z g 0 0 0 mX5_clear 0 (enL mX5_clear [.ref 24, .int t]) [] J S (VQ (va_up J 24 (upd (upd (upd (upd (upd (upd (upd (upd (upd (J 24) 0 t) 1 (-1)) 2 (-1)) 3 0) 4 0) 5 0) 6 0) 7 0) 8 0)) S) := by
  show Z g 0 0 0 mX5_clear 0 [.ref 24, .int t] [] J S _
  refine Z.aload_n dX5_clear_0 rfl ?_
  refine Z.iload_n dX5_clear_1 rfl ?_
  refine Z.putI (x := t) dX5_clear_2 cl5 flX5_61 (by decide) ⟨rfl, rfl⟩ (fx24 hF) ?_
  refine Z.aload_n dX5_clear_5 rfl ?_
  refine Z.iconst (v := (-1)) dX5_clear_6 (by decide) ?_
  refine Z.putI (x := (-1)) dX5_clear_7 cl5 flX5_51 (by decide) ⟨rfl, rfl⟩ (fx24 hF) ?_
  refine Z.eqI (bx_uu _ _ _ _) ?_
  refine Z.aload_n dX5_clear_10 rfl ?_
  refine Z.iconst (v := (-1)) dX5_clear_11 (by decide) ?_
  refine Z.putI (x := (-1)) dX5_clear_12 cl5 flX5_77 (by decide) ⟨rfl, rfl⟩ (fx24 hF) ?_
  refine Z.eqI (bx_uu _ _ _ _) ?_
  refine Z.aload_n dX5_clear_15 rfl ?_
  refine Z.iconst (v := 0) dX5_clear_16 (by decide) ?_
  refine Z.putI (x := 0) dX5_clear_17 cl5 flX5_100 (by decide) ⟨rfl, rfl⟩ (fx24 hF) ?_
  refine Z.eqI (bx_uu _ _ _ _) ?_
  refine Z.aload_n dX5_clear_20 rfl ?_
  refine Z.iconst (v := 0) dX5_clear_21 (by decide) ?_
  refine Z.putI (x := 0) dX5_clear_22 cl5 flX5_58 (by decide) ⟨rfl, rfl⟩ (fx24 hF) ?_
  refine Z.eqI (bx_uu _ _ _ _) ?_
  refine Z.aload_n dX5_clear_25 rfl ?_
  refine Z.iconst (v := 0) dX5_clear_26 (by decide) ?_
  refine Z.putI (x := 0) dX5_clear_27 cl5 flX5_89 (by decide) ⟨by decide, by decide⟩ (fx24 hF) ?_
  refine Z.eqI (bx_uu _ _ _ _) ?_
  refine Z.aload_n dX5_clear_30 rfl ?_
  refine Z.iconst (v := 0) dX5_clear_31 (by decide) ?_
  refine Z.putI (x := 0) dX5_clear_32 cl5 flX5_103 (by decide) ⟨by decide, by decide⟩ (fx24 hF) ?_
  refine Z.eqI (bx_uu _ _ _ _) ?_
  refine Z.aload_n dX5_clear_35 rfl ?_
  refine Z.iconst (v := 0) dX5_clear_36 (by decide) ?_
  refine Z.putI (x := 0) dX5_clear_37 cl5 flX5_106 (by decide) ⟨by decide, by decide⟩ (fx24 hF) ?_
  refine Z.eqI (bx_uu _ _ _ _) ?_
  refine Z.aload_n dX5_clear_40 rfl ?_
  refine Z.iconst (v := 0) dX5_clear_41 (by decide) ?_
  refine Z.putI (x := 0) dX5_clear_42 cl5 flX5_68 (by decide) ⟨rfl, rfl⟩ (fx24 hF) ?_
  refine Z.eqI (bx_uu _ _ _ _) ?_
  exact Z.vret dX5_clear_45 rfl ⟨rfl, rfl, rfl⟩

set_option maxHeartbeats 4000000 in
set_option maxRecDepth 100000 in
theorem lv_read24 {g : GP} {I J0 : IM} {S : SH} (hE0 : Ex I J0) (m c t : Int32) (hF : Fx S) (hC : Cp I) {n : Nat} (hn : Mp I n) (hL : LG I n) : ∀ i, i ≤ n → ∀ J, AW 24 J0 J → VW24 I i m c t J → Z g 3 0 0 mX5_read 9 [.ref 24, .ref 14, .int m, .int c, .int t, .int (nI i)] [] J S (RQ24 I J0 S n m c t) := by
  have hn2 := hn.2
  refine upZ n (fun i hi ih J hw hV => ?_)
  have hE := AW24.ex hw hE0
  obtain ⟨K, hA, hB⟩ := hV
  refine Z.iload dX5_read_9 rfl ?_
  refine Z.aload_n dX5_read_11 rfl ?_
  refine Z.getIv (v := nI n) dX5_read_12 cl3 flX5_29 (by decide) (fx14 hF) (((hE.at 14 4 rfl).trans hC.f14_4).trans hn.1) ?_
  refine Z.icmp_geN (a := i) (b := n) (by omega) (by omega) (tgt := 73) dX5_read_15 (by decide) (fun h1 => ?_) (fun h1 => ?_)
  · exact Z.vret dX5_read_73 rfl (by have e : i = n := (by omega); subst e; exact ⟨rfl, hw, ⟨K, hA, hB⟩, rfl⟩)
  · refine Z.aload_n dX5_read_18 rfl ?_
    refine Z.getR (r := 18) dX5_read_19 cl3 flX5_35 (by decide) (fx14 hF) rfl ?_
    refine Z.iload dX5_read_22 rfl ?_
    refine Z.ialdv (j := i) (v := I 52 i) dX5_read_24 (fx18 hF) rfl (by omega) (by decide) ((hE.at 18 i rfl).trans (congrFun (hC.c18) i)) ?_
    refine Z.iload dX5_read_25 rfl ?_
    refine Z.icmp_gt (tgt := 73) dX5_read_27 (by decide) (fun h2 => ?_) (fun h2 => ?_)
    · exact Z.vret dX5_read_73 rfl (by have e := V_rest (K := K) (c := c) hn2 (n - i) i (by omega) (fun j y1 y2 => lt_le2 h2 (hL.2.1 i j y1 y2)) hA hB; exact ⟨rfl, hw, ⟨K, e.1, e.2⟩, rfl⟩)
    · refine Z.aload_n dX5_read_30 rfl ?_
      refine Z.getR (r := 16) dX5_read_31 cl3 flX5_38 (by decide) (fx14 hF) rfl ?_
      refine Z.iload dX5_read_34 rfl ?_
      refine Z.ialdv (j := i) (v := I 50 i) dX5_read_36 (fx16 hF) rfl (by omega) (by decide) ((hE.at 16 i rfl).trans (congrFun (hC.c16) i)) ?_
      refine Z.iload_n dX5_read_37 rfl ?_
      refine Z.icmp_ne (tgt := 67) dX5_read_38 (by decide) (fun h3 => ?_) (fun h3 => ?_)
      · refine Z.iinc (v := nI (i + 1)) (L' := [.ref 24, .ref 14, .int m, .int c, .int t, .int (nI (i + 1))]) dX5_read_67 rfl (nI_1 _) rfl ?_
        refine Z.goto (tgt := 9) dX5_read_70 (by decide) ?_
        exact ih (by omega) _ hw ⟨K, VA_sk (by omega) (fun z => h3 z.1) hA, VB_sk (fun z => h3 z.1) hB⟩
      · refine Z.aload_n dX5_read_41 rfl ?_
        refine Z.aload_n dX5_read_42 rfl ?_
        refine Z.getR (r := 15) dX5_read_43 cl3 flX5_41 (by decide) (fx14 hF) rfl ?_
        refine Z.iload dX5_read_46 rfl ?_
        refine Z.ialdv (j := i) (v := I 49 i) dX5_read_48 (fx15 hF) rfl (by omega) (by decide) ((hE.at 15 i rfl).trans (congrFun (hC.c15) i)) ?_
        refine Z.aload_n dX5_read_49 rfl ?_
        refine Z.getR (r := 17) dX5_read_50 cl3 flX5_44 (by decide) (fx14 hF) rfl ?_
        refine Z.iload dX5_read_53 rfl ?_
        refine Z.ialdv (j := i) (v := I 51 i) dX5_read_55 (fx17 hF) rfl (by omega) (by decide) ((hE.at 17 i rfl).trans (congrFun (hC.c17) i)) ?_
        refine Z.aload_n dX5_read_56 rfl ?_
        refine Z.getR (r := 18) dX5_read_57 cl3 flX5_35 (by decide) (fx14 hF) rfl ?_
        refine Z.iload dX5_read_60 rfl ?_
        refine Z.ialdv (j := i) (v := I 52 i) dX5_read_62 (fx18 hF) rfl (by omega) (by decide) ((hE.at 18 i rfl).trans (congrFun (hC.c18) i)) ?_
        refine Z.iload_n dX5_read_63 rfl ?_
        refine Z.callVg (M := mX5_read) (pc := 64) (st := []) (N := mX5_readPaper) (n := 4) dX5_read_64 mlX5_47 mkX5_readPaper imX5_readPaper seX5_readPaper (fx24 hF) cl5 rfl (d1 := 2) (by decide) (As := [.int (I 49 i), .int (I 51 i), .int (I 52 i), .int c]) rfl ⟨rfl, Nat.le_of_ble_eq_true rfl⟩ ⟨rfl, Nat.le_of_ble_eq_true rfl⟩ (cv_readPaper24 hE hF (by omega) hn2 hL.1 hL.2.1 (hL.2.2 i (by omega)) h3 h2 hA hB) rfl (fun v_ J1 S_ h_ => ?_)
        obtain ⟨rfl, hw2, hV2, rfl⟩ := h_
        refine Z.iinc (v := nI (i + 1)) (L' := [.ref 24, .ref 14, .int m, .int c, .int t, .int (nI (i + 1))]) dX5_read_67 rfl (nI_1 _) rfl ?_
        refine Z.goto (tgt := 9) dX5_read_70 (by decide) ?_
        exact ih (by omega) _ (hw.tr hw2) hV2

set_option maxHeartbeats 4000000 in
set_option maxRecDepth 100000 in
theorem cv_read24 {g : GP} {I J : IM} {S : SH} (hE : Ex I J) (m c t : Int32) (hF : Fx S) (hC : Cp I) {n : Nat} (hn : Mp I n) (hL : LG I n) : Z g 3 0 0 mX5_read 0 (enL mX5_read [.ref 24, .ref 14, .int m, .int c, .int t]) [] J S (RQ24 I J S n m c t) := by
  show Z g 3 0 0 mX5_read 0 [.ref 24, .ref 14, .int m, .int c, .int t, .retAddr 0] [] J S _
  refine Z.aload_n dX5_read_0 rfl ?_
  refine Z.iload dX5_read_1 rfl ?_
  refine Z.callVg (M := mX5_read) (pc := 3) (st := []) (N := mX5_clear) (n := 1) dX5_read_3 mlX5_25 mkX5_clear imX5_clear seX5_clear (fx24 hF) cl5 rfl (d1 := 0) (by decide) (As := [.int t]) rfl ⟨rfl, Nat.le_of_ble_eq_true rfl⟩ ⟨rfl, Nat.le_of_ble_eq_true rfl⟩ (cv_clear24 hE t hF) rfl (fun v_ J1 S_ h_ => ?_)
  obtain ⟨rfl, rfl, rfl⟩ := h_
  refine Z.iconst (v := 0) dX5_read_6 (by decide) ?_
  refine Z.istore (L' := [.ref 24, .ref 14, .int m, .int c, .int t, .int 0]) dX5_read_7 (Nat.le_of_ble_eq_true rfl) rfl ?_
  exact lv_read24 hE m c t hF hC hn hL 0 (Nat.zero_le _) _ (fun a ha => by simp [va_up, show ¬ a = 24 by omega]) ⟨0, VA_0 rfl rfl rfl rfl rfl rfl rfl rfl rfl, VB_0⟩

set_option maxHeartbeats 4000000 in
set_option maxRecDepth 100000 in
theorem cv_readPaper29 {g : GP} {I J : IM} {S : SH} (hE : Ex I J)  {i n K : Nat} {m c t : Int32} (hF : Fx S) (hin : i < n) (hn4 : n ≤ 400) (hD : Dn I n) (hso : So I n) (hpw : PW I i) (hm : I 50 i = m) (hd : ¬ t < I 52 i) (hA : VA I i m c t (J 29) K) (hB : VB I i m t (J 30) (J 31) (J 32) (J 33) K) : Z g 2 0 0 mX5_readPaper 0 (enL mX5_readPaper [.ref 29, .int (I 49 i), .int (I 51 i), .int (I 52 i), .int c]) [] J S (RQ29 I J S (i + 1) m c t) := by
  show Z g 2 0 0 mX5_readPaper 0 [.ref 29, .int (I 49 i), .int (I 51 i), .int (I 52 i), .int c] [] J S _
  have hi4 : i ≤ 400 := by omega
  have hK := hA.2.2.2.2.2.2.2.2.2
  have hcn1 := cntU_le (p := pM I i) (k := 1) (m := m) (t := t) i
  have hcn2 := cntU_le (p := pM I i) (k := 2) (m := m) (t := t) i
  refine Z.iload_n dX5_readPaper_0 rfl ?_
  rcases sw_0_7 (I 49 i) with h1 | h1 | h1 | h1 | h1 | h1 | h1 | h1 | h1
  · refine Z.tableIn (off := 47) (tgt := 48) dX5_readPaper_1 (by rw [h1]; decide) (by rw [h1]; decide) (by rw [h1]; decide) (by decide) ?_
    refine Z.aload_n dX5_readPaper_48 rfl ?_
    refine Z.iload_n dX5_readPaper_49 rfl ?_
    refine Z.iload_n dX5_readPaper_50 rfl ?_
    refine Z.callVg (M := mX5_readPaper) (pc := 51) (st := []) (N := mX5_readGoods) (n := 2) dX5_readPaper_51 mlX5_109 mkX5_readGoods imX5_readGoods seX5_readGoods (fx29 hF) cl5 rfl (d1 := 1) (by decide) (As := [.int (I 51 i), .int (I 52 i)]) rfl ⟨rfl, Nat.le_of_ble_eq_true rfl⟩ ⟨rfl, Nat.le_of_ble_eq_true rfl⟩ (cv_readGoods29 hE hF hin hn4 hD hso hpw hm hd h1 hA hB) rfl (fun v_ J1 S_ h_ => ?_)
    obtain ⟨rfl, hw2, hV2, rfl⟩ := h_
    refine Z.goto (tgt := 115) dX5_readPaper_54 (by decide) ?_
    exact Z.vret dX5_readPaper_115 rfl ⟨rfl, hw2, hV2, rfl⟩
  · refine Z.tableIn (off := 56) (tgt := 57) dX5_readPaper_1 (by rw [h1]; decide) (by rw [h1]; decide) (by rw [h1]; decide) (by decide) ?_
    refine Z.aload_n dX5_readPaper_57 rfl ?_
    refine Z.iload_n dX5_readPaper_58 rfl ?_
    refine Z.iload_n dX5_readPaper_59 rfl ?_
    refine Z.iload dX5_readPaper_60 rfl ?_
    refine Z.callVg (M := mX5_readPaper) (pc := 62) (st := []) (N := mX5_readEnter) (n := 3) dX5_readPaper_62 mlX5_113 mkX5_readEnter imX5_readEnter seX5_readEnter (fx29 hF) cl5 rfl (d1 := 0) (by decide) (As := [.int (I 51 i), .int (I 52 i), .int c]) rfl ⟨rfl, Nat.le_of_ble_eq_true rfl⟩ ⟨rfl, Nat.le_of_ble_eq_true rfl⟩ (cv_readEnter29 hE hF hin hn4 hD hso hpw hm hd h1 hA hB) rfl (fun v_ J2 S_ h_ => ?_)
    obtain ⟨rfl, hw2, hV2, rfl⟩ := h_
    refine Z.goto (tgt := 115) dX5_readPaper_65 (by decide) ?_
    exact Z.vret dX5_readPaper_115 rfl ⟨rfl, hw2, hV2, rfl⟩
  · refine Z.tableIn (off := 67) (tgt := 68) dX5_readPaper_1 (by rw [h1]; decide) (by rw [h1]; decide) (by rw [h1]; decide) (by decide) ?_
    refine Z.aload_n dX5_readPaper_68 rfl ?_
    refine Z.dupR dX5_readPaper_69 ?_
    refine Z.getIv (v := nI (cntF (pM I i) 2 m t)) dX5_readPaper_70 cl5 flX5_58 (by decide) (fx29 hF) hA.2.2.2.2.1 ?_
    refine Z.iconst (v := 1) dX5_readPaper_73 (by decide) ?_
    refine Z.iaddN (a := cntF (pM I i) 2 m t) (b := 1) dX5_readPaper_74 ?_
    refine Z.putI (x := nI ((cntF (pM I i) 2 m t) + 1)) dX5_readPaper_75 cl5 flX5_58 (by decide) ⟨rfl, rfl⟩ (fx29 hF) ?_
    refine Z.goto (tgt := 115) dX5_readPaper_78 (by decide) ?_
    exact Z.vret dX5_readPaper_115 rfl ⟨rfl, (fun a ha => by simp [va_up, show ¬ a = 29 by omega]), ⟨K, (VA_step hin hn4 hD hso hpw hm hd hA rfl (by rw [h1, if_neg (fun z => absurd z.1 (by decide))] <;> rfl) (by rw [h1, if_neg (fun z => absurd z.1 (by decide))] <;> rfl) (by rw [h1, if_neg (by decide)] <;> rfl) (by rw [h1, if_pos (by decide)] <;> rfl) (by rw [h1, if_neg (by decide)] <;> rfl) (by rw [h1, if_neg (by decide)] <;> rfl) (by rw [h1, if_neg (by decide)] <;> rfl) (hA.2.2.2.2.2.2.2.2.1) (hA.2.2.2.2.2.2.2.2.2)), (VB_oth hm hd (by rw [h1]; decide) (by rw [h1]; decide) (by rw [h1]; decide) hB)⟩, rfl⟩
  · refine Z.tableIn (off := 80) (tgt := 81) dX5_readPaper_1 (by rw [h1]; decide) (by rw [h1]; decide) (by rw [h1]; decide) (by decide) ?_
    refine Z.aload_n dX5_readPaper_81 rfl ?_
    refine Z.iload_n dX5_readPaper_82 rfl ?_
    refine Z.iload_n dX5_readPaper_83 rfl ?_
    refine Z.callVg (M := mX5_readPaper) (pc := 84) (st := []) (N := mX5_readGive) (n := 2) dX5_readPaper_84 mlX5_117 mkX5_readGive imX5_readGive seX5_readGive (fx29 hF) cl5 rfl (d1 := 1) (by decide) (As := [.int (I 51 i), .int (I 52 i)]) rfl ⟨rfl, Nat.le_of_ble_eq_true rfl⟩ ⟨rfl, Nat.le_of_ble_eq_true rfl⟩ (cv_readGive29 hE hF hin hn4 hD hso hpw hm hd h1 hA hB) rfl (fun v_ J3 S_ h_ => ?_)
    obtain ⟨rfl, hw2, hV2, rfl⟩ := h_
    refine Z.goto (tgt := 115) dX5_readPaper_87 (by decide) ?_
    exact Z.vret dX5_readPaper_115 rfl ⟨rfl, hw2, hV2, rfl⟩
  · refine Z.tableIn (off := 89) (tgt := 90) dX5_readPaper_1 (by rw [h1]; decide) (by rw [h1]; decide) (by rw [h1]; decide) (by decide) ?_
    refine Z.aload_n dX5_readPaper_90 rfl ?_
    refine Z.iconst (v := 1) dX5_readPaper_91 (by decide) ?_
    refine Z.putI (x := 1) dX5_readPaper_92 cl5 flX5_89 (by decide) ⟨by decide, by decide⟩ (fx29 hF) ?_
    refine Z.goto (tgt := 115) dX5_readPaper_95 (by decide) ?_
    exact Z.vret dX5_readPaper_115 rfl ⟨rfl, (fun a ha => by simp [va_up, show ¬ a = 29 by omega]), ⟨K, (VA_step hin hn4 hD hso hpw hm hd hA rfl (by rw [h1, if_neg (fun z => absurd z.1 (by decide))] <;> rfl) (by rw [h1, if_neg (fun z => absurd z.1 (by decide))] <;> rfl) (by rw [h1, if_neg (by decide)] <;> rfl) (by rw [h1, if_neg (by decide)] <;> rfl) (by rw [h1, if_pos (by decide)] <;> rfl) (by rw [h1, if_neg (by decide)] <;> rfl) (by rw [h1, if_neg (by decide)] <;> rfl) (hA.2.2.2.2.2.2.2.2.1) (hA.2.2.2.2.2.2.2.2.2)), (VB_oth hm hd (by rw [h1]; decide) (by rw [h1]; decide) (by rw [h1]; decide) hB)⟩, rfl⟩
  · refine Z.tableIn (off := 114) (tgt := 115) dX5_readPaper_1 (by rw [h1]; decide) (by rw [h1]; decide) (by rw [h1]; decide) (by decide) ?_
    exact Z.vret dX5_readPaper_115 rfl ⟨rfl, (fun a ha => by simp [va_up]), ⟨K, (VA_step hin hn4 hD hso hpw hm hd hA rfl (by rw [h1, if_neg (fun z => absurd z.1 (by decide))] <;> rfl) (by rw [h1, if_neg (fun z => absurd z.1 (by decide))] <;> rfl) (by rw [h1, if_neg (by decide)] <;> rfl) (by rw [h1, if_neg (by decide)] <;> rfl) (by rw [h1, if_neg (by decide)] <;> rfl) (by rw [h1, if_neg (by decide)] <;> rfl) (by rw [h1, if_neg (by decide)] <;> rfl) (hA.2.2.2.2.2.2.2.2.1) (hA.2.2.2.2.2.2.2.2.2)), (VB_oth hm hd (by rw [h1]; decide) (by rw [h1]; decide) (by rw [h1]; decide) hB)⟩, rfl⟩
  · refine Z.tableIn (off := 97) (tgt := 98) dX5_readPaper_1 (by rw [h1]; decide) (by rw [h1]; decide) (by rw [h1]; decide) (by decide) ?_
    refine Z.aload_n dX5_readPaper_98 rfl ?_
    refine Z.iload_n dX5_readPaper_99 rfl ?_
    refine Z.iload_n dX5_readPaper_100 rfl ?_
    refine Z.callVg (M := mX5_readPaper) (pc := 101) (st := []) (N := mX5_readUse) (n := 2) dX5_readPaper_101 mlX5_120 mkX5_readUse imX5_readUse seX5_readUse (fx29 hF) cl5 rfl (d1 := 1) (by decide) (As := [.int (I 51 i), .int (I 52 i)]) rfl ⟨rfl, Nat.le_of_ble_eq_true rfl⟩ ⟨rfl, Nat.le_of_ble_eq_true rfl⟩ (cv_readUse29 hE hF hin hn4 hD hso hpw hm hd h1 hA hB) rfl (fun v_ J4 S_ h_ => ?_)
    obtain ⟨rfl, hw2, hV2, rfl⟩ := h_
    refine Z.goto (tgt := 115) dX5_readPaper_104 (by decide) ?_
    exact Z.vret dX5_readPaper_115 rfl ⟨rfl, hw2, hV2, rfl⟩
  · refine Z.tableIn (off := 106) (tgt := 107) dX5_readPaper_1 (by rw [h1]; decide) (by rw [h1]; decide) (by rw [h1]; decide) (by decide) ?_
    refine Z.aload_n dX5_readPaper_107 rfl ?_
    refine Z.iconst (v := 1) dX5_readPaper_108 (by decide) ?_
    refine Z.putI (x := 1) dX5_readPaper_109 cl5 flX5_103 (by decide) ⟨by decide, by decide⟩ (fx29 hF) ?_
    refine Z.goto (tgt := 115) dX5_readPaper_112 (by decide) ?_
    exact Z.vret dX5_readPaper_115 rfl ⟨rfl, (fun a ha => by simp [va_up, show ¬ a = 29 by omega]), ⟨K, (VA_step hin hn4 hD hso hpw hm hd hA rfl (by rw [h1, if_neg (fun z => absurd z.1 (by decide))] <;> rfl) (by rw [h1, if_neg (fun z => absurd z.1 (by decide))] <;> rfl) (by rw [h1, if_neg (by decide)] <;> rfl) (by rw [h1, if_neg (by decide)] <;> rfl) (by rw [h1, if_neg (by decide)] <;> rfl) (by rw [h1, if_pos (by decide)] <;> rfl) (by rw [h1, if_neg (by decide)] <;> rfl) (hA.2.2.2.2.2.2.2.2.1) (hA.2.2.2.2.2.2.2.2.2)), (VB_oth hm hd (by rw [h1]; decide) (by rw [h1]; decide) (by rw [h1]; decide) hB)⟩, rfl⟩
  · refine Z.tableOut (tgt := 115) dX5_readPaper_1 h1 (by decide) ?_
    exact Z.vret dX5_readPaper_115 rfl (by have hq_ := sw07_o h1; exact ⟨rfl, fun a ha => rfl, ⟨K, (VA_step hin hn4 hD hso hpw hm hd hA rfl (if_neg (fun z => hq_.2.1 z.1)).symm (if_neg (fun z => hq_.2.1 z.1)).symm (if_neg hq_.2.1).symm (if_neg hq_.2.2.1).symm (if_neg hq_.2.2.2.2.1).symm (if_neg hq_.2.2.2.2.2.2.2).symm (if_neg hq_.1).symm (hA.2.2.2.2.2.2.2.2.1) hA.2.2.2.2.2.2.2.2.2), (VB_oth hm hd hq_.1 hq_.2.2.2.1 hq_.2.2.2.2.2.2.1 hB)⟩, rfl⟩)

set_option maxHeartbeats 4000000 in
set_option maxRecDepth 100000 in
theorem cv_clear29 {g : GP} {I J : IM} {S : SH} (hE : Ex I J) (t : Int32) (hF : Fx S) : Z g 0 0 0 mX5_clear 0 (enL mX5_clear [.ref 29, .int t]) [] J S (VQ (va_up J 29 (upd (upd (upd (upd (upd (upd (upd (upd (upd (J 29) 0 t) 1 (-1)) 2 (-1)) 3 0) 4 0) 5 0) 6 0) 7 0) 8 0)) S) := by
  show Z g 0 0 0 mX5_clear 0 [.ref 29, .int t] [] J S _
  refine Z.aload_n dX5_clear_0 rfl ?_
  refine Z.iload_n dX5_clear_1 rfl ?_
  refine Z.putI (x := t) dX5_clear_2 cl5 flX5_61 (by decide) ⟨rfl, rfl⟩ (fx29 hF) ?_
  refine Z.aload_n dX5_clear_5 rfl ?_
  refine Z.iconst (v := (-1)) dX5_clear_6 (by decide) ?_
  refine Z.putI (x := (-1)) dX5_clear_7 cl5 flX5_51 (by decide) ⟨rfl, rfl⟩ (fx29 hF) ?_
  refine Z.eqI (bx_uu _ _ _ _) ?_
  refine Z.aload_n dX5_clear_10 rfl ?_
  refine Z.iconst (v := (-1)) dX5_clear_11 (by decide) ?_
  refine Z.putI (x := (-1)) dX5_clear_12 cl5 flX5_77 (by decide) ⟨rfl, rfl⟩ (fx29 hF) ?_
  refine Z.eqI (bx_uu _ _ _ _) ?_
  refine Z.aload_n dX5_clear_15 rfl ?_
  refine Z.iconst (v := 0) dX5_clear_16 (by decide) ?_
  refine Z.putI (x := 0) dX5_clear_17 cl5 flX5_100 (by decide) ⟨rfl, rfl⟩ (fx29 hF) ?_
  refine Z.eqI (bx_uu _ _ _ _) ?_
  refine Z.aload_n dX5_clear_20 rfl ?_
  refine Z.iconst (v := 0) dX5_clear_21 (by decide) ?_
  refine Z.putI (x := 0) dX5_clear_22 cl5 flX5_58 (by decide) ⟨rfl, rfl⟩ (fx29 hF) ?_
  refine Z.eqI (bx_uu _ _ _ _) ?_
  refine Z.aload_n dX5_clear_25 rfl ?_
  refine Z.iconst (v := 0) dX5_clear_26 (by decide) ?_
  refine Z.putI (x := 0) dX5_clear_27 cl5 flX5_89 (by decide) ⟨by decide, by decide⟩ (fx29 hF) ?_
  refine Z.eqI (bx_uu _ _ _ _) ?_
  refine Z.aload_n dX5_clear_30 rfl ?_
  refine Z.iconst (v := 0) dX5_clear_31 (by decide) ?_
  refine Z.putI (x := 0) dX5_clear_32 cl5 flX5_103 (by decide) ⟨by decide, by decide⟩ (fx29 hF) ?_
  refine Z.eqI (bx_uu _ _ _ _) ?_
  refine Z.aload_n dX5_clear_35 rfl ?_
  refine Z.iconst (v := 0) dX5_clear_36 (by decide) ?_
  refine Z.putI (x := 0) dX5_clear_37 cl5 flX5_106 (by decide) ⟨by decide, by decide⟩ (fx29 hF) ?_
  refine Z.eqI (bx_uu _ _ _ _) ?_
  refine Z.aload_n dX5_clear_40 rfl ?_
  refine Z.iconst (v := 0) dX5_clear_41 (by decide) ?_
  refine Z.putI (x := 0) dX5_clear_42 cl5 flX5_68 (by decide) ⟨rfl, rfl⟩ (fx29 hF) ?_
  refine Z.eqI (bx_uu _ _ _ _) ?_
  exact Z.vret dX5_clear_45 rfl ⟨rfl, rfl, rfl⟩

set_option maxHeartbeats 4000000 in
set_option maxRecDepth 100000 in
theorem lv_read29 {g : GP} {I J0 : IM} {S : SH} (hE0 : Ex I J0) (m c t : Int32) (hF : Fx S) (hC : Cp I) {n : Nat} (hn : Mp I n) (hL : LG I n) : ∀ i, i ≤ n → ∀ J, AW 29 J0 J → VW29 I i m c t J → Z g 3 0 0 mX5_read 9 [.ref 29, .ref 14, .int m, .int c, .int t, .int (nI i)] [] J S (RQ29 I J0 S n m c t) := by
  have hn2 := hn.2
  refine upZ n (fun i hi ih J hw hV => ?_)
  have hE := AW29.ex hw hE0
  obtain ⟨K, hA, hB⟩ := hV
  refine Z.iload dX5_read_9 rfl ?_
  refine Z.aload_n dX5_read_11 rfl ?_
  refine Z.getIv (v := nI n) dX5_read_12 cl3 flX5_29 (by decide) (fx14 hF) (((hE.at 14 4 rfl).trans hC.f14_4).trans hn.1) ?_
  refine Z.icmp_geN (a := i) (b := n) (by omega) (by omega) (tgt := 73) dX5_read_15 (by decide) (fun h1 => ?_) (fun h1 => ?_)
  · exact Z.vret dX5_read_73 rfl (by have e : i = n := (by omega); subst e; exact ⟨rfl, hw, ⟨K, hA, hB⟩, rfl⟩)
  · refine Z.aload_n dX5_read_18 rfl ?_
    refine Z.getR (r := 18) dX5_read_19 cl3 flX5_35 (by decide) (fx14 hF) rfl ?_
    refine Z.iload dX5_read_22 rfl ?_
    refine Z.ialdv (j := i) (v := I 52 i) dX5_read_24 (fx18 hF) rfl (by omega) (by decide) ((hE.at 18 i rfl).trans (congrFun (hC.c18) i)) ?_
    refine Z.iload dX5_read_25 rfl ?_
    refine Z.icmp_gt (tgt := 73) dX5_read_27 (by decide) (fun h2 => ?_) (fun h2 => ?_)
    · exact Z.vret dX5_read_73 rfl (by have e := V_rest (K := K) (c := c) hn2 (n - i) i (by omega) (fun j y1 y2 => lt_le2 h2 (hL.2.1 i j y1 y2)) hA hB; exact ⟨rfl, hw, ⟨K, e.1, e.2⟩, rfl⟩)
    · refine Z.aload_n dX5_read_30 rfl ?_
      refine Z.getR (r := 16) dX5_read_31 cl3 flX5_38 (by decide) (fx14 hF) rfl ?_
      refine Z.iload dX5_read_34 rfl ?_
      refine Z.ialdv (j := i) (v := I 50 i) dX5_read_36 (fx16 hF) rfl (by omega) (by decide) ((hE.at 16 i rfl).trans (congrFun (hC.c16) i)) ?_
      refine Z.iload_n dX5_read_37 rfl ?_
      refine Z.icmp_ne (tgt := 67) dX5_read_38 (by decide) (fun h3 => ?_) (fun h3 => ?_)
      · refine Z.iinc (v := nI (i + 1)) (L' := [.ref 29, .ref 14, .int m, .int c, .int t, .int (nI (i + 1))]) dX5_read_67 rfl (nI_1 _) rfl ?_
        refine Z.goto (tgt := 9) dX5_read_70 (by decide) ?_
        exact ih (by omega) _ hw ⟨K, VA_sk (by omega) (fun z => h3 z.1) hA, VB_sk (fun z => h3 z.1) hB⟩
      · refine Z.aload_n dX5_read_41 rfl ?_
        refine Z.aload_n dX5_read_42 rfl ?_
        refine Z.getR (r := 15) dX5_read_43 cl3 flX5_41 (by decide) (fx14 hF) rfl ?_
        refine Z.iload dX5_read_46 rfl ?_
        refine Z.ialdv (j := i) (v := I 49 i) dX5_read_48 (fx15 hF) rfl (by omega) (by decide) ((hE.at 15 i rfl).trans (congrFun (hC.c15) i)) ?_
        refine Z.aload_n dX5_read_49 rfl ?_
        refine Z.getR (r := 17) dX5_read_50 cl3 flX5_44 (by decide) (fx14 hF) rfl ?_
        refine Z.iload dX5_read_53 rfl ?_
        refine Z.ialdv (j := i) (v := I 51 i) dX5_read_55 (fx17 hF) rfl (by omega) (by decide) ((hE.at 17 i rfl).trans (congrFun (hC.c17) i)) ?_
        refine Z.aload_n dX5_read_56 rfl ?_
        refine Z.getR (r := 18) dX5_read_57 cl3 flX5_35 (by decide) (fx14 hF) rfl ?_
        refine Z.iload dX5_read_60 rfl ?_
        refine Z.ialdv (j := i) (v := I 52 i) dX5_read_62 (fx18 hF) rfl (by omega) (by decide) ((hE.at 18 i rfl).trans (congrFun (hC.c18) i)) ?_
        refine Z.iload_n dX5_read_63 rfl ?_
        refine Z.callVg (M := mX5_read) (pc := 64) (st := []) (N := mX5_readPaper) (n := 4) dX5_read_64 mlX5_47 mkX5_readPaper imX5_readPaper seX5_readPaper (fx29 hF) cl5 rfl (d1 := 2) (by decide) (As := [.int (I 49 i), .int (I 51 i), .int (I 52 i), .int c]) rfl ⟨rfl, Nat.le_of_ble_eq_true rfl⟩ ⟨rfl, Nat.le_of_ble_eq_true rfl⟩ (cv_readPaper29 hE hF (by omega) hn2 hL.1 hL.2.1 (hL.2.2 i (by omega)) h3 h2 hA hB) rfl (fun v_ J1 S_ h_ => ?_)
        obtain ⟨rfl, hw2, hV2, rfl⟩ := h_
        refine Z.iinc (v := nI (i + 1)) (L' := [.ref 29, .ref 14, .int m, .int c, .int t, .int (nI (i + 1))]) dX5_read_67 rfl (nI_1 _) rfl ?_
        refine Z.goto (tgt := 9) dX5_read_70 (by decide) ?_
        exact ih (by omega) _ (hw.tr hw2) hV2

set_option maxHeartbeats 4000000 in
set_option maxRecDepth 100000 in
theorem cv_read29 {g : GP} {I J : IM} {S : SH} (hE : Ex I J) (m c t : Int32) (hF : Fx S) (hC : Cp I) {n : Nat} (hn : Mp I n) (hL : LG I n) : Z g 3 0 0 mX5_read 0 (enL mX5_read [.ref 29, .ref 14, .int m, .int c, .int t]) [] J S (RQ29 I J S n m c t) := by
  show Z g 3 0 0 mX5_read 0 [.ref 29, .ref 14, .int m, .int c, .int t, .retAddr 0] [] J S _
  refine Z.aload_n dX5_read_0 rfl ?_
  refine Z.iload dX5_read_1 rfl ?_
  refine Z.callVg (M := mX5_read) (pc := 3) (st := []) (N := mX5_clear) (n := 1) dX5_read_3 mlX5_25 mkX5_clear imX5_clear seX5_clear (fx29 hF) cl5 rfl (d1 := 0) (by decide) (As := [.int t]) rfl ⟨rfl, Nat.le_of_ble_eq_true rfl⟩ ⟨rfl, Nat.le_of_ble_eq_true rfl⟩ (cv_clear29 hE t hF) rfl (fun v_ J1 S_ h_ => ?_)
  obtain ⟨rfl, rfl, rfl⟩ := h_
  refine Z.iconst (v := 0) dX5_read_6 (by decide) ?_
  refine Z.istore (L' := [.ref 29, .ref 14, .int m, .int c, .int t, .int 0]) dX5_read_7 (Nat.le_of_ble_eq_true rfl) rfl ?_
  exact lv_read29 hE m c t hF hC hn hL 0 (Nat.zero_le _) _ (fun a ha => by simp [va_up, show ¬ a = 29 by omega]) ⟨0, VA_0 rfl rfl rfl rfl rfl rfl rfl rfl rfl, VB_0⟩

