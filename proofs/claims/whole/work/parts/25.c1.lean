section ZX
variable {g : GP} {d mc ms : Nat} {M : MI} {pc : Nat} {L st : List Value} {I : IM} {S : SH} {Q : ZQ}
theorem mx_nI {a b : Nat} (ha : a < 2 ^ 31) (hb : b < 2 ^ 31) : (if nI a < nI b then nI b else nI a) = nI (mxN a b) := by
  unfold mxN
  by_cases c : a < b
  · rw [if_pos ((nI_ltI ha hb).mpr c), if_neg (by omega)]
  · rw [if_neg (fun q => c ((nI_ltI ha hb).mp q))]
    by_cases e : b < a
    · rw [if_pos e]
    · rw [if_neg e, show a = b by omega]
theorem Z.mmaxN {idx a b : Nat} (ha : a < 2 ^ 31) (hb : b < 2 ^ 31) (hd : decode M.2.1 pc = .ok (.invokestatic idx, 3)) (hlink : inT (.methodLink M.1.cls idx mJ9_max_7cf53.1)) (hk : 1 ≤ d) (hst : st.all isV = true ∧ st.length ≤ 8) (kk : Z g d mc ms M (pc + 3) L (.int (nI (mxN a b)) :: st) I S Q) : Z g d mc ms M pc L (.int (nI b) :: .int (nI a) :: st) I S Q := Z.mmax hd hlink hk hst (by rw [mx_nI ha hb]; exact kk)
end ZX
def VQ (K : IM) (S : SH) : ZQ := fun v J' T => v = none ∧ J' = K ∧ T = S
set_option maxHeartbeats 4000000 in
set_option maxRecDepth 100000 in
theorem cc_clear0 {g : GP} {I J : IM} {S : SH} (hE : Ex I J)  (hF : Fx S) : Z g 0 0 0 mX0_clear 0 (enL mX0_clear [.ref 34]) [] J S (VQ (va_up J 34 (upd (upd (J 34) 0 (-1)) 1 (-1))) S) := by
  show Z g 0 0 0 mX0_clear 0 [.ref 34] [] J S _
  refine Z.aload_n dX0_clear_0 rfl ?_
  refine Z.iconst (v := (-1)) dX0_clear_1 (by decide) ?_
  refine Z.putI (x := (-1)) dX0_clear_2 cl0 flX0_9 (by decide) ⟨rfl, rfl⟩ (fx34 hF) ?_
  refine Z.aload_n dX0_clear_5 rfl ?_
  refine Z.iconst (v := (-1)) dX0_clear_6 (by decide) ?_
  refine Z.putI (x := (-1)) dX0_clear_7 cl0 flX0_15 (by decide) ⟨rfl, rfl⟩ (fx34 hF) ?_
  refine Z.eqI (bx_uu _ _ _ _) ?_
  exact Z.vret dX0_clear_10 rfl ⟨rfl, rfl, rfl⟩

set_option maxHeartbeats 4000000 in
set_option maxRecDepth 100000 in
theorem cc_isThere {g : GP} {I J : IM} {S : SH} (hE : Ex I J)  (hF : Fx S) : Z g 0 0 0 mX0_isThere 0 (enL mX0_isThere [.ref 34]) [] J S (PQ (.int (bI (!decide (J 34 0 = -1)))) J S) := by
  show Z g 0 0 0 mX0_isThere 0 [.ref 34] [] J S _
  refine Z.aload_n dX0_isThere_0 rfl ?_
  refine Z.getIv (v := J 34 0) dX0_isThere_1 cl0 flX0_9 (by decide) (fx34 hF) rfl ?_
  refine Z.iconst (v := (-1)) dX0_isThere_4 (by decide) ?_
  refine Z.icmp_eq (tgt := 12) dX0_isThere_5 (by decide) (fun h1 => ?_) (fun h1 => ?_)
  · refine Z.iconst (v := 0) dX0_isThere_12 (by decide) ?_
    exact Z.zret dX0_isThere_13 rfl (by decide) ⟨by simp [bI, eq_true h1], rfl, rfl⟩
  · refine Z.iconst (v := 1) dX0_isThere_8 (by decide) ?_
    refine Z.goto (tgt := 13) dX0_isThere_9 (by decide) ?_
    exact Z.zret dX0_isThere_13 rfl (by decide) ⟨by simp [bI, h1], rfl, rfl⟩

def clA1 (f : Nat → Int32) (g_ h_ : Int32) : Nat → Int32 := if f 0 = -1 ∨ 360 * g_ + h_ < f 0 then upd f 0 (360 * g_ + h_) else f
def clA (f : Nat → Int32) (g_ h_ r_ : Int32) : Nat → Int32 := if f 1 = -1 ∨ r_ < f 1 then upd (clA1 f g_ h_) 1 r_ else clA1 f g_ h_
set_option maxHeartbeats 4000000 in
set_option maxRecDepth 100000 in
theorem cc_add0 {g : GP} {I J : IM} {S : SH} (hE : Ex I J) (g_ h_ r_ : Int32) (hF : Fx S) : Z g 0 0 0 mX0_add 0 (enL mX0_add [.ref 34, .int g_, .int h_, .int r_]) [] J S (VQ (va_up J 34 (clA (J 34) g_ h_ r_)) S) := by
  show Z g 0 0 0 mX0_add 0 [.ref 34, .int g_, .int h_, .int r_, .retAddr 0] [] J S _
  refine Z.sipush (v := 360) dX0_add_0 (by decide) ?_
  refine Z.iload_n dX0_add_3 rfl ?_
  refine Z.imul dX0_add_4 ?_
  refine Z.iload_n dX0_add_5 rfl ?_
  refine Z.iadd dX0_add_6 ?_
  refine Z.istore (L' := [.ref 34, .int g_, .int h_, .int r_, .int ((360 * g_) + h_)]) dX0_add_7 (Nat.le_of_ble_eq_true rfl) rfl ?_
  refine Z.aload_n dX0_add_9 rfl ?_
  refine Z.getIv (v := J 34 0) dX0_add_10 cl0 flX0_9 (by decide) (fx34 hF) rfl ?_
  refine Z.iconst (v := (-1)) dX0_add_13 (by decide) ?_
  refine Z.icmp_eq (tgt := 26) dX0_add_14 (by decide) (fun h1 => ?_) (fun h1 => ?_)
  · refine Z.aload_n dX0_add_26 rfl ?_
    refine Z.iload dX0_add_27 rfl ?_
    refine Z.putI (x := (360 * g_) + h_) dX0_add_29 cl0 flX0_9 (by decide) ⟨rfl, rfl⟩ (fx34 hF) ?_
    refine Z.aload_n dX0_add_32 rfl ?_
    refine Z.getIv (v := J 34 1) dX0_add_33 cl0 flX0_15 (by decide) (fx34 hF) rfl ?_
    refine Z.iconst (v := (-1)) dX0_add_36 (by decide) ?_
    refine Z.icmp_eq (tgt := 48) dX0_add_37 (by decide) (fun h2 => ?_) (fun h2 => ?_)
    · refine Z.aload_n dX0_add_48 rfl ?_
      refine Z.iload_n dX0_add_49 rfl ?_
      refine Z.putI (x := r_) dX0_add_50 cl0 flX0_15 (by decide) ⟨rfl, rfl⟩ (fx34 hF) ?_
      refine Z.eqI (bx_uu _ _ _ _) ?_
      exact Z.vret dX0_add_53 rfl ⟨rfl, by (rw [clA, if_pos (by simp [eq_true h1, eq_true h2]), clA1, if_pos (by simp [eq_true h1, eq_true h2])]) <;> rfl, rfl⟩
    · refine Z.iload_n dX0_add_40 rfl ?_
      refine Z.aload_n dX0_add_41 rfl ?_
      refine Z.getIv (v := J 34 1) dX0_add_42 cl0 flX0_15 (by decide) (fx34 hF) rfl ?_
      refine Z.icmp_ge (tgt := 53) dX0_add_45 (by decide) (fun h3 => ?_) (fun h3 => ?_)
      · exact Z.vret dX0_add_53 rfl ⟨rfl, by (rw [clA, if_neg (by simp [eq_true h1, h2, h3]), clA1, if_pos (by simp [eq_true h1, h2, h3])]) <;> rfl, rfl⟩
      · refine Z.aload_n dX0_add_48 rfl ?_
        refine Z.iload_n dX0_add_49 rfl ?_
        refine Z.putI (x := r_) dX0_add_50 cl0 flX0_15 (by decide) ⟨rfl, rfl⟩ (fx34 hF) ?_
        refine Z.eqI (bx_uu _ _ _ _) ?_
        exact Z.vret dX0_add_53 rfl ⟨rfl, by (rw [clA, if_pos (by simp [eq_true h1, h2, h3]), clA1, if_pos (by simp [eq_true h1, h2, h3])]) <;> rfl, rfl⟩
  · refine Z.iload dX0_add_17 rfl ?_
    refine Z.aload_n dX0_add_19 rfl ?_
    refine Z.getIv (v := J 34 0) dX0_add_20 cl0 flX0_9 (by decide) (fx34 hF) rfl ?_
    refine Z.icmp_ge (tgt := 32) dX0_add_23 (by decide) (fun h4 => ?_) (fun h4 => ?_)
    · refine Z.aload_n dX0_add_32 rfl ?_
      refine Z.getIv (v := J 34 1) dX0_add_33 cl0 flX0_15 (by decide) (fx34 hF) rfl ?_
      refine Z.iconst (v := (-1)) dX0_add_36 (by decide) ?_
      refine Z.icmp_eq (tgt := 48) dX0_add_37 (by decide) (fun h5 => ?_) (fun h5 => ?_)
      · refine Z.aload_n dX0_add_48 rfl ?_
        refine Z.iload_n dX0_add_49 rfl ?_
        refine Z.putI (x := r_) dX0_add_50 cl0 flX0_15 (by decide) ⟨rfl, rfl⟩ (fx34 hF) ?_
        exact Z.vret dX0_add_53 rfl ⟨rfl, by (rw [clA, if_pos (by simp [h1, h4, eq_true h5]), clA1, if_neg (by simp [h1, h4, eq_true h5])]) <;> rfl, rfl⟩
      · refine Z.iload_n dX0_add_40 rfl ?_
        refine Z.aload_n dX0_add_41 rfl ?_
        refine Z.getIv (v := J 34 1) dX0_add_42 cl0 flX0_15 (by decide) (fx34 hF) rfl ?_
        refine Z.icmp_ge (tgt := 53) dX0_add_45 (by decide) (fun h6 => ?_) (fun h6 => ?_)
        · exact Z.vret dX0_add_53 rfl ⟨rfl, by rw [clA, if_neg (by simp [h1, h4, h5, h6]), clA1, if_neg (by simp [h1, h4, h5, h6]), up_self], rfl⟩
        · refine Z.aload_n dX0_add_48 rfl ?_
          refine Z.iload_n dX0_add_49 rfl ?_
          refine Z.putI (x := r_) dX0_add_50 cl0 flX0_15 (by decide) ⟨rfl, rfl⟩ (fx34 hF) ?_
          exact Z.vret dX0_add_53 rfl ⟨rfl, by (rw [clA, if_pos (by simp [h1, h4, h5, h6]), clA1, if_neg (by simp [h1, h4, h5, h6])]) <;> rfl, rfl⟩
    · refine Z.aload_n dX0_add_26 rfl ?_
      refine Z.iload dX0_add_27 rfl ?_
      refine Z.putI (x := (360 * g_) + h_) dX0_add_29 cl0 flX0_9 (by decide) ⟨rfl, rfl⟩ (fx34 hF) ?_
      refine Z.aload_n dX0_add_32 rfl ?_
      refine Z.getIv (v := J 34 1) dX0_add_33 cl0 flX0_15 (by decide) (fx34 hF) rfl ?_
      refine Z.iconst (v := (-1)) dX0_add_36 (by decide) ?_
      refine Z.icmp_eq (tgt := 48) dX0_add_37 (by decide) (fun h7 => ?_) (fun h7 => ?_)
      · refine Z.aload_n dX0_add_48 rfl ?_
        refine Z.iload_n dX0_add_49 rfl ?_
        refine Z.putI (x := r_) dX0_add_50 cl0 flX0_15 (by decide) ⟨rfl, rfl⟩ (fx34 hF) ?_
        refine Z.eqI (bx_uu _ _ _ _) ?_
        exact Z.vret dX0_add_53 rfl ⟨rfl, by (rw [clA, if_pos (by simp [h1, h4, eq_true h7]), clA1, if_pos (by simp [h1, h4, eq_true h7])]) <;> rfl, rfl⟩
      · refine Z.iload_n dX0_add_40 rfl ?_
        refine Z.aload_n dX0_add_41 rfl ?_
        refine Z.getIv (v := J 34 1) dX0_add_42 cl0 flX0_15 (by decide) (fx34 hF) rfl ?_
        refine Z.icmp_ge (tgt := 53) dX0_add_45 (by decide) (fun h8 => ?_) (fun h8 => ?_)
        · exact Z.vret dX0_add_53 rfl ⟨rfl, by (rw [clA, if_neg (by simp [h1, h4, h7, h8]), clA1, if_pos (by simp [h1, h4, h7, h8])]) <;> rfl, rfl⟩
        · refine Z.aload_n dX0_add_48 rfl ?_
          refine Z.iload_n dX0_add_49 rfl ?_
          refine Z.putI (x := r_) dX0_add_50 cl0 flX0_15 (by decide) ⟨rfl, rfl⟩ (fx34 hF) ?_
          refine Z.eqI (bx_uu _ _ _ _) ?_
          exact Z.vret dX0_add_53 rfl ⟨rfl, by (rw [clA, if_pos (by simp [h1, h4, h7, h8]), clA1, if_pos (by simp [h1, h4, h7, h8])]) <;> rfl, rfl⟩

set_option maxHeartbeats 4000000 in
set_option maxRecDepth 100000 in
theorem cc_below {g : GP} {I J : IM} {S : SH} (hE : Ex I J) (v b : Int32)  : Z g 0 0 0 mX6_below 0 (enL mX6_below [.int v, .int b]) [] J S (PQ (.int (bI (belB v b))) J S) := by
  show Z g 0 0 0 mX6_below 0 [.int v, .int b] [] J S _
  refine Z.iload_n dX6_below_0 rfl ?_
  refine Z.if_lt (tgt := 13) dX6_below_1 (by decide) (fun h1 => ?_) (fun h1 => ?_)
  · refine Z.iconst (v := 0) dX6_below_13 (by decide) ?_
    exact Z.zret dX6_below_14 rfl (by decide) ⟨by simp [bI, belB, h1], rfl, rfl⟩
  · refine Z.iload_n dX6_below_4 rfl ?_
    refine Z.iload_n dX6_below_5 rfl ?_
    refine Z.icmp_ge (tgt := 13) dX6_below_6 (by decide) (fun h2 => ?_) (fun h2 => ?_)
    · refine Z.iconst (v := 0) dX6_below_13 (by decide) ?_
      exact Z.zret dX6_below_14 rfl (by decide) ⟨by simp [bI, belB, h1, h2], rfl, rfl⟩
    · refine Z.iconst (v := 1) dX6_below_9 (by decide) ?_
      refine Z.goto (tgt := 14) dX6_below_10 (by decide) ?_
      exact Z.zret dX6_below_14 rfl (by decide) ⟨by simp [bI, belB, h1, h2], rfl, rfl⟩

theorem cc_below5 {g : GP} {I J : IM} {S : SH} (hE : Ex I J) (v : Int32) : Z g 0 0 0 mX6_below 0 (enL mX6_below [.int v, .int 5]) [] J S (PQ (.int (bI (inB v 0 4))) J S) := by
  rw [← belB_in (x := 5) (by decide)]
  exact cc_below hE v 5
theorem cc_below16 {g : GP} {I J : IM} {S : SH} (hE : Ex I J) (v : Int32) : Z g 0 0 0 mX6_below 0 (enL mX6_below [.int v, .int 16]) [] J S (PQ (.int (bI (inB v 0 15))) J S) := by
  rw [← belB_in (x := 16) (by decide)]
  exact cc_below hE v 16
theorem cc_below26 {g : GP} {I J : IM} {S : SH} (hE : Ex I J) (v : Int32) : Z g 0 0 0 mX6_below 0 (enL mX6_below [.int v, .int 26]) [] J S (PQ (.int (bI (inB v 0 25))) J S) := by
  rw [← belB_in (x := 26) (by decide)]
  exact cc_below hE v 26
theorem cc_below40 {g : GP} {I J : IM} {S : SH} (hE : Ex I J) (v : Int32) : Z g 0 0 0 mX6_below 0 (enL mX6_below [.int v, .int 40]) [] J S (PQ (.int (bI (inB v 0 39))) J S) := by
  rw [← belB_in (x := 40) (by decide)]
  exact cc_below hE v 40
theorem cc_below66 {g : GP} {I J : IM} {S : SH} (hE : Ex I J) (v : Int32) : Z g 0 0 0 mX6_below 0 (enL mX6_below [.int v, .int 66]) [] J S (PQ (.int (bI (inB v 0 65))) J S) := by
  rw [← belB_in (x := 66) (by decide)]
  exact cc_below hE v 66
theorem cc_below100 {g : GP} {I J : IM} {S : SH} (hE : Ex I J) (v : Int32) : Z g 0 0 0 mX6_below 0 (enL mX6_below [.int v, .int 100]) [] J S (PQ (.int (bI (inB v 0 99))) J S) := by
  rw [← belB_in (x := 100) (by decide)]
  exact cc_below hE v 100
theorem cc_below360 {g : GP} {I J : IM} {S : SH} (hE : Ex I J) (v : Int32) : Z g 0 0 0 mX6_below 0 (enL mX6_below [.int v, .int 360]) [] J S (PQ (.int (bI (inB v 0 359))) J S) := by
  rw [← belB_in (x := 360) (by decide)]
  exact cc_below hE v 360
theorem cc_below1000 {g : GP} {I J : IM} {S : SH} (hE : Ex I J) (v : Int32) : Z g 0 0 0 mX6_below 0 (enL mX6_below [.int v, .int 1000]) [] J S (PQ (.int (bI (inB v 0 999))) J S) := by
  rw [← belB_in (x := 1000) (by decide)]
  exact cc_below hE v 1000
theorem cc_below32768 {g : GP} {I J : IM} {S : SH} (hE : Ex I J) (v : Int32) : Z g 0 0 0 mX6_below 0 (enL mX6_below [.int v, .int 32768]) [] J S (PQ (.int (bI (inB v 0 32767))) J S) := by
  rw [← belB_in (x := 32768) (by decide)]
  exact cc_below hE v 32768
set_option maxHeartbeats 4000000 in
set_option maxRecDepth 100000 in
theorem cc_isDay {g : GP} {I J : IM} {S : SH} (hE : Ex I J) (v : Int32)  : Z g 0 0 0 mX6_isDay 0 (enL mX6_isDay [.int v]) [] J S (PQ (.int (bI (inB v 0 60000))) J S) := by
  show Z g 0 0 0 mX6_isDay 0 [.int v] [] J S _
  refine Z.iload_n dX6_isDay_0 rfl ?_
  refine Z.if_lt (tgt := 14) dX6_isDay_1 (by decide) (fun h1 => ?_) (fun h1 => ?_)
  · refine Z.iconst (v := 0) dX6_isDay_14 (by decide) ?_
    exact Z.zret dX6_isDay_15 rfl (by decide) ⟨by simp [bI, inB, h1], rfl, rfl⟩
  · refine Z.iload_n dX6_isDay_4 rfl ?_
    refine Z.ldc (v := 60000) dX6_isDay_5 cnX6_248 ?_
    refine Z.icmp_gt (tgt := 14) dX6_isDay_7 (by decide) (fun h2 => ?_) (fun h2 => ?_)
    · refine Z.iconst (v := 0) dX6_isDay_14 (by decide) ?_
      exact Z.zret dX6_isDay_15 rfl (by decide) ⟨by simp [bI, inB, h1, h2], rfl, rfl⟩
    · refine Z.iconst (v := 1) dX6_isDay_10 (by decide) ?_
      refine Z.goto (tgt := 15) dX6_isDay_11 (by decide) ?_
      exact Z.zret dX6_isDay_15 rfl (by decide) ⟨by simp [bI, inB, h1, h2], rfl, rfl⟩

def bxF (k : Int32) : Int32 := if k = 0 ∨ k = 3 ∨ k = 6 then 360 else if k = 1 then 16 else if k = 5 ∨ k = 8 then 100 else if k = 2 ∨ k = 4 ∨ k = 7 then 1 else 0
theorem sw08_o {x : Int32} (h : x.toInt < 0 ∨ 8 < x.toInt) : ¬ x = 0 ∧ ¬ x = 1 ∧ ¬ x = 2 ∧ ¬ x = 3 ∧ ¬ x = 4 ∧ ¬ x = 5 ∧ ¬ x = 6 ∧ ¬ x = 7 ∧ ¬ x = 8 := by
  refine ⟨?_, ?_, ?_, ?_, ?_, ?_, ?_, ?_, ?_⟩ <;> (intro q; rw [q] at h; revert h; decide)
set_option maxHeartbeats 4000000 in
set_option maxRecDepth 100000 in
theorem cc_boundOfX {g : GP} {I J : IM} {S : SH} (hE : Ex I J) (k : Int32)  : Z g 0 0 0 mX6_boundOfX 0 (enL mX6_boundOfX [.int k]) [] J S (PQ (.int (bxF k)) J S) := by
  show Z g 0 0 0 mX6_boundOfX 0 [.int k] [] J S _
  refine Z.iload_n dX6_boundOfX_0 rfl ?_
  rcases sw_0_8 k with h1 | h1 | h1 | h1 | h1 | h1 | h1 | h1 | h1 | h1
  · refine Z.tableIn (off := 51) (tgt := 52) dX6_boundOfX_1 (by rw [h1]; decide) (by rw [h1]; decide) (by rw [h1]; decide) (by decide) ?_
    refine Z.sipush (v := 360) dX6_boundOfX_52 (by decide) ?_
    exact Z.iret dX6_boundOfX_55 rfl ⟨by simp [bxF, h1], rfl, rfl⟩
  · refine Z.tableIn (off := 55) (tgt := 56) dX6_boundOfX_1 (by rw [h1]; decide) (by rw [h1]; decide) (by rw [h1]; decide) (by decide) ?_
    refine Z.bipush (v := 16) dX6_boundOfX_56 (by decide) ?_
    exact Z.iret dX6_boundOfX_58 rfl ⟨by simp [bxF, h1], rfl, rfl⟩
  · refine Z.tableIn (off := 61) (tgt := 62) dX6_boundOfX_1 (by rw [h1]; decide) (by rw [h1]; decide) (by rw [h1]; decide) (by decide) ?_
    refine Z.iconst (v := 1) dX6_boundOfX_62 (by decide) ?_
    exact Z.iret dX6_boundOfX_63 rfl ⟨by simp [bxF, h1], rfl, rfl⟩
  · refine Z.tableIn (off := 51) (tgt := 52) dX6_boundOfX_1 (by rw [h1]; decide) (by rw [h1]; decide) (by rw [h1]; decide) (by decide) ?_
    refine Z.sipush (v := 360) dX6_boundOfX_52 (by decide) ?_
    exact Z.iret dX6_boundOfX_55 rfl ⟨by simp [bxF, h1], rfl, rfl⟩
  · refine Z.tableIn (off := 61) (tgt := 62) dX6_boundOfX_1 (by rw [h1]; decide) (by rw [h1]; decide) (by rw [h1]; decide) (by decide) ?_
    refine Z.iconst (v := 1) dX6_boundOfX_62 (by decide) ?_
    exact Z.iret dX6_boundOfX_63 rfl ⟨by simp [bxF, h1], rfl, rfl⟩
  · refine Z.tableIn (off := 58) (tgt := 59) dX6_boundOfX_1 (by rw [h1]; decide) (by rw [h1]; decide) (by rw [h1]; decide) (by decide) ?_
    refine Z.bipush (v := 100) dX6_boundOfX_59 (by decide) ?_
    exact Z.iret dX6_boundOfX_61 rfl ⟨by simp [bxF, h1], rfl, rfl⟩
  · refine Z.tableIn (off := 51) (tgt := 52) dX6_boundOfX_1 (by rw [h1]; decide) (by rw [h1]; decide) (by rw [h1]; decide) (by decide) ?_
    refine Z.sipush (v := 360) dX6_boundOfX_52 (by decide) ?_
    exact Z.iret dX6_boundOfX_55 rfl ⟨by simp [bxF, h1], rfl, rfl⟩
  · refine Z.tableIn (off := 61) (tgt := 62) dX6_boundOfX_1 (by rw [h1]; decide) (by rw [h1]; decide) (by rw [h1]; decide) (by decide) ?_
    refine Z.iconst (v := 1) dX6_boundOfX_62 (by decide) ?_
    exact Z.iret dX6_boundOfX_63 rfl ⟨by simp [bxF, h1], rfl, rfl⟩
  · refine Z.tableIn (off := 58) (tgt := 59) dX6_boundOfX_1 (by rw [h1]; decide) (by rw [h1]; decide) (by rw [h1]; decide) (by decide) ?_
    refine Z.bipush (v := 100) dX6_boundOfX_59 (by decide) ?_
    exact Z.iret dX6_boundOfX_61 rfl ⟨by simp [bxF, h1], rfl, rfl⟩
  · refine Z.tableOut (tgt := 64) dX6_boundOfX_1 h1 (by decide) ?_
    refine Z.iconst (v := 0) dX6_boundOfX_64 (by decide) ?_
    exact Z.iret dX6_boundOfX_65 rfl ⟨by have hq_ := sw08_o h1; simp [bxF, hq_.1, hq_.2.1, hq_.2.2.1, hq_.2.2.2.1, hq_.2.2.2.2.1, hq_.2.2.2.2.2.1, hq_.2.2.2.2.2.2.1, hq_.2.2.2.2.2.2.2.1, hq_.2.2.2.2.2.2.2.2], rfl, rfl⟩

set_option maxHeartbeats 4000000 in
set_option maxRecDepth 100000 in
theorem cc_latestDay {g : GP} {I J : IM} {S : SH} (hE : Ex I J)  (hF : Fx S) (hC : Cp I) {n : Nat} (hn : Mp I n) : Z g 0 0 0 mX3_latestDay 0 (enL mX3_latestDay [.ref 14]) [] J S (PQ (.int (if n = 0 then 0 else I 52 (n - 1))) J S) := by
  show Z g 0 0 0 mX3_latestDay 0 [.ref 14] [] J S _
  have hn2 := hn.2
  refine Z.aload_n dX3_latestDay_0 rfl ?_
  refine Z.getIv (v := nI n) dX3_latestDay_1 cl3 flX3_24 (by decide) (fx14 hF) (((hE.at 14 4 rfl).trans hC.f14_4).trans hn.1) ?_
  refine Z.if_neN (a := n) (by omega) (tgt := 11) dX3_latestDay_4 (by decide) (fun h1 => ?_) (fun h1 => ?_)
  · refine Z.aload_n dX3_latestDay_11 rfl ?_
    refine Z.getR (r := 18) dX3_latestDay_12 cl3 flX3_21 (by decide) (fx14 hF) rfl ?_
    refine Z.aload_n dX3_latestDay_15 rfl ?_
    refine Z.getIv (v := nI n) dX3_latestDay_16 cl3 flX3_24 (by decide) (fx14 hF) (((hE.at 14 4 rfl).trans hC.f14_4).trans hn.1) ?_
    refine Z.iconst (v := 1) dX3_latestDay_19 (by decide) ?_
    refine Z.isubN (a := n) (b := 1) (by omega) dX3_latestDay_20 ?_
    refine Z.ialdv (j := n - 1) (v := I 52 (n - 1)) dX3_latestDay_21 (fx18 hF) rfl (by omega) (by decide) ((hE.at 18 (n - 1) rfl).trans (congrFun (hC.c18) (n - 1))) ?_
    exact Z.iret dX3_latestDay_22 rfl ⟨by rw [if_neg (by omega)], rfl, rfl⟩
  · refine Z.iconst (v := 0) dX3_latestDay_7 (by decide) ?_
    refine Z.goto (tgt := 22) dX3_latestDay_8 (by decide) ?_
    exact Z.iret dX3_latestDay_22 rfl ⟨by rw [if_pos (by omega)], rfl, rfl⟩

set_option maxHeartbeats 4000000 in
set_option maxRecDepth 100000 in
theorem cc_take {g : GP} {I J : IM} {S : SH} (hE : Ex I J) (t : Int32) (hF : Fx S) (hC : Cp I) {n : Nat} (hn : Mp I n) : Z g 1 0 0 mX3_take 0 (enL mX3_take [.ref 14, .int t]) [] J S (PQ (.int (bI (decide (n < 400) && !decide (t < (if n = 0 then 0 else I 52 (n - 1)))))) J S) := by
  show Z g 1 0 0 mX3_take 0 [.ref 14, .int t] [] J S _
  have hn2 := hn.2
  refine Z.aload_n dX3_take_0 rfl ?_
  refine Z.getIv (v := nI n) dX3_take_1 cl3 flX3_24 (by decide) (fx14 hF) (((hE.at 14 4 rfl).trans hC.f14_4).trans hn.1) ?_
  refine Z.sipush (v := 400) dX3_take_4 (by decide) ?_
  refine Z.icmp_geN (a := n) (b := 400) (by omega) (by decide) (tgt := 22) dX3_take_7 (by decide) (fun h1 => ?_) (fun h1 => ?_)
  · refine Z.iconst (v := 0) dX3_take_22 (by decide) ?_
    exact Z.zret dX3_take_23 rfl (by decide) ⟨by simp [bI, h1]; try omega, rfl, rfl⟩
  · refine Z.iload_n dX3_take_10 rfl ?_
    refine Z.aload_n dX3_take_11 rfl ?_
    refine Z.callVp (M := mX3_take) (pc := 12) (st := [.int t]) (N := mX3_latestDay) (n := 0) (r := .int ((if n = 0 then 0 else I 52 (n - 1)))) dX3_take_12 mlX3_28 mkX3_latestDay imX3_latestDay seX3_latestDay (fx14 hF) cl3 rfl (d1 := 0) (by decide) (As := []) rfl ⟨rfl, Nat.le_of_ble_eq_true rfl⟩ ⟨rfl, Nat.le_of_ble_eq_true rfl⟩ (cc_latestDay hE hF hC hn) rfl ?_
    refine Z.icmp_lt (tgt := 22) dX3_take_15 (by decide) (fun h2 => ?_) (fun h2 => ?_)
    · refine Z.iconst (v := 0) dX3_take_22 (by decide) ?_
      exact Z.zret dX3_take_23 rfl (by decide) ⟨by simp [bI, h1, h2]; try omega, rfl, rfl⟩
    · refine Z.iconst (v := 1) dX3_take_18 (by decide) ?_
      refine Z.goto (tgt := 23) dX3_take_19 (by decide) ?_
      exact Z.zret dX3_take_23 rfl (by decide) ⟨by simp [bI, h1, h2]; try omega, rfl, rfl⟩

def paN (J : IM) (n : Nat) (k m x t : Int32) : IM := va_up (va_up (va_up (va_up (va_up J 15 (upd (J 15) n k)) 16 (upd (J 16) n m)) 17 (upd (J 17) n x)) 18 (upd (J 18) n t)) 14 (upd (J 14) 4 (nI (n + 1)))
set_option maxHeartbeats 4000000 in
set_option maxRecDepth 100000 in
theorem cc_add3 {g : GP} {I J : IM} {S : SH} (hE : Ex I J) (k m x t : Int32) (hF : Fx S) (hC : Cp I) {n : Nat} (hn : Mp I n) (hn4 : n < 400) : Z g 0 0 0 mX3_add 0 (enL mX3_add [.ref 14, .int k, .int m, .int x, .int t]) [] J S (PQ (.int (nI n)) (paN J n k m x t) S) := by
  show Z g 0 0 0 mX3_add 0 [.ref 14, .int k, .int m, .int x, .int t] [] J S _
  refine Z.aload_n dX3_add_0 rfl ?_
  refine Z.getIv (v := nI n) dX3_add_1 cl3 flX3_24 (by decide) (fx14 hF) (((hE.at 14 4 rfl).trans hC.f14_4).trans hn.1) ?_
  refine Z.sipush (v := 400) dX3_add_4 (by decide) ?_
  refine Z.icmp_ltN (a := n) (b := 400) (by omega) (by decide) (tgt := 12) dX3_add_7 (by decide) (fun h1 => ?_) (fun h1 => ?_)
  · refine Z.aload_n dX3_add_12 rfl ?_
    refine Z.getR (r := 15) dX3_add_13 cl3 flX3_11 (by decide) (fx14 hF) rfl ?_
    refine Z.aload_n dX3_add_16 rfl ?_
    refine Z.getIv (v := nI n) dX3_add_17 cl3 flX3_24 (by decide) (fx14 hF) (((hE.at 14 4 rfl).trans hC.f14_4).trans hn.1) ?_
    refine Z.iload_n dX3_add_20 rfl ?_
    refine Z.iast (j := n) (x := k) dX3_add_21 (fx15 hF) rfl (by omega) (by decide) ?_
    refine Z.aload_n dX3_add_22 rfl ?_
    refine Z.getR (r := 16) dX3_add_23 cl3 flX3_15 (by decide) (fx14 hF) rfl ?_
    refine Z.aload_n dX3_add_26 rfl ?_
    refine Z.getIv (v := nI n) dX3_add_27 cl3 flX3_24 (by decide) (fx14 hF) (((hE.at 14 4 rfl).trans hC.f14_4).trans hn.1) ?_
    refine Z.iload_n dX3_add_30 rfl ?_
    refine Z.iast (j := n) (x := m) dX3_add_31 (fx16 hF) rfl (by omega) (by decide) ?_
    refine Z.aload_n dX3_add_32 rfl ?_
    refine Z.getR (r := 17) dX3_add_33 cl3 flX3_18 (by decide) (fx14 hF) rfl ?_
    refine Z.aload_n dX3_add_36 rfl ?_
    refine Z.getIv (v := nI n) dX3_add_37 cl3 flX3_24 (by decide) (fx14 hF) (((hE.at 14 4 rfl).trans hC.f14_4).trans hn.1) ?_
    refine Z.iload_n dX3_add_40 rfl ?_
    refine Z.iast (j := n) (x := x) dX3_add_41 (fx17 hF) rfl (by omega) (by decide) ?_
    refine Z.aload_n dX3_add_42 rfl ?_
    refine Z.getR (r := 18) dX3_add_43 cl3 flX3_21 (by decide) (fx14 hF) rfl ?_
    refine Z.aload_n dX3_add_46 rfl ?_
    refine Z.getIv (v := nI n) dX3_add_47 cl3 flX3_24 (by decide) (fx14 hF) (((hE.at 14 4 rfl).trans hC.f14_4).trans hn.1) ?_
    refine Z.iload dX3_add_50 rfl ?_
    refine Z.iast (j := n) (x := t) dX3_add_52 (fx18 hF) rfl (by omega) (by decide) ?_
    refine Z.aload_n dX3_add_53 rfl ?_
    refine Z.dupR dX3_add_54 ?_
    refine Z.getIv (v := nI n) dX3_add_55 cl3 flX3_24 (by decide) (fx14 hF) (((hE.at 14 4 rfl).trans hC.f14_4).trans hn.1) ?_
    refine Z.iconst (v := 1) dX3_add_58 (by decide) ?_
    refine Z.iaddN (a := n) (b := 1) dX3_add_59 ?_
    refine Z.putI (x := nI (n + 1)) dX3_add_60 cl3 flX3_24 (by decide) ⟨rfl, rfl⟩ (fx14 hF) ?_
    refine Z.aload_n dX3_add_63 rfl ?_
    refine Z.getIv (v := nI (n + 1)) dX3_add_64 cl3 flX3_24 (by decide) (fx14 hF) rfl ?_
    refine Z.iconst (v := 1) dX3_add_67 (by decide) ?_
    refine Z.isubN (a := n + 1) (b := 1) (by omega) dX3_add_68 ?_
    exact Z.iret dX3_add_69 rfl ⟨rfl, rfl, rfl⟩
  · refine Z.iconst (v := (-1)) dX3_add_10 (by decide) ?_
    exact Z.iret dX3_add_11 rfl (False.elim (by omega))

set_option maxHeartbeats 4000000 in
set_option maxRecDepth 100000 in
theorem cc_takeBack {g : GP} {I J : IM} {S : SH} (hE : Ex I J)  (hF : Fx S) (hC : Cp I) {n : Nat} (hn : Mp I n) : Z g 0 0 0 mX3_takeBack 0 (enL mX3_takeBack [.ref 14]) [] J S (PQ (.int (if n = 0 then -1 else nI (n - 1))) (if n = 0 then J else va_up J 14 (upd (J 14) 4 (nI (n - 1)))) S) := by
  show Z g 0 0 0 mX3_takeBack 0 [.ref 14] [] J S _
  have hn2 := hn.2
  refine Z.aload_n dX3_takeBack_0 rfl ?_
  refine Z.getIv (v := nI n) dX3_takeBack_1 cl3 flX3_24 (by decide) (fx14 hF) (((hE.at 14 4 rfl).trans hC.f14_4).trans hn.1) ?_
  refine Z.if_neN (a := n) (by omega) (tgt := 9) dX3_takeBack_4 (by decide) (fun h1 => ?_) (fun h1 => ?_)
  · refine Z.aload_n dX3_takeBack_9 rfl ?_
    refine Z.dupR dX3_takeBack_10 ?_
    refine Z.getIv (v := nI n) dX3_takeBack_11 cl3 flX3_24 (by decide) (fx14 hF) (((hE.at 14 4 rfl).trans hC.f14_4).trans hn.1) ?_
    refine Z.iconst (v := 1) dX3_takeBack_14 (by decide) ?_
    refine Z.isubN (a := n) (b := 1) (by omega) dX3_takeBack_15 ?_
    refine Z.putI (x := nI (n - 1)) dX3_takeBack_16 cl3 flX3_24 (by decide) ⟨rfl, rfl⟩ (fx14 hF) ?_
    refine Z.aload_n dX3_takeBack_19 rfl ?_
    refine Z.getIv (v := nI (n - 1)) dX3_takeBack_20 cl3 flX3_24 (by decide) (fx14 hF) rfl ?_
    exact Z.iret dX3_takeBack_23 rfl ⟨by rw [if_neg (by omega)], by rw [if_neg (by omega)], rfl⟩
  · refine Z.iconst (v := (-1)) dX3_takeBack_7 (by decide) ?_
    exact Z.iret dX3_takeBack_8 rfl ⟨by rw [if_pos (by omega)], by rw [if_pos (by omega)], rfl⟩

set_option maxHeartbeats 4000000 in
set_option maxRecDepth 100000 in
theorem lc_areOf {g : GP} {I J : IM} {S : SH} (hE : Ex I J) (m : Int32) (hF : Fx S) (hC : Cp I) {n : Nat} (hn : Mp I n) : ∀ i, i ≤ n → (∀ k, k < i → ¬ I 50 k = m) → Z g 0 0 0 mX3_areOf 2 [.ref 14, .int m, .int (nI i)] [] J S (PQ (.int (bI (hasPF (pM I n) m))) J S) := by
  refine upZ n (fun i hi ih hno => ?_)
  have hn2 := hn.2
  refine Z.iload_n dX3_areOf_2 rfl ?_
  refine Z.aload_n dX3_areOf_3 rfl ?_
  refine Z.getIv (v := nI n) dX3_areOf_4 cl3 flX3_24 (by decide) (fx14 hF) (((hE.at 14 4 rfl).trans hC.f14_4).trans hn.1) ?_
  refine Z.icmp_geN (a := i) (b := n) (by omega) (by omega) (tgt := 28) dX3_areOf_7 (by decide) (fun h1 => ?_) (fun h1 => ?_)
  · refine Z.iconst (v := 0) dX3_areOf_28 (by decide) ?_
    exact Z.zret dX3_areOf_29 rfl (by decide) ⟨by rw [hasPF, hasPU_f (fun k hk => hno k (by rw [pM_n] at hk; omega))]; rfl, rfl, rfl⟩
  · refine Z.aload_n dX3_areOf_10 rfl ?_
    refine Z.getR (r := 16) dX3_areOf_11 cl3 flX3_15 (by decide) (fx14 hF) rfl ?_
    refine Z.iload_n dX3_areOf_14 rfl ?_
    refine Z.ialdv (j := i) (v := I 50 i) dX3_areOf_15 (fx16 hF) rfl (by omega) (by decide) ((hE.at 16 i rfl).trans (congrFun (hC.c16) i)) ?_
    refine Z.iload_n dX3_areOf_16 rfl ?_
    refine Z.icmp_ne (tgt := 22) dX3_areOf_17 (by decide) (fun h2 => ?_) (fun h2 => ?_)
    · refine Z.iinc (v := nI (i + 1)) (L' := [.ref 14, .int m, .int (nI (i + 1))]) dX3_areOf_22 rfl (nI_1 _) rfl ?_
      refine Z.goto (tgt := 2) dX3_areOf_25 (by decide) ?_
      exact ih (by omega) (fun k hk => by by_cases q : k = i; exact q ▸ h2; exact hno k (by omega))
    · refine Z.iconst (v := 1) dX3_areOf_20 (by decide) ?_
      exact Z.zret dX3_areOf_21 rfl (by decide) ⟨by rw [hasPF, hasPU_t (i := i) (by rw [pM_n]; omega) h2]; rfl, rfl, rfl⟩

set_option maxHeartbeats 4000000 in
set_option maxRecDepth 100000 in
theorem cc_areOf {g : GP} {I J : IM} {S : SH} (hE : Ex I J) (m : Int32) (hF : Fx S) (hC : Cp I) {n : Nat} (hn : Mp I n) : Z g 0 0 0 mX3_areOf 0 (enL mX3_areOf [.ref 14, .int m]) [] J S (PQ (.int (bI (hasPF (pM I n) m))) J S) := by
  show Z g 0 0 0 mX3_areOf 0 [.ref 14, .int m, .retAddr 0] [] J S _
  refine Z.iconst (v := 0) dX3_areOf_0 (by decide) ?_
  refine Z.istore_n (L' := [.ref 14, .int m, .int 0]) dX3_areOf_1 (Nat.le_of_ble_eq_true rfl) rfl ?_
  exact lc_areOf hE m hF hC hn 0 (Nat.zero_le _) (fun k hk => absurd hk (Nat.not_lt_zero _))

theorem lt_le2 {t a b : Int32} (h1 : t < a) (h2 : ¬ b < a) : t < b := by
  rw [Int32.lt_iff_toInt_lt] at *
  omega
theorem mt_late {I : IM} {n : Nat} {k m x t : Int32} {j : Nat} (h : t < I 52 j) : mt (pM I n) k m x t j = false := by
  rw [mtM]
  simp [h]
set_option maxHeartbeats 4000000 in
set_option maxRecDepth 100000 in
theorem lc_tell3 {g : GP} {I J : IM} {S : SH} (hE : Ex I J) (k m x t : Int32) (hF : Fx S) (hC : Cp I) {n : Nat} (hn : Mp I n) (hso : So I n) (hx : ¬ x = -1) : ∀ i, i ≤ n → (∀ j, j < i → mt (pM I n) k m x t j = false) → Z g 0 0 0 mX3_tell 3 [.ref 14, .int k, .int m, .int x, .int t, .int (nI i)] [] J S (PQ (.int (bI (!decide (latF (pM I n) k m x t < 0)))) J S) := by
  refine upZ n (fun i hi ih hno => ?_)
  have hn2 := hn.2
  refine Z.iload dX3_tell_3 rfl ?_
  refine Z.aload_n dX3_tell_5 rfl ?_
  refine Z.getIv (v := nI n) dX3_tell_6 cl3 flX3_24 (by decide) (fx14 hF) (((hE.at 14 4 rfl).trans hC.f14_4).trans hn.1) ?_
  refine Z.icmp_geN (a := i) (b := n) (by omega) (by omega) (tgt := 65) dX3_tell_9 (by decide) (fun h1 => ?_) (fun h1 => ?_)
  · refine Z.iconst (v := 0) dX3_tell_65 (by decide) ?_
    exact Z.zret dX3_tell_66 rfl (by decide) ⟨by have e := latU_none (p := pM I n) (i := n) (k := k) (m := m) (x := x) (t := t) (fun j hj => hno j (by omega)); rw [latF, pM_n, e]; decide, rfl, rfl⟩
  · refine Z.aload_n dX3_tell_12 rfl ?_
    refine Z.getR (r := 18) dX3_tell_13 cl3 flX3_21 (by decide) (fx14 hF) rfl ?_
    refine Z.iload dX3_tell_16 rfl ?_
    refine Z.ialdv (j := i) (v := I 52 i) dX3_tell_18 (fx18 hF) rfl (by omega) (by decide) ((hE.at 18 i rfl).trans (congrFun (hC.c18) i)) ?_
    refine Z.iload dX3_tell_19 rfl ?_
    refine Z.icmp_gt (tgt := 65) dX3_tell_21 (by decide) (fun h2 => ?_) (fun h2 => ?_)
    · refine Z.iconst (v := 0) dX3_tell_65 (by decide) ?_
      exact Z.zret dX3_tell_66 rfl (by decide) ⟨by have e := latU_none (p := pM I n) (i := n) (k := k) (m := m) (x := x) (t := t) (fun j hj => by by_cases q : j < i; exact hno j q; exact mt_late (lt_le2 h2 (hso i j (by omega) hj))); rw [latF, pM_n, e]; decide, rfl, rfl⟩
    · refine Z.aload_n dX3_tell_24 rfl ?_
      refine Z.getR (r := 15) dX3_tell_25 cl3 flX3_11 (by decide) (fx14 hF) rfl ?_
      refine Z.iload dX3_tell_28 rfl ?_
      refine Z.ialdv (j := i) (v := I 49 i) dX3_tell_30 (fx15 hF) rfl (by omega) (by decide) ((hE.at 15 i rfl).trans (congrFun (hC.c15) i)) ?_
      refine Z.iload_n dX3_tell_31 rfl ?_
      refine Z.icmp_ne (tgt := 59) dX3_tell_32 (by decide) (fun h3 => ?_) (fun h3 => ?_)
      · refine Z.iinc (v := nI (i + 1)) (L' := [.ref 14, .int k, .int m, .int x, .int t, .int (nI (i + 1))]) dX3_tell_59 rfl (nI_1 _) rfl ?_
        refine Z.goto (tgt := 3) dX3_tell_62 (by decide) ?_
        exact ih (by omega) (fun j hj => by by_cases q : j = i; (rw [q, mtM]; simp [hx, h1, h2, h3]); exact hno j (by omega))
      · refine Z.aload_n dX3_tell_35 rfl ?_
        refine Z.getR (r := 16) dX3_tell_36 cl3 flX3_15 (by decide) (fx14 hF) rfl ?_
        refine Z.iload dX3_tell_39 rfl ?_
        refine Z.ialdv (j := i) (v := I 50 i) dX3_tell_41 (fx16 hF) rfl (by omega) (by decide) ((hE.at 16 i rfl).trans (congrFun (hC.c16) i)) ?_
        refine Z.iload_n dX3_tell_42 rfl ?_
        refine Z.icmp_ne (tgt := 59) dX3_tell_43 (by decide) (fun h4 => ?_) (fun h4 => ?_)
        · refine Z.iinc (v := nI (i + 1)) (L' := [.ref 14, .int k, .int m, .int x, .int t, .int (nI (i + 1))]) dX3_tell_59 rfl (nI_1 _) rfl ?_
          refine Z.goto (tgt := 3) dX3_tell_62 (by decide) ?_
          exact ih (by omega) (fun j hj => by by_cases q : j = i; (rw [q, mtM]; simp [hx, h1, h2, h3, h4]); exact hno j (by omega))
        · refine Z.aload_n dX3_tell_46 rfl ?_
          refine Z.getR (r := 17) dX3_tell_47 cl3 flX3_18 (by decide) (fx14 hF) rfl ?_
          refine Z.iload dX3_tell_50 rfl ?_
          refine Z.ialdv (j := i) (v := I 51 i) dX3_tell_52 (fx17 hF) rfl (by omega) (by decide) ((hE.at 17 i rfl).trans (congrFun (hC.c17) i)) ?_
          refine Z.iload_n dX3_tell_53 rfl ?_
          refine Z.icmp_ne (tgt := 59) dX3_tell_54 (by decide) (fun h5 => ?_) (fun h5 => ?_)
          · refine Z.iinc (v := nI (i + 1)) (L' := [.ref 14, .int k, .int m, .int x, .int t, .int (nI (i + 1))]) dX3_tell_59 rfl (nI_1 _) rfl ?_
            refine Z.goto (tgt := 3) dX3_tell_62 (by decide) ?_
            exact ih (by omega) (fun j hj => by by_cases q : j = i; (rw [q, mtM]; simp [hx, h1, h2, h3, h4, h5]); exact hno j (by omega))
          · refine Z.iconst (v := 1) dX3_tell_57 (by decide) ?_
            exact Z.zret dX3_tell_58 rfl (by decide) ⟨by have e := latU_some (p := pM I n) (k := k) (m := m) (x := x) (t := t) (i := n) (j := i) hn2 (by omega) (by simp [mtM, h1, h2, h3, h4, h5]); rw [latF, pM_n]; simp [e, bI], rfl, rfl⟩

set_option maxHeartbeats 4000000 in
set_option maxRecDepth 100000 in
theorem cc_tell3 {g : GP} {I J : IM} {S : SH} (hE : Ex I J) (k m x t : Int32) (hF : Fx S) (hC : Cp I) {n : Nat} (hn : Mp I n) (hso : So I n) (hx : ¬ x = -1) : Z g 0 0 0 mX3_tell 0 (enL mX3_tell [.ref 14, .int k, .int m, .int x, .int t]) [] J S (PQ (.int (bI (!decide (latF (pM I n) k m x t < 0)))) J S) := by
  show Z g 0 0 0 mX3_tell 0 [.ref 14, .int k, .int m, .int x, .int t, .retAddr 0] [] J S _
  refine Z.iconst (v := 0) dX3_tell_0 (by decide) ?_
  refine Z.istore (L' := [.ref 14, .int k, .int m, .int x, .int t, .int 0]) dX3_tell_1 (Nat.le_of_ble_eq_true rfl) rfl ?_
  exact lc_tell3 hE k m x t hF hC hn hso hx 0 (Nat.zero_le _) (fun k hk => absurd hk (Nat.not_lt_zero _))

set_option maxHeartbeats 4000000 in
set_option maxRecDepth 100000 in
theorem lc_latest3 {g : GP} {I J : IM} {S : SH} (hE : Ex I J) (hF : Fx S) (hC : Cp I) {n : Nat} (hn : Mp I n) : ∀ c, c ≤ n → Z g 0 0 0 mX3_latest 7 [.ref 14, .int 1, .int (nI c - 1)] [] J S (PQ (.int (leU (I 49) c)) J S) := by
  have hn2 := hn.2
  intro c
  induction c with
  | zero =>
    intro hc
    refine Z.iload_n dX3_latest_7 rfl ?_
    refine Z.if_lt (tgt := 29) dX3_latest_8 (by decide) (fun h1 => ?_) (fun h1 => absurd h1 (by decide))
    refine Z.iconst (v := (-1)) dX3_latest_29 (by decide) ?_
    exact Z.iret dX3_latest_30 rfl ⟨rfl, rfl, rfl⟩
  | succ c ih =>
    intro hc
    rw [nI_pred]
    refine Z.iload_n dX3_latest_7 rfl ?_
    refine Z.if_lt (tgt := 29) dX3_latest_8 (by decide) (fun h2 => absurd h2 (nI_pos (by omega))) (fun h2 => ?_)
    refine Z.aload_n dX3_latest_11 rfl ?_
    refine Z.getR (r := 15) dX3_latest_12 cl3 flX3_11 (by decide) (fx14 hF) rfl ?_
    refine Z.iload_n dX3_latest_15 rfl ?_
    refine Z.ialdv (j := c) (v := I 49 c) dX3_latest_16 (fx15 hF) rfl (by omega) (by decide) ((hE.at 15 c rfl).trans (congrFun (hC.c15) c)) ?_
    refine Z.iload_n dX3_latest_17 rfl ?_
    refine Z.icmp_ne (tgt := 23) dX3_latest_18 (by decide) (fun h3 => ?_) (fun h3 => ?_)
    · refine Z.iinc (v := nI c - 1) (L' := [.ref 14, .int 1, .int (nI c - 1)]) dX3_latest_23 rfl (nI_m1 _) rfl ?_
      refine Z.goto (tgt := 7) dX3_latest_26 (by decide) ?_
      rw [leU, if_neg h3]
      exact ih (by omega)
    · refine Z.iload_n dX3_latest_21 rfl ?_
      exact Z.iret dX3_latest_22 rfl ⟨by rw [leU, if_pos h3], rfl, rfl⟩

set_option maxHeartbeats 4000000 in
set_option maxRecDepth 100000 in
theorem cc_latest3 {g : GP} {I J : IM} {S : SH} (hE : Ex I J)  (hF : Fx S) (hC : Cp I) {n : Nat} (hn : Mp I n) : Z g 0 0 0 mX3_latest 0 (enL mX3_latest [.ref 14, .int 1]) [] J S (PQ (.int (leU (I 49) n)) J S) := by
  show Z g 0 0 0 mX3_latest 0 [.ref 14, .int 1, .retAddr 0] [] J S _
  refine Z.aload_n dX3_latest_0 rfl ?_
  refine Z.getIv (v := nI n) dX3_latest_1 cl3 flX3_24 (by decide) (fx14 hF) (((hE.at 14 4 rfl).trans hC.f14_4).trans hn.1) ?_
  refine Z.iconst (v := 1) dX3_latest_4 (by decide) ?_
  refine Z.isub dX3_latest_5 ?_
  refine Z.istore_n (L' := [.ref 14, .int 1, .int ((nI n) - 1)]) dX3_latest_6 (Nat.le_of_ble_eq_true rfl) rfl ?_
  exact lc_latest3 hE hF hC hn n (Nat.le_refl _)

