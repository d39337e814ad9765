theorem pr_hit {I : IM} {nq i : Nat} {a b : Int32} (hcq : Cq I nq) (hi : i < nq) : ((I 10 i = a ∧ I 11 i = b) ∨ (I 10 i = b ∧ I 11 i = a)) ↔ (I 40 i = lowF a b ∧ I 41 i = highF a b) := by
  rw [pr_iff, (hcq.1 i hi).1, (hcq.1 i hi).2]
theorem pr_at {I : IM} {nq i : Nat} {a b : Int32} (hcq : Cq I nq) (hi : i < nq) (h : (I 10 i = a ∧ I 11 i = b) ∨ (I 10 i = b ∧ I 11 i = a)) : prF (qM I nq) a b = nI i := by
  have e := (pr_hit hcq hi).mp h
  rw [prF, qM_n]
  exact prU_uniq hi e (fun j hj q => hcq.2 j i hj hi (q.1.trans e.1.symm) (q.2.trans e.2.symm))
theorem pr_no {I : IM} {nq : Nat} {a b : Int32} (hcq : Cq I nq) (h : ∀ k, k < nq → ¬ ((I 10 k = a ∧ I 11 k = b) ∨ (I 10 k = b ∧ I 11 k = a))) : prF (qM I nq) a b = -1 := by
  rw [prF, qM_n]
  exact prU_none (fun k hk q => h k hk ((pr_hit hcq hk).mpr q))
theorem prU_c {q : NP} {a b : Int32} : ∀ {i : Nat}, i ≤ 400 → prU q a b i = -1 ∨ ¬ prU q a b i < 0
  | 0, _ => Or.inl rfl
  | i + 1, h => by
    unfold prU
    split
    · exact Or.inr (nI_pos (by omega))
    · exact prU_c (by omega)
theorem pr_nn {I : IM} {nq : Nat} {a b : Int32} (hq : nq ≤ 100) (h : ¬ prF (qM I nq) a b = -1) : ¬ prF (qM I nq) a b < 0 := (prU_c (q := qM I nq) (i := nq) (by omega)).resolve_left h
theorem pr_ng {I : IM} {nq : Nat} {a b : Int32} (h : prF (qM I nq) a b = -1) : prF (qM I nq) a b < 0 := by rw [h]; decide
theorem pr_tl {I : IM} {nq : Nat} {a b : Int32} (hq : nq ≤ 100) (h : ¬ prF (qM I nq) a b = -1) : (prF (qM I nq) a b).toNatClampNeg < nq := prU_lt (q := qM I nq) (i := nq) (by omega) (pr_nn hq h)
set_option maxHeartbeats 4000000 in
set_option maxRecDepth 100000 in
theorem lc_find2 {g : GP} {I J : IM} {S : SH} (hE : Ex I J) (a b : Int32) (hF : Fx S) (hC : Cp I) {nq : Nat} (hq : Mq I nq) (hcq : Cq I nq) : ∀ i, i ≤ nq → (∀ k, k < i → ¬ ((I 10 k = a ∧ I 11 k = b) ∨ (I 10 k = b ∧ I 11 k = a))) → Z g 0 0 0 mX2_find 2 [.ref 9, .int a, .int b, .int (nI i)] [] J S (PQ (.int (prF (qM I nq) a b)) J S) := by
  refine upZ nq (fun i hi ih hno => ?_)
  have hq2 := hq.2
  refine Z.iload_n dX2_find_2 rfl ?_
  refine Z.aload_n dX2_find_3 rfl ?_
  refine Z.getIv (v := nI nq) dX2_find_4 cl2 flX2_21 (by decide) (fx9 hF) (((hE.at 9 3 rfl).trans hC.f9_3).trans hq.1) ?_
  refine Z.icmp_geN (a := i) (b := nq) (by omega) (by omega) (tgt := 58) dX2_find_7 (by decide) (fun h1 => ?_) (fun h1 => ?_)
  · refine Z.iconst (v := (-1)) dX2_find_58 (by decide) ?_
    exact Z.iret dX2_find_59 rfl ⟨by rw [pr_no hcq (fun k hk => hno k (by omega))], rfl, rfl⟩
  · refine Z.aload_n dX2_find_10 rfl ?_
    refine Z.getR (r := 10) dX2_find_11 cl2 flX2_11 (by decide) (fx9 hF) rfl ?_
    refine Z.iload_n dX2_find_14 rfl ?_
    refine Z.ialdv (j := i) (v := I 10 i) dX2_find_15 (fx10 hF) rfl (by omega) (by decide) (hE.at 10 i rfl) ?_
    refine Z.iload_n dX2_find_16 rfl ?_
    refine Z.icmp_ne (tgt := 30) dX2_find_17 (by decide) (fun h2 => ?_) (fun h2 => ?_)
    · refine Z.aload_n dX2_find_30 rfl ?_
      refine Z.getR (r := 10) dX2_find_31 cl2 flX2_11 (by decide) (fx9 hF) rfl ?_
      refine Z.iload_n dX2_find_34 rfl ?_
      refine Z.ialdv (j := i) (v := I 10 i) dX2_find_35 (fx10 hF) rfl (by omega) (by decide) (hE.at 10 i rfl) ?_
      refine Z.iload_n dX2_find_36 rfl ?_
      refine Z.icmp_ne (tgt := 52) dX2_find_37 (by decide) (fun h3 => ?_) (fun h3 => ?_)
      · refine Z.iinc (v := nI (i + 1)) (L' := [.ref 9, .int a, .int b, .int (nI (i + 1))]) dX2_find_52 rfl (nI_1 _) rfl ?_
        refine Z.goto (tgt := 2) dX2_find_55 (by decide) ?_
        exact ih (by omega) (fun k hk => by by_cases q : k = i; (subst q; simp [h1, h2, h3]); exact hno k (by omega))
      · refine Z.aload_n dX2_find_40 rfl ?_
        refine Z.getR (r := 11) dX2_find_41 cl2 flX2_15 (by decide) (fx9 hF) rfl ?_
        refine Z.iload_n dX2_find_44 rfl ?_
        refine Z.ialdv (j := i) (v := I 11 i) dX2_find_45 (fx11 hF) rfl (by omega) (by decide) (hE.at 11 i rfl) ?_
        refine Z.iload_n dX2_find_46 rfl ?_
        refine Z.icmp_ne (tgt := 52) dX2_find_47 (by decide) (fun h4 => ?_) (fun h4 => ?_)
        · refine Z.iinc (v := nI (i + 1)) (L' := [.ref 9, .int a, .int b, .int (nI (i + 1))]) dX2_find_52 rfl (nI_1 _) rfl ?_
          refine Z.goto (tgt := 2) dX2_find_55 (by decide) ?_
          exact ih (by omega) (fun k hk => by by_cases q : k = i; (subst q; simp [h1, h2, eq_true h3, h4]); exact hno k (by omega))
        · refine Z.iload_n dX2_find_50 rfl ?_
          exact Z.iret dX2_find_51 rfl ⟨by rw [pr_at hcq (i := i) (by omega) (by simp [h1, h2, eq_true h3, eq_true h4])], rfl, rfl⟩
    · refine Z.aload_n dX2_find_20 rfl ?_
      refine Z.getR (r := 11) dX2_find_21 cl2 flX2_15 (by decide) (fx9 hF) rfl ?_
      refine Z.iload_n dX2_find_24 rfl ?_
      refine Z.ialdv (j := i) (v := I 11 i) dX2_find_25 (fx11 hF) rfl (by omega) (by decide) (hE.at 11 i rfl) ?_
      refine Z.iload_n dX2_find_26 rfl ?_
      refine Z.icmp_eq (tgt := 50) dX2_find_27 (by decide) (fun h5 => ?_) (fun h5 => ?_)
      · refine Z.iload_n dX2_find_50 rfl ?_
        exact Z.iret dX2_find_51 rfl ⟨by rw [pr_at hcq (i := i) (by omega) (by simp [h1, eq_true h2, eq_true h5])], rfl, rfl⟩
      · refine Z.aload_n dX2_find_30 rfl ?_
        refine Z.getR (r := 10) dX2_find_31 cl2 flX2_11 (by decide) (fx9 hF) rfl ?_
        refine Z.iload_n dX2_find_34 rfl ?_
        refine Z.ialdv (j := i) (v := I 10 i) dX2_find_35 (fx10 hF) rfl (by omega) (by decide) (hE.at 10 i rfl) ?_
        refine Z.iload_n dX2_find_36 rfl ?_
        refine Z.icmp_ne (tgt := 52) dX2_find_37 (by decide) (fun h6 => ?_) (fun h6 => ?_)
        · refine Z.iinc (v := nI (i + 1)) (L' := [.ref 9, .int a, .int b, .int (nI (i + 1))]) dX2_find_52 rfl (nI_1 _) rfl ?_
          refine Z.goto (tgt := 2) dX2_find_55 (by decide) ?_
          exact ih (by omega) (fun k hk => by by_cases q : k = i; (subst q; simp [h1, eq_true h2, h5, h6]); exact hno k (by omega))
        · refine Z.aload_n dX2_find_40 rfl ?_
          refine Z.getR (r := 11) dX2_find_41 cl2 flX2_15 (by decide) (fx9 hF) rfl ?_
          refine Z.iload_n dX2_find_44 rfl ?_
          refine Z.ialdv (j := i) (v := I 11 i) dX2_find_45 (fx11 hF) rfl (by omega) (by decide) (hE.at 11 i rfl) ?_
          refine Z.iload_n dX2_find_46 rfl ?_
          refine Z.icmp_ne (tgt := 52) dX2_find_47 (by decide) (fun h7 => ?_) (fun h7 => ?_)
          · refine Z.iinc (v := nI (i + 1)) (L' := [.ref 9, .int a, .int b, .int (nI (i + 1))]) dX2_find_52 rfl (nI_1 _) rfl ?_
            refine Z.goto (tgt := 2) dX2_find_55 (by decide) ?_
            exact ih (by omega) (fun k hk => by by_cases q : k = i; (subst q; simp [h1, eq_true h2, h5, eq_true h6, h7]); exact hno k (by omega))
          · refine Z.iload_n dX2_find_50 rfl ?_
            exact Z.iret dX2_find_51 rfl ⟨by rw [pr_at hcq (i := i) (by omega) (by simp [h1, eq_true h2, h5, eq_true h6, eq_true h7])], rfl, rfl⟩

set_option maxHeartbeats 4000000 in
set_option maxRecDepth 100000 in
theorem cc_find2 {g : GP} {I J : IM} {S : SH} (hE : Ex I J) (a b : Int32) (hF : Fx S) (hC : Cp I) {nq : Nat} (hq : Mq I nq) (hcq : Cq I nq) : Z g 0 0 0 mX2_find 0 (enL mX2_find [.ref 9, .int a, .int b]) [] J S (PQ (.int (prF (qM I nq) a b)) J S) := by
  show Z g 0 0 0 mX2_find 0 [.ref 9, .int a, .int b, .retAddr 0] [] J S _
  refine Z.iconst (v := 0) dX2_find_0 (by decide) ?_
  refine Z.istore_n (L' := [.ref 9, .int a, .int b, .int 0]) dX2_find_1 (Nat.le_of_ble_eq_true rfl) rfl ?_
  exact lc_find2 hE a b hF hC hq hcq 0 (Nat.zero_le _) (fun k hk => absurd hk (Nat.not_lt_zero _))

set_option maxHeartbeats 4000000 in
set_option maxRecDepth 100000 in
theorem cc_nearOf {g : GP} {I J : IM} {S : SH} (hE : Ex I J) (a b : Int32) (hF : Fx S) (hC : Cp I) {nq : Nat} (hq : Mq I nq) (hcq : Cq I nq) : Z g 1 0 0 mX2_nearOf 0 (enL mX2_nearOf [.ref 9, .int a, .int b]) [] J S (PQ (.int (nearF (qM I nq) a b)) J S) := by
  show Z g 1 0 0 mX2_nearOf 0 [.ref 9, .int a, .int b, .retAddr 0] [] J S _
  have hq2 := hq.2
  refine Z.iload_n dX2_nearOf_0 rfl ?_
  refine Z.iload_n dX2_nearOf_1 rfl ?_
  refine Z.icmp_ne (tgt := 9) dX2_nearOf_2 (by decide) (fun h1 => ?_) (fun h1 => ?_)
  · refine Z.aload_n dX2_nearOf_9 rfl ?_
    refine Z.iload_n dX2_nearOf_10 rfl ?_
    refine Z.iload_n dX2_nearOf_11 rfl ?_
    refine Z.callVp (M := mX2_nearOf) (pc := 12) (st := []) (N := mX2_find) (n := 2) (r := .int (prF (qM I nq) a b)) dX2_nearOf_12 mlX2_25 mkX2_find imX2_find seX2_find (fx9 hF) cl2 rfl (d1 := 0) (by decide) (As := [.int a, .int b]) rfl ⟨rfl, Nat.le_of_ble_eq_true rfl⟩ ⟨rfl, Nat.le_of_ble_eq_true rfl⟩ (cc_find2 hE a b hF hC hq hcq) rfl ?_
    refine Z.istore_n (L' := [.ref 9, .int a, .int b, .int (prF (qM I nq) a b)]) dX2_nearOf_15 (Nat.le_of_ble_eq_true rfl) rfl ?_
    refine Z.iload_n dX2_nearOf_16 rfl ?_
    refine Z.iconst (v := (-1)) dX2_nearOf_17 (by decide) ?_
    refine Z.icmp_ne (tgt := 25) dX2_nearOf_18 (by decide) (fun h2 => ?_) (fun h2 => ?_)
    · refine Z.aload_n dX2_nearOf_25 rfl ?_
      refine Z.getR (r := 12) dX2_nearOf_26 cl2 flX2_18 (by decide) (fx9 hF) rfl ?_
      refine Z.iload_n dX2_nearOf_29 rfl ?_
      refine Z.ialdv (j := (prF (qM I nq) a b).toNatClampNeg) (v := I 42 ((prF (qM I nq) a b).toNatClampNeg)) dX2_nearOf_30 (fx12 hF) (tn_eq (pr_nn hq2 h2)) (by have := pr_tl hq2 h2; omega) (by decide) ((hE.at 12 ((prF (qM I nq) a b).toNatClampNeg) rfl).trans (congrFun (hC.c12) ((prF (qM I nq) a b).toNatClampNeg))) ?_
      exact Z.iret dX2_nearOf_31 rfl ⟨by rw [nearF]; rw [if_neg h1, if_neg (pr_nn hq2 h2)]; rfl, rfl, rfl⟩
    · refine Z.iconst (v := 0) dX2_nearOf_21 (by decide) ?_
      refine Z.goto (tgt := 31) dX2_nearOf_22 (by decide) ?_
      exact Z.iret dX2_nearOf_31 rfl ⟨by rw [nearF]; rw [if_neg h1, if_pos (pr_ng h2)], rfl, rfl⟩
  · refine Z.sipush (v := 1000) dX2_nearOf_5 (by decide) ?_
    exact Z.iret dX2_nearOf_8 rfl ⟨by rw [nearF]; rw [if_pos h1], rfl, rfl⟩

def apN (J : IM) (nq : Nat) (a b v : Int32) : IM := va_up (va_up (va_up (va_up J 10 (upd (J 10) nq a)) 11 (upd (J 11) nq b)) 12 (upd (J 12) nq v)) 9 (upd (J 9) 3 (nI (nq + 1)))
def fgN (I J : IM) (nq k : Nat) : IM := va_up (va_up (va_up (va_up J 9 (upd (J 9) 3 (nI (nq - 1)))) 10 (upd (J 10) k (I 10 (nq - 1)))) 11 (upd (J 11) k (I 11 (nq - 1)))) 12 (upd (J 12) k (I 42 (nq - 1)))
def tlN (I J : IM) (nq : Nat) (k a b v : Int32) : IM := if v = 0 then (if k = -1 then J else fgN I J nq k.toNatClampNeg) else if k = -1 then (if nq < 100 then apN J nq a b v else J) else va_up J 12 (upd (J 12) k.toNatClampNeg v)
set_option maxHeartbeats 4000000 in
set_option maxRecDepth 100000 in
theorem cc_append {g : GP} {I J : IM} {S : SH} (hE : Ex I J) (a b v : Int32) (hF : Fx S) (hC : Cp I) {nq : Nat} (hq : Mq I nq) (hcq : Cq I nq) : Z g 0 0 0 mX2_append 0 (enL mX2_append [.ref 9, .int a, .int b, .int v]) [] J S (PQ (.int (bI (decide (nq < 100)))) (if nq < 100 then apN J nq a b v else J) S) := by
  show Z g 0 0 0 mX2_append 0 [.ref 9, .int a, .int b, .int v] [] J S _
  have hq2 := hq.2
  refine Z.aload_n dX2_append_0 rfl ?_
  refine Z.getIv (v := nI nq) dX2_append_1 cl2 flX2_21 (by decide) (fx9 hF) (((hE.at 9 3 rfl).trans hC.f9_3).trans hq.1) ?_
  refine Z.bipush (v := 100) dX2_append_4 (by decide) ?_
  refine Z.icmp_ltN (a := nq) (b := 100) (by omega) (by decide) (tgt := 11) dX2_append_6 (by decide) (fun h1 => ?_) (fun h1 => ?_)
  · refine Z.aload_n dX2_append_11 rfl ?_
    refine Z.getR (r := 10) dX2_append_12 cl2 flX2_11 (by decide) (fx9 hF) rfl ?_
    refine Z.aload_n dX2_append_15 rfl ?_
    refine Z.getIv (v := nI nq) dX2_append_16 cl2 flX2_21 (by decide) (fx9 hF) (((hE.at 9 3 rfl).trans hC.f9_3).trans hq.1) ?_
    refine Z.iload_n dX2_append_19 rfl ?_
    refine Z.iast (j := nq) (x := a) dX2_append_20 (fx10 hF) rfl (by omega) (by decide) ?_
    refine Z.aload_n dX2_append_21 rfl ?_
    refine Z.getR (r := 11) dX2_append_22 cl2 flX2_15 (by decide) (fx9 hF) rfl ?_
    refine Z.aload_n dX2_append_25 rfl ?_
    refine Z.getIv (v := nI nq) dX2_append_26 cl2 flX2_21 (by decide) (fx9 hF) (((hE.at 9 3 rfl).trans hC.f9_3).trans hq.1) ?_
    refine Z.iload_n dX2_append_29 rfl ?_
    refine Z.iast (j := nq) (x := b) dX2_append_30 (fx11 hF) rfl (by omega) (by decide) ?_
    refine Z.aload_n dX2_append_31 rfl ?_
    refine Z.getR (r := 12) dX2_append_32 cl2 flX2_18 (by decide) (fx9 hF) rfl ?_
    refine Z.aload_n dX2_append_35 rfl ?_
    refine Z.getIv (v := nI nq) dX2_append_36 cl2 flX2_21 (by decide) (fx9 hF) (((hE.at 9 3 rfl).trans hC.f9_3).trans hq.1) ?_
    refine Z.iload_n dX2_append_39 rfl ?_
    refine Z.iast (j := nq) (x := v) dX2_append_40 (fx12 hF) rfl (by omega) (by decide) ?_
    refine Z.aload_n dX2_append_41 rfl ?_
    refine Z.dupR dX2_append_42 ?_
    refine Z.getIv (v := nI nq) dX2_append_43 cl2 flX2_21 (by decide) (fx9 hF) (((hE.at 9 3 rfl).trans hC.f9_3).trans hq.1) ?_
    refine Z.iconst (v := 1) dX2_append_46 (by decide) ?_
    refine Z.iaddN (a := nq) (b := 1) dX2_append_47 ?_
    refine Z.putI (x := nI (nq + 1)) dX2_append_48 cl2 flX2_21 (by decide) ⟨rfl, rfl⟩ (fx9 hF) ?_
    refine Z.iconst (v := 1) dX2_append_51 (by decide) ?_
    exact Z.zret dX2_append_52 rfl (by decide) ⟨by rw [show decide (nq < 100) = true from decide_eq_true (by omega)]; rfl, by rw [if_pos (by omega)]; rfl, rfl⟩
  · refine Z.iconst (v := 0) dX2_append_9 (by decide) ?_
    exact Z.zret dX2_append_10 rfl (by decide) ⟨by rw [show decide (nq < 100) = false from decide_eq_false (by omega)]; rfl, by rw [if_neg (by omega)], rfl⟩

set_option maxHeartbeats 4000000 in
set_option maxRecDepth 100000 in
theorem cc_forget {g : GP} {I J : IM} {S : SH} (hE : Ex I J) (k : Int32) (hF : Fx S) (hC : Cp I) {nq : Nat} (hq : Mq I nq) (hcq : Cq I nq) (hk : ¬ k = -1 → ¬ k < 0 ∧ k.toNatClampNeg < nq) : Z g 0 0 0 mX2_forget 0 (enL mX2_forget [.ref 9, .int k]) [] J S (VQ (if k = -1 then J else fgN I J nq k.toNatClampNeg) S) := by
  show Z g 0 0 0 mX2_forget 0 [.ref 9, .int k] [] J S _
  have hq2 := hq.2
  refine Z.iload_n dX2_forget_0 rfl ?_
  refine Z.iconst (v := (-1)) dX2_forget_1 (by decide) ?_
  refine Z.icmp_ne (tgt := 6) dX2_forget_2 (by decide) (fun h1 => ?_) (fun h1 => ?_)
  · have hk2 := (hk h1).2
    refine Z.aload_n dX2_forget_6 rfl ?_
    refine Z.dupR dX2_forget_7 ?_
    refine Z.getIv (v := nI nq) dX2_forget_8 cl2 flX2_21 (by decide) (fx9 hF) (((hE.at 9 3 rfl).trans hC.f9_3).trans hq.1) ?_
    refine Z.iconst (v := 1) dX2_forget_11 (by decide) ?_
    refine Z.isubN (a := nq) (b := 1) (by omega) dX2_forget_12 ?_
    refine Z.putI (x := nI (nq - 1)) dX2_forget_13 cl2 flX2_21 (by decide) ⟨rfl, rfl⟩ (fx9 hF) ?_
    refine Z.aload_n dX2_forget_16 rfl ?_
    refine Z.getR (r := 10) dX2_forget_17 cl2 flX2_11 (by decide) (fx9 hF) rfl ?_
    refine Z.iload_n dX2_forget_20 rfl ?_
    refine Z.aload_n dX2_forget_21 rfl ?_
    refine Z.getR (r := 10) dX2_forget_22 cl2 flX2_11 (by decide) (fx9 hF) rfl ?_
    refine Z.aload_n dX2_forget_25 rfl ?_
    refine Z.getIv (v := nI (nq - 1)) dX2_forget_26 cl2 flX2_21 (by decide) (fx9 hF) rfl ?_
    refine Z.ialdv (j := nq - 1) (v := I 10 (nq - 1)) dX2_forget_29 (fx10 hF) rfl (by have := (hk h1).2; omega) (by decide) (hE.at 10 (nq - 1) rfl) ?_
    refine Z.iast (j := k.toNatClampNeg) (x := I 10 (nq - 1)) dX2_forget_30 (fx10 hF) (tn_eq (hk h1).1) (by have := (hk h1).2; omega) (by decide) ?_
    refine Z.aload_n dX2_forget_31 rfl ?_
    refine Z.getR (r := 11) dX2_forget_32 cl2 flX2_15 (by decide) (fx9 hF) rfl ?_
    refine Z.iload_n dX2_forget_35 rfl ?_
    refine Z.aload_n dX2_forget_36 rfl ?_
    refine Z.getR (r := 11) dX2_forget_37 cl2 flX2_15 (by decide) (fx9 hF) rfl ?_
    refine Z.aload_n dX2_forget_40 rfl ?_
    refine Z.getIv (v := nI (nq - 1)) dX2_forget_41 cl2 flX2_21 (by decide) (fx9 hF) rfl ?_
    refine Z.ialdv (j := nq - 1) (v := I 11 (nq - 1)) dX2_forget_44 (fx11 hF) rfl (by have := (hk h1).2; omega) (by decide) (hE.at 11 (nq - 1) rfl) ?_
    refine Z.iast (j := k.toNatClampNeg) (x := I 11 (nq - 1)) dX2_forget_45 (fx11 hF) (tn_eq (hk h1).1) (by have := (hk h1).2; omega) (by decide) ?_
    refine Z.aload_n dX2_forget_46 rfl ?_
    refine Z.getR (r := 12) dX2_forget_47 cl2 flX2_18 (by decide) (fx9 hF) rfl ?_
    refine Z.iload_n dX2_forget_50 rfl ?_
    refine Z.aload_n dX2_forget_51 rfl ?_
    refine Z.getR (r := 12) dX2_forget_52 cl2 flX2_18 (by decide) (fx9 hF) rfl ?_
    refine Z.aload_n dX2_forget_55 rfl ?_
    refine Z.getIv (v := nI (nq - 1)) dX2_forget_56 cl2 flX2_21 (by decide) (fx9 hF) rfl ?_
    refine Z.ialdv (j := nq - 1) (v := I 42 (nq - 1)) dX2_forget_59 (fx12 hF) rfl (by have := (hk h1).2; omega) (by decide) ((hE.at 12 (nq - 1) rfl).trans (congrFun (hC.c12) (nq - 1))) ?_
    refine Z.iast (j := k.toNatClampNeg) (x := I 42 (nq - 1)) dX2_forget_60 (fx12 hF) (tn_eq (hk h1).1) (by have := (hk h1).2; omega) (by decide) ?_
    exact Z.vret dX2_forget_61 rfl ⟨rfl, by rw [if_neg h1]; rfl, rfl⟩
  · exact Z.vret dX2_forget_5 rfl ⟨rfl, by rw [if_pos h1], rfl⟩

set_option maxHeartbeats 4000000 in
set_option maxRecDepth 100000 in
theorem cc_tell2 {g : GP} {I J : IM} {S : SH} (hE : Ex I J) (a b v : Int32) (hF : Fx S) (hC : Cp I) {nq : Nat} (hq : Mq I nq) (hcq : Cq I nq) : Z g 1 0 0 mX2_tell 0 (enL mX2_tell [.ref 9, .int a, .int b, .int v]) [] J S (PQ (.int (bI (decide (v = 0) || (!decide (prF (qM I nq) a b = -1) || decide (nq < 100))))) (tlN I J nq (prF (qM I nq) a b) a b v) S) := by
  show Z g 1 0 0 mX2_tell 0 [.ref 9, .int a, .int b, .int v, .retAddr 0] [] J S _
  have hq2 := hq.2
  refine Z.aload_n dX2_tell_0 rfl ?_
  refine Z.iload_n dX2_tell_1 rfl ?_
  refine Z.iload_n dX2_tell_2 rfl ?_
  refine Z.callVp (M := mX2_tell) (pc := 3) (st := []) (N := mX2_find) (n := 2) (r := .int (prF (qM I nq) a b)) dX2_tell_3 mlX2_25 mkX2_find imX2_find seX2_find (fx9 hF) cl2 rfl (d1 := 0) (by decide) (As := [.int a, .int b]) rfl ⟨rfl, Nat.le_of_ble_eq_true rfl⟩ ⟨rfl, Nat.le_of_ble_eq_true rfl⟩ (cc_find2 hE a b hF hC hq hcq) rfl ?_
  refine Z.istore (L' := [.ref 9, .int a, .int b, .int v, .int (prF (qM I nq) a b)]) dX2_tell_6 (Nat.le_of_ble_eq_true rfl) rfl ?_
  refine Z.iload_n dX2_tell_8 rfl ?_
  refine Z.if_ne (tgt := 20) dX2_tell_9 (by decide) (fun h1 => ?_) (fun h1 => ?_)
  · refine Z.iload dX2_tell_20 rfl ?_
    refine Z.iconst (v := (-1)) dX2_tell_22 (by decide) ?_
    refine Z.icmp_ne (tgt := 34) dX2_tell_23 (by decide) (fun h2 => ?_) (fun h2 => ?_)
    · refine Z.aload_n dX2_tell_34 rfl ?_
      refine Z.getR (r := 12) dX2_tell_35 cl2 flX2_18 (by decide) (fx9 hF) rfl ?_
      refine Z.iload dX2_tell_38 rfl ?_
      refine Z.iload_n dX2_tell_40 rfl ?_
      refine Z.iast (j := (prF (qM I nq) a b).toNatClampNeg) (x := v) dX2_tell_41 (fx12 hF) (tn_eq (pr_nn hq2 h2)) (by have := pr_tl hq2 h2; omega) (by decide) ?_
      refine Z.iconst (v := 1) dX2_tell_42 (by decide) ?_
      exact Z.zret dX2_tell_43 rfl (by decide) ⟨by simp [h1, h2, bI], by rw [tlN, if_neg h1, if_neg h2], rfl⟩
    · refine Z.aload_n dX2_tell_26 rfl ?_
      refine Z.iload_n dX2_tell_27 rfl ?_
      refine Z.iload_n dX2_tell_28 rfl ?_
      refine Z.iload_n dX2_tell_29 rfl ?_
      refine Z.callVg (M := mX2_tell) (pc := 30) (st := []) (N := mX2_append) (n := 3) dX2_tell_30 mlX2_33 mkX2_append imX2_append seX2_append (fx9 hF) cl2 rfl (d1 := 0) (by decide) (As := [.int a, .int b, .int v]) rfl ⟨rfl, Nat.le_of_ble_eq_true rfl⟩ ⟨rfl, Nat.le_of_ble_eq_true rfl⟩ (cc_append hE a b v hF hC hq hcq) rfl (fun v_ J1 S_ h_ => ?_)
      obtain ⟨rfl, rfl, rfl⟩ := h_
      exact Z.zret dX2_tell_33 rfl (bI_01 _) ⟨by simp [h1, h2], by rw [tlN, if_neg h1, if_pos h2], rfl⟩
  · refine Z.aload_n dX2_tell_12 rfl ?_
    refine Z.iload dX2_tell_13 rfl ?_
    refine Z.callVg (M := mX2_tell) (pc := 15) (st := []) (N := mX2_forget) (n := 1) dX2_tell_15 mlX2_29 mkX2_forget imX2_forget seX2_forget (fx9 hF) cl2 rfl (d1 := 0) (by decide) (As := [.int (prF (qM I nq) a b)]) rfl ⟨rfl, Nat.le_of_ble_eq_true rfl⟩ ⟨rfl, Nat.le_of_ble_eq_true rfl⟩ (cc_forget hE (prF (qM I nq) a b) hF hC hq hcq (fun q => ⟨pr_nn hq2 q, pr_tl hq2 q⟩)) rfl (fun v_ J2 S_ h_ => ?_)
    obtain ⟨rfl, rfl, rfl⟩ := h_
    refine Z.iconst (v := 1) dX2_tell_18 (by decide) ?_
    exact Z.zret dX2_tell_19 rfl (by decide) ⟨by simp [h1, bI], by rw [tlN, if_pos h1], rfl⟩

