theorem Z.callIg {g : GP} {d mc ms : Nat} {M : MI} {pc : Nat} {L st : List Value} {I : IM} {S : SH} {Q : ZQ} {idx n d1 mc1 ms1 b : Nat} {N : MI} {As : List Value} {Q1 : ZQ} (hd : decode M.2.1 pc = .ok (.invokespecial idx, 3)) (hlink : inT (.methodLink M.1.cls idx N.1)) (hN : mOk N n) (him : inT (.instanceMethod N.1)) (hini : N.1.name = "<init>" ∧ N.2.2.2 = none) (hk : d1 + 1 ≤ d) (hn : As.length = n) (hav : avOk N (.ref b :: As)) (hst : st.all isV = true ∧ st.length ≤ 8) (hb1 : mc1 ≤ mc) (hb2 : ms1 ≤ ms)
    (hcal : Z g d1 mc1 ms1 N 0 (enL N (.ref b :: As)) [] I S Q1) {st0 : List Value} (he : st0 = As.reverse ++ .ref b :: st)
    (kk : ∀ v I' S', Q1 v I' S' → Z g d (mc - mc1) (ms - ms1) M (pc + 3) L (v.toList ++ st) I' S' Q) : Z g d mc ms M pc L st0 I S Q := by
  subst he
  exact Z.callI hd hlink hN him hini hk hn hav hst hb1 hb2 hcal kk
theorem s2_lt {S : SH} {x c y : Nat} (hl : S.length = x + 1) (hy : y < x) : (s2 S x c)[y]? = S[y]? := by
  unfold s2
  rw [List.getElem?_set_ne (by omega), List.getElem?_append_left (by rw [s1_l hl]; omega)]
  unfold s1
  rw [List.getElem?_set_ne (by omega), List.getElem?_append_left (by omega)]
theorem s2_x {S : SH} {x c : Nat} (hl : S.length = x + 1) : (s2 S x c)[x]? = some (1, 0, [none, none, some (x + 1), some (x + 2), none, none]) := by
  unfold s2
  rw [List.getElem?_set_self (by simp [s1_l hl]; omega)]
theorem s2_x1 {S : SH} {x c : Nat} (hl : S.length = x + 1) : (s2 S x c)[x + 1]? = some (8, 40, []) := by
  unfold s2
  rw [List.getElem?_set_ne (by omega), List.getElem?_append_left (by rw [s1_l hl]; omega)]
  unfold s1
  rw [List.getElem?_set_ne (by omega), List.getElem?_append_right (by omega), hl]
  simp
theorem s2_x2 {S : SH} {x c : Nat} (hl : S.length = x + 1) : (s2 S x c)[x + 2]? = some (8, c, []) := by
  unfold s2
  rw [List.getElem?_set_ne (by omega), List.getElem?_append_right (by rw [s1_l hl]; omega), s1_l hl]
  simp
theorem s2_l {S : SH} {x c : Nat} (hl : S.length = x + 1) : (s2 S x c).length = x + 3 := by
  unfold s2
  simp [s1_l hl]
/-- the world and the shape behind a new mark -/
def mkN (J : IM) (mm : Nat) (k p : Int32) : IM := va_up (va_up (va_up (va_up (va_up J (58 + 3 * mm) (fun _ => 0)) (58 + 3 * mm + 1) (fun _ => 0)) (58 + 3 * mm) (mkF k p)) (58 + 3 * mm + 2) (fun _ => 0)) 0 (upd (J 0) 4 (nI (mm + 1)))
def sS (S : SH) (mm : Nat) (k : Int32) : SH := s2 (S ++ [(1, 0, [none, none, none, none, none, none])]) (58 + 3 * mm) (if k = 1 ∨ k = 2 then 12 else 0)
def sM2 (S : SH) (mm : Nat) (k : Int32) (mr : List (Option Nat)) : SH := (sS S mm k).set 13 (10, 120, mr.set mm (some (58 + 3 * mm)))
theorem mkN_ex {I J : IM} {mm : Nat} {k p : Int32} (hE : Ex I J) : Ex (mkN I mm k p) (mkN J mm k p) := by
  unfold mkN
  rw [hE 0 rfl]
  exact hE.upB.upB.upB.upB.upB
def MKQ (I : IM) (S : SH) (mm : Nat) (k p : Int32) (mr : List (Option Nat)) : ZQ := fun v J' T => (mrK mm k p = true ∧ v = some (.int (nI mm)) ∧ Ex (mkN I mm k p) J' ∧ T = sM2 S mm k mr) ∨ (mrK mm k p = false ∧ v = some (.int (-1)) ∧ Ex I J' ∧ T = S)
set_option maxHeartbeats 4000000 in
set_option maxRecDepth 100000 in
theorem cb_mark {g : GP} {I J : IM} {S : SH} (hE : Ex I J) (k p : Int32) (hF : Fx S) (hC : Cp I) {n : Nat} (hn : Mp I n) {nq : Nat} (hq : Mq I nq) (hcq : Cq I nq) (hM : MIv I) {mm : Nat} (hm : Mm I mm) (hz : Mz I S mm) (hlen : S.length = 58 + 3 * mm) {mr : List (Option Nat)} (hs13 : S[13]? = some (10, 120, mr)) (hml : mr.length = 120) : Z g 2 3 58 mX6_mark 0 (enL mX6_mark [.ref 0, .int k, .int p]) [] J S (MKQ I S mm k p mr) := by
  show Z g 2 3 58 mX6_mark 0 [.ref 0, .int k, .int p] [] J S _
  have hn2 := hn.2
  have hq2 := hq.2
  have hm2 := hm.2
  refine Z.iload_n dX6_mark_0 rfl ?_
  refine Z.iconst (v := 5) dX6_mark_1 (by decide) ?_
  refine Z.callSp (M := mX6_mark) (pc := 2) (st := []) (N := mX6_below) (n := 2) (r := .int (bI (inB k 0 4))) dX6_mark_2 mlX6_66 mkX6_below stX6_below (d1 := 0) (by decide) (As := [.int k, .int 5]) rfl ⟨rfl, Nat.le_of_ble_eq_true rfl⟩ ⟨rfl, Nat.le_of_ble_eq_true rfl⟩ (cc_below5 hE k) rfl ?_
  refine Z.if_eqB (tgt := 26) dX6_mark_5 (by decide) (fun h1 => ?_) (fun h1 => ?_)
  · refine Z.iconst (v := (-1)) dX6_mark_26 (by decide) ?_
    exact Z.iret dX6_mark_27 rfl (Or.inr ⟨by simp [mrK, h1]; try omega, rfl, hE, rfl⟩)
  · refine Z.iload_n dX6_mark_8 rfl ?_
    refine Z.bipush (v := 100) dX6_mark_9 (by decide) ?_
    refine Z.callSp (M := mX6_mark) (pc := 11) (st := []) (N := mX6_below) (n := 2) (r := .int (bI (inB p 0 99))) dX6_mark_11 mlX6_66 mkX6_below stX6_below (d1 := 0) (by decide) (As := [.int p, .int 100]) rfl ⟨rfl, Nat.le_of_ble_eq_true rfl⟩ ⟨rfl, Nat.le_of_ble_eq_true rfl⟩ (cc_below100 hE p) rfl ?_
    refine Z.if_eqB (tgt := 26) dX6_mark_14 (by decide) (fun h2 => ?_) (fun h2 => ?_)
    · refine Z.iconst (v := (-1)) dX6_mark_26 (by decide) ?_
      exact Z.iret dX6_mark_27 rfl (Or.inr ⟨by simp [mrK, h1, h2]; try omega, rfl, hE, rfl⟩)
    · refine Z.aload_n dX6_mark_17 rfl ?_
      refine Z.getIv (v := nI mm) dX6_mark_18 cl6 flX6_36 (by decide) (fx0 hF) (((hE.at 0 4 rfl).trans hC.f0_4).trans hm.1) ?_
      refine Z.bipush (v := 120) dX6_mark_21 (by decide) ?_
      refine Z.icmp_ltN (a := mm) (b := 120) (by omega) (by decide) (tgt := 28) dX6_mark_23 (by decide) (fun h3 => ?_) (fun h3 => ?_)
      · refine Z.aload_n dX6_mark_28 rfl ?_
        refine Z.getR (r := 13) dX6_mark_29 cl6 flX6_25 (by decide) (fx0 hF) rfl ?_
        refine Z.aload_n dX6_mark_32 rfl ?_
        refine Z.getIv (v := nI mm) dX6_mark_33 cl6 flX6_36 (by decide) (fx0 hF) (((hE.at 0 4 rfl).trans hC.f0_4).trans hm.1) ?_
        have hl1 : (S ++ [((1, 0, [none, none, none, none, none, none]) : SC)]).length = 58 + 3 * mm + 1 := by simp [hlen]
        have hx1 : (S ++ [((1, 0, [none, none, none, none, none, none]) : SC)])[58 + 3 * mm]? = some (1, 0, [none, none, none, none, none, none]) := by rw [List.getElem?_append_right (by omega), hlen]; simp
        refine Z.newL (a := 58 + 3 * mm) dX6_mark_36 cl1 klX6_23 iaX1 mkX1_init.1.1 (by decide) (by decide) hlen ?_
        refine Z.dupR dX6_mark_39 ?_
        refine Z.iload_n dX6_mark_40 rfl ?_
        refine Z.iload_n dX6_mark_41 rfl ?_
        refine Z.callIg (mc1 := 2) (ms1 := 52) (M := mX6_mark) (pc := 42) (st := [.ref (58 + 3 * mm), .int (nI mm), .ref 13]) (N := mX1_init) (n := 2) (b := 58 + 3 * mm) dX6_mark_42 mlX6_92 mkX1_init imX1_init ⟨rfl, rfl⟩ (d1 := 1) (by decide) (As := [.int k, .int p]) rfl ⟨rfl, Nat.le_of_ble_eq_true rfl⟩ ⟨rfl, Nat.le_of_ble_eq_true rfl⟩ (by decide) (by decide) (cc_markInit k p hl1 hx1 (va_up_self _ _ _)) rfl (fun v_ J_ S_ h_ => ?_)
        obtain ⟨rfl, rfl, rfl⟩ := h_
        have h13 : (sS S mm k)[13]? = some (10, 120, mr) := by unfold sS; rw [s2_lt hl1 (by omega), List.getElem?_append_left (by omega)]; exact hs13
        refine Z.aast (j := mm) (v := 58 + 3 * mm) dX6_mark_45 h13 rfl (by omega) (by decide) hml (s2_x hl1) ?_
        have h0c : (sM2 S mm k mr)[0]? = some (6, 0, [some 1, some 9, some 13, some 14, none, none, none, some 19, some 24, some 29, some 34]) := by unfold sM2 sS; rw [List.getElem?_set_ne (by decide), s2_lt hl1 (by omega), List.getElem?_append_left (by omega)]; exact fx0 hF
        show Z g 2 _ _ mX6_mark 46 [.ref 0, .int k, .int p] [] _ (sM2 S mm k mr) _
        have hb4 : (va_up (va_up (va_up (va_up J (58 + 3 * mm) (fun _ => 0)) (58 + 3 * mm + 1) (fun _ => 0)) (58 + 3 * mm) (mkF k p)) (58 + 3 * mm + 2) (fun _ => 0)) 0 = J 0 := by rw [va_up_ne _ _ (show 0 ≠ 58 + 3 * mm + 2 by omega), va_up_ne _ _ (show 0 ≠ 58 + 3 * mm by omega), va_up_ne _ _ (show 0 ≠ 58 + 3 * mm + 1 by omega), va_up_ne _ _ (show 0 ≠ 58 + 3 * mm by omega)]
        refine Z.aload_n dX6_mark_46 rfl ?_
        refine Z.dupR dX6_mark_47 ?_
        refine Z.getIv (v := nI mm) dX6_mark_48 cl6 flX6_36 (by decide) h0c ((congrFun hb4 4).trans ((hE.at 0 4 rfl).trans (hC.f0_4.trans hm.1))) ?_
        refine Z.iconst (v := 1) dX6_mark_51 (by decide) ?_
        refine Z.iaddN (a := mm) (b := 1) dX6_mark_52 ?_
        refine Z.putI (x := nI (mm + 1)) dX6_mark_53 cl6 flX6_36 (by decide) ⟨rfl, rfl⟩ h0c ?_
        refine Z.aload_n dX6_mark_56 rfl ?_
        refine Z.getIv (v := nI (mm + 1)) dX6_mark_57 cl6 flX6_36 (by decide) h0c rfl ?_
        refine Z.iconst (v := 1) dX6_mark_60 (by decide) ?_
        refine Z.isubN (a := mm + 1) (b := 1) (by omega) dX6_mark_61 ?_
        exact Z.iret dX6_mark_62 rfl (Or.inl ⟨by simp [mrK, h1, h2]; omega, rfl, by have e := mkN_ex (mm := mm) (k := k) (p := p) hE; rw [hb4]; exact e, rfl⟩)
      · refine Z.iconst (v := (-1)) dX6_mark_26 (by decide) ?_
        exact Z.iret dX6_mark_27 rfl (Or.inr ⟨by simp [mrK, h1, h2]; try omega, rfl, hE, rfl⟩)

