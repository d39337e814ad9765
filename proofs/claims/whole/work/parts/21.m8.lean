set_option maxHeartbeats 4000000 in
set_option maxRecDepth 100000 in
theorem lp_row {g : GP} {I J : IM} {S : SH} (hE : Ex I J) (l : Nat) (n_ : Int32) (f36 : Nat → Int32) {Q : ZQ} (hl : l < 26) (hF : Fx S) (hk : Z g 1 0 0 mX7_row 55 [.ref 35, .int (nI l), .int n_, .retAddr 0] [] (va_up (va_up J 36 f36) 37 (zf (J 37) (27 * l) 27)) S Q) : ∀ k, k ≤ 27 → Z g 1 0 0 mX7_row 31 [.ref 35, .int (nI l), .int n_, .int (nI k)] [] (va_up (va_up J 36 (f36)) 37 (zf (J 37) (27 * l) k)) S Q := by
  refine upZ 27 (fun k hi ih => ?_)
  refine Z.iload_n dX7_row_31 rfl ?_
  refine Z.bipush (v := 27) dX7_row_32 (by decide) ?_
  refine Z.icmp_geN (a := k) (b := 27) (by omega) (by decide) (tgt := 55) dX7_row_34 (by decide) (fun h1 => ?_) (fun h1 => ?_)
  · refine Z.drop (i := 3) (L' := [.ref 35, .int (nI l), .int n_, .retAddr 0]) rfl ?_
    rw [show k = 27 by omega]
    exact hk
  · refine Z.aload_n dX7_row_37 rfl ?_
    refine Z.getR (r := 37) dX7_row_38 cl7 flX7_13 (by decide) (fx35 hF) rfl ?_
    refine Z.bipush (v := 27) dX7_row_41 (by decide) ?_
    refine Z.iload_n dX7_row_43 rfl ?_
    refine Z.imulN (a := 27) (b := l) dX7_row_44 ?_
    refine Z.iload_n dX7_row_45 rfl ?_
    refine Z.iaddN (a := 27 * l) (b := k) dX7_row_46 ?_
    refine Z.iconst (v := 0) dX7_row_47 (by decide) ?_
    refine Z.iast (j := (27 * l) + k) (x := 0) dX7_row_48 (fx37 hF) rfl (by omega) (by decide) ?_
    refine Z.eqI (bx_uu _ _ _ _) ?_
    refine Z.iinc (v := nI (k + 1)) (L' := [.ref 35, .int (nI l), .int n_, .int (nI (k + 1))]) dX7_row_49 rfl (nI_1 _) rfl ?_
    refine Z.goto (tgt := 31) dX7_row_52 (by decide) ?_
    exact ih (by omega)

set_option maxHeartbeats 4000000 in
set_option maxRecDepth 100000 in
theorem cp_row {g : GP} {I J : IM} {S : SH} (hE : Ex I J) (l n_ : Int32) (hF : Fx S) {n : Nat} (hn : Mp I n) {nq : Nat} (hq : Mq I nq) (hM : MIv I) {mm : Nat} (hm : Mm I mm) : Z g 1 0 0 mX7_row 0 (enL mX7_row [.ref 35, .int l, .int n_]) [] J S (NQ (.int (bI (rowK l n_))) (if rowK l n_ = true then rowN I l n_ else I) S) := by
  show Z g 1 0 0 mX7_row 0 [.ref 35, .int l, .int n_, .retAddr 0] [] J S _
  have hn2 := hn.2
  have hq2 := hq.2
  have hm2 := hm.2
  refine Z.iload_n dX7_row_0 rfl ?_
  refine Z.iconst (v := 0) dX7_row_1 (by decide) ?_
  refine Z.bipush (v := 25) dX7_row_2 (by decide) ?_
  refine Z.callSp (M := mX7_row) (pc := 4) (st := []) (N := mX7_in) (n := 3) (r := .int (bI (inB l 0 25))) dX7_row_4 mlX7_86 mkX7_in stX7_in (d1 := 0) (by decide) (As := [.int l, .int 0, .int 25]) rfl ⟨rfl, Nat.le_of_ble_eq_true rfl⟩ ⟨rfl, Nat.le_of_ble_eq_true rfl⟩ (ct_in hE l 0 25) rfl ?_
  refine Z.if_eqB (tgt := 20) dX7_row_7 (by decide) (fun h1 => ?_) (fun h1 => ?_)
  · refine Z.iconst (v := 0) dX7_row_20 (by decide) ?_
    exact Z.zret dX7_row_21 rfl (by decide) ⟨by simp [rowK, bI, h1], by simp [rowK, h1]; exact hE, rfl⟩
  · refine Z.iload_n dX7_row_10 rfl ?_
    refine Z.iconst (v := (-1)) dX7_row_11 (by decide) ?_
    refine Z.bipush (v := 27) dX7_row_12 (by decide) ?_
    refine Z.callSp (M := mX7_row) (pc := 14) (st := []) (N := mX7_in) (n := 3) (r := .int (bI (inB n_ (-1) 27))) dX7_row_14 mlX7_86 mkX7_in stX7_in (d1 := 0) (by decide) (As := [.int n_, .int ((-1)), .int 27]) rfl ⟨rfl, Nat.le_of_ble_eq_true rfl⟩ ⟨rfl, Nat.le_of_ble_eq_true rfl⟩ (ct_in hE n_ (-1) 27) rfl ?_
    refine Z.if_neB (tgt := 22) dX7_row_17 (by decide) (fun h2 => ?_) (fun h2 => ?_)
    · have e_l := (inB_rg (hi := 25) h1 (by decide)).1
      have l_l := (inB_rg (hi := 25) h1 (by decide)).2
      refine Z.eqLs (L' := [.ref 35, .int (nI (l.toNatClampNeg)), .int n_, .retAddr 0]) (st' := []) (by rw [← e_l]) (by first | rfl | rw [← e_l]) ?_
      refine Z.aload_n dX7_row_22 rfl ?_
      refine Z.getR (r := 36) dX7_row_23 cl7 flX7_7 (by decide) (fx35 hF) rfl ?_
      refine Z.iload_n dX7_row_26 rfl ?_
      refine Z.iload_n dX7_row_27 rfl ?_
      refine Z.iast (j := l.toNatClampNeg) (x := n_) dX7_row_28 (fx36 hF) rfl (by omega) (by decide) ?_
      refine Z.iconst (v := 0) dX7_row_29 (by decide) ?_
      refine Z.istore_n (L' := [.ref 35, .int (nI (l.toNatClampNeg)), .int n_, .int 0]) dX7_row_30 (Nat.le_of_ble_eq_true rfl) rfl ?_
      refine Z.eqI (up_self (a := 37)).symm ?_
      refine lp_row hE l.toNatClampNeg n_ _ (by omega) hF ?_ 0 (Nat.zero_le _)
      refine Z.iconst (v := 1) dX7_row_55 (by decide) ?_
      exact Z.zret dX7_row_56 rfl (by decide) ⟨by simp [rowK, bI, h1, h2], by rw [if_pos (by simp [rowK, h1, h2]), rowN]; exact (Ex.upC (Ex.upC hE (by have h := hE 36 rfl; first | (rw [h]; done) | (show upd (I 36) _ _ = upd (J 36) _ _; rw [h]; done) | (show _ = upd (upd (J 36) _ _) _ _; rw [h]; done) | (show zf (I 36) _ _ = zf (J 36) _ _; rw [h]))) (by have h := hE 37 rfl; first | (rw [h]; done) | (show upd (I 37) _ _ = upd (J 37) _ _; rw [h]; done) | (show _ = upd (upd (J 37) _ _) _ _; rw [h]; done) | (show zf (I 37) _ _ = zf (J 37) _ _; rw [h]))), rfl⟩
    · refine Z.iconst (v := 0) dX7_row_20 (by decide) ?_
      exact Z.zret dX7_row_21 rfl (by decide) ⟨by simp [rowK, bI, h1, h2], by simp [rowK, h1, h2]; exact hE, rfl⟩

def soK (I : IM) (l p s_ : Int32) : Bool := inB l 0 25 && (inB p 0 (I 36 l.toNatClampNeg - 1) && inB s_ 0 39)
def soN (I : IM) (l p s_ : Int32) : IM := va_up I 37 (upd (I 37) (27 * l.toNatClampNeg + p.toNatClampNeg) s_)
set_option maxHeartbeats 4000000 in
set_option maxRecDepth 100000 in
theorem cp_sound {g : GP} {I J : IM} {S : SH} (hE : Ex I J) (l p s_ : Int32) (hF : Fx S) {n : Nat} (hn : Mp I n) {nq : Nat} (hq : Mq I nq) (hM : MIv I) {mm : Nat} (hm : Mm I mm) : Z g 1 0 0 mX7_sound 0 (enL mX7_sound [.ref 35, .int l, .int p, .int s_]) [] J S (NQ (.int (bI (soK I l p s_))) (if soK I l p s_ = true then soN I l p s_ else I) S) := by
  show Z g 1 0 0 mX7_sound 0 [.ref 35, .int l, .int p, .int s_] [] J S _
  have hn2 := hn.2
  have hq2 := hq.2
  have hm2 := hm.2
  refine Z.iload_n dX7_sound_0 rfl ?_
  refine Z.iconst (v := 0) dX7_sound_1 (by decide) ?_
  refine Z.bipush (v := 25) dX7_sound_2 (by decide) ?_
  refine Z.callSp (M := mX7_sound) (pc := 4) (st := []) (N := mX7_in) (n := 3) (r := .int (bI (inB l 0 25))) dX7_sound_4 mlX7_86 mkX7_in stX7_in (d1 := 0) (by decide) (As := [.int l, .int 0, .int 25]) rfl ⟨rfl, Nat.le_of_ble_eq_true rfl⟩ ⟨rfl, Nat.le_of_ble_eq_true rfl⟩ (ct_in hE l 0 25) rfl ?_
  refine Z.if_eqB (tgt := 36) dX7_sound_7 (by decide) (fun h1 => ?_) (fun h1 => ?_)
  · refine Z.iconst (v := 0) dX7_sound_36 (by decide) ?_
    exact Z.zret dX7_sound_37 rfl (by decide) ⟨by simp [soK, bI, h1], by rw [if_neg (by simp [soK, h1])]; exact hE, rfl⟩
  · have e_l := (inB_rg (hi := 25) h1 (by decide)).1
    have l_l := (inB_rg (hi := 25) h1 (by decide)).2
    refine Z.eqLs (L' := [.ref 35, .int (nI (l.toNatClampNeg)), .int p, .int s_]) (st' := []) (by rw [← e_l]) (by first | rfl | rw [← e_l]) ?_
    refine Z.iload_n dX7_sound_10 rfl ?_
    refine Z.iconst (v := 0) dX7_sound_11 (by decide) ?_
    refine Z.aload_n dX7_sound_12 rfl ?_
    refine Z.getR (r := 36) dX7_sound_13 cl7 flX7_7 (by decide) (fx35 hF) rfl ?_
    refine Z.iload_n dX7_sound_16 rfl ?_
    refine Z.ialdv (j := l.toNatClampNeg) (v := I 36 (l.toNatClampNeg)) dX7_sound_17 (fx36 hF) rfl (by omega) (by decide) (hE.at 36 (l.toNatClampNeg) rfl) ?_
    refine Z.iconst (v := 1) dX7_sound_18 (by decide) ?_
    refine Z.isub dX7_sound_19 ?_
    refine Z.callSp (M := mX7_sound) (pc := 20) (st := []) (N := mX7_in) (n := 3) (r := .int (bI (inB p 0 ((I 36 (l.toNatClampNeg)) - 1)))) dX7_sound_20 mlX7_86 mkX7_in stX7_in (d1 := 0) (by decide) (As := [.int p, .int 0, .int ((I 36 (l.toNatClampNeg)) - 1)]) rfl ⟨rfl, Nat.le_of_ble_eq_true rfl⟩ ⟨rfl, Nat.le_of_ble_eq_true rfl⟩ (ct_in hE p 0 ((I 36 (l.toNatClampNeg)) - 1)) rfl ?_
    refine Z.if_eqB (tgt := 36) dX7_sound_23 (by decide) (fun h2 => ?_) (fun h2 => ?_)
    · refine Z.iconst (v := 0) dX7_sound_36 (by decide) ?_
      exact Z.zret dX7_sound_37 rfl (by decide) ⟨by simp [soK, bI, h1, h2], by rw [if_neg (by simp [soK, h1, h2])]; exact hE, rfl⟩
    · refine Z.iload_n dX7_sound_26 rfl ?_
      refine Z.iconst (v := 0) dX7_sound_27 (by decide) ?_
      refine Z.bipush (v := 39) dX7_sound_28 (by decide) ?_
      refine Z.callSp (M := mX7_sound) (pc := 30) (st := []) (N := mX7_in) (n := 3) (r := .int (bI (inB s_ 0 39))) dX7_sound_30 mlX7_86 mkX7_in stX7_in (d1 := 0) (by decide) (As := [.int s_, .int 0, .int 39]) rfl ⟨rfl, Nat.le_of_ble_eq_true rfl⟩ ⟨rfl, Nat.le_of_ble_eq_true rfl⟩ (ct_in hE s_ 0 39) rfl ?_
      refine Z.if_neB (tgt := 38) dX7_sound_33 (by decide) (fun h3 => ?_) (fun h3 => ?_)
      · have e_p := (inp_rg (hM.2.2.2.2.2.1 _ (by omega)) h2).1
        have l_p := (inp_rg (hM.2.2.2.2.2.1 _ (by omega)) h2).2
        refine Z.eqLs (L' := [.ref 35, .int (nI (l.toNatClampNeg)), .int (nI (p.toNatClampNeg)), .int s_]) (st' := []) (by rw [← e_p]) (by first | rfl | rw [← e_p]) ?_
        refine Z.aload_n dX7_sound_38 rfl ?_
        refine Z.getR (r := 37) dX7_sound_39 cl7 flX7_13 (by decide) (fx35 hF) rfl ?_
        refine Z.bipush (v := 27) dX7_sound_42 (by decide) ?_
        refine Z.iload_n dX7_sound_44 rfl ?_
        refine Z.imulN (a := 27) (b := l.toNatClampNeg) dX7_sound_45 ?_
        refine Z.iload_n dX7_sound_46 rfl ?_
        refine Z.iaddN (a := 27 * l.toNatClampNeg) (b := p.toNatClampNeg) dX7_sound_47 ?_
        refine Z.iload_n dX7_sound_48 rfl ?_
        refine Z.iast (j := (27 * l.toNatClampNeg) + p.toNatClampNeg) (x := s_) dX7_sound_49 (fx37 hF) rfl (by omega) (by decide) ?_
        refine Z.iconst (v := 1) dX7_sound_50 (by decide) ?_
        exact Z.zret dX7_sound_51 rfl (by decide) ⟨by simp [soK, bI, h1, h2, h3], by rw [if_pos (by simp [soK, h1, h2, h3])]; rw [soN]; exact (Ex.upC hE (by have h := hE 37 rfl; first | (rw [h]; done) | (show upd (I 37) _ _ = upd (J 37) _ _; rw [h]; done) | (show _ = upd (upd (J 37) _ _) _ _; rw [h]; done) | (show zf (I 37) _ _ = zf (J 37) _ _; rw [h]))), rfl⟩
      · refine Z.iconst (v := 0) dX7_sound_36 (by decide) ?_
        exact Z.zret dX7_sound_37 rfl (by decide) ⟨by simp [soK, bI, h1, h2, h3], by rw [if_neg (by simp [soK, h1, h2, h3])]; exact hE, rfl⟩

def ctK (a b c : Int32) : Bool := inB a 0 65 && (inB b (-1) 65 && (!decide (a = b) && inB c 1 100))
def ctN (I : IM) (a b c : Int32) : IM := if b = -1 then va_up I 39 (upd (I 39) a.toNatClampNeg c) else va_up I 38 (upd (upd (I 38) (66 * a.toNatClampNeg + b.toNatClampNeg) c) (66 * b.toNatClampNeg + a.toNatClampNeg) c)
set_option maxHeartbeats 4000000 in
set_option maxRecDepth 100000 in
theorem cp_cost {g : GP} {I J : IM} {S : SH} (hE : Ex I J) (a b c : Int32) (hF : Fx S) {n : Nat} (hn : Mp I n) {nq : Nat} (hq : Mq I nq) (hM : MIv I) {mm : Nat} (hm : Mm I mm) : Z g 1 0 0 mX7_cost 0 (enL mX7_cost [.ref 35, .int a, .int b, .int c]) [] J S (NQ (.int (bI (ctK a b c))) (if ctK a b c = true then ctN I a b c else I) S) := by
  show Z g 1 0 0 mX7_cost 0 [.ref 35, .int a, .int b, .int c] [] J S _
  have hn2 := hn.2
  have hq2 := hq.2
  have hm2 := hm.2
  refine Z.iload_n dX7_cost_0 rfl ?_
  refine Z.iconst (v := 0) dX7_cost_1 (by decide) ?_
  refine Z.bipush (v := 65) dX7_cost_2 (by decide) ?_
  refine Z.callSp (M := mX7_cost) (pc := 4) (st := []) (N := mX7_in) (n := 3) (r := .int (bI (inB a 0 65))) dX7_cost_4 mlX7_86 mkX7_in stX7_in (d1 := 0) (by decide) (As := [.int a, .int 0, .int 65]) rfl ⟨rfl, Nat.le_of_ble_eq_true rfl⟩ ⟨rfl, Nat.le_of_ble_eq_true rfl⟩ (ct_in hE a 0 65) rfl ?_
  refine Z.if_eqB (tgt := 35) dX7_cost_7 (by decide) (fun h1 => ?_) (fun h1 => ?_)
  · refine Z.iconst (v := 0) dX7_cost_35 (by decide) ?_
    exact Z.zret dX7_cost_36 rfl (by decide) ⟨by simp [ctK, bI, h1], by rw [if_neg (by simp [ctK, h1])]; exact hE, rfl⟩
  · refine Z.iload_n dX7_cost_10 rfl ?_
    refine Z.iconst (v := (-1)) dX7_cost_11 (by decide) ?_
    refine Z.bipush (v := 65) dX7_cost_12 (by decide) ?_
    refine Z.callSp (M := mX7_cost) (pc := 14) (st := []) (N := mX7_in) (n := 3) (r := .int (bI (inB b (-1) 65))) dX7_cost_14 mlX7_86 mkX7_in stX7_in (d1 := 0) (by decide) (As := [.int b, .int ((-1)), .int 65]) rfl ⟨rfl, Nat.le_of_ble_eq_true rfl⟩ ⟨rfl, Nat.le_of_ble_eq_true rfl⟩ (ct_in hE b (-1) 65) rfl ?_
    refine Z.if_eqB (tgt := 35) dX7_cost_17 (by decide) (fun h2 => ?_) (fun h2 => ?_)
    · refine Z.iconst (v := 0) dX7_cost_35 (by decide) ?_
      exact Z.zret dX7_cost_36 rfl (by decide) ⟨by simp [ctK, bI, h1, h2], by rw [if_neg (by simp [ctK, h1, h2])]; exact hE, rfl⟩
    · refine Z.iload_n dX7_cost_20 rfl ?_
      refine Z.iload_n dX7_cost_21 rfl ?_
      refine Z.icmp_eq (tgt := 35) dX7_cost_22 (by decide) (fun h3 => ?_) (fun h3 => ?_)
      · refine Z.iconst (v := 0) dX7_cost_35 (by decide) ?_
        exact Z.zret dX7_cost_36 rfl (by decide) ⟨by simp [ctK, bI, h1, h2, h3], by rw [if_neg (by simp [ctK, h1, h2, h3])]; exact hE, rfl⟩
      · refine Z.iload_n dX7_cost_25 rfl ?_
        refine Z.iconst (v := 1) dX7_cost_26 (by decide) ?_
        refine Z.bipush (v := 100) dX7_cost_27 (by decide) ?_
        refine Z.callSp (M := mX7_cost) (pc := 29) (st := []) (N := mX7_in) (n := 3) (r := .int (bI (inB c 1 100))) dX7_cost_29 mlX7_86 mkX7_in stX7_in (d1 := 0) (by decide) (As := [.int c, .int 1, .int 100]) rfl ⟨rfl, Nat.le_of_ble_eq_true rfl⟩ ⟨rfl, Nat.le_of_ble_eq_true rfl⟩ (ct_in hE c 1 100) rfl ?_
        refine Z.if_neB (tgt := 37) dX7_cost_32 (by decide) (fun h4 => ?_) (fun h4 => ?_)
        · refine Z.iload_n dX7_cost_37 rfl ?_
          refine Z.iconst (v := (-1)) dX7_cost_38 (by decide) ?_
          refine Z.icmp_ne (tgt := 52) dX7_cost_39 (by decide) (fun h5 => ?_) (fun h5 => ?_)
          · have e_a := (inB_rg (hi := 65) h1 (by decide)).1
            have l_a := (inB_rg (hi := 65) h1 (by decide)).2
            refine Z.eqLs (L' := [.ref 35, .int (nI (a.toNatClampNeg)), .int b, .int c]) (st' := []) (by rw [← e_a]) (by first | rfl | rw [← e_a]) ?_
            have e_b := (inm_rg (hi := 65) (by decide) h2 h5).1
            have l_b := (inm_rg (hi := 65) (by decide) h2 h5).2
            refine Z.eqLs (L' := [.ref 35, .int (nI (a.toNatClampNeg)), .int (nI (b.toNatClampNeg)), .int c]) (st' := []) (by rw [← e_b]) (by first | rfl | rw [← e_b]) ?_
            refine Z.aload_n dX7_cost_52 rfl ?_
            refine Z.getR (r := 38) dX7_cost_53 cl7 flX7_16 (by decide) (fx35 hF) rfl ?_
            refine Z.bipush (v := 66) dX7_cost_56 (by decide) ?_
            refine Z.iload_n dX7_cost_58 rfl ?_
            refine Z.imulN (a := 66) (b := a.toNatClampNeg) dX7_cost_59 ?_
            refine Z.iload_n dX7_cost_60 rfl ?_
            refine Z.iaddN (a := 66 * a.toNatClampNeg) (b := b.toNatClampNeg) dX7_cost_61 ?_
            refine Z.iload_n dX7_cost_62 rfl ?_
            refine Z.iast (j := (66 * a.toNatClampNeg) + b.toNatClampNeg) (x := c) dX7_cost_63 (fx38 hF) rfl (by omega) (by decide) ?_
            refine Z.aload_n dX7_cost_64 rfl ?_
            refine Z.getR (r := 38) dX7_cost_65 cl7 flX7_16 (by decide) (fx35 hF) rfl ?_
            refine Z.bipush (v := 66) dX7_cost_68 (by decide) ?_
            refine Z.iload_n dX7_cost_70 rfl ?_
            refine Z.imulN (a := 66) (b := b.toNatClampNeg) dX7_cost_71 ?_
            refine Z.iload_n dX7_cost_72 rfl ?_
            refine Z.iaddN (a := 66 * b.toNatClampNeg) (b := a.toNatClampNeg) dX7_cost_73 ?_
            refine Z.iload_n dX7_cost_74 rfl ?_
            refine Z.iast (j := (66 * b.toNatClampNeg) + a.toNatClampNeg) (x := c) dX7_cost_75 (fx38 hF) rfl (by omega) (by decide) ?_
            refine Z.eqI (bx_uu _ _ _ _) ?_
            refine Z.iconst (v := 1) dX7_cost_76 (by decide) ?_
            exact Z.zret dX7_cost_77 rfl (by decide) ⟨by simp [ctK, bI, h1, h2, h3, h4], by rw [if_pos (by simp [ctK, h1, h2, h3, h4])]; rw [ctN, if_neg h5]; exact (Ex.upC hE (by have h := hE 38 rfl; first | (rw [h]; done) | (show upd (I 38) _ _ = upd (J 38) _ _; rw [h]; done) | (show _ = upd (upd (J 38) _ _) _ _; rw [h]; done) | (show zf (I 38) _ _ = zf (J 38) _ _; rw [h]))), rfl⟩
          · have e_a := (inB_rg (hi := 65) h1 (by decide)).1
            have l_a := (inB_rg (hi := 65) h1 (by decide)).2
            refine Z.eqLs (L' := [.ref 35, .int (nI (a.toNatClampNeg)), .int b, .int c]) (st' := []) (by rw [← e_a]) (by first | rfl | rw [← e_a]) ?_
            refine Z.aload_n dX7_cost_42 rfl ?_
            refine Z.getR (r := 39) dX7_cost_43 cl7 flX7_19 (by decide) (fx35 hF) rfl ?_
            refine Z.iload_n dX7_cost_46 rfl ?_
            refine Z.iload_n dX7_cost_47 rfl ?_
            refine Z.iast (j := a.toNatClampNeg) (x := c) dX7_cost_48 (fx39 hF) rfl (by omega) (by decide) ?_
            refine Z.goto (tgt := 76) dX7_cost_49 (by decide) ?_
            refine Z.iconst (v := 1) dX7_cost_76 (by decide) ?_
            exact Z.zret dX7_cost_77 rfl (by decide) ⟨by simp [ctK, bI, h1, h2, h3, h4], by rw [if_pos (by simp [ctK, h1, h2, h3, h4])]; rw [ctN, if_pos h5]; exact (Ex.upC hE (by have h := hE 39 rfl; first | (rw [h]; done) | (show upd (I 39) _ _ = upd (J 39) _ _; rw [h]; done) | (show _ = upd (upd (J 39) _ _) _ _; rw [h]; done) | (show zf (I 39) _ _ = zf (J 39) _ _; rw [h]))), rfl⟩
        · refine Z.iconst (v := 0) dX7_cost_35 (by decide) ?_
          exact Z.zret dX7_cost_36 rfl (by decide) ⟨by simp [ctK, bI, h1, h2, h3, h4], by rw [if_neg (by simp [ctK, h1, h2, h3, h4])]; exact hE, rfl⟩

def mrK (mm : Nat) (k p : Int32) : Bool := inB k 0 4 && (inB p 0 99 && !decide (mm = 120))
def mrN (I : IM) (mm : Nat) (k p : Int32) : IM := va_up (va_up (va_up (va_up (va_up I 43 (upd (I 43) mm k)) 44 (upd (I 44) mm p)) 45 (upd (I 45) mm 0)) 47 (upd (I 47) mm 0)) 35 (upd (I 35) 10 (nI (mm + 1)))
set_option maxHeartbeats 4000000 in
set_option maxRecDepth 100000 in
theorem cp_mark {g : GP} {I J : IM} {S : SH} (hE : Ex I J) (k p : Int32) (hF : Fx S) {n : Nat} (hn : Mp I n) {nq : Nat} (hq : Mq I nq) (hM : MIv I) {mm : Nat} (hm : Mm I mm) : Z g 2 0 0 mX7_mark 0 (enL mX7_mark [.ref 35, .int k, .int p]) [] J S (NQ (.int (if mrK mm k p = true then nI mm else -1)) (if mrK mm k p = true then mrN I mm k p else I) S) := by
  show Z g 2 0 0 mX7_mark 0 [.ref 35, .int k, .int p] [] J S _
  have hn2 := hn.2
  have hq2 := hq.2
  have hm2 := hm.2
  refine Z.iload_n dX7_mark_0 rfl ?_
  refine Z.iconst (v := 0) dX7_mark_1 (by decide) ?_
  refine Z.iconst (v := 4) dX7_mark_2 (by decide) ?_
  refine Z.callSp (M := mX7_mark) (pc := 3) (st := []) (N := mX7_in) (n := 3) (r := .int (bI (inB k 0 4))) dX7_mark_3 mlX7_86 mkX7_in stX7_in (d1 := 0) (by decide) (As := [.int k, .int 0, .int 4]) rfl ⟨rfl, Nat.le_of_ble_eq_true rfl⟩ ⟨rfl, Nat.le_of_ble_eq_true rfl⟩ (ct_in hE k 0 4) rfl ?_
  refine Z.if_eqB (tgt := 25) dX7_mark_6 (by decide) (fun h1 => ?_) (fun h1 => ?_)
  · refine Z.iconst (v := (-1)) dX7_mark_25 (by decide) ?_
    exact Z.iret dX7_mark_26 rfl ⟨by simp [mrK, bI, h1], by rw [if_neg (by simp [mrK, h1])]; exact hE, rfl⟩
  · refine Z.iload_n dX7_mark_9 rfl ?_
    refine Z.callSp (M := mX7_mark) (pc := 10) (st := []) (N := mX7_isPerson) (n := 1) (r := .int (bI (inB p 0 99))) dX7_mark_10 mlX7_102 mkX7_isPerson stX7_isPerson (d1 := 1) (by decide) (As := [.int p]) rfl ⟨rfl, Nat.le_of_ble_eq_true rfl⟩ ⟨rfl, Nat.le_of_ble_eq_true rfl⟩ (ct_isPerson hE p) rfl ?_
    refine Z.if_eqB (tgt := 25) dX7_mark_13 (by decide) (fun h2 => ?_) (fun h2 => ?_)
    · refine Z.iconst (v := (-1)) dX7_mark_25 (by decide) ?_
      exact Z.iret dX7_mark_26 rfl ⟨by simp [mrK, bI, h1, h2], by rw [if_neg (by simp [mrK, h1, h2])]; exact hE, rfl⟩
    · refine Z.aload_n dX7_mark_16 rfl ?_
      refine Z.getIv (v := nI mm) dX7_mark_17 cl7 flX7_83 (by decide) (fx35 hF) ((hE.at 35 10 rfl).trans hm.1) ?_
      refine Z.bipush (v := 120) dX7_mark_20 (by decide) ?_
      refine Z.icmp_neN (a := mm) (b := 120) (by omega) (by decide) (tgt := 27) dX7_mark_22 (by decide) (fun h3 => ?_) (fun h3 => ?_)
      · refine Z.aload_n dX7_mark_27 rfl ?_
        refine Z.getR (r := 43) dX7_mark_28 cl7 flX7_31 (by decide) (fx35 hF) rfl ?_
        refine Z.aload_n dX7_mark_31 rfl ?_
        refine Z.getIv (v := nI mm) dX7_mark_32 cl7 flX7_83 (by decide) (fx35 hF) ((hE.at 35 10 rfl).trans hm.1) ?_
        refine Z.iload_n dX7_mark_35 rfl ?_
        refine Z.iast (j := mm) (x := k) dX7_mark_36 (fx43 hF) rfl (by omega) (by decide) ?_
        refine Z.aload_n dX7_mark_37 rfl ?_
        refine Z.getR (r := 44) dX7_mark_38 cl7 flX7_34 (by decide) (fx35 hF) rfl ?_
        refine Z.aload_n dX7_mark_41 rfl ?_
        refine Z.getIv (v := nI mm) dX7_mark_42 cl7 flX7_83 (by decide) (fx35 hF) ((hE.at 35 10 rfl).trans hm.1) ?_
        refine Z.iload_n dX7_mark_45 rfl ?_
        refine Z.iast (j := mm) (x := p) dX7_mark_46 (fx44 hF) rfl (by omega) (by decide) ?_
        refine Z.aload_n dX7_mark_47 rfl ?_
        refine Z.getR (r := 45) dX7_mark_48 cl7 flX7_37 (by decide) (fx35 hF) rfl ?_
        refine Z.aload_n dX7_mark_51 rfl ?_
        refine Z.getIv (v := nI mm) dX7_mark_52 cl7 flX7_83 (by decide) (fx35 hF) ((hE.at 35 10 rfl).trans hm.1) ?_
        refine Z.iconst (v := 0) dX7_mark_55 (by decide) ?_
        refine Z.iast (j := mm) (x := 0) dX7_mark_56 (fx45 hF) rfl (by omega) (by decide) ?_
        refine Z.aload_n dX7_mark_57 rfl ?_
        refine Z.getR (r := 47) dX7_mark_58 cl7 flX7_43 (by decide) (fx35 hF) rfl ?_
        refine Z.aload_n dX7_mark_61 rfl ?_
        refine Z.getIv (v := nI mm) dX7_mark_62 cl7 flX7_83 (by decide) (fx35 hF) ((hE.at 35 10 rfl).trans hm.1) ?_
        refine Z.iconst (v := 0) dX7_mark_65 (by decide) ?_
        refine Z.iast (j := mm) (x := 0) dX7_mark_66 (fx47 hF) rfl (by omega) (by decide) ?_
        refine Z.aload_n dX7_mark_67 rfl ?_
        refine Z.dupR dX7_mark_68 ?_
        refine Z.getIv (v := nI mm) dX7_mark_69 cl7 flX7_83 (by decide) (fx35 hF) ((hE.at 35 10 rfl).trans hm.1) ?_
        refine Z.iconst (v := 1) dX7_mark_72 (by decide) ?_
        refine Z.iaddN (a := mm) (b := 1) dX7_mark_73 ?_
        refine Z.putI (x := nI (mm + 1)) dX7_mark_74 cl7 flX7_83 (by decide) ⟨rfl, rfl⟩ (fx35 hF) ?_
        refine Z.aload_n dX7_mark_77 rfl ?_
        refine Z.getIv (v := nI (mm + 1)) dX7_mark_78 cl7 flX7_83 (by decide) (fx35 hF) rfl ?_
        refine Z.iconst (v := 1) dX7_mark_81 (by decide) ?_
        refine Z.isubN (a := mm + 1) (b := 1) (by omega) dX7_mark_82 ?_
        exact Z.iret dX7_mark_83 rfl ⟨by simp [mrK, bI, h1, h2, h3], by rw [if_pos (by simp [mrK, h1, h2, h3])]; rw [mrN]; exact (Ex.upC (Ex.upC (Ex.upC (Ex.upC (Ex.upC hE (by have h := hE 43 rfl; first | (rw [h]; done) | (show upd (I 43) _ _ = upd (J 43) _ _; rw [h]; done) | (show _ = upd (upd (J 43) _ _) _ _; rw [h]; done) | (show zf (I 43) _ _ = zf (J 43) _ _; rw [h]))) (by have h := hE 44 rfl; first | (rw [h]; done) | (show upd (I 44) _ _ = upd (J 44) _ _; rw [h]; done) | (show _ = upd (upd (J 44) _ _) _ _; rw [h]; done) | (show zf (I 44) _ _ = zf (J 44) _ _; rw [h]))) (by have h := hE 45 rfl; first | (rw [h]; done) | (show upd (I 45) _ _ = upd (J 45) _ _; rw [h]; done) | (show _ = upd (upd (J 45) _ _) _ _; rw [h]; done) | (show zf (I 45) _ _ = zf (J 45) _ _; rw [h]))) (by have h := hE 47 rfl; first | (rw [h]; done) | (show upd (I 47) _ _ = upd (J 47) _ _; rw [h]; done) | (show _ = upd (upd (J 47) _ _) _ _; rw [h]; done) | (show zf (I 47) _ _ = zf (J 47) _ _; rw [h]))) (by have h := hE 35 rfl; first | (rw [h]; done) | (show upd (I 35) _ _ = upd (J 35) _ _; rw [h]; done) | (show _ = upd (upd (J 35) _ _) _ _; rw [h]; done) | (show zf (I 35) _ _ = zf (J 35) _ _; rw [h]))), rfl⟩
      · refine Z.iconst (v := (-1)) dX7_mark_25 (by decide) ?_
        exact Z.iret dX7_mark_26 rfl ⟨by simp [mrK, bI, h1, h2, h3], by rw [if_neg (by simp [mrK, h1, h2, h3])]; exact hE, rfl⟩

def ltK (I : IM) (n : Nat) (m l : Int32) : Bool := inB m 0 (I 35 10 - 1) && (inB l 0 25 && (!decide ((I 45 m.toNatClampNeg).toNatClampNeg = 40) && !hasPF (pM I n) m))
def ltN (I : IM) (m l : Int32) : IM := va_up (va_up I 46 (upd (I 46) (40 * m.toNatClampNeg + (I 45 m.toNatClampNeg).toNatClampNeg) l)) 45 (upd (I 45) m.toNatClampNeg (nI ((I 45 m.toNatClampNeg).toNatClampNeg + 1)))
set_option maxHeartbeats 4000000 in
set_option maxRecDepth 100000 in
theorem cp_letter {g : GP} {I J : IM} {S : SH} (hE : Ex I J) (m l : Int32) (hF : Fx S) {n : Nat} (hn : Mp I n) {nq : Nat} (hq : Mq I nq) (hM : MIv I) {mm : Nat} (hm : Mm I mm) : Z g 2 0 0 mX7_letter 0 (enL mX7_letter [.ref 35, .int m, .int l]) [] J S (NQ (.int (if ltK I n m l = true then nI ((I 45 m.toNatClampNeg).toNatClampNeg + 1) else -1)) (if ltK I n m l = true then ltN I m l else I) S) := by
  show Z g 2 0 0 mX7_letter 0 [.ref 35, .int m, .int l] [] J S _
  have hn2 := hn.2
  have hq2 := hq.2
  have hm2 := hm.2
  refine Z.aload_n dX7_letter_0 rfl ?_
  refine Z.iload_n dX7_letter_1 rfl ?_
  refine Z.callVp (M := mX7_letter) (pc := 2) (st := []) (N := mX7_isMark) (n := 1) (r := .int (bI (inB m 0 (I 35 10 - 1)))) dX7_letter_2 mlX7_108 mkX7_isMark imX7_isMark seX7_isMark (fx35 hF) cl7 rfl (d1 := 1) (by decide) (As := [.int m]) rfl ⟨rfl, Nat.le_of_ble_eq_true rfl⟩ ⟨rfl, Nat.le_of_ble_eq_true rfl⟩ (ct_isMark hE m hF) rfl ?_
  refine Z.if_eqB (tgt := 37) dX7_letter_5 (by decide) (fun h1 => ?_) (fun h1 => ?_)
  · refine Z.iconst (v := (-1)) dX7_letter_37 (by decide) ?_
    exact Z.iret dX7_letter_38 rfl ⟨by simp [ltK, bI, h1], by rw [if_neg (by simp [ltK, h1])]; exact hE, rfl⟩
  · refine Z.iload_n dX7_letter_8 rfl ?_
    refine Z.iconst (v := 0) dX7_letter_9 (by decide) ?_
    refine Z.bipush (v := 25) dX7_letter_10 (by decide) ?_
    refine Z.callSp (M := mX7_letter) (pc := 12) (st := []) (N := mX7_in) (n := 3) (r := .int (bI (inB l 0 25))) dX7_letter_12 mlX7_86 mkX7_in stX7_in (d1 := 0) (by decide) (As := [.int l, .int 0, .int 25]) rfl ⟨rfl, Nat.le_of_ble_eq_true rfl⟩ ⟨rfl, Nat.le_of_ble_eq_true rfl⟩ (ct_in hE l 0 25) rfl ?_
    refine Z.if_eqB (tgt := 37) dX7_letter_15 (by decide) (fun h2 => ?_) (fun h2 => ?_)
    · refine Z.iconst (v := (-1)) dX7_letter_37 (by decide) ?_
      exact Z.iret dX7_letter_38 rfl ⟨by simp [ltK, bI, h1, h2], by rw [if_neg (by simp [ltK, h1, h2])]; exact hE, rfl⟩
    · have e_m := (mk_rg hm.1 hm.2 h1).1
      have l_m := (mk_rg hm.1 hm.2 h1).2
      refine Z.eqLs (L' := [.ref 35, .int (nI (m.toNatClampNeg)), .int l]) (st' := []) (by rw [← e_m]) (by first | rfl | rw [← e_m]) ?_
      have hl := hM.2.2.1 _ (Nat.lt_of_lt_of_le l_m hm.2)
      have hc := hM.2.2.2.1 _ (Nat.lt_of_lt_of_le l_m hm.2)
      have hl2 := hl.2
      have hc2 := hc.2
      refine Z.aload_n dX7_letter_18 rfl ?_
      refine Z.getR (r := 45) dX7_letter_19 cl7 flX7_37 (by decide) (fx35 hF) rfl ?_
      refine Z.iload_n dX7_letter_22 rfl ?_
      refine Z.ialdv (j := m.toNatClampNeg) (v := nI ((I 45 m.toNatClampNeg).toNatClampNeg)) dX7_letter_23 (fx45 hF) rfl (by omega) (by decide) ((hE.at 45 (m.toNatClampNeg) rfl).trans hl.1) ?_
      refine Z.bipush (v := 40) dX7_letter_24 (by decide) ?_
      refine Z.icmp_eqN (a := (I 45 m.toNatClampNeg).toNatClampNeg) (b := 40) (by omega) (by decide) (tgt := 37) dX7_letter_26 (by decide) (fun h3 => ?_) (fun h3 => ?_)
      · refine Z.iconst (v := (-1)) dX7_letter_37 (by decide) ?_
        exact Z.iret dX7_letter_38 rfl ⟨by simp [ltK, bI, h1, h2, h3], by rw [if_neg (by simp [ltK, h1, h2, h3])]; exact hE, rfl⟩
      · refine Z.eqLs (L' := [.ref 35, .int m, .int l]) (st' := []) (by rw [← e_m]) (by first | rfl | rw [← e_m]) ?_
        refine Z.aload_n dX7_letter_29 rfl ?_
        refine Z.iload_n dX7_letter_30 rfl ?_
        refine Z.callVp (M := mX7_letter) (pc := 31) (st := []) (N := mX7_hasPaper) (n := 1) (r := .int (bI (hasPF (pM I n) m))) dX7_letter_31 mlX7_111 mkX7_hasPaper imX7_hasPaper seX7_hasPaper (fx35 hF) cl7 rfl (d1 := 0) (by decide) (As := [.int m]) rfl ⟨rfl, Nat.le_of_ble_eq_true rfl⟩ ⟨rfl, Nat.le_of_ble_eq_true rfl⟩ (ct_hasPaper hE m hF hn) rfl ?_
        refine Z.if_eqB (tgt := 39) dX7_letter_34 (by decide) (fun h4 => ?_) (fun h4 => ?_)
        · refine Z.eqLs (L' := [.ref 35, .int (nI (m.toNatClampNeg)), .int l]) (st' := []) (by rw [← e_m]) (by first | rfl | rw [← e_m]) ?_
          refine Z.aload_n dX7_letter_39 rfl ?_
          refine Z.getR (r := 46) dX7_letter_40 cl7 flX7_40 (by decide) (fx35 hF) rfl ?_
          refine Z.bipush (v := 40) dX7_letter_43 (by decide) ?_
          refine Z.iload_n dX7_letter_45 rfl ?_
          refine Z.imulN (a := 40) (b := m.toNatClampNeg) dX7_letter_46 ?_
          refine Z.aload_n dX7_letter_47 rfl ?_
          refine Z.getR (r := 45) dX7_letter_48 cl7 flX7_37 (by decide) (fx35 hF) rfl ?_
          refine Z.iload_n dX7_letter_51 rfl ?_
          refine Z.ialdv (j := m.toNatClampNeg) (v := nI ((I 45 m.toNatClampNeg).toNatClampNeg)) dX7_letter_52 (fx45 hF) rfl (by omega) (by decide) ((hE.at 45 (m.toNatClampNeg) rfl).trans hl.1) ?_
          refine Z.iaddN (a := 40 * m.toNatClampNeg) (b := (I 45 m.toNatClampNeg).toNatClampNeg) dX7_letter_53 ?_
          refine Z.iload_n dX7_letter_54 rfl ?_
          refine Z.iast (j := (40 * m.toNatClampNeg) + ((I 45 m.toNatClampNeg).toNatClampNeg)) (x := l) dX7_letter_55 (fx46 hF) rfl (by omega) (by decide) ?_
          refine Z.aload_n dX7_letter_56 rfl ?_
          refine Z.getR (r := 45) dX7_letter_57 cl7 flX7_37 (by decide) (fx35 hF) rfl ?_
          refine Z.iload_n dX7_letter_60 rfl ?_
          refine Z.dup2 dX7_letter_61 ?_
          refine Z.ialdv (j := m.toNatClampNeg) (v := nI ((I 45 m.toNatClampNeg).toNatClampNeg)) dX7_letter_62 (fx45 hF) rfl (by omega) (by decide) ((hE.at 45 (m.toNatClampNeg) rfl).trans hl.1) ?_
          refine Z.iconst (v := 1) dX7_letter_63 (by decide) ?_
          refine Z.iaddN (a := (I 45 m.toNatClampNeg).toNatClampNeg) (b := 1) dX7_letter_64 ?_
          refine Z.iast (j := m.toNatClampNeg) (x := nI (((I 45 m.toNatClampNeg).toNatClampNeg) + 1)) dX7_letter_65 (fx45 hF) rfl (by omega) (by decide) ?_
          refine Z.aload_n dX7_letter_66 rfl ?_
          refine Z.getR (r := 45) dX7_letter_67 cl7 flX7_37 (by decide) (fx35 hF) rfl ?_
          refine Z.iload_n dX7_letter_70 rfl ?_
          refine Z.ialdv (j := m.toNatClampNeg) (v := nI (((I 45 m.toNatClampNeg).toNatClampNeg) + 1)) dX7_letter_71 (fx45 hF) rfl (by omega) (by decide) pk_us ?_
          exact Z.iret dX7_letter_72 rfl ⟨by simp [ltK, bI, h1, h2, h3, h4], by rw [if_pos (by simp [ltK, h1, h2, h3, h4])]; rw [ltN]; exact (Ex.upC (Ex.upC hE (by have h := hE 46 rfl; first | (rw [h]; done) | (show upd (I 46) _ _ = upd (J 46) _ _; rw [h]; done) | (show _ = upd (upd (J 46) _ _) _ _; rw [h]; done) | (show zf (I 46) _ _ = zf (J 46) _ _; rw [h]))) (by have h := hE 45 rfl; first | (rw [h]; done) | (show upd (I 45) _ _ = upd (J 45) _ _; rw [h]; done) | (show _ = upd (upd (J 45) _ _) _ _; rw [h]; done) | (show zf (I 45) _ _ = zf (J 45) _ _; rw [h]))), rfl⟩
        · refine Z.iconst (v := (-1)) dX7_letter_37 (by decide) ?_
          exact Z.iret dX7_letter_38 rfl ⟨by simp [ltK, bI, h1, h2, h3, h4], by rw [if_neg (by simp [ltK, h1, h2, h3, h4])]; exact hE, rfl⟩

def cdK (I : IM) (n : Nat) (m c : Int32) : Bool := inB m 0 (I 35 10 - 1) && (inB c 0 32767 && (!decide ((I 47 m.toNatClampNeg).toNatClampNeg = 12) && ((decide (I 43 m.toNatClampNeg = 1) || decide (I 43 m.toNatClampNeg = 2)) && (!hasPF (pM I n) m && !hasCF (I 48) (12 * m.toNatClampNeg) (I 47 m.toNatClampNeg) c))))
def cdN (I : IM) (m c : Int32) : IM := va_up (va_up I 48 (upd (I 48) (12 * m.toNatClampNeg + (I 47 m.toNatClampNeg).toNatClampNeg) c)) 47 (upd (I 47) m.toNatClampNeg (nI ((I 47 m.toNatClampNeg).toNatClampNeg + 1)))
set_option maxHeartbeats 4000000 in
set_option maxRecDepth 100000 in
theorem cp_code {g : GP} {I J : IM} {S : SH} (hE : Ex I J) (m c : Int32) (hF : Fx S) {n : Nat} (hn : Mp I n) {nq : Nat} (hq : Mq I nq) (hM : MIv I) {mm : Nat} (hm : Mm I mm) : Z g 2 0 0 mX7_code 0 (enL mX7_code [.ref 35, .int m, .int c]) [] J S (NQ (.int (if cdK I n m c = true then nI ((I 47 m.toNatClampNeg).toNatClampNeg + 1) else -1)) (if cdK I n m c = true then cdN I m c else I) S) := by
  show Z g 2 0 0 mX7_code 0 [.ref 35, .int m, .int c] [] J S _
  have hn2 := hn.2
  have hq2 := hq.2
  have hm2 := hm.2
  refine Z.aload_n dX7_code_0 rfl ?_
  refine Z.iload_n dX7_code_1 rfl ?_
  refine Z.callVp (M := mX7_code) (pc := 2) (st := []) (N := mX7_isMark) (n := 1) (r := .int (bI (inB m 0 (I 35 10 - 1)))) dX7_code_2 mlX7_108 mkX7_isMark imX7_isMark seX7_isMark (fx35 hF) cl7 rfl (d1 := 1) (by decide) (As := [.int m]) rfl ⟨rfl, Nat.le_of_ble_eq_true rfl⟩ ⟨rfl, Nat.le_of_ble_eq_true rfl⟩ (ct_isMark hE m hF) rfl ?_
  refine Z.if_eqB (tgt := 67) dX7_code_5 (by decide) (fun h1 => ?_) (fun h1 => ?_)
  · refine Z.iconst (v := (-1)) dX7_code_67 (by decide) ?_
    exact Z.iret dX7_code_68 rfl ⟨by simp [cdK, bI, h1], by rw [if_neg (by simp [cdK, h1])]; exact hE, rfl⟩
  · refine Z.iload_n dX7_code_8 rfl ?_
    refine Z.iconst (v := 0) dX7_code_9 (by decide) ?_
    refine Z.sipush (v := 32767) dX7_code_10 (by decide) ?_
    refine Z.callSp (M := mX7_code) (pc := 13) (st := []) (N := mX7_in) (n := 3) (r := .int (bI (inB c 0 32767))) dX7_code_13 mlX7_86 mkX7_in stX7_in (d1 := 0) (by decide) (As := [.int c, .int 0, .int 32767]) rfl ⟨rfl, Nat.le_of_ble_eq_true rfl⟩ ⟨rfl, Nat.le_of_ble_eq_true rfl⟩ (ct_in hE c 0 32767) rfl ?_
    refine Z.if_eqB (tgt := 67) dX7_code_16 (by decide) (fun h2 => ?_) (fun h2 => ?_)
    · refine Z.iconst (v := (-1)) dX7_code_67 (by decide) ?_
      exact Z.iret dX7_code_68 rfl ⟨by simp [cdK, bI, h1, h2], by rw [if_neg (by simp [cdK, h1, h2])]; exact hE, rfl⟩
    · have e_m := (mk_rg hm.1 hm.2 h1).1
      have l_m := (mk_rg hm.1 hm.2 h1).2
      refine Z.eqLs (L' := [.ref 35, .int (nI (m.toNatClampNeg)), .int c]) (st' := []) (by rw [← e_m]) (by first | rfl | rw [← e_m]) ?_
      have hl := hM.2.2.1 _ (Nat.lt_of_lt_of_le l_m hm.2)
      have hc := hM.2.2.2.1 _ (Nat.lt_of_lt_of_le l_m hm.2)
      have hl2 := hl.2
      have hc2 := hc.2
      refine Z.aload_n dX7_code_19 rfl ?_
      refine Z.getR (r := 47) dX7_code_20 cl7 flX7_43 (by decide) (fx35 hF) rfl ?_
      refine Z.iload_n dX7_code_23 rfl ?_
      refine Z.ialdv (j := m.toNatClampNeg) (v := nI ((I 47 m.toNatClampNeg).toNatClampNeg)) dX7_code_24 (fx47 hF) rfl (by omega) (by decide) ((hE.at 47 (m.toNatClampNeg) rfl).trans hc.1) ?_
      refine Z.bipush (v := 12) dX7_code_25 (by decide) ?_
      refine Z.icmp_eqN (a := (I 47 m.toNatClampNeg).toNatClampNeg) (b := 12) (by omega) (by decide) (tgt := 67) dX7_code_27 (by decide) (fun h3 => ?_) (fun h3 => ?_)
      · refine Z.iconst (v := (-1)) dX7_code_67 (by decide) ?_
        exact Z.iret dX7_code_68 rfl ⟨by simp [cdK, bI, h1, h2, h3], by rw [if_neg (by simp [cdK, h1, h2, h3])]; exact hE, rfl⟩
      · refine Z.aload_n dX7_code_30 rfl ?_
        refine Z.getR (r := 43) dX7_code_31 cl7 flX7_31 (by decide) (fx35 hF) rfl ?_
        refine Z.iload_n dX7_code_34 rfl ?_
        refine Z.ialdv (j := m.toNatClampNeg) (v := I 43 (m.toNatClampNeg)) dX7_code_35 (fx43 hF) rfl (by omega) (by decide) (hE.at 43 (m.toNatClampNeg) rfl) ?_
        refine Z.iconst (v := 1) dX7_code_36 (by decide) ?_
        refine Z.icmp_eq (tgt := 50) dX7_code_37 (by decide) (fun h4 => ?_) (fun h4 => ?_)
        · refine Z.eqLs (L' := [.ref 35, .int m, .int c]) (st' := []) (by rw [← e_m]) (by first | rfl | rw [← e_m]) ?_
          refine Z.aload_n dX7_code_50 rfl ?_
          refine Z.iload_n dX7_code_51 rfl ?_
          refine Z.callVp (M := mX7_code) (pc := 52) (st := []) (N := mX7_hasPaper) (n := 1) (r := .int (bI (hasPF (pM I n) m))) dX7_code_52 mlX7_111 mkX7_hasPaper imX7_hasPaper seX7_hasPaper (fx35 hF) cl7 rfl (d1 := 0) (by decide) (As := [.int m]) rfl ⟨rfl, Nat.le_of_ble_eq_true rfl⟩ ⟨rfl, Nat.le_of_ble_eq_true rfl⟩ (ct_hasPaper hE m hF hn) rfl ?_
          refine Z.if_neB (tgt := 67) dX7_code_55 (by decide) (fun h5 => ?_) (fun h5 => ?_)
          · refine Z.iconst (v := (-1)) dX7_code_67 (by decide) ?_
            exact Z.iret dX7_code_68 rfl ⟨by simp [cdK, bI, h1, h2, h3, h4, h5], by rw [if_neg (by simp [cdK, h1, h2, h3, h4, h5])]; exact hE, rfl⟩
          · refine Z.eqLs (L' := [.ref 35, .int (nI (m.toNatClampNeg)), .int c]) (st' := []) (by rw [← e_m]) (by first | rfl | rw [← e_m]) ?_
            refine Z.aload_n dX7_code_58 rfl ?_
            refine Z.iload_n dX7_code_59 rfl ?_
            refine Z.iload_n dX7_code_60 rfl ?_
            refine Z.callVp (M := mX7_code) (pc := 61) (st := []) (N := mX7_hasCode) (n := 2) (r := .int (bI (hasCF (I 48) (12 * m.toNatClampNeg) (I 47 m.toNatClampNeg) c))) dX7_code_61 mlX7_114 mkX7_hasCode imX7_hasCode seX7_hasCode (fx35 hF) cl7 rfl (d1 := 0) (by decide) (As := [.int (nI (m.toNatClampNeg)), .int c]) rfl ⟨rfl, Nat.le_of_ble_eq_true rfl⟩ ⟨rfl, Nat.le_of_ble_eq_true rfl⟩ (ct_hasCode hE m.toNatClampNeg c hF hM (by omega)) rfl ?_
            refine Z.if_eqB (tgt := 69) dX7_code_64 (by decide) (fun h6 => ?_) (fun h6 => ?_)
            · refine Z.aload_n dX7_code_69 rfl ?_
              refine Z.getR (r := 48) dX7_code_70 cl7 flX7_46 (by decide) (fx35 hF) rfl ?_
              refine Z.bipush (v := 12) dX7_code_73 (by decide) ?_
              refine Z.iload_n dX7_code_75 rfl ?_
              refine Z.imulN (a := 12) (b := m.toNatClampNeg) dX7_code_76 ?_
              refine Z.aload_n dX7_code_77 rfl ?_
              refine Z.getR (r := 47) dX7_code_78 cl7 flX7_43 (by decide) (fx35 hF) rfl ?_
              refine Z.iload_n dX7_code_81 rfl ?_
              refine Z.ialdv (j := m.toNatClampNeg) (v := nI ((I 47 m.toNatClampNeg).toNatClampNeg)) dX7_code_82 (fx47 hF) rfl (by omega) (by decide) ((hE.at 47 (m.toNatClampNeg) rfl).trans hc.1) ?_
              refine Z.iaddN (a := 12 * m.toNatClampNeg) (b := (I 47 m.toNatClampNeg).toNatClampNeg) dX7_code_83 ?_
              refine Z.iload_n dX7_code_84 rfl ?_
              refine Z.iast (j := (12 * m.toNatClampNeg) + ((I 47 m.toNatClampNeg).toNatClampNeg)) (x := c) dX7_code_85 (fx48 hF) rfl (by omega) (by decide) ?_
              refine Z.aload_n dX7_code_86 rfl ?_
              refine Z.getR (r := 47) dX7_code_87 cl7 flX7_43 (by decide) (fx35 hF) rfl ?_
              refine Z.iload_n dX7_code_90 rfl ?_
              refine Z.dup2 dX7_code_91 ?_
              refine Z.ialdv (j := m.toNatClampNeg) (v := nI ((I 47 m.toNatClampNeg).toNatClampNeg)) dX7_code_92 (fx47 hF) rfl (by omega) (by decide) ((hE.at 47 (m.toNatClampNeg) rfl).trans hc.1) ?_
              refine Z.iconst (v := 1) dX7_code_93 (by decide) ?_
              refine Z.iaddN (a := (I 47 m.toNatClampNeg).toNatClampNeg) (b := 1) dX7_code_94 ?_
              refine Z.iast (j := m.toNatClampNeg) (x := nI (((I 47 m.toNatClampNeg).toNatClampNeg) + 1)) dX7_code_95 (fx47 hF) rfl (by omega) (by decide) ?_
              refine Z.aload_n dX7_code_96 rfl ?_
              refine Z.getR (r := 47) dX7_code_97 cl7 flX7_43 (by decide) (fx35 hF) rfl ?_
              refine Z.iload_n dX7_code_100 rfl ?_
              refine Z.ialdv (j := m.toNatClampNeg) (v := nI (((I 47 m.toNatClampNeg).toNatClampNeg) + 1)) dX7_code_101 (fx47 hF) rfl (by omega) (by decide) pk_us ?_
              exact Z.iret dX7_code_102 rfl ⟨by simp [cdK, bI, h1, h2, h3, h4, h5, h6], by rw [if_pos (by simp [cdK, h1, h2, h3, h4, h5, h6])]; rw [cdN]; exact (Ex.upC (Ex.upC hE (by have h := hE 48 rfl; first | (rw [h]; done) | (show upd (I 48) _ _ = upd (J 48) _ _; rw [h]; done) | (show _ = upd (upd (J 48) _ _) _ _; rw [h]; done) | (show zf (I 48) _ _ = zf (J 48) _ _; rw [h]))) (by have h := hE 47 rfl; first | (rw [h]; done) | (show upd (I 47) _ _ = upd (J 47) _ _; rw [h]; done) | (show _ = upd (upd (J 47) _ _) _ _; rw [h]; done) | (show zf (I 47) _ _ = zf (J 47) _ _; rw [h]))), rfl⟩
            · refine Z.iconst (v := (-1)) dX7_code_67 (by decide) ?_
              exact Z.iret dX7_code_68 rfl ⟨by simp [cdK, bI, h1, h2, h3, h4, h5, h6], by rw [if_neg (by simp [cdK, h1, h2, h3, h4, h5, h6])]; exact hE, rfl⟩
        · refine Z.aload_n dX7_code_40 rfl ?_
          refine Z.getR (r := 43) dX7_code_41 cl7 flX7_31 (by decide) (fx35 hF) rfl ?_
          refine Z.iload_n dX7_code_44 rfl ?_
          refine Z.ialdv (j := m.toNatClampNeg) (v := I 43 (m.toNatClampNeg)) dX7_code_45 (fx43 hF) rfl (by omega) (by decide) (hE.at 43 (m.toNatClampNeg) rfl) ?_
          refine Z.iconst (v := 2) dX7_code_46 (by decide) ?_
          refine Z.icmp_ne (tgt := 67) dX7_code_47 (by decide) (fun h7 => ?_) (fun h7 => ?_)
          · refine Z.iconst (v := (-1)) dX7_code_67 (by decide) ?_
            exact Z.iret dX7_code_68 rfl ⟨by simp [cdK, bI, h1, h2, h3, h4, h7], by rw [if_neg (by simp [cdK, h1, h2, h3, h4, h7])]; exact hE, rfl⟩
          · refine Z.eqLs (L' := [.ref 35, .int m, .int c]) (st' := []) (by rw [← e_m]) (by first | rfl | rw [← e_m]) ?_
            refine Z.aload_n dX7_code_50 rfl ?_
            refine Z.iload_n dX7_code_51 rfl ?_
            refine Z.callVp (M := mX7_code) (pc := 52) (st := []) (N := mX7_hasPaper) (n := 1) (r := .int (bI (hasPF (pM I n) m))) dX7_code_52 mlX7_111 mkX7_hasPaper imX7_hasPaper seX7_hasPaper (fx35 hF) cl7 rfl (d1 := 0) (by decide) (As := [.int m]) rfl ⟨rfl, Nat.le_of_ble_eq_true rfl⟩ ⟨rfl, Nat.le_of_ble_eq_true rfl⟩ (ct_hasPaper hE m hF hn) rfl ?_
            refine Z.if_neB (tgt := 67) dX7_code_55 (by decide) (fun h8 => ?_) (fun h8 => ?_)
            · refine Z.iconst (v := (-1)) dX7_code_67 (by decide) ?_
              exact Z.iret dX7_code_68 rfl ⟨by simp [cdK, bI, h1, h2, h3, h4, h7, h8], by rw [if_neg (by simp [cdK, h1, h2, h3, h4, h7, h8])]; exact hE, rfl⟩
            · refine Z.eqLs (L' := [.ref 35, .int (nI (m.toNatClampNeg)), .int c]) (st' := []) (by rw [← e_m]) (by first | rfl | rw [← e_m]) ?_
              refine Z.aload_n dX7_code_58 rfl ?_
              refine Z.iload_n dX7_code_59 rfl ?_
              refine Z.iload_n dX7_code_60 rfl ?_
              refine Z.callVp (M := mX7_code) (pc := 61) (st := []) (N := mX7_hasCode) (n := 2) (r := .int (bI (hasCF (I 48) (12 * m.toNatClampNeg) (I 47 m.toNatClampNeg) c))) dX7_code_61 mlX7_114 mkX7_hasCode imX7_hasCode seX7_hasCode (fx35 hF) cl7 rfl (d1 := 0) (by decide) (As := [.int (nI (m.toNatClampNeg)), .int c]) rfl ⟨rfl, Nat.le_of_ble_eq_true rfl⟩ ⟨rfl, Nat.le_of_ble_eq_true rfl⟩ (ct_hasCode hE m.toNatClampNeg c hF hM (by omega)) rfl ?_
              refine Z.if_eqB (tgt := 69) dX7_code_64 (by decide) (fun h9 => ?_) (fun h9 => ?_)
              · refine Z.aload_n dX7_code_69 rfl ?_
                refine Z.getR (r := 48) dX7_code_70 cl7 flX7_46 (by decide) (fx35 hF) rfl ?_
                refine Z.bipush (v := 12) dX7_code_73 (by decide) ?_
                refine Z.iload_n dX7_code_75 rfl ?_
                refine Z.imulN (a := 12) (b := m.toNatClampNeg) dX7_code_76 ?_
                refine Z.aload_n dX7_code_77 rfl ?_
                refine Z.getR (r := 47) dX7_code_78 cl7 flX7_43 (by decide) (fx35 hF) rfl ?_
                refine Z.iload_n dX7_code_81 rfl ?_
                refine Z.ialdv (j := m.toNatClampNeg) (v := nI ((I 47 m.toNatClampNeg).toNatClampNeg)) dX7_code_82 (fx47 hF) rfl (by omega) (by decide) ((hE.at 47 (m.toNatClampNeg) rfl).trans hc.1) ?_
                refine Z.iaddN (a := 12 * m.toNatClampNeg) (b := (I 47 m.toNatClampNeg).toNatClampNeg) dX7_code_83 ?_
                refine Z.iload_n dX7_code_84 rfl ?_
                refine Z.iast (j := (12 * m.toNatClampNeg) + ((I 47 m.toNatClampNeg).toNatClampNeg)) (x := c) dX7_code_85 (fx48 hF) rfl (by omega) (by decide) ?_
                refine Z.aload_n dX7_code_86 rfl ?_
                refine Z.getR (r := 47) dX7_code_87 cl7 flX7_43 (by decide) (fx35 hF) rfl ?_
                refine Z.iload_n dX7_code_90 rfl ?_
                refine Z.dup2 dX7_code_91 ?_
                refine Z.ialdv (j := m.toNatClampNeg) (v := nI ((I 47 m.toNatClampNeg).toNatClampNeg)) dX7_code_92 (fx47 hF) rfl (by omega) (by decide) ((hE.at 47 (m.toNatClampNeg) rfl).trans hc.1) ?_
                refine Z.iconst (v := 1) dX7_code_93 (by decide) ?_
                refine Z.iaddN (a := (I 47 m.toNatClampNeg).toNatClampNeg) (b := 1) dX7_code_94 ?_
                refine Z.iast (j := m.toNatClampNeg) (x := nI (((I 47 m.toNatClampNeg).toNatClampNeg) + 1)) dX7_code_95 (fx47 hF) rfl (by omega) (by decide) ?_
                refine Z.aload_n dX7_code_96 rfl ?_
                refine Z.getR (r := 47) dX7_code_97 cl7 flX7_43 (by decide) (fx35 hF) rfl ?_
                refine Z.iload_n dX7_code_100 rfl ?_
                refine Z.ialdv (j := m.toNatClampNeg) (v := nI (((I 47 m.toNatClampNeg).toNatClampNeg) + 1)) dX7_code_101 (fx47 hF) rfl (by omega) (by decide) pk_us ?_
                exact Z.iret dX7_code_102 rfl ⟨by simp [cdK, bI, h1, h2, h3, h4, h7, h8, h9], by rw [if_pos (by simp [cdK, h1, h2, h3, h4, h7, h8, h9])]; rw [cdN]; exact (Ex.upC (Ex.upC hE (by have h := hE 48 rfl; first | (rw [h]; done) | (show upd (I 48) _ _ = upd (J 48) _ _; rw [h]; done) | (show _ = upd (upd (J 48) _ _) _ _; rw [h]; done) | (show zf (I 48) _ _ = zf (J 48) _ _; rw [h]))) (by have h := hE 47 rfl; first | (rw [h]; done) | (show upd (I 47) _ _ = upd (J 47) _ _; rw [h]; done) | (show _ = upd (upd (J 47) _ _) _ _; rw [h]; done) | (show zf (I 47) _ _ = zf (J 47) _ _; rw [h]))), rfl⟩
              · refine Z.iconst (v := (-1)) dX7_code_67 (by decide) ?_
                exact Z.iret dX7_code_68 rfl ⟨by simp [cdK, bI, h1, h2, h3, h4, h7, h8, h9], by rw [if_neg (by simp [cdK, h1, h2, h3, h4, h7, h8, h9])]; exact hE, rfl⟩

