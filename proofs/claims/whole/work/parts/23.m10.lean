def fsR (I : IM) (n nq : Nat) (m c t : Int32) : Nat → Int32 := fun a => crF I n nq a m.toNatClampNeg c t
def fsM (I : IM) (n nq mm : Nat) (m c t : Int32) : Int32 := if (inB m 0 (I 35 10 - 1) && (inB c 0 15 && inB t 0 60000)) = true then (fiU (fsR I n nq m c t) mm).1 else -1
set_option maxHeartbeats 4000000 in
set_option maxRecDepth 100000 in
theorem lp_first {g : GP} {I : IM} {S : SH} (m c t : Int32) (hF : Fx S) {n : Nat} (hn : Mp I n) {nq : Nat} (hq : Mq I nq) (hM : MIv I) {mm : Nat} (hm : Mm I mm) (hmm : m.toNatClampNeg < 120) (hok : (inB m 0 (I 35 10 - 1) && (inB c 0 15 && inB t 0 60000)) = true) : ∀ a, a ≤ mm → ∀ J, Ex I J → Z g 8 0 0 mX7_first 33 [.ref 35, .int (nI (m.toNatClampNeg)), .int c, .int t, .int ((fiU (fsR I n nq m c t) a).1), .int ((fiU (fsR I n nq m c t) a).2), .int (nI a), .retAddr 0] [] J S (NQ (.int (fsM I n nq mm m c t)) I S) := by
  have hn2 := hn.2
  have hq2 := hq.2
  have hm2 := hm.2
  refine upZ mm (fun a hi ih J hE => ?_)
  refine Z.iload dX7_first_33 rfl ?_
  refine Z.aload_n dX7_first_35 rfl ?_
  refine Z.getIv (v := nI mm) dX7_first_36 cl7 flX7_83 (by decide) (fx35 hF) ((hE.at 35 10 rfl).trans hm.1) ?_
  refine Z.icmp_geN (a := a) (b := mm) (by omega) (by omega) (tgt := 84) dX7_first_39 (by decide) (fun h1 => ?_) (fun h1 => ?_)
  · refine Z.iload dX7_first_84 rfl ?_
    exact Z.iret dX7_first_86 rfl ⟨by rw [fsM, if_pos hok, show a = mm by omega], hE, rfl⟩
  · refine Z.aload_n dX7_first_42 rfl ?_
    refine Z.iload dX7_first_43 rfl ?_
    refine Z.iload_n dX7_first_45 rfl ?_
    refine Z.iload_n dX7_first_46 rfl ?_
    refine Z.iload_n dX7_first_47 rfl ?_
    refine Z.callVg (M := mX7_first) (pc := 48) (st := []) (N := mX7_clashRight) (n := 4) dX7_first_48 mlX7_212 mkX7_clashRight imX7_clashRight seX7_clashRight (fx35 hF) cl7 rfl (d1 := 7) (by decide) (As := [.int (nI a), .int (nI (m.toNatClampNeg)), .int c, .int t]) rfl ⟨rfl, Nat.le_of_ble_eq_true rfl⟩ ⟨rfl, Nat.le_of_ble_eq_true rfl⟩ (ct_clashRight hE a m.toNatClampNeg c t hF hn hq hM (by omega) (by omega)) rfl (fun v_ J1 S_ h_ => ?_)
    obtain ⟨rfl, hE, rfl⟩ := h_
    refine Z.istore (L' := [.ref 35, .int (nI (m.toNatClampNeg)), .int c, .int t, .int ((fiU (fsR I n nq m c t) a).1), .int ((fiU (fsR I n nq m c t) a).2), .int (nI a), .int (crF I n nq a m.toNatClampNeg c t)]) dX7_first_51 (Nat.le_of_ble_eq_true rfl) rfl ?_
    refine Z.iload dX7_first_53 rfl ?_
    refine Z.if_lt (tgt := 78) dX7_first_55 (by decide) (fun h2 => ?_) (fun h2 => ?_)
    · refine Z.iinc (v := nI (a + 1)) (L' := [.ref 35, .int (nI (m.toNatClampNeg)), .int c, .int t, .int ((fiU (fsR I n nq m c t) a).1), .int ((fiU (fsR I n nq m c t) a).2), .int (nI (a + 1)), .int (crF I n nq a m.toNatClampNeg c t)]) dX7_first_78 rfl (nI_1 _) rfl ?_
      refine Z.goto (tgt := 33) dX7_first_81 (by decide) ?_
      refine Z.drop (i := 7) (L' := [.ref 35, .int (nI (m.toNatClampNeg)), .int c, .int t, .int ((fiU (fsR I n nq m c t) a).1), .int ((fiU (fsR I n nq m c t) a).2), .int (nI (a + 1)), .retAddr 0]) rfl ?_
      have e := ih (by omega) J1 hE
      rw [show (fiU (fsR I n nq m c t) (a + 1)) = (fiU (fsR I n nq m c t) a) by simp [fiU, fsR, h1, h2]] at e
      exact e
    · refine Z.iload dX7_first_58 rfl ?_
      refine Z.if_lt (tgt := 70) dX7_first_60 (by decide) (fun h3 => ?_) (fun h3 => ?_)
      · refine Z.iload dX7_first_70 rfl ?_
        refine Z.istore (L' := [.ref 35, .int (nI (m.toNatClampNeg)), .int c, .int t, .int (nI a), .int ((fiU (fsR I n nq m c t) a).2), .int (nI a), .int (crF I n nq a m.toNatClampNeg c t)]) dX7_first_72 (Nat.le_of_ble_eq_true rfl) rfl ?_
        refine Z.iload dX7_first_74 rfl ?_
        refine Z.istore (L' := [.ref 35, .int (nI (m.toNatClampNeg)), .int c, .int t, .int (nI a), .int (crF I n nq a m.toNatClampNeg c t), .int (nI a), .int (crF I n nq a m.toNatClampNeg c t)]) dX7_first_76 (Nat.le_of_ble_eq_true rfl) rfl ?_
        refine Z.iinc (v := nI (a + 1)) (L' := [.ref 35, .int (nI (m.toNatClampNeg)), .int c, .int t, .int (nI a), .int (crF I n nq a m.toNatClampNeg c t), .int (nI (a + 1)), .int (crF I n nq a m.toNatClampNeg c t)]) dX7_first_78 rfl (nI_1 _) rfl ?_
        refine Z.goto (tgt := 33) dX7_first_81 (by decide) ?_
        refine Z.drop (i := 7) (L' := [.ref 35, .int (nI (m.toNatClampNeg)), .int c, .int t, .int (nI a), .int (crF I n nq a m.toNatClampNeg c t), .int (nI (a + 1)), .retAddr 0]) rfl ?_
        have e := ih (by omega) J1 hE
        rw [show (fiU (fsR I n nq m c t) (a + 1)) = (nI a, crF I n nq a m.toNatClampNeg c t) by simp [fiU, fsR, h1, h2, h3]] at e
        exact e
      · refine Z.iload dX7_first_63 rfl ?_
        refine Z.iload dX7_first_65 rfl ?_
        refine Z.icmp_ge (tgt := 78) dX7_first_67 (by decide) (fun h4 => ?_) (fun h4 => ?_)
        · refine Z.iinc (v := nI (a + 1)) (L' := [.ref 35, .int (nI (m.toNatClampNeg)), .int c, .int t, .int ((fiU (fsR I n nq m c t) a).1), .int ((fiU (fsR I n nq m c t) a).2), .int (nI (a + 1)), .int (crF I n nq a m.toNatClampNeg c t)]) dX7_first_78 rfl (nI_1 _) rfl ?_
          refine Z.goto (tgt := 33) dX7_first_81 (by decide) ?_
          refine Z.drop (i := 7) (L' := [.ref 35, .int (nI (m.toNatClampNeg)), .int c, .int t, .int ((fiU (fsR I n nq m c t) a).1), .int ((fiU (fsR I n nq m c t) a).2), .int (nI (a + 1)), .retAddr 0]) rfl ?_
          have e := ih (by omega) J1 hE
          rw [show (fiU (fsR I n nq m c t) (a + 1)) = (fiU (fsR I n nq m c t) a) by simp [fiU, fsR, h1, h2, h3, h4]] at e
          exact e
        · refine Z.iload dX7_first_70 rfl ?_
          refine Z.istore (L' := [.ref 35, .int (nI (m.toNatClampNeg)), .int c, .int t, .int (nI a), .int ((fiU (fsR I n nq m c t) a).2), .int (nI a), .int (crF I n nq a m.toNatClampNeg c t)]) dX7_first_72 (Nat.le_of_ble_eq_true rfl) rfl ?_
          refine Z.iload dX7_first_74 rfl ?_
          refine Z.istore (L' := [.ref 35, .int (nI (m.toNatClampNeg)), .int c, .int t, .int (nI a), .int (crF I n nq a m.toNatClampNeg c t), .int (nI a), .int (crF I n nq a m.toNatClampNeg c t)]) dX7_first_76 (Nat.le_of_ble_eq_true rfl) rfl ?_
          refine Z.iinc (v := nI (a + 1)) (L' := [.ref 35, .int (nI (m.toNatClampNeg)), .int c, .int t, .int (nI a), .int (crF I n nq a m.toNatClampNeg c t), .int (nI (a + 1)), .int (crF I n nq a m.toNatClampNeg c t)]) dX7_first_78 rfl (nI_1 _) rfl ?_
          refine Z.goto (tgt := 33) dX7_first_81 (by decide) ?_
          refine Z.drop (i := 7) (L' := [.ref 35, .int (nI (m.toNatClampNeg)), .int c, .int t, .int (nI a), .int (crF I n nq a m.toNatClampNeg c t), .int (nI (a + 1)), .retAddr 0]) rfl ?_
          have e := ih (by omega) J1 hE
          rw [show (fiU (fsR I n nq m c t) (a + 1)) = (nI a, crF I n nq a m.toNatClampNeg c t) by simp [fiU, fsR, h1, h2, h3, h4]] at e
          exact e

set_option maxHeartbeats 4000000 in
set_option maxRecDepth 100000 in
theorem cp_first {g : GP} {I J : IM} {S : SH} (hE : Ex I J) (m c t : Int32) (hF : Fx S) {n : Nat} (hn : Mp I n) {nq : Nat} (hq : Mq I nq) (hM : MIv I) {mm : Nat} (hm : Mm I mm) : Z g 8 0 0 mX7_first 0 (enL mX7_first [.ref 35, .int m, .int c, .int t]) [] J S (NQ (.int (fsM I n nq mm m c t)) I S) := by
  show Z g 8 0 0 mX7_first 0 [.ref 35, .int m, .int c, .int t, .retAddr 0, .retAddr 0, .retAddr 0, .retAddr 0] [] J S _
  have hn2 := hn.2
  have hq2 := hq.2
  have hm2 := hm.2
  refine Z.aload_n dX7_first_0 rfl ?_
  refine Z.iload_n dX7_first_1 rfl ?_
  refine Z.callVp (M := mX7_first) (pc := 2) (st := []) (N := mX7_isMark) (n := 1) (r := .int (bI (inB m 0 (I 35 10 - 1)))) dX7_first_2 mlX7_108 mkX7_isMark imX7_isMark seX7_isMark (fx35 hF) cl7 rfl (d1 := 1) (by decide) (As := [.int m]) rfl ⟨rfl, Nat.le_of_ble_eq_true rfl⟩ ⟨rfl, Nat.le_of_ble_eq_true rfl⟩ (ct_isMark hE m hF) rfl ?_
  refine Z.if_eqB (tgt := 22) dX7_first_5 (by decide) (fun h1 => ?_) (fun h1 => ?_)
  · refine Z.iconst (v := (-1)) dX7_first_22 (by decide) ?_
    exact Z.iret dX7_first_23 rfl ⟨by simp [fsM, h1], hE, rfl⟩
  · refine Z.iload_n dX7_first_8 rfl ?_
    refine Z.callSp (M := mX7_first) (pc := 9) (st := []) (N := mX7_isCountry) (n := 1) (r := .int (bI (inB c 0 15))) dX7_first_9 mlX7_194 mkX7_isCountry stX7_isCountry (d1 := 1) (by decide) (As := [.int c]) rfl ⟨rfl, Nat.le_of_ble_eq_true rfl⟩ ⟨rfl, Nat.le_of_ble_eq_true rfl⟩ (ct_isCountry hE c) rfl ?_
    refine Z.if_eqB (tgt := 22) dX7_first_12 (by decide) (fun h2 => ?_) (fun h2 => ?_)
    · refine Z.iconst (v := (-1)) dX7_first_22 (by decide) ?_
      exact Z.iret dX7_first_23 rfl ⟨by simp [fsM, h1, h2], hE, rfl⟩
    · refine Z.iload_n dX7_first_15 rfl ?_
      refine Z.callSp (M := mX7_first) (pc := 16) (st := []) (N := mX7_isDay) (n := 1) (r := .int (bI (inB t 0 60000))) dX7_first_16 mlX7_200 mkX7_isDay stX7_isDay (d1 := 1) (by decide) (As := [.int t]) rfl ⟨rfl, Nat.le_of_ble_eq_true rfl⟩ ⟨rfl, Nat.le_of_ble_eq_true rfl⟩ (ct_isDay hE t) rfl ?_
      refine Z.if_neB (tgt := 24) dX7_first_19 (by decide) (fun h3 => ?_) (fun h3 => ?_)
      · have e_m := (mk_rg hm.1 hm.2 h1).1
        have l_m := (mk_rg hm.1 hm.2 h1).2
        refine Z.eqLs (L' := [.ref 35, .int (nI (m.toNatClampNeg)), .int c, .int t, .retAddr 0, .retAddr 0, .retAddr 0, .retAddr 0]) (st' := []) (by rw [← e_m]) (by first | rfl | rw [← e_m]) ?_
        refine Z.iconst (v := (-1)) dX7_first_24 (by decide) ?_
        refine Z.istore (L' := [.ref 35, .int (nI (m.toNatClampNeg)), .int c, .int t, .int ((-1)), .retAddr 0, .retAddr 0, .retAddr 0]) dX7_first_25 (Nat.le_of_ble_eq_true rfl) rfl ?_
        refine Z.iconst (v := 0) dX7_first_27 (by decide) ?_
        refine Z.istore (L' := [.ref 35, .int (nI (m.toNatClampNeg)), .int c, .int t, .int ((-1)), .int 0, .retAddr 0, .retAddr 0]) dX7_first_28 (Nat.le_of_ble_eq_true rfl) rfl ?_
        refine Z.iconst (v := 0) dX7_first_30 (by decide) ?_
        refine Z.istore (L' := [.ref 35, .int (nI (m.toNatClampNeg)), .int c, .int t, .int ((-1)), .int 0, .int 0, .retAddr 0]) dX7_first_31 (Nat.le_of_ble_eq_true rfl) rfl ?_
        exact lp_first m c t hF hn hq hM hm (by omega) (by simp [h1, h2, h3]) 0 (Nat.zero_le _) _ hE
      · refine Z.iconst (v := (-1)) dX7_first_22 (by decide) ?_
        exact Z.iret dX7_first_23 rfl ⟨by simp [fsM, h1, h2, h3], hE, rfl⟩

def myR (I : IM) (n nq : Nat) (sg g_ c t : Int32) : Nat → Int32 := fun a => if a = sg.toNatClampNeg ∨ alM I a sg.toNatClampNeg = true then nrF I n nq (nI a) g_ c t else -1
def myC (I : IM) (n nq : Nat) (pe sg g_ c t : Int32) : Nat → Nat := fun a => if myR I n nq sg g_ c t a < 0 then 0 else if I 44 a = pe then 1 else if leF (pM I n) (nI a) pe t = true then 2 else if I 43 a = 3 ∧ ¬ latF (pM I n) 8 (nI a) pe t < 0 then 3 else 4
def myB (I : IM) (pe sg g_ c t : Int32) : Bool := inB pe 0 99 && (inB sg 0 (I 35 10 - 1) && (inB g_ 0 359 && (inB c 0 15 && inB t 0 60000)))
def myM (I : IM) (n nq mm : Nat) (pe sg g_ c t : Int32) : Int32 := if myB I pe sg g_ c t = true then maE (maU (myC I n nq pe sg g_ c t) (myR I n nq sg g_ c t) mm) else -1
set_option maxHeartbeats 4000000 in
set_option maxRecDepth 100000 in
theorem lp_may {g : GP} {I : IM} {S : SH} (pe sg g_ c t : Int32) (hF : Fx S) {n : Nat} (hn : Mp I n) {nq : Nat} (hq : Mq I nq) (hM : MIv I) {mm : Nat} (hm : Mm I mm) (hss : sg.toNatClampNeg < 120) (hok : myB I pe sg g_ c t = true) : ∀ a, a ≤ mm → ∀ J, Ex I J → Z g 8 0 0 mX7_may 58 [.ref 35, .int pe, .int (nI (sg.toNatClampNeg)), .int g_, .int c, .int t, .int ((maU (myC I n nq pe sg g_ c t) (myR I n nq sg g_ c t) a).1), .int ((maU (myC I n nq pe sg g_ c t) (myR I n nq sg g_ c t) a).2.1), .int (bI ((maU (myC I n nq pe sg g_ c t) (myR I n nq sg g_ c t) a).2.2.1)), .int (bI ((maU (myC I n nq pe sg g_ c t) (myR I n nq sg g_ c t) a).2.2.2.1)), .int (bI ((maU (myC I n nq pe sg g_ c t) (myR I n nq sg g_ c t) a).2.2.2.2)), .int (nI a), .retAddr 0] [] J S (NQ (.int (myM I n nq mm pe sg g_ c t)) I S) := by
  have hn2 := hn.2
  have hq2 := hq.2
  have hm2 := hm.2
  refine upZ mm (fun a hi ih J hE => ?_)
  refine Z.iload dX7_may_58 rfl ?_
  refine Z.aload_n dX7_may_60 rfl ?_
  refine Z.getIv (v := nI mm) dX7_may_61 cl7 flX7_83 (by decide) (fx35 hF) ((hE.at 35 10 rfl).trans hm.1) ?_
  refine Z.icmp_geN (a := a) (b := mm) (by omega) (by omega) (tgt := 200) dX7_may_64 (by decide) (fun h1 => ?_) (fun h1 => ?_)
  · refine Z.iload dX7_may_200 rfl ?_
    refine Z.if_lt (tgt := 213) dX7_may_202 (by decide) (fun h2 => ?_) (fun h2 => ?_)
    · refine Z.iload dX7_may_213 rfl ?_
      refine Z.if_eqB (tgt := 222) dX7_may_215 (by decide) (fun h3 => ?_) (fun h3 => ?_)
      · refine Z.iload dX7_may_222 rfl ?_
        refine Z.if_eqB (tgt := 231) dX7_may_224 (by decide) (fun h4 => ?_) (fun h4 => ?_)
        · refine Z.iload dX7_may_231 rfl ?_
          refine Z.if_eqB (tgt := 240) dX7_may_233 (by decide) (fun h5 => ?_) (fun h5 => ?_)
          · refine Z.iconst (v := 0) dX7_may_240 (by decide) ?_
            exact Z.iret dX7_may_241 rfl ⟨by have hie : a = mm := (by omega); subst hie; rw [myM, if_pos hok, maE]; simp [h2, h3, h4, h5], hE, rfl⟩
          · refine Z.iconst (v := 3) dX7_may_236 (by decide) ?_
            refine Z.goto (tgt := 241) dX7_may_237 (by decide) ?_
            exact Z.iret dX7_may_241 rfl ⟨by have hie : a = mm := (by omega); subst hie; rw [myM, if_pos hok, maE]; simp [h2, h3, h4, h5], hE, rfl⟩
        · refine Z.iconst (v := 2) dX7_may_227 (by decide) ?_
          refine Z.goto (tgt := 241) dX7_may_228 (by decide) ?_
          exact Z.iret dX7_may_241 rfl ⟨by have hie : a = mm := (by omega); subst hie; rw [myM, if_pos hok, maE]; simp [h2, h3, h4], hE, rfl⟩
      · refine Z.iconst (v := 1) dX7_may_218 (by decide) ?_
        refine Z.goto (tgt := 241) dX7_may_219 (by decide) ?_
        exact Z.iret dX7_may_241 rfl ⟨by have hie : a = mm := (by omega); subst hie; rw [myM, if_pos hok, maE]; simp [h2, h3], hE, rfl⟩
    · refine Z.bipush (v := 10) dX7_may_205 (by decide) ?_
      refine Z.iload dX7_may_207 rfl ?_
      refine Z.iadd dX7_may_209 ?_
      refine Z.goto (tgt := 241) dX7_may_210 (by decide) ?_
      exact Z.iret dX7_may_241 rfl ⟨by have hie : a = mm := (by omega); subst hie; rw [myM, if_pos hok, maE]; simp [h2], hE, rfl⟩
  · refine Z.iload dX7_may_67 rfl ?_
    refine Z.iload_n dX7_may_69 rfl ?_
    refine Z.icmp_eqN (a := a) (b := sg.toNatClampNeg) (by omega) (by omega) (tgt := 83) dX7_may_70 (by decide) (fun h6 => ?_) (fun h6 => ?_)
    · refine Z.aload_n dX7_may_83 rfl ?_
      refine Z.iload dX7_may_84 rfl ?_
      refine Z.iload_n dX7_may_86 rfl ?_
      refine Z.iload dX7_may_87 rfl ?_
      refine Z.iload dX7_may_89 rfl ?_
      refine Z.callVg (M := mX7_may) (pc := 91) (st := []) (N := mX7_nearRight) (n := 4) dX7_may_91 mlX7_215 mkX7_nearRight imX7_nearRight seX7_nearRight (fx35 hF) cl7 rfl (d1 := 5) (by decide) (As := [.int (nI a), .int g_, .int c, .int t]) rfl ⟨rfl, Nat.le_of_ble_eq_true rfl⟩ ⟨rfl, Nat.le_of_ble_eq_true rfl⟩ (ct_nearRight hE (nI a) g_ c t hF hn hq) rfl (fun v_ J1 S_ h_ => ?_)
      obtain ⟨rfl, fx_2, rfl, rfl⟩ := h_
      refine Z.goto (tgt := 98) dX7_may_94 (by decide) ?_
      refine Z.istore (L' := [.ref 35, .int pe, .int (nI (sg.toNatClampNeg)), .int g_, .int c, .int t, .int ((maU (myC I n nq pe sg g_ c t) (myR I n nq sg g_ c t) a).1), .int ((maU (myC I n nq pe sg g_ c t) (myR I n nq sg g_ c t) a).2.1), .int (bI ((maU (myC I n nq pe sg g_ c t) (myR I n nq sg g_ c t) a).2.2.1)), .int (bI ((maU (myC I n nq pe sg g_ c t) (myR I n nq sg g_ c t) a).2.2.2.1)), .int (bI ((maU (myC I n nq pe sg g_ c t) (myR I n nq sg g_ c t) a).2.2.2.2)), .int (nI a), .int (nrF I n nq (nI a) g_ c t)]) dX7_may_98 (Nat.le_of_ble_eq_true rfl) rfl ?_
      refine Z.iload dX7_may_100 rfl ?_
      refine Z.if_ge (tgt := 108) dX7_may_102 (by decide) (fun h7 => ?_) (fun h7 => ?_)
      · refine Z.aload_n dX7_may_108 rfl ?_
        refine Z.getR (r := 44) dX7_may_109 cl7 flX7_34 (by decide) (fx35 hF) rfl ?_
        refine Z.iload dX7_may_112 rfl ?_
        refine Z.ialdv (j := a) (v := I 44 a) dX7_may_114 (fx44 hF) rfl (by omega) (by decide) (hE.at 44 a rfl) ?_
        refine Z.iload_n dX7_may_115 rfl ?_
        refine Z.icmp_ne (tgt := 125) dX7_may_116 (by decide) (fun h8 => ?_) (fun h8 => ?_)
        · refine Z.aload_n dX7_may_125 rfl ?_
          refine Z.iload dX7_may_126 rfl ?_
          refine Z.iload_n dX7_may_128 rfl ?_
          refine Z.iload dX7_may_129 rfl ?_
          refine Z.callVp (M := mX7_may) (pc := 131) (st := []) (N := mX7_hasLeave) (n := 3) (r := .int (bI (leF (pM I n) (nI a) pe t))) dX7_may_131 mlX7_170 mkX7_hasLeave imX7_hasLeave seX7_hasLeave (fx35 hF) cl7 rfl (d1 := 1) (by decide) (As := [.int (nI a), .int pe, .int t]) rfl ⟨rfl, Nat.le_of_ble_eq_true rfl⟩ ⟨rfl, Nat.le_of_ble_eq_true rfl⟩ (ct_hasLeave (hE.up (a := 56) rfl) (nI a) pe t hF hn) rfl ?_
          refine Z.if_eqB (tgt := 143) dX7_may_134 (by decide) (fun h9 => ?_) (fun h9 => ?_)
          · refine Z.aload_n dX7_may_143 rfl ?_
            refine Z.getR (r := 43) dX7_may_144 cl7 flX7_31 (by decide) (fx35 hF) rfl ?_
            refine Z.iload dX7_may_147 rfl ?_
            refine Z.ialdv (j := a) (v := I 43 a) dX7_may_149 (fx43 hF) rfl (by omega) (by decide) (hE.at 43 a rfl) ?_
            refine Z.iconst (v := 3) dX7_may_150 (by decide) ?_
            refine Z.icmp_ne (tgt := 174) dX7_may_151 (by decide) (fun h10 => ?_) (fun h10 => ?_)
            · refine Z.iload dX7_may_174 rfl ?_
              refine Z.if_lt (tgt := 186) dX7_may_176 (by decide) (fun h11 => ?_) (fun h11 => ?_)
              · refine Z.iload dX7_may_186 rfl ?_
                refine Z.istore (L' := [.ref 35, .int pe, .int (nI (sg.toNatClampNeg)), .int g_, .int c, .int t, .int (nI a), .int ((maU (myC I n nq pe sg g_ c t) (myR I n nq sg g_ c t) a).2.1), .int (bI ((maU (myC I n nq pe sg g_ c t) (myR I n nq sg g_ c t) a).2.2.1)), .int (bI ((maU (myC I n nq pe sg g_ c t) (myR I n nq sg g_ c t) a).2.2.2.1)), .int (bI ((maU (myC I n nq pe sg g_ c t) (myR I n nq sg g_ c t) a).2.2.2.2)), .int (nI a), .int (nrF I n nq (nI a) g_ c t)]) dX7_may_188 (Nat.le_of_ble_eq_true rfl) rfl ?_
                refine Z.iload dX7_may_190 rfl ?_
                refine Z.istore (L' := [.ref 35, .int pe, .int (nI (sg.toNatClampNeg)), .int g_, .int c, .int t, .int (nI a), .int (nrF I n nq (nI a) g_ c t), .int (bI ((maU (myC I n nq pe sg g_ c t) (myR I n nq sg g_ c t) a).2.2.1)), .int (bI ((maU (myC I n nq pe sg g_ c t) (myR I n nq sg g_ c t) a).2.2.2.1)), .int (bI ((maU (myC I n nq pe sg g_ c t) (myR I n nq sg g_ c t) a).2.2.2.2)), .int (nI a), .int (nrF I n nq (nI a) g_ c t)]) dX7_may_192 (Nat.le_of_ble_eq_true rfl) rfl ?_
                refine Z.iinc (v := nI (a + 1)) (L' := [.ref 35, .int pe, .int (nI (sg.toNatClampNeg)), .int g_, .int c, .int t, .int (nI a), .int (nrF I n nq (nI a) g_ c t), .int (bI ((maU (myC I n nq pe sg g_ c t) (myR I n nq sg g_ c t) a).2.2.1)), .int (bI ((maU (myC I n nq pe sg g_ c t) (myR I n nq sg g_ c t) a).2.2.2.1)), .int (bI ((maU (myC I n nq pe sg g_ c t) (myR I n nq sg g_ c t) a).2.2.2.2)), .int (nI (a + 1)), .int (nrF I n nq (nI a) g_ c t)]) dX7_may_194 rfl (nI_1 _) rfl ?_
                refine Z.goto (tgt := 58) dX7_may_197 (by decide) ?_
                refine Z.drop (i := 12) (L' := [.ref 35, .int pe, .int (nI (sg.toNatClampNeg)), .int g_, .int c, .int t, .int (nI a), .int (nrF I n nq (nI a) g_ c t), .int (bI ((maU (myC I n nq pe sg g_ c t) (myR I n nq sg g_ c t) a).2.2.1)), .int (bI ((maU (myC I n nq pe sg g_ c t) (myR I n nq sg g_ c t) a).2.2.2.1)), .int (bI ((maU (myC I n nq pe sg g_ c t) (myR I n nq sg g_ c t) a).2.2.2.2)), .int (nI (a + 1)), .retAddr 0]) rfl ?_
                have e := ih (by omega) (va_up J 56 (fx_2)) (hE.up (a := 56) rfl)
                rw [show (maU (myC I n nq pe sg g_ c t) (myR I n nq sg g_ c t) (a + 1)) = (nI a, nrF I n nq (nI a) g_ c t, (maU (myC I n nq pe sg g_ c t) (myR I n nq sg g_ c t) a).2.2.1, (maU (myC I n nq pe sg g_ c t) (myR I n nq sg g_ c t) a).2.2.2.1, (maU (myC I n nq pe sg g_ c t) (myR I n nq sg g_ c t) a).2.2.2.2) by simp [maU, myC, myR, h1, eq_true h6, h7, h8, h9, h10, h11]] at e
                exact e
              · refine Z.iload dX7_may_179 rfl ?_
                refine Z.iload dX7_may_181 rfl ?_
                refine Z.icmp_ge (tgt := 194) dX7_may_183 (by decide) (fun h12 => ?_) (fun h12 => ?_)
                · refine Z.iinc (v := nI (a + 1)) (L' := [.ref 35, .int pe, .int (nI (sg.toNatClampNeg)), .int g_, .int c, .int t, .int ((maU (myC I n nq pe sg g_ c t) (myR I n nq sg g_ c t) a).1), .int ((maU (myC I n nq pe sg g_ c t) (myR I n nq sg g_ c t) a).2.1), .int (bI ((maU (myC I n nq pe sg g_ c t) (myR I n nq sg g_ c t) a).2.2.1)), .int (bI ((maU (myC I n nq pe sg g_ c t) (myR I n nq sg g_ c t) a).2.2.2.1)), .int (bI ((maU (myC I n nq pe sg g_ c t) (myR I n nq sg g_ c t) a).2.2.2.2)), .int (nI (a + 1)), .int (nrF I n nq (nI a) g_ c t)]) dX7_may_194 rfl (nI_1 _) rfl ?_
                  refine Z.goto (tgt := 58) dX7_may_197 (by decide) ?_
                  refine Z.drop (i := 12) (L' := [.ref 35, .int pe, .int (nI (sg.toNatClampNeg)), .int g_, .int c, .int t, .int ((maU (myC I n nq pe sg g_ c t) (myR I n nq sg g_ c t) a).1), .int ((maU (myC I n nq pe sg g_ c t) (myR I n nq sg g_ c t) a).2.1), .int (bI ((maU (myC I n nq pe sg g_ c t) (myR I n nq sg g_ c t) a).2.2.1)), .int (bI ((maU (myC I n nq pe sg g_ c t) (myR I n nq sg g_ c t) a).2.2.2.1)), .int (bI ((maU (myC I n nq pe sg g_ c t) (myR I n nq sg g_ c t) a).2.2.2.2)), .int (nI (a + 1)), .retAddr 0]) rfl ?_
                  have e := ih (by omega) (va_up J 56 (fx_2)) (hE.up (a := 56) rfl)
                  rw [show (maU (myC I n nq pe sg g_ c t) (myR I n nq sg g_ c t) (a + 1)) = (maU (myC I n nq pe sg g_ c t) (myR I n nq sg g_ c t) a) by simp [maU, myC, myR, h1, eq_true h6, h7, h8, h9, h10, h11, h12]] at e
                  exact e
                · refine Z.iload dX7_may_186 rfl ?_
                  refine Z.istore (L' := [.ref 35, .int pe, .int (nI (sg.toNatClampNeg)), .int g_, .int c, .int t, .int (nI a), .int ((maU (myC I n nq pe sg g_ c t) (myR I n nq sg g_ c t) a).2.1), .int (bI ((maU (myC I n nq pe sg g_ c t) (myR I n nq sg g_ c t) a).2.2.1)), .int (bI ((maU (myC I n nq pe sg g_ c t) (myR I n nq sg g_ c t) a).2.2.2.1)), .int (bI ((maU (myC I n nq pe sg g_ c t) (myR I n nq sg g_ c t) a).2.2.2.2)), .int (nI a), .int (nrF I n nq (nI a) g_ c t)]) dX7_may_188 (Nat.le_of_ble_eq_true rfl) rfl ?_
                  refine Z.iload dX7_may_190 rfl ?_
                  refine Z.istore (L' := [.ref 35, .int pe, .int (nI (sg.toNatClampNeg)), .int g_, .int c, .int t, .int (nI a), .int (nrF I n nq (nI a) g_ c t), .int (bI ((maU (myC I n nq pe sg g_ c t) (myR I n nq sg g_ c t) a).2.2.1)), .int (bI ((maU (myC I n nq pe sg g_ c t) (myR I n nq sg g_ c t) a).2.2.2.1)), .int (bI ((maU (myC I n nq pe sg g_ c t) (myR I n nq sg g_ c t) a).2.2.2.2)), .int (nI a), .int (nrF I n nq (nI a) g_ c t)]) dX7_may_192 (Nat.le_of_ble_eq_true rfl) rfl ?_
                  refine Z.iinc (v := nI (a + 1)) (L' := [.ref 35, .int pe, .int (nI (sg.toNatClampNeg)), .int g_, .int c, .int t, .int (nI a), .int (nrF I n nq (nI a) g_ c t), .int (bI ((maU (myC I n nq pe sg g_ c t) (myR I n nq sg g_ c t) a).2.2.1)), .int (bI ((maU (myC I n nq pe sg g_ c t) (myR I n nq sg g_ c t) a).2.2.2.1)), .int (bI ((maU (myC I n nq pe sg g_ c t) (myR I n nq sg g_ c t) a).2.2.2.2)), .int (nI (a + 1)), .int (nrF I n nq (nI a) g_ c t)]) dX7_may_194 rfl (nI_1 _) rfl ?_
                  refine Z.goto (tgt := 58) dX7_may_197 (by decide) ?_
                  refine Z.drop (i := 12) (L' := [.ref 35, .int pe, .int (nI (sg.toNatClampNeg)), .int g_, .int c, .int t, .int (nI a), .int (nrF I n nq (nI a) g_ c t), .int (bI ((maU (myC I n nq pe sg g_ c t) (myR I n nq sg g_ c t) a).2.2.1)), .int (bI ((maU (myC I n nq pe sg g_ c t) (myR I n nq sg g_ c t) a).2.2.2.1)), .int (bI ((maU (myC I n nq pe sg g_ c t) (myR I n nq sg g_ c t) a).2.2.2.2)), .int (nI (a + 1)), .retAddr 0]) rfl ?_
                  have e := ih (by omega) (va_up J 56 (fx_2)) (hE.up (a := 56) rfl)
                  rw [show (maU (myC I n nq pe sg g_ c t) (myR I n nq sg g_ c t) (a + 1)) = (nI a, nrF I n nq (nI a) g_ c t, (maU (myC I n nq pe sg g_ c t) (myR I n nq sg g_ c t) a).2.2.1, (maU (myC I n nq pe sg g_ c t) (myR I n nq sg g_ c t) a).2.2.2.1, (maU (myC I n nq pe sg g_ c t) (myR I n nq sg g_ c t) a).2.2.2.2) by simp [maU, myC, myR, h1, eq_true h6, h7, h8, h9, h10, h11, h12]] at e
                  exact e
            · refine Z.aload_n dX7_may_154 rfl ?_
              refine Z.bipush (v := 8) dX7_may_155 (by decide) ?_
              refine Z.iload dX7_may_157 rfl ?_
              refine Z.iload_n dX7_may_159 rfl ?_
              refine Z.iload dX7_may_160 rfl ?_
              refine Z.callVp (M := mX7_may) (pc := 162) (st := []) (N := mX7_latest) (n := 4) (r := .int (latF (pM I n) 8 (nI a) pe t)) dX7_may_162 mlX7_138 mkX7_latest imX7_latest seX7_latest (fx35 hF) cl7 rfl (d1 := 0) (by decide) (As := [.int 8, .int (nI a), .int pe, .int t]) rfl ⟨rfl, Nat.le_of_ble_eq_true rfl⟩ ⟨rfl, Nat.le_of_ble_eq_true rfl⟩ (ct_latest (hE.up (a := 56) rfl) 8 (nI a) pe t hF hn) rfl ?_
              refine Z.if_lt (tgt := 174) dX7_may_165 (by decide) (fun h13 => ?_) (fun h13 => ?_)
              · refine Z.iload dX7_may_174 rfl ?_
                refine Z.if_lt (tgt := 186) dX7_may_176 (by decide) (fun h14 => ?_) (fun h14 => ?_)
                · refine Z.iload dX7_may_186 rfl ?_
                  refine Z.istore (L' := [.ref 35, .int pe, .int (nI (sg.toNatClampNeg)), .int g_, .int c, .int t, .int (nI a), .int ((maU (myC I n nq pe sg g_ c t) (myR I n nq sg g_ c t) a).2.1), .int (bI ((maU (myC I n nq pe sg g_ c t) (myR I n nq sg g_ c t) a).2.2.1)), .int (bI ((maU (myC I n nq pe sg g_ c t) (myR I n nq sg g_ c t) a).2.2.2.1)), .int (bI ((maU (myC I n nq pe sg g_ c t) (myR I n nq sg g_ c t) a).2.2.2.2)), .int (nI a), .int (nrF I n nq (nI a) g_ c t)]) dX7_may_188 (Nat.le_of_ble_eq_true rfl) rfl ?_
                  refine Z.iload dX7_may_190 rfl ?_
                  refine Z.istore (L' := [.ref 35, .int pe, .int (nI (sg.toNatClampNeg)), .int g_, .int c, .int t, .int (nI a), .int (nrF I n nq (nI a) g_ c t), .int (bI ((maU (myC I n nq pe sg g_ c t) (myR I n nq sg g_ c t) a).2.2.1)), .int (bI ((maU (myC I n nq pe sg g_ c t) (myR I n nq sg g_ c t) a).2.2.2.1)), .int (bI ((maU (myC I n nq pe sg g_ c t) (myR I n nq sg g_ c t) a).2.2.2.2)), .int (nI a), .int (nrF I n nq (nI a) g_ c t)]) dX7_may_192 (Nat.le_of_ble_eq_true rfl) rfl ?_
                  refine Z.iinc (v := nI (a + 1)) (L' := [.ref 35, .int pe, .int (nI (sg.toNatClampNeg)), .int g_, .int c, .int t, .int (nI a), .int (nrF I n nq (nI a) g_ c t), .int (bI ((maU (myC I n nq pe sg g_ c t) (myR I n nq sg g_ c t) a).2.2.1)), .int (bI ((maU (myC I n nq pe sg g_ c t) (myR I n nq sg g_ c t) a).2.2.2.1)), .int (bI ((maU (myC I n nq pe sg g_ c t) (myR I n nq sg g_ c t) a).2.2.2.2)), .int (nI (a + 1)), .int (nrF I n nq (nI a) g_ c t)]) dX7_may_194 rfl (nI_1 _) rfl ?_
                  refine Z.goto (tgt := 58) dX7_may_197 (by decide) ?_
                  refine Z.drop (i := 12) (L' := [.ref 35, .int pe, .int (nI (sg.toNatClampNeg)), .int g_, .int c, .int t, .int (nI a), .int (nrF I n nq (nI a) g_ c t), .int (bI ((maU (myC I n nq pe sg g_ c t) (myR I n nq sg g_ c t) a).2.2.1)), .int (bI ((maU (myC I n nq pe sg g_ c t) (myR I n nq sg g_ c t) a).2.2.2.1)), .int (bI ((maU (myC I n nq pe sg g_ c t) (myR I n nq sg g_ c t) a).2.2.2.2)), .int (nI (a + 1)), .retAddr 0]) rfl ?_
                  have e := ih (by omega) (va_up J 56 (fx_2)) (hE.up (a := 56) rfl)
                  rw [show (maU (myC I n nq pe sg g_ c t) (myR I n nq sg g_ c t) (a + 1)) = (nI a, nrF I n nq (nI a) g_ c t, (maU (myC I n nq pe sg g_ c t) (myR I n nq sg g_ c t) a).2.2.1, (maU (myC I n nq pe sg g_ c t) (myR I n nq sg g_ c t) a).2.2.2.1, (maU (myC I n nq pe sg g_ c t) (myR I n nq sg g_ c t) a).2.2.2.2) by simp [maU, myC, myR, h1, eq_true h6, h7, h8, h9, eq_true h10, h13, h14]] at e
                  exact e
                · refine Z.iload dX7_may_179 rfl ?_
                  refine Z.iload dX7_may_181 rfl ?_
                  refine Z.icmp_ge (tgt := 194) dX7_may_183 (by decide) (fun h15 => ?_) (fun h15 => ?_)
                  · refine Z.iinc (v := nI (a + 1)) (L' := [.ref 35, .int pe, .int (nI (sg.toNatClampNeg)), .int g_, .int c, .int t, .int ((maU (myC I n nq pe sg g_ c t) (myR I n nq sg g_ c t) a).1), .int ((maU (myC I n nq pe sg g_ c t) (myR I n nq sg g_ c t) a).2.1), .int (bI ((maU (myC I n nq pe sg g_ c t) (myR I n nq sg g_ c t) a).2.2.1)), .int (bI ((maU (myC I n nq pe sg g_ c t) (myR I n nq sg g_ c t) a).2.2.2.1)), .int (bI ((maU (myC I n nq pe sg g_ c t) (myR I n nq sg g_ c t) a).2.2.2.2)), .int (nI (a + 1)), .int (nrF I n nq (nI a) g_ c t)]) dX7_may_194 rfl (nI_1 _) rfl ?_
                    refine Z.goto (tgt := 58) dX7_may_197 (by decide) ?_
                    refine Z.drop (i := 12) (L' := [.ref 35, .int pe, .int (nI (sg.toNatClampNeg)), .int g_, .int c, .int t, .int ((maU (myC I n nq pe sg g_ c t) (myR I n nq sg g_ c t) a).1), .int ((maU (myC I n nq pe sg g_ c t) (myR I n nq sg g_ c t) a).2.1), .int (bI ((maU (myC I n nq pe sg g_ c t) (myR I n nq sg g_ c t) a).2.2.1)), .int (bI ((maU (myC I n nq pe sg g_ c t) (myR I n nq sg g_ c t) a).2.2.2.1)), .int (bI ((maU (myC I n nq pe sg g_ c t) (myR I n nq sg g_ c t) a).2.2.2.2)), .int (nI (a + 1)), .retAddr 0]) rfl ?_
                    have e := ih (by omega) (va_up J 56 (fx_2)) (hE.up (a := 56) rfl)
                    rw [show (maU (myC I n nq pe sg g_ c t) (myR I n nq sg g_ c t) (a + 1)) = (maU (myC I n nq pe sg g_ c t) (myR I n nq sg g_ c t) a) by simp [maU, myC, myR, h1, eq_true h6, h7, h8, h9, eq_true h10, h13, h14, h15]] at e
                    exact e
                  · refine Z.iload dX7_may_186 rfl ?_
                    refine Z.istore (L' := [.ref 35, .int pe, .int (nI (sg.toNatClampNeg)), .int g_, .int c, .int t, .int (nI a), .int ((maU (myC I n nq pe sg g_ c t) (myR I n nq sg g_ c t) a).2.1), .int (bI ((maU (myC I n nq pe sg g_ c t) (myR I n nq sg g_ c t) a).2.2.1)), .int (bI ((maU (myC I n nq pe sg g_ c t) (myR I n nq sg g_ c t) a).2.2.2.1)), .int (bI ((maU (myC I n nq pe sg g_ c t) (myR I n nq sg g_ c t) a).2.2.2.2)), .int (nI a), .int (nrF I n nq (nI a) g_ c t)]) dX7_may_188 (Nat.le_of_ble_eq_true rfl) rfl ?_
                    refine Z.iload dX7_may_190 rfl ?_
                    refine Z.istore (L' := [.ref 35, .int pe, .int (nI (sg.toNatClampNeg)), .int g_, .int c, .int t, .int (nI a), .int (nrF I n nq (nI a) g_ c t), .int (bI ((maU (myC I n nq pe sg g_ c t) (myR I n nq sg g_ c t) a).2.2.1)), .int (bI ((maU (myC I n nq pe sg g_ c t) (myR I n nq sg g_ c t) a).2.2.2.1)), .int (bI ((maU (myC I n nq pe sg g_ c t) (myR I n nq sg g_ c t) a).2.2.2.2)), .int (nI a), .int (nrF I n nq (nI a) g_ c t)]) dX7_may_192 (Nat.le_of_ble_eq_true rfl) rfl ?_
                    refine Z.iinc (v := nI (a + 1)) (L' := [.ref 35, .int pe, .int (nI (sg.toNatClampNeg)), .int g_, .int c, .int t, .int (nI a), .int (nrF I n nq (nI a) g_ c t), .int (bI ((maU (myC I n nq pe sg g_ c t) (myR I n nq sg g_ c t) a).2.2.1)), .int (bI ((maU (myC I n nq pe sg g_ c t) (myR I n nq sg g_ c t) a).2.2.2.1)), .int (bI ((maU (myC I n nq pe sg g_ c t) (myR I n nq sg g_ c t) a).2.2.2.2)), .int (nI (a + 1)), .int (nrF I n nq (nI a) g_ c t)]) dX7_may_194 rfl (nI_1 _) rfl ?_
                    refine Z.goto (tgt := 58) dX7_may_197 (by decide) ?_
                    refine Z.drop (i := 12) (L' := [.ref 35, .int pe, .int (nI (sg.toNatClampNeg)), .int g_, .int c, .int t, .int (nI a), .int (nrF I n nq (nI a) g_ c t), .int (bI ((maU (myC I n nq pe sg g_ c t) (myR I n nq sg g_ c t) a).2.2.1)), .int (bI ((maU (myC I n nq pe sg g_ c t) (myR I n nq sg g_ c t) a).2.2.2.1)), .int (bI ((maU (myC I n nq pe sg g_ c t) (myR I n nq sg g_ c t) a).2.2.2.2)), .int (nI (a + 1)), .retAddr 0]) rfl ?_
                    have e := ih (by omega) (va_up J 56 (fx_2)) (hE.up (a := 56) rfl)
                    rw [show (maU (myC I n nq pe sg g_ c t) (myR I n nq sg g_ c t) (a + 1)) = (nI a, nrF I n nq (nI a) g_ c t, (maU (myC I n nq pe sg g_ c t) (myR I n nq sg g_ c t) a).2.2.1, (maU (myC I n nq pe sg g_ c t) (myR I n nq sg g_ c t) a).2.2.2.1, (maU (myC I n nq pe sg g_ c t) (myR I n nq sg g_ c t) a).2.2.2.2) by simp [maU, myC, myR, h1, eq_true h6, h7, h8, h9, eq_true h10, h13, h14, h15]] at e
                    exact e
              · refine Z.iconst (v := 1) dX7_may_168 (by decide) ?_
                refine Z.istore (L' := [.ref 35, .int pe, .int (nI (sg.toNatClampNeg)), .int g_, .int c, .int t, .int ((maU (myC I n nq pe sg g_ c t) (myR I n nq sg g_ c t) a).1), .int ((maU (myC I n nq pe sg g_ c t) (myR I n nq sg g_ c t) a).2.1), .int (bI ((maU (myC I n nq pe sg g_ c t) (myR I n nq sg g_ c t) a).2.2.1)), .int (bI ((maU (myC I n nq pe sg g_ c t) (myR I n nq sg g_ c t) a).2.2.2.1)), .int 1, .int (nI a), .int (nrF I n nq (nI a) g_ c t)]) dX7_may_169 (Nat.le_of_ble_eq_true rfl) rfl ?_
                refine Z.goto (tgt := 194) dX7_may_171 (by decide) ?_
                refine Z.iinc (v := nI (a + 1)) (L' := [.ref 35, .int pe, .int (nI (sg.toNatClampNeg)), .int g_, .int c, .int t, .int ((maU (myC I n nq pe sg g_ c t) (myR I n nq sg g_ c t) a).1), .int ((maU (myC I n nq pe sg g_ c t) (myR I n nq sg g_ c t) a).2.1), .int (bI ((maU (myC I n nq pe sg g_ c t) (myR I n nq sg g_ c t) a).2.2.1)), .int (bI ((maU (myC I n nq pe sg g_ c t) (myR I n nq sg g_ c t) a).2.2.2.1)), .int 1, .int (nI (a + 1)), .int (nrF I n nq (nI a) g_ c t)]) dX7_may_194 rfl (nI_1 _) rfl ?_
                refine Z.goto (tgt := 58) dX7_may_197 (by decide) ?_
                refine Z.drop (i := 12) (L' := [.ref 35, .int pe, .int (nI (sg.toNatClampNeg)), .int g_, .int c, .int t, .int ((maU (myC I n nq pe sg g_ c t) (myR I n nq sg g_ c t) a).1), .int ((maU (myC I n nq pe sg g_ c t) (myR I n nq sg g_ c t) a).2.1), .int (bI ((maU (myC I n nq pe sg g_ c t) (myR I n nq sg g_ c t) a).2.2.1)), .int (bI ((maU (myC I n nq pe sg g_ c t) (myR I n nq sg g_ c t) a).2.2.2.1)), .int 1, .int (nI (a + 1)), .retAddr 0]) rfl ?_
                have e := ih (by omega) (va_up J 56 (fx_2)) (hE.up (a := 56) rfl)
                rw [show (maU (myC I n nq pe sg g_ c t) (myR I n nq sg g_ c t) (a + 1)) = ((maU (myC I n nq pe sg g_ c t) (myR I n nq sg g_ c t) a).1, (maU (myC I n nq pe sg g_ c t) (myR I n nq sg g_ c t) a).2.1, (maU (myC I n nq pe sg g_ c t) (myR I n nq sg g_ c t) a).2.2.1, (maU (myC I n nq pe sg g_ c t) (myR I n nq sg g_ c t) a).2.2.2.1, true) by simp [maU, myC, myR, h1, eq_true h6, h7, h8, h9, eq_true h10, h13]] at e
                exact e
          · refine Z.iconst (v := 1) dX7_may_137 (by decide) ?_
            refine Z.istore (L' := [.ref 35, .int pe, .int (nI (sg.toNatClampNeg)), .int g_, .int c, .int t, .int ((maU (myC I n nq pe sg g_ c t) (myR I n nq sg g_ c t) a).1), .int ((maU (myC I n nq pe sg g_ c t) (myR I n nq sg g_ c t) a).2.1), .int (bI ((maU (myC I n nq pe sg g_ c t) (myR I n nq sg g_ c t) a).2.2.1)), .int 1, .int (bI ((maU (myC I n nq pe sg g_ c t) (myR I n nq sg g_ c t) a).2.2.2.2)), .int (nI a), .int (nrF I n nq (nI a) g_ c t)]) dX7_may_138 (Nat.le_of_ble_eq_true rfl) rfl ?_
            refine Z.goto (tgt := 194) dX7_may_140 (by decide) ?_
            refine Z.iinc (v := nI (a + 1)) (L' := [.ref 35, .int pe, .int (nI (sg.toNatClampNeg)), .int g_, .int c, .int t, .int ((maU (myC I n nq pe sg g_ c t) (myR I n nq sg g_ c t) a).1), .int ((maU (myC I n nq pe sg g_ c t) (myR I n nq sg g_ c t) a).2.1), .int (bI ((maU (myC I n nq pe sg g_ c t) (myR I n nq sg g_ c t) a).2.2.1)), .int 1, .int (bI ((maU (myC I n nq pe sg g_ c t) (myR I n nq sg g_ c t) a).2.2.2.2)), .int (nI (a + 1)), .int (nrF I n nq (nI a) g_ c t)]) dX7_may_194 rfl (nI_1 _) rfl ?_
            refine Z.goto (tgt := 58) dX7_may_197 (by decide) ?_
            refine Z.drop (i := 12) (L' := [.ref 35, .int pe, .int (nI (sg.toNatClampNeg)), .int g_, .int c, .int t, .int ((maU (myC I n nq pe sg g_ c t) (myR I n nq sg g_ c t) a).1), .int ((maU (myC I n nq pe sg g_ c t) (myR I n nq sg g_ c t) a).2.1), .int (bI ((maU (myC I n nq pe sg g_ c t) (myR I n nq sg g_ c t) a).2.2.1)), .int 1, .int (bI ((maU (myC I n nq pe sg g_ c t) (myR I n nq sg g_ c t) a).2.2.2.2)), .int (nI (a + 1)), .retAddr 0]) rfl ?_
            have e := ih (by omega) (va_up J 56 (fx_2)) (hE.up (a := 56) rfl)
            rw [show (maU (myC I n nq pe sg g_ c t) (myR I n nq sg g_ c t) (a + 1)) = ((maU (myC I n nq pe sg g_ c t) (myR I n nq sg g_ c t) a).1, (maU (myC I n nq pe sg g_ c t) (myR I n nq sg g_ c t) a).2.1, (maU (myC I n nq pe sg g_ c t) (myR I n nq sg g_ c t) a).2.2.1, true, (maU (myC I n nq pe sg g_ c t) (myR I n nq sg g_ c t) a).2.2.2.2) by simp [maU, myC, myR, h1, eq_true h6, h7, h8, h9]] at e
            exact e
        · refine Z.iconst (v := 1) dX7_may_119 (by decide) ?_
          refine Z.istore (L' := [.ref 35, .int pe, .int (nI (sg.toNatClampNeg)), .int g_, .int c, .int t, .int ((maU (myC I n nq pe sg g_ c t) (myR I n nq sg g_ c t) a).1), .int ((maU (myC I n nq pe sg g_ c t) (myR I n nq sg g_ c t) a).2.1), .int 1, .int (bI ((maU (myC I n nq pe sg g_ c t) (myR I n nq sg g_ c t) a).2.2.2.1)), .int (bI ((maU (myC I n nq pe sg g_ c t) (myR I n nq sg g_ c t) a).2.2.2.2)), .int (nI a), .int (nrF I n nq (nI a) g_ c t)]) dX7_may_120 (Nat.le_of_ble_eq_true rfl) rfl ?_
          refine Z.goto (tgt := 194) dX7_may_122 (by decide) ?_
          refine Z.iinc (v := nI (a + 1)) (L' := [.ref 35, .int pe, .int (nI (sg.toNatClampNeg)), .int g_, .int c, .int t, .int ((maU (myC I n nq pe sg g_ c t) (myR I n nq sg g_ c t) a).1), .int ((maU (myC I n nq pe sg g_ c t) (myR I n nq sg g_ c t) a).2.1), .int 1, .int (bI ((maU (myC I n nq pe sg g_ c t) (myR I n nq sg g_ c t) a).2.2.2.1)), .int (bI ((maU (myC I n nq pe sg g_ c t) (myR I n nq sg g_ c t) a).2.2.2.2)), .int (nI (a + 1)), .int (nrF I n nq (nI a) g_ c t)]) dX7_may_194 rfl (nI_1 _) rfl ?_
          refine Z.goto (tgt := 58) dX7_may_197 (by decide) ?_
          refine Z.drop (i := 12) (L' := [.ref 35, .int pe, .int (nI (sg.toNatClampNeg)), .int g_, .int c, .int t, .int ((maU (myC I n nq pe sg g_ c t) (myR I n nq sg g_ c t) a).1), .int ((maU (myC I n nq pe sg g_ c t) (myR I n nq sg g_ c t) a).2.1), .int 1, .int (bI ((maU (myC I n nq pe sg g_ c t) (myR I n nq sg g_ c t) a).2.2.2.1)), .int (bI ((maU (myC I n nq pe sg g_ c t) (myR I n nq sg g_ c t) a).2.2.2.2)), .int (nI (a + 1)), .retAddr 0]) rfl ?_
          have e := ih (by omega) (va_up J 56 (fx_2)) (hE.up (a := 56) rfl)
          rw [show (maU (myC I n nq pe sg g_ c t) (myR I n nq sg g_ c t) (a + 1)) = ((maU (myC I n nq pe sg g_ c t) (myR I n nq sg g_ c t) a).1, (maU (myC I n nq pe sg g_ c t) (myR I n nq sg g_ c t) a).2.1, true, (maU (myC I n nq pe sg g_ c t) (myR I n nq sg g_ c t) a).2.2.2.1, (maU (myC I n nq pe sg g_ c t) (myR I n nq sg g_ c t) a).2.2.2.2) by simp [maU, myC, myR, h1, eq_true h6, h7, eq_true h8]] at e
          exact e
      · refine Z.goto (tgt := 194) dX7_may_105 (by decide) ?_
        refine Z.iinc (v := nI (a + 1)) (L' := [.ref 35, .int pe, .int (nI (sg.toNatClampNeg)), .int g_, .int c, .int t, .int ((maU (myC I n nq pe sg g_ c t) (myR I n nq sg g_ c t) a).1), .int ((maU (myC I n nq pe sg g_ c t) (myR I n nq sg g_ c t) a).2.1), .int (bI ((maU (myC I n nq pe sg g_ c t) (myR I n nq sg g_ c t) a).2.2.1)), .int (bI ((maU (myC I n nq pe sg g_ c t) (myR I n nq sg g_ c t) a).2.2.2.1)), .int (bI ((maU (myC I n nq pe sg g_ c t) (myR I n nq sg g_ c t) a).2.2.2.2)), .int (nI (a + 1)), .int (nrF I n nq (nI a) g_ c t)]) dX7_may_194 rfl (nI_1 _) rfl ?_
        refine Z.goto (tgt := 58) dX7_may_197 (by decide) ?_
        refine Z.drop (i := 12) (L' := [.ref 35, .int pe, .int (nI (sg.toNatClampNeg)), .int g_, .int c, .int t, .int ((maU (myC I n nq pe sg g_ c t) (myR I n nq sg g_ c t) a).1), .int ((maU (myC I n nq pe sg g_ c t) (myR I n nq sg g_ c t) a).2.1), .int (bI ((maU (myC I n nq pe sg g_ c t) (myR I n nq sg g_ c t) a).2.2.1)), .int (bI ((maU (myC I n nq pe sg g_ c t) (myR I n nq sg g_ c t) a).2.2.2.1)), .int (bI ((maU (myC I n nq pe sg g_ c t) (myR I n nq sg g_ c t) a).2.2.2.2)), .int (nI (a + 1)), .retAddr 0]) rfl ?_
        have e := ih (by omega) (va_up J 56 (fx_2)) (hE.up (a := 56) rfl)
        rw [show (maU (myC I n nq pe sg g_ c t) (myR I n nq sg g_ c t) (a + 1)) = (maU (myC I n nq pe sg g_ c t) (myR I n nq sg g_ c t) a) by simp [maU, myC, myR, h1, eq_true h6, h7]] at e
        exact e
    · refine Z.aload_n dX7_may_73 rfl ?_
      refine Z.iload dX7_may_74 rfl ?_
      refine Z.iload_n dX7_may_76 rfl ?_
      refine Z.callVg (M := mX7_may) (pc := 77) (st := []) (N := mX7_isAlike) (n := 2) dX7_may_77 mlX7_173 mkX7_isAlike imX7_isAlike seX7_isAlike (fx35 hF) cl7 rfl (d1 := 5) (by decide) (As := [.int (nI a), .int (nI (sg.toNatClampNeg))]) rfl ⟨rfl, Nat.le_of_ble_eq_true rfl⟩ ⟨rfl, Nat.le_of_ble_eq_true rfl⟩ (ct_isAlike hE a sg.toNatClampNeg hF hM (by omega) (by omega)) rfl (fun v_ J3 S_ h_ => ?_)
      obtain ⟨rfl, hE, rfl⟩ := h_
      refine Z.if_eqB (tgt := 97) dX7_may_80 (by decide) (fun h16 => ?_) (fun h16 => ?_)
      · refine Z.iconst (v := (-1)) dX7_may_97 (by decide) ?_
        refine Z.istore (L' := [.ref 35, .int pe, .int (nI (sg.toNatClampNeg)), .int g_, .int c, .int t, .int ((maU (myC I n nq pe sg g_ c t) (myR I n nq sg g_ c t) a).1), .int ((maU (myC I n nq pe sg g_ c t) (myR I n nq sg g_ c t) a).2.1), .int (bI ((maU (myC I n nq pe sg g_ c t) (myR I n nq sg g_ c t) a).2.2.1)), .int (bI ((maU (myC I n nq pe sg g_ c t) (myR I n nq sg g_ c t) a).2.2.2.1)), .int (bI ((maU (myC I n nq pe sg g_ c t) (myR I n nq sg g_ c t) a).2.2.2.2)), .int (nI a), .int ((-1))]) dX7_may_98 (Nat.le_of_ble_eq_true rfl) rfl ?_
        refine Z.iload dX7_may_100 rfl ?_
        refine Z.if_ge (tgt := 108) dX7_may_102 (by decide) (fun h17 => absurd h17 (by decide)) (fun h17 => ?_)
        refine Z.goto (tgt := 194) dX7_may_105 (by decide) ?_
        refine Z.iinc (v := nI (a + 1)) (L' := [.ref 35, .int pe, .int (nI (sg.toNatClampNeg)), .int g_, .int c, .int t, .int ((maU (myC I n nq pe sg g_ c t) (myR I n nq sg g_ c t) a).1), .int ((maU (myC I n nq pe sg g_ c t) (myR I n nq sg g_ c t) a).2.1), .int (bI ((maU (myC I n nq pe sg g_ c t) (myR I n nq sg g_ c t) a).2.2.1)), .int (bI ((maU (myC I n nq pe sg g_ c t) (myR I n nq sg g_ c t) a).2.2.2.1)), .int (bI ((maU (myC I n nq pe sg g_ c t) (myR I n nq sg g_ c t) a).2.2.2.2)), .int (nI (a + 1)), .int ((-1))]) dX7_may_194 rfl (nI_1 _) rfl ?_
        refine Z.goto (tgt := 58) dX7_may_197 (by decide) ?_
        refine Z.drop (i := 12) (L' := [.ref 35, .int pe, .int (nI (sg.toNatClampNeg)), .int g_, .int c, .int t, .int ((maU (myC I n nq pe sg g_ c t) (myR I n nq sg g_ c t) a).1), .int ((maU (myC I n nq pe sg g_ c t) (myR I n nq sg g_ c t) a).2.1), .int (bI ((maU (myC I n nq pe sg g_ c t) (myR I n nq sg g_ c t) a).2.2.1)), .int (bI ((maU (myC I n nq pe sg g_ c t) (myR I n nq sg g_ c t) a).2.2.2.1)), .int (bI ((maU (myC I n nq pe sg g_ c t) (myR I n nq sg g_ c t) a).2.2.2.2)), .int (nI (a + 1)), .retAddr 0]) rfl ?_
        have e := ih (by omega) J3 hE
        rw [show (maU (myC I n nq pe sg g_ c t) (myR I n nq sg g_ c t) (a + 1)) = (maU (myC I n nq pe sg g_ c t) (myR I n nq sg g_ c t) a) by simp [maU, myC, myR, h1, h6, h16]] at e
        exact e
      · refine Z.aload_n dX7_may_83 rfl ?_
        refine Z.iload dX7_may_84 rfl ?_
        refine Z.iload_n dX7_may_86 rfl ?_
        refine Z.iload dX7_may_87 rfl ?_
        refine Z.iload dX7_may_89 rfl ?_
        refine Z.callVg (M := mX7_may) (pc := 91) (st := []) (N := mX7_nearRight) (n := 4) dX7_may_91 mlX7_215 mkX7_nearRight imX7_nearRight seX7_nearRight (fx35 hF) cl7 rfl (d1 := 5) (by decide) (As := [.int (nI a), .int g_, .int c, .int t]) rfl ⟨rfl, Nat.le_of_ble_eq_true rfl⟩ ⟨rfl, Nat.le_of_ble_eq_true rfl⟩ (ct_nearRight hE (nI a) g_ c t hF hn hq) rfl (fun v_ J4 S_ h_ => ?_)
        obtain ⟨rfl, fx_5, rfl, rfl⟩ := h_
        refine Z.goto (tgt := 98) dX7_may_94 (by decide) ?_
        refine Z.istore (L' := [.ref 35, .int pe, .int (nI (sg.toNatClampNeg)), .int g_, .int c, .int t, .int ((maU (myC I n nq pe sg g_ c t) (myR I n nq sg g_ c t) a).1), .int ((maU (myC I n nq pe sg g_ c t) (myR I n nq sg g_ c t) a).2.1), .int (bI ((maU (myC I n nq pe sg g_ c t) (myR I n nq sg g_ c t) a).2.2.1)), .int (bI ((maU (myC I n nq pe sg g_ c t) (myR I n nq sg g_ c t) a).2.2.2.1)), .int (bI ((maU (myC I n nq pe sg g_ c t) (myR I n nq sg g_ c t) a).2.2.2.2)), .int (nI a), .int (nrF I n nq (nI a) g_ c t)]) dX7_may_98 (Nat.le_of_ble_eq_true rfl) rfl ?_
        refine Z.iload dX7_may_100 rfl ?_
        refine Z.if_ge (tgt := 108) dX7_may_102 (by decide) (fun h18 => ?_) (fun h18 => ?_)
        · refine Z.aload_n dX7_may_108 rfl ?_
          refine Z.getR (r := 44) dX7_may_109 cl7 flX7_34 (by decide) (fx35 hF) rfl ?_
          refine Z.iload dX7_may_112 rfl ?_
          refine Z.ialdv (j := a) (v := I 44 a) dX7_may_114 (fx44 hF) rfl (by omega) (by decide) (hE.at 44 a rfl) ?_
          refine Z.iload_n dX7_may_115 rfl ?_
          refine Z.icmp_ne (tgt := 125) dX7_may_116 (by decide) (fun h19 => ?_) (fun h19 => ?_)
          · refine Z.aload_n dX7_may_125 rfl ?_
            refine Z.iload dX7_may_126 rfl ?_
            refine Z.iload_n dX7_may_128 rfl ?_
            refine Z.iload dX7_may_129 rfl ?_
            refine Z.callVp (M := mX7_may) (pc := 131) (st := []) (N := mX7_hasLeave) (n := 3) (r := .int (bI (leF (pM I n) (nI a) pe t))) dX7_may_131 mlX7_170 mkX7_hasLeave imX7_hasLeave seX7_hasLeave (fx35 hF) cl7 rfl (d1 := 1) (by decide) (As := [.int (nI a), .int pe, .int t]) rfl ⟨rfl, Nat.le_of_ble_eq_true rfl⟩ ⟨rfl, Nat.le_of_ble_eq_true rfl⟩ (ct_hasLeave (hE.up (a := 56) rfl) (nI a) pe t hF hn) rfl ?_
            refine Z.if_eqB (tgt := 143) dX7_may_134 (by decide) (fun h20 => ?_) (fun h20 => ?_)
            · refine Z.aload_n dX7_may_143 rfl ?_
              refine Z.getR (r := 43) dX7_may_144 cl7 flX7_31 (by decide) (fx35 hF) rfl ?_
              refine Z.iload dX7_may_147 rfl ?_
              refine Z.ialdv (j := a) (v := I 43 a) dX7_may_149 (fx43 hF) rfl (by omega) (by decide) (hE.at 43 a rfl) ?_
              refine Z.iconst (v := 3) dX7_may_150 (by decide) ?_
              refine Z.icmp_ne (tgt := 174) dX7_may_151 (by decide) (fun h21 => ?_) (fun h21 => ?_)
              · refine Z.iload dX7_may_174 rfl ?_
                refine Z.if_lt (tgt := 186) dX7_may_176 (by decide) (fun h22 => ?_) (fun h22 => ?_)
                · refine Z.iload dX7_may_186 rfl ?_
                  refine Z.istore (L' := [.ref 35, .int pe, .int (nI (sg.toNatClampNeg)), .int g_, .int c, .int t, .int (nI a), .int ((maU (myC I n nq pe sg g_ c t) (myR I n nq sg g_ c t) a).2.1), .int (bI ((maU (myC I n nq pe sg g_ c t) (myR I n nq sg g_ c t) a).2.2.1)), .int (bI ((maU (myC I n nq pe sg g_ c t) (myR I n nq sg g_ c t) a).2.2.2.1)), .int (bI ((maU (myC I n nq pe sg g_ c t) (myR I n nq sg g_ c t) a).2.2.2.2)), .int (nI a), .int (nrF I n nq (nI a) g_ c t)]) dX7_may_188 (Nat.le_of_ble_eq_true rfl) rfl ?_
                  refine Z.iload dX7_may_190 rfl ?_
                  refine Z.istore (L' := [.ref 35, .int pe, .int (nI (sg.toNatClampNeg)), .int g_, .int c, .int t, .int (nI a), .int (nrF I n nq (nI a) g_ c t), .int (bI ((maU (myC I n nq pe sg g_ c t) (myR I n nq sg g_ c t) a).2.2.1)), .int (bI ((maU (myC I n nq pe sg g_ c t) (myR I n nq sg g_ c t) a).2.2.2.1)), .int (bI ((maU (myC I n nq pe sg g_ c t) (myR I n nq sg g_ c t) a).2.2.2.2)), .int (nI a), .int (nrF I n nq (nI a) g_ c t)]) dX7_may_192 (Nat.le_of_ble_eq_true rfl) rfl ?_
                  refine Z.iinc (v := nI (a + 1)) (L' := [.ref 35, .int pe, .int (nI (sg.toNatClampNeg)), .int g_, .int c, .int t, .int (nI a), .int (nrF I n nq (nI a) g_ c t), .int (bI ((maU (myC I n nq pe sg g_ c t) (myR I n nq sg g_ c t) a).2.2.1)), .int (bI ((maU (myC I n nq pe sg g_ c t) (myR I n nq sg g_ c t) a).2.2.2.1)), .int (bI ((maU (myC I n nq pe sg g_ c t) (myR I n nq sg g_ c t) a).2.2.2.2)), .int (nI (a + 1)), .int (nrF I n nq (nI a) g_ c t)]) dX7_may_194 rfl (nI_1 _) rfl ?_
                  refine Z.goto (tgt := 58) dX7_may_197 (by decide) ?_
                  refine Z.drop (i := 12) (L' := [.ref 35, .int pe, .int (nI (sg.toNatClampNeg)), .int g_, .int c, .int t, .int (nI a), .int (nrF I n nq (nI a) g_ c t), .int (bI ((maU (myC I n nq pe sg g_ c t) (myR I n nq sg g_ c t) a).2.2.1)), .int (bI ((maU (myC I n nq pe sg g_ c t) (myR I n nq sg g_ c t) a).2.2.2.1)), .int (bI ((maU (myC I n nq pe sg g_ c t) (myR I n nq sg g_ c t) a).2.2.2.2)), .int (nI (a + 1)), .retAddr 0]) rfl ?_
                  have e := ih (by omega) (va_up J3 56 (fx_5)) (hE.up (a := 56) rfl)
                  rw [show (maU (myC I n nq pe sg g_ c t) (myR I n nq sg g_ c t) (a + 1)) = (nI a, nrF I n nq (nI a) g_ c t, (maU (myC I n nq pe sg g_ c t) (myR I n nq sg g_ c t) a).2.2.1, (maU (myC I n nq pe sg g_ c t) (myR I n nq sg g_ c t) a).2.2.2.1, (maU (myC I n nq pe sg g_ c t) (myR I n nq sg g_ c t) a).2.2.2.2) by simp [maU, myC, myR, h1, h6, h16, h18, h19, h20, h21, h22]] at e
                  exact e
                · refine Z.iload dX7_may_179 rfl ?_
                  refine Z.iload dX7_may_181 rfl ?_
                  refine Z.icmp_ge (tgt := 194) dX7_may_183 (by decide) (fun h23 => ?_) (fun h23 => ?_)
                  · refine Z.iinc (v := nI (a + 1)) (L' := [.ref 35, .int pe, .int (nI (sg.toNatClampNeg)), .int g_, .int c, .int t, .int ((maU (myC I n nq pe sg g_ c t) (myR I n nq sg g_ c t) a).1), .int ((maU (myC I n nq pe sg g_ c t) (myR I n nq sg g_ c t) a).2.1), .int (bI ((maU (myC I n nq pe sg g_ c t) (myR I n nq sg g_ c t) a).2.2.1)), .int (bI ((maU (myC I n nq pe sg g_ c t) (myR I n nq sg g_ c t) a).2.2.2.1)), .int (bI ((maU (myC I n nq pe sg g_ c t) (myR I n nq sg g_ c t) a).2.2.2.2)), .int (nI (a + 1)), .int (nrF I n nq (nI a) g_ c t)]) dX7_may_194 rfl (nI_1 _) rfl ?_
                    refine Z.goto (tgt := 58) dX7_may_197 (by decide) ?_
                    refine Z.drop (i := 12) (L' := [.ref 35, .int pe, .int (nI (sg.toNatClampNeg)), .int g_, .int c, .int t, .int ((maU (myC I n nq pe sg g_ c t) (myR I n nq sg g_ c t) a).1), .int ((maU (myC I n nq pe sg g_ c t) (myR I n nq sg g_ c t) a).2.1), .int (bI ((maU (myC I n nq pe sg g_ c t) (myR I n nq sg g_ c t) a).2.2.1)), .int (bI ((maU (myC I n nq pe sg g_ c t) (myR I n nq sg g_ c t) a).2.2.2.1)), .int (bI ((maU (myC I n nq pe sg g_ c t) (myR I n nq sg g_ c t) a).2.2.2.2)), .int (nI (a + 1)), .retAddr 0]) rfl ?_
                    have e := ih (by omega) (va_up J3 56 (fx_5)) (hE.up (a := 56) rfl)
                    rw [show (maU (myC I n nq pe sg g_ c t) (myR I n nq sg g_ c t) (a + 1)) = (maU (myC I n nq pe sg g_ c t) (myR I n nq sg g_ c t) a) by simp [maU, myC, myR, h1, h6, h16, h18, h19, h20, h21, h22, h23]] at e
                    exact e
                  · refine Z.iload dX7_may_186 rfl ?_
                    refine Z.istore (L' := [.ref 35, .int pe, .int (nI (sg.toNatClampNeg)), .int g_, .int c, .int t, .int (nI a), .int ((maU (myC I n nq pe sg g_ c t) (myR I n nq sg g_ c t) a).2.1), .int (bI ((maU (myC I n nq pe sg g_ c t) (myR I n nq sg g_ c t) a).2.2.1)), .int (bI ((maU (myC I n nq pe sg g_ c t) (myR I n nq sg g_ c t) a).2.2.2.1)), .int (bI ((maU (myC I n nq pe sg g_ c t) (myR I n nq sg g_ c t) a).2.2.2.2)), .int (nI a), .int (nrF I n nq (nI a) g_ c t)]) dX7_may_188 (Nat.le_of_ble_eq_true rfl) rfl ?_
                    refine Z.iload dX7_may_190 rfl ?_
                    refine Z.istore (L' := [.ref 35, .int pe, .int (nI (sg.toNatClampNeg)), .int g_, .int c, .int t, .int (nI a), .int (nrF I n nq (nI a) g_ c t), .int (bI ((maU (myC I n nq pe sg g_ c t) (myR I n nq sg g_ c t) a).2.2.1)), .int (bI ((maU (myC I n nq pe sg g_ c t) (myR I n nq sg g_ c t) a).2.2.2.1)), .int (bI ((maU (myC I n nq pe sg g_ c t) (myR I n nq sg g_ c t) a).2.2.2.2)), .int (nI a), .int (nrF I n nq (nI a) g_ c t)]) dX7_may_192 (Nat.le_of_ble_eq_true rfl) rfl ?_
                    refine Z.iinc (v := nI (a + 1)) (L' := [.ref 35, .int pe, .int (nI (sg.toNatClampNeg)), .int g_, .int c, .int t, .int (nI a), .int (nrF I n nq (nI a) g_ c t), .int (bI ((maU (myC I n nq pe sg g_ c t) (myR I n nq sg g_ c t) a).2.2.1)), .int (bI ((maU (myC I n nq pe sg g_ c t) (myR I n nq sg g_ c t) a).2.2.2.1)), .int (bI ((maU (myC I n nq pe sg g_ c t) (myR I n nq sg g_ c t) a).2.2.2.2)), .int (nI (a + 1)), .int (nrF I n nq (nI a) g_ c t)]) dX7_may_194 rfl (nI_1 _) rfl ?_
                    refine Z.goto (tgt := 58) dX7_may_197 (by decide) ?_
                    refine Z.drop (i := 12) (L' := [.ref 35, .int pe, .int (nI (sg.toNatClampNeg)), .int g_, .int c, .int t, .int (nI a), .int (nrF I n nq (nI a) g_ c t), .int (bI ((maU (myC I n nq pe sg g_ c t) (myR I n nq sg g_ c t) a).2.2.1)), .int (bI ((maU (myC I n nq pe sg g_ c t) (myR I n nq sg g_ c t) a).2.2.2.1)), .int (bI ((maU (myC I n nq pe sg g_ c t) (myR I n nq sg g_ c t) a).2.2.2.2)), .int (nI (a + 1)), .retAddr 0]) rfl ?_
                    have e := ih (by omega) (va_up J3 56 (fx_5)) (hE.up (a := 56) rfl)
                    rw [show (maU (myC I n nq pe sg g_ c t) (myR I n nq sg g_ c t) (a + 1)) = (nI a, nrF I n nq (nI a) g_ c t, (maU (myC I n nq pe sg g_ c t) (myR I n nq sg g_ c t) a).2.2.1, (maU (myC I n nq pe sg g_ c t) (myR I n nq sg g_ c t) a).2.2.2.1, (maU (myC I n nq pe sg g_ c t) (myR I n nq sg g_ c t) a).2.2.2.2) by simp [maU, myC, myR, h1, h6, h16, h18, h19, h20, h21, h22, h23]] at e
                    exact e
              · refine Z.aload_n dX7_may_154 rfl ?_
                refine Z.bipush (v := 8) dX7_may_155 (by decide) ?_
                refine Z.iload dX7_may_157 rfl ?_
                refine Z.iload_n dX7_may_159 rfl ?_
                refine Z.iload dX7_may_160 rfl ?_
                refine Z.callVp (M := mX7_may) (pc := 162) (st := []) (N := mX7_latest) (n := 4) (r := .int (latF (pM I n) 8 (nI a) pe t)) dX7_may_162 mlX7_138 mkX7_latest imX7_latest seX7_latest (fx35 hF) cl7 rfl (d1 := 0) (by decide) (As := [.int 8, .int (nI a), .int pe, .int t]) rfl ⟨rfl, Nat.le_of_ble_eq_true rfl⟩ ⟨rfl, Nat.le_of_ble_eq_true rfl⟩ (ct_latest (hE.up (a := 56) rfl) 8 (nI a) pe t hF hn) rfl ?_
                refine Z.if_lt (tgt := 174) dX7_may_165 (by decide) (fun h24 => ?_) (fun h24 => ?_)
                · refine Z.iload dX7_may_174 rfl ?_
                  refine Z.if_lt (tgt := 186) dX7_may_176 (by decide) (fun h25 => ?_) (fun h25 => ?_)
                  · refine Z.iload dX7_may_186 rfl ?_
                    refine Z.istore (L' := [.ref 35, .int pe, .int (nI (sg.toNatClampNeg)), .int g_, .int c, .int t, .int (nI a), .int ((maU (myC I n nq pe sg g_ c t) (myR I n nq sg g_ c t) a).2.1), .int (bI ((maU (myC I n nq pe sg g_ c t) (myR I n nq sg g_ c t) a).2.2.1)), .int (bI ((maU (myC I n nq pe sg g_ c t) (myR I n nq sg g_ c t) a).2.2.2.1)), .int (bI ((maU (myC I n nq pe sg g_ c t) (myR I n nq sg g_ c t) a).2.2.2.2)), .int (nI a), .int (nrF I n nq (nI a) g_ c t)]) dX7_may_188 (Nat.le_of_ble_eq_true rfl) rfl ?_
                    refine Z.iload dX7_may_190 rfl ?_
                    refine Z.istore (L' := [.ref 35, .int pe, .int (nI (sg.toNatClampNeg)), .int g_, .int c, .int t, .int (nI a), .int (nrF I n nq (nI a) g_ c t), .int (bI ((maU (myC I n nq pe sg g_ c t) (myR I n nq sg g_ c t) a).2.2.1)), .int (bI ((maU (myC I n nq pe sg g_ c t) (myR I n nq sg g_ c t) a).2.2.2.1)), .int (bI ((maU (myC I n nq pe sg g_ c t) (myR I n nq sg g_ c t) a).2.2.2.2)), .int (nI a), .int (nrF I n nq (nI a) g_ c t)]) dX7_may_192 (Nat.le_of_ble_eq_true rfl) rfl ?_
                    refine Z.iinc (v := nI (a + 1)) (L' := [.ref 35, .int pe, .int (nI (sg.toNatClampNeg)), .int g_, .int c, .int t, .int (nI a), .int (nrF I n nq (nI a) g_ c t), .int (bI ((maU (myC I n nq pe sg g_ c t) (myR I n nq sg g_ c t) a).2.2.1)), .int (bI ((maU (myC I n nq pe sg g_ c t) (myR I n nq sg g_ c t) a).2.2.2.1)), .int (bI ((maU (myC I n nq pe sg g_ c t) (myR I n nq sg g_ c t) a).2.2.2.2)), .int (nI (a + 1)), .int (nrF I n nq (nI a) g_ c t)]) dX7_may_194 rfl (nI_1 _) rfl ?_
                    refine Z.goto (tgt := 58) dX7_may_197 (by decide) ?_
                    refine Z.drop (i := 12) (L' := [.ref 35, .int pe, .int (nI (sg.toNatClampNeg)), .int g_, .int c, .int t, .int (nI a), .int (nrF I n nq (nI a) g_ c t), .int (bI ((maU (myC I n nq pe sg g_ c t) (myR I n nq sg g_ c t) a).2.2.1)), .int (bI ((maU (myC I n nq pe sg g_ c t) (myR I n nq sg g_ c t) a).2.2.2.1)), .int (bI ((maU (myC I n nq pe sg g_ c t) (myR I n nq sg g_ c t) a).2.2.2.2)), .int (nI (a + 1)), .retAddr 0]) rfl ?_
                    have e := ih (by omega) (va_up J3 56 (fx_5)) (hE.up (a := 56) rfl)
                    rw [show (maU (myC I n nq pe sg g_ c t) (myR I n nq sg g_ c t) (a + 1)) = (nI a, nrF I n nq (nI a) g_ c t, (maU (myC I n nq pe sg g_ c t) (myR I n nq sg g_ c t) a).2.2.1, (maU (myC I n nq pe sg g_ c t) (myR I n nq sg g_ c t) a).2.2.2.1, (maU (myC I n nq pe sg g_ c t) (myR I n nq sg g_ c t) a).2.2.2.2) by simp [maU, myC, myR, h1, h6, h16, h18, h19, h20, eq_true h21, h24, h25]] at e
                    exact e
                  · refine Z.iload dX7_may_179 rfl ?_
                    refine Z.iload dX7_may_181 rfl ?_
                    refine Z.icmp_ge (tgt := 194) dX7_may_183 (by decide) (fun h26 => ?_) (fun h26 => ?_)
                    · refine Z.iinc (v := nI (a + 1)) (L' := [.ref 35, .int pe, .int (nI (sg.toNatClampNeg)), .int g_, .int c, .int t, .int ((maU (myC I n nq pe sg g_ c t) (myR I n nq sg g_ c t) a).1), .int ((maU (myC I n nq pe sg g_ c t) (myR I n nq sg g_ c t) a).2.1), .int (bI ((maU (myC I n nq pe sg g_ c t) (myR I n nq sg g_ c t) a).2.2.1)), .int (bI ((maU (myC I n nq pe sg g_ c t) (myR I n nq sg g_ c t) a).2.2.2.1)), .int (bI ((maU (myC I n nq pe sg g_ c t) (myR I n nq sg g_ c t) a).2.2.2.2)), .int (nI (a + 1)), .int (nrF I n nq (nI a) g_ c t)]) dX7_may_194 rfl (nI_1 _) rfl ?_
                      refine Z.goto (tgt := 58) dX7_may_197 (by decide) ?_
                      refine Z.drop (i := 12) (L' := [.ref 35, .int pe, .int (nI (sg.toNatClampNeg)), .int g_, .int c, .int t, .int ((maU (myC I n nq pe sg g_ c t) (myR I n nq sg g_ c t) a).1), .int ((maU (myC I n nq pe sg g_ c t) (myR I n nq sg g_ c t) a).2.1), .int (bI ((maU (myC I n nq pe sg g_ c t) (myR I n nq sg g_ c t) a).2.2.1)), .int (bI ((maU (myC I n nq pe sg g_ c t) (myR I n nq sg g_ c t) a).2.2.2.1)), .int (bI ((maU (myC I n nq pe sg g_ c t) (myR I n nq sg g_ c t) a).2.2.2.2)), .int (nI (a + 1)), .retAddr 0]) rfl ?_
                      have e := ih (by omega) (va_up J3 56 (fx_5)) (hE.up (a := 56) rfl)
                      rw [show (maU (myC I n nq pe sg g_ c t) (myR I n nq sg g_ c t) (a + 1)) = (maU (myC I n nq pe sg g_ c t) (myR I n nq sg g_ c t) a) by simp [maU, myC, myR, h1, h6, h16, h18, h19, h20, eq_true h21, h24, h25, h26]] at e
                      exact e
                    · refine Z.iload dX7_may_186 rfl ?_
                      refine Z.istore (L' := [.ref 35, .int pe, .int (nI (sg.toNatClampNeg)), .int g_, .int c, .int t, .int (nI a), .int ((maU (myC I n nq pe sg g_ c t) (myR I n nq sg g_ c t) a).2.1), .int (bI ((maU (myC I n nq pe sg g_ c t) (myR I n nq sg g_ c t) a).2.2.1)), .int (bI ((maU (myC I n nq pe sg g_ c t) (myR I n nq sg g_ c t) a).2.2.2.1)), .int (bI ((maU (myC I n nq pe sg g_ c t) (myR I n nq sg g_ c t) a).2.2.2.2)), .int (nI a), .int (nrF I n nq (nI a) g_ c t)]) dX7_may_188 (Nat.le_of_ble_eq_true rfl) rfl ?_
                      refine Z.iload dX7_may_190 rfl ?_
                      refine Z.istore (L' := [.ref 35, .int pe, .int (nI (sg.toNatClampNeg)), .int g_, .int c, .int t, .int (nI a), .int (nrF I n nq (nI a) g_ c t), .int (bI ((maU (myC I n nq pe sg g_ c t) (myR I n nq sg g_ c t) a).2.2.1)), .int (bI ((maU (myC I n nq pe sg g_ c t) (myR I n nq sg g_ c t) a).2.2.2.1)), .int (bI ((maU (myC I n nq pe sg g_ c t) (myR I n nq sg g_ c t) a).2.2.2.2)), .int (nI a), .int (nrF I n nq (nI a) g_ c t)]) dX7_may_192 (Nat.le_of_ble_eq_true rfl) rfl ?_
                      refine Z.iinc (v := nI (a + 1)) (L' := [.ref 35, .int pe, .int (nI (sg.toNatClampNeg)), .int g_, .int c, .int t, .int (nI a), .int (nrF I n nq (nI a) g_ c t), .int (bI ((maU (myC I n nq pe sg g_ c t) (myR I n nq sg g_ c t) a).2.2.1)), .int (bI ((maU (myC I n nq pe sg g_ c t) (myR I n nq sg g_ c t) a).2.2.2.1)), .int (bI ((maU (myC I n nq pe sg g_ c t) (myR I n nq sg g_ c t) a).2.2.2.2)), .int (nI (a + 1)), .int (nrF I n nq (nI a) g_ c t)]) dX7_may_194 rfl (nI_1 _) rfl ?_
                      refine Z.goto (tgt := 58) dX7_may_197 (by decide) ?_
                      refine Z.drop (i := 12) (L' := [.ref 35, .int pe, .int (nI (sg.toNatClampNeg)), .int g_, .int c, .int t, .int (nI a), .int (nrF I n nq (nI a) g_ c t), .int (bI ((maU (myC I n nq pe sg g_ c t) (myR I n nq sg g_ c t) a).2.2.1)), .int (bI ((maU (myC I n nq pe sg g_ c t) (myR I n nq sg g_ c t) a).2.2.2.1)), .int (bI ((maU (myC I n nq pe sg g_ c t) (myR I n nq sg g_ c t) a).2.2.2.2)), .int (nI (a + 1)), .retAddr 0]) rfl ?_
                      have e := ih (by omega) (va_up J3 56 (fx_5)) (hE.up (a := 56) rfl)
                      rw [show (maU (myC I n nq pe sg g_ c t) (myR I n nq sg g_ c t) (a + 1)) = (nI a, nrF I n nq (nI a) g_ c t, (maU (myC I n nq pe sg g_ c t) (myR I n nq sg g_ c t) a).2.2.1, (maU (myC I n nq pe sg g_ c t) (myR I n nq sg g_ c t) a).2.2.2.1, (maU (myC I n nq pe sg g_ c t) (myR I n nq sg g_ c t) a).2.2.2.2) by simp [maU, myC, myR, h1, h6, h16, h18, h19, h20, eq_true h21, h24, h25, h26]] at e
                      exact e
                · refine Z.iconst (v := 1) dX7_may_168 (by decide) ?_
                  refine Z.istore (L' := [.ref 35, .int pe, .int (nI (sg.toNatClampNeg)), .int g_, .int c, .int t, .int ((maU (myC I n nq pe sg g_ c t) (myR I n nq sg g_ c t) a).1), .int ((maU (myC I n nq pe sg g_ c t) (myR I n nq sg g_ c t) a).2.1), .int (bI ((maU (myC I n nq pe sg g_ c t) (myR I n nq sg g_ c t) a).2.2.1)), .int (bI ((maU (myC I n nq pe sg g_ c t) (myR I n nq sg g_ c t) a).2.2.2.1)), .int 1, .int (nI a), .int (nrF I n nq (nI a) g_ c t)]) dX7_may_169 (Nat.le_of_ble_eq_true rfl) rfl ?_
                  refine Z.goto (tgt := 194) dX7_may_171 (by decide) ?_
                  refine Z.iinc (v := nI (a + 1)) (L' := [.ref 35, .int pe, .int (nI (sg.toNatClampNeg)), .int g_, .int c, .int t, .int ((maU (myC I n nq pe sg g_ c t) (myR I n nq sg g_ c t) a).1), .int ((maU (myC I n nq pe sg g_ c t) (myR I n nq sg g_ c t) a).2.1), .int (bI ((maU (myC I n nq pe sg g_ c t) (myR I n nq sg g_ c t) a).2.2.1)), .int (bI ((maU (myC I n nq pe sg g_ c t) (myR I n nq sg g_ c t) a).2.2.2.1)), .int 1, .int (nI (a + 1)), .int (nrF I n nq (nI a) g_ c t)]) dX7_may_194 rfl (nI_1 _) rfl ?_
                  refine Z.goto (tgt := 58) dX7_may_197 (by decide) ?_
                  refine Z.drop (i := 12) (L' := [.ref 35, .int pe, .int (nI (sg.toNatClampNeg)), .int g_, .int c, .int t, .int ((maU (myC I n nq pe sg g_ c t) (myR I n nq sg g_ c t) a).1), .int ((maU (myC I n nq pe sg g_ c t) (myR I n nq sg g_ c t) a).2.1), .int (bI ((maU (myC I n nq pe sg g_ c t) (myR I n nq sg g_ c t) a).2.2.1)), .int (bI ((maU (myC I n nq pe sg g_ c t) (myR I n nq sg g_ c t) a).2.2.2.1)), .int 1, .int (nI (a + 1)), .retAddr 0]) rfl ?_
                  have e := ih (by omega) (va_up J3 56 (fx_5)) (hE.up (a := 56) rfl)
                  rw [show (maU (myC I n nq pe sg g_ c t) (myR I n nq sg g_ c t) (a + 1)) = ((maU (myC I n nq pe sg g_ c t) (myR I n nq sg g_ c t) a).1, (maU (myC I n nq pe sg g_ c t) (myR I n nq sg g_ c t) a).2.1, (maU (myC I n nq pe sg g_ c t) (myR I n nq sg g_ c t) a).2.2.1, (maU (myC I n nq pe sg g_ c t) (myR I n nq sg g_ c t) a).2.2.2.1, true) by simp [maU, myC, myR, h1, h6, h16, h18, h19, h20, eq_true h21, h24]] at e
                  exact e
            · refine Z.iconst (v := 1) dX7_may_137 (by decide) ?_
              refine Z.istore (L' := [.ref 35, .int pe, .int (nI (sg.toNatClampNeg)), .int g_, .int c, .int t, .int ((maU (myC I n nq pe sg g_ c t) (myR I n nq sg g_ c t) a).1), .int ((maU (myC I n nq pe sg g_ c t) (myR I n nq sg g_ c t) a).2.1), .int (bI ((maU (myC I n nq pe sg g_ c t) (myR I n nq sg g_ c t) a).2.2.1)), .int 1, .int (bI ((maU (myC I n nq pe sg g_ c t) (myR I n nq sg g_ c t) a).2.2.2.2)), .int (nI a), .int (nrF I n nq (nI a) g_ c t)]) dX7_may_138 (Nat.le_of_ble_eq_true rfl) rfl ?_
              refine Z.goto (tgt := 194) dX7_may_140 (by decide) ?_
              refine Z.iinc (v := nI (a + 1)) (L' := [.ref 35, .int pe, .int (nI (sg.toNatClampNeg)), .int g_, .int c, .int t, .int ((maU (myC I n nq pe sg g_ c t) (myR I n nq sg g_ c t) a).1), .int ((maU (myC I n nq pe sg g_ c t) (myR I n nq sg g_ c t) a).2.1), .int (bI ((maU (myC I n nq pe sg g_ c t) (myR I n nq sg g_ c t) a).2.2.1)), .int 1, .int (bI ((maU (myC I n nq pe sg g_ c t) (myR I n nq sg g_ c t) a).2.2.2.2)), .int (nI (a + 1)), .int (nrF I n nq (nI a) g_ c t)]) dX7_may_194 rfl (nI_1 _) rfl ?_
              refine Z.goto (tgt := 58) dX7_may_197 (by decide) ?_
              refine Z.drop (i := 12) (L' := [.ref 35, .int pe, .int (nI (sg.toNatClampNeg)), .int g_, .int c, .int t, .int ((maU (myC I n nq pe sg g_ c t) (myR I n nq sg g_ c t) a).1), .int ((maU (myC I n nq pe sg g_ c t) (myR I n nq sg g_ c t) a).2.1), .int (bI ((maU (myC I n nq pe sg g_ c t) (myR I n nq sg g_ c t) a).2.2.1)), .int 1, .int (bI ((maU (myC I n nq pe sg g_ c t) (myR I n nq sg g_ c t) a).2.2.2.2)), .int (nI (a + 1)), .retAddr 0]) rfl ?_
              have e := ih (by omega) (va_up J3 56 (fx_5)) (hE.up (a := 56) rfl)
              rw [show (maU (myC I n nq pe sg g_ c t) (myR I n nq sg g_ c t) (a + 1)) = ((maU (myC I n nq pe sg g_ c t) (myR I n nq sg g_ c t) a).1, (maU (myC I n nq pe sg g_ c t) (myR I n nq sg g_ c t) a).2.1, (maU (myC I n nq pe sg g_ c t) (myR I n nq sg g_ c t) a).2.2.1, true, (maU (myC I n nq pe sg g_ c t) (myR I n nq sg g_ c t) a).2.2.2.2) by simp [maU, myC, myR, h1, h6, h16, h18, h19, h20]] at e
              exact e
          · refine Z.iconst (v := 1) dX7_may_119 (by decide) ?_
            refine Z.istore (L' := [.ref 35, .int pe, .int (nI (sg.toNatClampNeg)), .int g_, .int c, .int t, .int ((maU (myC I n nq pe sg g_ c t) (myR I n nq sg g_ c t) a).1), .int ((maU (myC I n nq pe sg g_ c t) (myR I n nq sg g_ c t) a).2.1), .int 1, .int (bI ((maU (myC I n nq pe sg g_ c t) (myR I n nq sg g_ c t) a).2.2.2.1)), .int (bI ((maU (myC I n nq pe sg g_ c t) (myR I n nq sg g_ c t) a).2.2.2.2)), .int (nI a), .int (nrF I n nq (nI a) g_ c t)]) dX7_may_120 (Nat.le_of_ble_eq_true rfl) rfl ?_
            refine Z.goto (tgt := 194) dX7_may_122 (by decide) ?_
            refine Z.iinc (v := nI (a + 1)) (L' := [.ref 35, .int pe, .int (nI (sg.toNatClampNeg)), .int g_, .int c, .int t, .int ((maU (myC I n nq pe sg g_ c t) (myR I n nq sg g_ c t) a).1), .int ((maU (myC I n nq pe sg g_ c t) (myR I n nq sg g_ c t) a).2.1), .int 1, .int (bI ((maU (myC I n nq pe sg g_ c t) (myR I n nq sg g_ c t) a).2.2.2.1)), .int (bI ((maU (myC I n nq pe sg g_ c t) (myR I n nq sg g_ c t) a).2.2.2.2)), .int (nI (a + 1)), .int (nrF I n nq (nI a) g_ c t)]) dX7_may_194 rfl (nI_1 _) rfl ?_
            refine Z.goto (tgt := 58) dX7_may_197 (by decide) ?_
            refine Z.drop (i := 12) (L' := [.ref 35, .int pe, .int (nI (sg.toNatClampNeg)), .int g_, .int c, .int t, .int ((maU (myC I n nq pe sg g_ c t) (myR I n nq sg g_ c t) a).1), .int ((maU (myC I n nq pe sg g_ c t) (myR I n nq sg g_ c t) a).2.1), .int 1, .int (bI ((maU (myC I n nq pe sg g_ c t) (myR I n nq sg g_ c t) a).2.2.2.1)), .int (bI ((maU (myC I n nq pe sg g_ c t) (myR I n nq sg g_ c t) a).2.2.2.2)), .int (nI (a + 1)), .retAddr 0]) rfl ?_
            have e := ih (by omega) (va_up J3 56 (fx_5)) (hE.up (a := 56) rfl)
            rw [show (maU (myC I n nq pe sg g_ c t) (myR I n nq sg g_ c t) (a + 1)) = ((maU (myC I n nq pe sg g_ c t) (myR I n nq sg g_ c t) a).1, (maU (myC I n nq pe sg g_ c t) (myR I n nq sg g_ c t) a).2.1, true, (maU (myC I n nq pe sg g_ c t) (myR I n nq sg g_ c t) a).2.2.2.1, (maU (myC I n nq pe sg g_ c t) (myR I n nq sg g_ c t) a).2.2.2.2) by simp [maU, myC, myR, h1, h6, h16, h18, eq_true h19]] at e
            exact e
        · refine Z.goto (tgt := 194) dX7_may_105 (by decide) ?_
          refine Z.iinc (v := nI (a + 1)) (L' := [.ref 35, .int pe, .int (nI (sg.toNatClampNeg)), .int g_, .int c, .int t, .int ((maU (myC I n nq pe sg g_ c t) (myR I n nq sg g_ c t) a).1), .int ((maU (myC I n nq pe sg g_ c t) (myR I n nq sg g_ c t) a).2.1), .int (bI ((maU (myC I n nq pe sg g_ c t) (myR I n nq sg g_ c t) a).2.2.1)), .int (bI ((maU (myC I n nq pe sg g_ c t) (myR I n nq sg g_ c t) a).2.2.2.1)), .int (bI ((maU (myC I n nq pe sg g_ c t) (myR I n nq sg g_ c t) a).2.2.2.2)), .int (nI (a + 1)), .int (nrF I n nq (nI a) g_ c t)]) dX7_may_194 rfl (nI_1 _) rfl ?_
          refine Z.goto (tgt := 58) dX7_may_197 (by decide) ?_
          refine Z.drop (i := 12) (L' := [.ref 35, .int pe, .int (nI (sg.toNatClampNeg)), .int g_, .int c, .int t, .int ((maU (myC I n nq pe sg g_ c t) (myR I n nq sg g_ c t) a).1), .int ((maU (myC I n nq pe sg g_ c t) (myR I n nq sg g_ c t) a).2.1), .int (bI ((maU (myC I n nq pe sg g_ c t) (myR I n nq sg g_ c t) a).2.2.1)), .int (bI ((maU (myC I n nq pe sg g_ c t) (myR I n nq sg g_ c t) a).2.2.2.1)), .int (bI ((maU (myC I n nq pe sg g_ c t) (myR I n nq sg g_ c t) a).2.2.2.2)), .int (nI (a + 1)), .retAddr 0]) rfl ?_
          have e := ih (by omega) (va_up J3 56 (fx_5)) (hE.up (a := 56) rfl)
          rw [show (maU (myC I n nq pe sg g_ c t) (myR I n nq sg g_ c t) (a + 1)) = (maU (myC I n nq pe sg g_ c t) (myR I n nq sg g_ c t) a) by simp [maU, myC, myR, h1, h6, h16, h18]] at e
          exact e

set_option maxHeartbeats 4000000 in
set_option maxRecDepth 100000 in
theorem cp_may {g : GP} {I J : IM} {S : SH} (hE : Ex I J) (pe sg g_ c t : Int32) (hF : Fx S) {n : Nat} (hn : Mp I n) {nq : Nat} (hq : Mq I nq) (hM : MIv I) {mm : Nat} (hm : Mm I mm) : Z g 8 0 0 mX7_may 0 (enL mX7_may [.ref 35, .int pe, .int sg, .int g_, .int c, .int t]) [] J S (NQ (.int (myM I n nq mm pe sg g_ c t)) I S) := by
  show Z g 8 0 0 mX7_may 0 [.ref 35, .int pe, .int sg, .int g_, .int c, .int t, .retAddr 0, .retAddr 0, .retAddr 0, .retAddr 0, .retAddr 0, .retAddr 0, .retAddr 0] [] J S _
  have hn2 := hn.2
  have hq2 := hq.2
  have hm2 := hm.2
  refine Z.iload_n dX7_may_0 rfl ?_
  refine Z.callSp (M := mX7_may) (pc := 1) (st := []) (N := mX7_isPerson) (n := 1) (r := .int (bI (inB pe 0 99))) dX7_may_1 mlX7_102 mkX7_isPerson stX7_isPerson (d1 := 1) (by decide) (As := [.int pe]) rfl ⟨rfl, Nat.le_of_ble_eq_true rfl⟩ ⟨rfl, Nat.le_of_ble_eq_true rfl⟩ (ct_isPerson hE pe) rfl ?_
  refine Z.if_eqB (tgt := 38) dX7_may_4 (by decide) (fun h1 => ?_) (fun h1 => ?_)
  · refine Z.iconst (v := (-1)) dX7_may_38 (by decide) ?_
    exact Z.iret dX7_may_39 rfl ⟨by simp [myM, myB, h1], hE, rfl⟩
  · refine Z.aload_n dX7_may_7 rfl ?_
    refine Z.iload_n dX7_may_8 rfl ?_
    refine Z.callVp (M := mX7_may) (pc := 9) (st := []) (N := mX7_isMark) (n := 1) (r := .int (bI (inB sg 0 (I 35 10 - 1)))) dX7_may_9 mlX7_108 mkX7_isMark imX7_isMark seX7_isMark (fx35 hF) cl7 rfl (d1 := 1) (by decide) (As := [.int sg]) rfl ⟨rfl, Nat.le_of_ble_eq_true rfl⟩ ⟨rfl, Nat.le_of_ble_eq_true rfl⟩ (ct_isMark hE sg hF) rfl ?_
    refine Z.if_eqB (tgt := 38) dX7_may_12 (by decide) (fun h2 => ?_) (fun h2 => ?_)
    · refine Z.iconst (v := (-1)) dX7_may_38 (by decide) ?_
      exact Z.iret dX7_may_39 rfl ⟨by simp [myM, myB, h1, h2], hE, rfl⟩
    · refine Z.iload_n dX7_may_15 rfl ?_
      refine Z.callSp (M := mX7_may) (pc := 16) (st := []) (N := mX7_isGoods) (n := 1) (r := .int (bI (inB g_ 0 359))) dX7_may_16 mlX7_94 mkX7_isGoods stX7_isGoods (d1 := 1) (by decide) (As := [.int g_]) rfl ⟨rfl, Nat.le_of_ble_eq_true rfl⟩ ⟨rfl, Nat.le_of_ble_eq_true rfl⟩ (ct_isGoods hE g_) rfl ?_
      refine Z.if_eqB (tgt := 38) dX7_may_19 (by decide) (fun h3 => ?_) (fun h3 => ?_)
      · refine Z.iconst (v := (-1)) dX7_may_38 (by decide) ?_
        exact Z.iret dX7_may_39 rfl ⟨by simp [myM, myB, h1, h2, h3], hE, rfl⟩
      · refine Z.iload dX7_may_22 rfl ?_
        refine Z.callSp (M := mX7_may) (pc := 24) (st := []) (N := mX7_isCountry) (n := 1) (r := .int (bI (inB c 0 15))) dX7_may_24 mlX7_194 mkX7_isCountry stX7_isCountry (d1 := 1) (by decide) (As := [.int c]) rfl ⟨rfl, Nat.le_of_ble_eq_true rfl⟩ ⟨rfl, Nat.le_of_ble_eq_true rfl⟩ (ct_isCountry hE c) rfl ?_
        refine Z.if_eqB (tgt := 38) dX7_may_27 (by decide) (fun h4 => ?_) (fun h4 => ?_)
        · refine Z.iconst (v := (-1)) dX7_may_38 (by decide) ?_
          exact Z.iret dX7_may_39 rfl ⟨by simp [myM, myB, h1, h2, h3, h4], hE, rfl⟩
        · refine Z.iload dX7_may_30 rfl ?_
          refine Z.callSp (M := mX7_may) (pc := 32) (st := []) (N := mX7_isDay) (n := 1) (r := .int (bI (inB t 0 60000))) dX7_may_32 mlX7_200 mkX7_isDay stX7_isDay (d1 := 1) (by decide) (As := [.int t]) rfl ⟨rfl, Nat.le_of_ble_eq_true rfl⟩ ⟨rfl, Nat.le_of_ble_eq_true rfl⟩ (ct_isDay hE t) rfl ?_
          refine Z.if_neB (tgt := 40) dX7_may_35 (by decide) (fun h5 => ?_) (fun h5 => ?_)
          · have e_sg := (mk_rg hm.1 hm.2 h2).1
            have l_sg := (mk_rg hm.1 hm.2 h2).2
            refine Z.eqLs (L' := [.ref 35, .int pe, .int (nI (sg.toNatClampNeg)), .int g_, .int c, .int t, .retAddr 0, .retAddr 0, .retAddr 0, .retAddr 0, .retAddr 0, .retAddr 0, .retAddr 0]) (st' := []) (by rw [← e_sg]) (by first | rfl | rw [← e_sg]) ?_
            refine Z.iconst (v := (-1)) dX7_may_40 (by decide) ?_
            refine Z.istore (L' := [.ref 35, .int pe, .int (nI (sg.toNatClampNeg)), .int g_, .int c, .int t, .int ((-1)), .retAddr 0, .retAddr 0, .retAddr 0, .retAddr 0, .retAddr 0, .retAddr 0]) dX7_may_41 (Nat.le_of_ble_eq_true rfl) rfl ?_
            refine Z.iconst (v := 0) dX7_may_43 (by decide) ?_
            refine Z.istore (L' := [.ref 35, .int pe, .int (nI (sg.toNatClampNeg)), .int g_, .int c, .int t, .int ((-1)), .int 0, .retAddr 0, .retAddr 0, .retAddr 0, .retAddr 0, .retAddr 0]) dX7_may_44 (Nat.le_of_ble_eq_true rfl) rfl ?_
            refine Z.iconst (v := 0) dX7_may_46 (by decide) ?_
            refine Z.istore (L' := [.ref 35, .int pe, .int (nI (sg.toNatClampNeg)), .int g_, .int c, .int t, .int ((-1)), .int 0, .int 0, .retAddr 0, .retAddr 0, .retAddr 0, .retAddr 0]) dX7_may_47 (Nat.le_of_ble_eq_true rfl) rfl ?_
            refine Z.iconst (v := 0) dX7_may_49 (by decide) ?_
            refine Z.istore (L' := [.ref 35, .int pe, .int (nI (sg.toNatClampNeg)), .int g_, .int c, .int t, .int ((-1)), .int 0, .int 0, .int 0, .retAddr 0, .retAddr 0, .retAddr 0]) dX7_may_50 (Nat.le_of_ble_eq_true rfl) rfl ?_
            refine Z.iconst (v := 0) dX7_may_52 (by decide) ?_
            refine Z.istore (L' := [.ref 35, .int pe, .int (nI (sg.toNatClampNeg)), .int g_, .int c, .int t, .int ((-1)), .int 0, .int 0, .int 0, .int 0, .retAddr 0, .retAddr 0]) dX7_may_53 (Nat.le_of_ble_eq_true rfl) rfl ?_
            refine Z.iconst (v := 0) dX7_may_55 (by decide) ?_
            refine Z.istore (L' := [.ref 35, .int pe, .int (nI (sg.toNatClampNeg)), .int g_, .int c, .int t, .int ((-1)), .int 0, .int 0, .int 0, .int 0, .int 0, .retAddr 0]) dX7_may_56 (Nat.le_of_ble_eq_true rfl) rfl ?_
            exact lp_may pe sg g_ c t hF hn hq hM hm (by omega) (by simp [myB, h1, h2, h3, h4, h5]) 0 (Nat.zero_le _) _ hE
          · refine Z.iconst (v := (-1)) dX7_may_38 (by decide) ?_
            exact Z.iret dX7_may_39 rfl ⟨by simp [myM, myB, h1, h2, h3, h4, h5], hE, rfl⟩

def waH (I : IM) (n nq : Nat) : Nat → Bool := fun a => !decide (I 44 a = I 44 (I 50 (leU (I 49) n).toNatClampNeg).toNatClampNeg) && (alM I a (I 50 (leU (I 49) n).toNatClampNeg).toNatClampNeg && cnF I n nq (nI a) (nI (I 50 (leU (I 49) n).toNatClampNeg).toNatClampNeg) (I 51 (leU (I 49) n).toNatClampNeg) (I 52 (leU (I 49) n).toNatClampNeg))
def waO (o : Option Nat) : Int32 := match o with
  | some a => nI a
  | none => -1
def waM (I : IM) (n nq mm : Nat) (i : Int32) : Int32 := if leU (I 49) n < 0 ∨ i < 0 then -1 else waO (fstW (fun a => waH I n nq a && decide (nI (cnH (waH I n nq) a) = i)) mm 0)
set_option maxHeartbeats 4000000 in
set_option maxRecDepth 100000 in
theorem lp_watch1 {g : GP} {I J : IM} {S : SH} (hE : Ex I J) (i : Int32) {Q : ZQ} (hF : Fx S) {n : Nat} (hn : Mp I n) : ∀ c, c ≤ n → Z g 7 0 0 mX7_watch 27 [.ref 35, .int i, .int (leU (I 49) c), .retAddr 0, .retAddr 0, .retAddr 0] [] J S Q → Z g 7 0 0 mX7_watch 7 [.ref 35, .int i, .int (nI c - 1), .retAddr 0, .retAddr 0, .retAddr 0] [] J S Q := by
  have hn2 := hn.2
  intro c
  induction c with
  | zero =>
    intro hc hk
    refine Z.iload_n dX7_watch_7 rfl ?_
    refine Z.if_lt (tgt := 27) dX7_watch_8 (by decide) (fun h1 => ?_) (fun h1 => absurd h1 (by decide))
    exact hk
  | succ c ih =>
    intro hc hk
    rw [nI_pred]
    refine Z.iload_n dX7_watch_7 rfl ?_
    refine Z.if_lt (tgt := 27) dX7_watch_8 (by decide) (fun h2 => absurd h2 (nI_pos (by omega))) (fun h2 => ?_)
    refine Z.aload_n dX7_watch_11 rfl ?_
    refine Z.getR (r := 49) dX7_watch_12 cl7 flX7_49 (by decide) (fx35 hF) rfl ?_
    refine Z.iload_n dX7_watch_15 rfl ?_
    refine Z.ialdv (j := c) (v := I 49 c) dX7_watch_16 (fx49 hF) rfl (by omega) (by decide) (hE.at 49 c rfl) ?_
    refine Z.iconst (v := 1) dX7_watch_17 (by decide) ?_
    refine Z.icmp_eq (tgt := 27) dX7_watch_18 (by decide) (fun h3 => ?_) (fun h3 => ?_)
    · rw [leU, if_pos h3] at hk
      exact hk
    · refine Z.iinc (v := nI c - 1) (L' := [.ref 35, .int i, .int (nI c - 1), .retAddr 0, .retAddr 0, .retAddr 0]) dX7_watch_21 rfl (nI_m1 _) rfl ?_
      refine Z.goto (tgt := 7) dX7_watch_24 (by decide) ?_
      rw [leU, if_neg h3] at hk
      exact ih (by omega) hk

set_option maxHeartbeats 4000000 in
set_option maxRecDepth 100000 in
theorem lp_watch2 {g : GP} {I : IM} {S : SH} (i : Int32) (hF : Fx S) {n : Nat} (hn : Mp I n) {nq : Nat} (hq : Mq I nq) (hM : MIv I) {mm : Nat} (hm : Mm I mm) (hp : ¬ leU (I 49) n < 0) (hpl : (leU (I 49) n).toNatClampNeg < n) (hmt : (I 50 (leU (I 49) n).toNatClampNeg).toNatClampNeg < 120) (hok : ¬ (leU (I 49) n < 0 ∨ i < 0)) : ∀ a, a ≤ mm → ∀ J, Ex I J → fstW (fun a => waH I n nq a && decide (nI (cnH (waH I n nq) a) = i)) mm 0 = fstW (fun a => waH I n nq a && decide (nI (cnH (waH I n nq) a) = i)) (mm - a) a → Z g 7 0 0 mX7_watch 50 [.ref 35, .int i, .int (leU (I 49) n), .int (nI ((I 50 (leU (I 49) n).toNatClampNeg).toNatClampNeg)), .int (nI (cnH (waH I n nq) a)), .int (nI a)] [] J S (NQ (.int (waM I n nq mm i)) I S) := by
  have hn2 := hn.2
  have hq2 := hq.2
  have hm2 := hm.2
  refine upZ mm (fun a hi ih J hE hno => ?_)
  have hch := cnH_le (h := waH I n nq) a
  refine Z.iload dX7_watch_50 rfl ?_
  refine Z.aload_n dX7_watch_52 rfl ?_
  refine Z.getIv (v := nI mm) dX7_watch_53 cl7 flX7_83 (by decide) (fx35 hF) ((hE.at 35 10 rfl).trans hm.1) ?_
  refine Z.icmp_geN (a := a) (b := mm) (by omega) (by omega) (tgt := 128) dX7_watch_56 (by decide) (fun h1 => ?_) (fun h1 => ?_)
  · refine Z.iconst (v := (-1)) dX7_watch_128 (by decide) ?_
    exact Z.iret dX7_watch_129 rfl ⟨by rw [fstW_n (by omega)] at hno; rw [waM, if_neg hok, hno]; rfl, hE, rfl⟩
  · refine Z.aload_n dX7_watch_59 rfl ?_
    refine Z.getR (r := 44) dX7_watch_60 cl7 flX7_34 (by decide) (fx35 hF) rfl ?_
    refine Z.iload dX7_watch_63 rfl ?_
    refine Z.ialdv (j := a) (v := I 44 a) dX7_watch_65 (fx44 hF) rfl (by omega) (by decide) (hE.at 44 a rfl) ?_
    refine Z.aload_n dX7_watch_66 rfl ?_
    refine Z.getR (r := 44) dX7_watch_67 cl7 flX7_34 (by decide) (fx35 hF) rfl ?_
    refine Z.iload_n dX7_watch_70 rfl ?_
    refine Z.ialdv (j := (I 50 (leU (I 49) n).toNatClampNeg).toNatClampNeg) (v := I 44 ((I 50 (leU (I 49) n).toNatClampNeg).toNatClampNeg)) dX7_watch_71 (fx44 hF) rfl (by omega) (by decide) (hE.at 44 ((I 50 (leU (I 49) n).toNatClampNeg).toNatClampNeg) rfl) ?_
    refine Z.icmp_eq (tgt := 122) dX7_watch_72 (by decide) (fun h2 => ?_) (fun h2 => ?_)
    · refine Z.iinc (v := nI (a + 1)) (L' := [.ref 35, .int i, .int (leU (I 49) n), .int (nI ((I 50 (leU (I 49) n).toNatClampNeg).toNatClampNeg)), .int (nI (cnH (waH I n nq) a)), .int (nI (a + 1))]) dX7_watch_122 rfl (nI_1 _) rfl ?_
      refine Z.goto (tgt := 50) dX7_watch_125 (by decide) ?_
      have e := ih (by omega) J hE (by rw [fstW_s (by omega), if_neg (by simp [waH, h1, eq_true h2])] at hno; exact hno)
      rw [show cnH (waH I n nq) (a + 1) = cnH (waH I n nq) a by simp [cnH, waH, h1, eq_true h2]] at e
      exact e
    · refine Z.aload_n dX7_watch_75 rfl ?_
      refine Z.iload dX7_watch_76 rfl ?_
      refine Z.iload_n dX7_watch_78 rfl ?_
      refine Z.callVg (M := mX7_watch) (pc := 79) (st := []) (N := mX7_isAlike) (n := 2) dX7_watch_79 mlX7_173 mkX7_isAlike imX7_isAlike seX7_isAlike (fx35 hF) cl7 rfl (d1 := 5) (by decide) (As := [.int (nI a), .int (nI ((I 50 (leU (I 49) n).toNatClampNeg).toNatClampNeg))]) rfl ⟨rfl, Nat.le_of_ble_eq_true rfl⟩ ⟨rfl, Nat.le_of_ble_eq_true rfl⟩ (ct_isAlike hE a ((I 50 (leU (I 49) n).toNatClampNeg).toNatClampNeg) hF hM (by omega) (by omega)) rfl (fun v_ J1 S_ h_ => ?_)
      obtain ⟨rfl, hE, rfl⟩ := h_
      refine Z.if_eqB (tgt := 122) dX7_watch_82 (by decide) (fun h3 => ?_) (fun h3 => ?_)
      · refine Z.iinc (v := nI (a + 1)) (L' := [.ref 35, .int i, .int (leU (I 49) n), .int (nI ((I 50 (leU (I 49) n).toNatClampNeg).toNatClampNeg)), .int (nI (cnH (waH I n nq) a)), .int (nI (a + 1))]) dX7_watch_122 rfl (nI_1 _) rfl ?_
        refine Z.goto (tgt := 50) dX7_watch_125 (by decide) ?_
        have e := ih (by omega) J1 hE (by rw [fstW_s (by omega), if_neg (by simp [waH, h1, h2, h3])] at hno; exact hno)
        rw [show cnH (waH I n nq) (a + 1) = cnH (waH I n nq) a by simp [cnH, waH, h1, h2, h3]] at e
        exact e
      · refine Z.aload_n dX7_watch_85 rfl ?_
        refine Z.iload dX7_watch_86 rfl ?_
        refine Z.iload_n dX7_watch_88 rfl ?_
        refine Z.aload_n dX7_watch_89 rfl ?_
        refine Z.getR (r := 51) dX7_watch_90 cl7 flX7_55 (by decide) (fx35 hF) rfl ?_
        refine Z.iload_n dX7_watch_93 rfl ?_
        refine Z.ialdv (j := (leU (I 49) n).toNatClampNeg) (v := I 51 ((leU (I 49) n).toNatClampNeg)) dX7_watch_94 (fx51 hF) (tn_eq hp) (by omega) (by decide) (hE.at 51 ((leU (I 49) n).toNatClampNeg) rfl) ?_
        refine Z.aload_n dX7_watch_95 rfl ?_
        refine Z.getR (r := 52) dX7_watch_96 cl7 flX7_58 (by decide) (fx35 hF) rfl ?_
        refine Z.iload_n dX7_watch_99 rfl ?_
        refine Z.ialdv (j := (leU (I 49) n).toNatClampNeg) (v := I 52 ((leU (I 49) n).toNatClampNeg)) dX7_watch_100 (fx52 hF) (tn_eq hp) (by omega) (by decide) (hE.at 52 ((leU (I 49) n).toNatClampNeg) rfl) ?_
        refine Z.callVg (M := mX7_watch) (pc := 101) (st := []) (N := mX7_comesNear) (n := 4) dX7_watch_101 mlX7_218 mkX7_comesNear imX7_comesNear seX7_comesNear (fx35 hF) cl7 rfl (d1 := 6) (by decide) (As := [.int (nI a), .int (nI ((I 50 (leU (I 49) n).toNatClampNeg).toNatClampNeg)), .int (I 51 ((leU (I 49) n).toNatClampNeg)), .int (I 52 ((leU (I 49) n).toNatClampNeg))]) rfl ⟨rfl, Nat.le_of_ble_eq_true rfl⟩ ⟨rfl, Nat.le_of_ble_eq_true rfl⟩ (ct_comesNear hE (nI a) (nI ((I 50 (leU (I 49) n).toNatClampNeg).toNatClampNeg)) (I 51 ((leU (I 49) n).toNatClampNeg)) (I 52 ((leU (I 49) n).toNatClampNeg)) hF hn hq) rfl (fun v_ J2 S_ h_ => ?_)
        obtain ⟨rfl, hE, rfl⟩ := h_
        refine Z.if_neB (tgt := 110) dX7_watch_104 (by decide) (fun h4 => ?_) (fun h4 => ?_)
        · refine Z.iload dX7_watch_110 rfl ?_
          refine Z.iload_n dX7_watch_112 rfl ?_
          refine Z.icmp_ne (tgt := 119) dX7_watch_113 (by decide) (fun h5 => ?_) (fun h5 => ?_)
          · refine Z.iinc (v := nI ((cnH (waH I n nq) a) + 1)) (L' := [.ref 35, .int i, .int (leU (I 49) n), .int (nI ((I 50 (leU (I 49) n).toNatClampNeg).toNatClampNeg)), .int (nI ((cnH (waH I n nq) a) + 1)), .int (nI a)]) dX7_watch_119 rfl (nI_1 _) rfl ?_
            refine Z.iinc (v := nI (a + 1)) (L' := [.ref 35, .int i, .int (leU (I 49) n), .int (nI ((I 50 (leU (I 49) n).toNatClampNeg).toNatClampNeg)), .int (nI ((cnH (waH I n nq) a) + 1)), .int (nI (a + 1))]) dX7_watch_122 rfl (nI_1 _) rfl ?_
            refine Z.goto (tgt := 50) dX7_watch_125 (by decide) ?_
            have e := ih (by omega) J2 hE (by rw [fstW_s (by omega), if_neg (by simp [waH, h1, h2, h3, h4, h5])] at hno; exact hno)
            rw [show cnH (waH I n nq) (a + 1) = (cnH (waH I n nq) a) + 1 by simp [cnH, waH, h1, h2, h3, h4, h5]] at e
            exact e
          · refine Z.iload dX7_watch_116 rfl ?_
            exact Z.iret dX7_watch_118 rfl ⟨by rw [fstW_s (by omega), if_pos (by simp [waH, h1, h2, h3, h4, eq_true h5])] at hno; rw [waM, if_neg hok, hno]; rfl, hE, rfl⟩
        · refine Z.goto (tgt := 122) dX7_watch_107 (by decide) ?_
          refine Z.iinc (v := nI (a + 1)) (L' := [.ref 35, .int i, .int (leU (I 49) n), .int (nI ((I 50 (leU (I 49) n).toNatClampNeg).toNatClampNeg)), .int (nI (cnH (waH I n nq) a)), .int (nI (a + 1))]) dX7_watch_122 rfl (nI_1 _) rfl ?_
          refine Z.goto (tgt := 50) dX7_watch_125 (by decide) ?_
          have e := ih (by omega) J2 hE (by rw [fstW_s (by omega), if_neg (by simp [waH, h1, h2, h3, h4])] at hno; exact hno)
          rw [show cnH (waH I n nq) (a + 1) = cnH (waH I n nq) a by simp [cnH, waH, h1, h2, h3, h4]] at e
          exact e

set_option maxHeartbeats 4000000 in
set_option maxRecDepth 100000 in
theorem cp_watch {g : GP} {I J : IM} {S : SH} (hE : Ex I J) (i : Int32) (hF : Fx S) {n : Nat} (hn : Mp I n) {nq : Nat} (hq : Mq I nq) (hM : MIv I) {mm : Nat} (hm : Mm I mm) (hpm : ∀ i, i < n → rg (I 50 i) 119) : Z g 7 0 0 mX7_watch 0 (enL mX7_watch [.ref 35, .int i]) [] J S (NQ (.int (waM I n nq mm i)) I S) := by
  show Z g 7 0 0 mX7_watch 0 [.ref 35, .int i, .retAddr 0, .retAddr 0, .retAddr 0, .retAddr 0] [] J S _
  have hn2 := hn.2
  have hq2 := hq.2
  have hm2 := hm.2
  refine Z.aload_n dX7_watch_0 rfl ?_
  refine Z.getIv (v := nI n) dX7_watch_1 cl7 flX7_105 (by decide) (fx35 hF) ((hE.at 35 17 rfl).trans hn.1) ?_
  refine Z.iconst (v := 1) dX7_watch_4 (by decide) ?_
  refine Z.isub dX7_watch_5 ?_
  refine Z.istore_n (L' := [.ref 35, .int i, .int ((nI n) - 1), .retAddr 0, .retAddr 0, .retAddr 0]) dX7_watch_6 (Nat.le_of_ble_eq_true rfl) rfl ?_
  refine lp_watch1 hE i hF hn n (Nat.le_refl _) ?_
  refine Z.iload_n dX7_watch_27 rfl ?_
  refine Z.if_lt (tgt := 35) dX7_watch_28 (by decide) (fun h1 => ?_) (fun h1 => ?_)
  · refine Z.iconst (v := (-1)) dX7_watch_35 (by decide) ?_
    exact Z.iret dX7_watch_36 rfl ⟨by simp [waM, h1], hE, rfl⟩
  · refine Z.iload_n dX7_watch_31 rfl ?_
    refine Z.if_ge (tgt := 37) dX7_watch_32 (by decide) (fun h2 => ?_) (fun h2 => ?_)
    · have hp : ¬ leU (I 49) n < 0 := h1
      have hpl := leU_lt hn.2 hp
      have hmt := hpm _ hpl
      refine Z.aload_n dX7_watch_37 rfl ?_
      refine Z.getR (r := 50) dX7_watch_38 cl7 flX7_52 (by decide) (fx35 hF) rfl ?_
      refine Z.iload_n dX7_watch_41 rfl ?_
      refine Z.ialdv (j := (leU (I 49) n).toNatClampNeg) (v := nI ((I 50 (leU (I 49) n).toNatClampNeg).toNatClampNeg)) dX7_watch_42 (fx50 hF) (tn_eq hp) (by omega) (by decide) ((hE.at 50 ((leU (I 49) n).toNatClampNeg) rfl).trans hmt.1) ?_
      refine Z.istore_n (L' := [.ref 35, .int i, .int (leU (I 49) n), .int (nI ((I 50 (leU (I 49) n).toNatClampNeg).toNatClampNeg)), .retAddr 0, .retAddr 0]) dX7_watch_43 (Nat.le_of_ble_eq_true rfl) rfl ?_
      refine Z.iconst (v := 0) dX7_watch_44 (by decide) ?_
      refine Z.istore (L' := [.ref 35, .int i, .int (leU (I 49) n), .int (nI ((I 50 (leU (I 49) n).toNatClampNeg).toNatClampNeg)), .int 0, .retAddr 0]) dX7_watch_45 (Nat.le_of_ble_eq_true rfl) rfl ?_
      refine Z.iconst (v := 0) dX7_watch_47 (by decide) ?_
      refine Z.istore (L' := [.ref 35, .int i, .int (leU (I 49) n), .int (nI ((I 50 (leU (I 49) n).toNatClampNeg).toNatClampNeg)), .int 0, .int 0]) dX7_watch_48 (Nat.le_of_ble_eq_true rfl) rfl ?_
      exact lp_watch2 i hF hn hq hM hm hp hpl (Nat.lt_succ_of_le hmt.2) (by simp [h1, h2]) 0 (Nat.zero_le _) _ hE rfl
    · refine Z.iconst (v := (-1)) dX7_watch_35 (by decide) ?_
      exact Z.iret dX7_watch_36 rfl ⟨by simp [waM, h1, h2], hE, rfl⟩

