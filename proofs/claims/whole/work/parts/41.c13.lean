/-- all but the past view and what was found is as it was -/
def AX (J J' : IM) : Prop := ∀ a, (a < 29 ∨ 34 < a) → J' a = J a
def FCQ (h : Nat → Nat → Bool) (vp vr : Nat → Nat → Int32) (KE r : Nat) (JB : IM) (S : SH) : ZQ := fun v J' T => v = none ∧ AX JB J' ∧ CM h vp vr KE r 0 (J' 34) ∧ T = S
set_option maxHeartbeats 4000000 in
set_option maxRecDepth 100000 in
theorem lc_fco {g : GP} {I JP : IM} {S : SH} (hE : Ex I JP) (hF : Fx S) (hC : Cp I) {n : Nat} (hn : Mp I n) {nq : Nat} (hq : Mq I nq) (hcq : Cq I nq) (hM : MIv I) {mm : Nat} (hm : Mm I mm) (hz : Mz I S mm) (hL : LG I n) {JB : IM} {a b KE KY : Nat} {c t : Int32} (ha : a < mm) (hb : b < mm) (hc : ¬ c = -1) (hAB : VA I n (nI a) c t (JB 19) KE) (hBB : VB I n (nI a) t (JB 20) (JB 21) (JB 22) (JB 23) KE) (hAyB : VA I n (nI b) c t (JB 24) KY) (hByB : VB I n (nI b) t (JB 25) (JB 26) (JB 27) (JB 28) KY) (hnp : ∀ r q, r < KY → q < KE → (fun r q => chF (pM I n) (qM I nq) (I 35 9) (nI a) (nI b) c t (JB 20 q) (JB 25 r)) r q = true → ¬ (fun r q => 360 * JB 20 q + JB 25 r) r q < 0) (hnr : ∀ r q, r < KY → q < KE → (fun r q => chF (pM I n) (qM I nq) (I 35 9) (nI a) (nI b) c t (JB 20 q) (JB 25 r)) r q = true → ¬ (fun r q => rightF (pM I n) (nI a) (JB 20 q) c t) r q < 0) {r : Nat} (hr : r < KY) (hsy : standsF (pM I n) (nI b) (JB 25 r) c t = true) (hx : AX JB JP) {KP : Nat} (hAp : VA I n (nI a) c (rightF (pM I n) (nI b) (JB 25 r) c t) (JP 29) KP) (hBp : VB I n (nI a) (rightF (pM I n) (nI b) (JB 25 r) c t) (JP 30) (JP 31) (JP 32) (JP 33) KP) : ∀ q, q ≤ KE → ∀ f, CM (fun r q => chF (pM I n) (qM I nq) (I 35 9) (nI a) (nI b) c t (JB 20 q) (JB 25 r)) (fun r q => 360 * JB 20 q + JB 25 r) (fun r q => rightF (pM I n) (nI a) (JB 20 q) c t) KE r q f → Z g 4 0 0 mX6_findClashOver 40 [.ref 0, .int (nI r), .int (nI a), .int (nI b), .int c, .int (JB 25 r), .int (rightF (pM I n) (nI b) (JB 25 r) c t), .int (nI q), .retAddr 0, .retAddr 0, .retAddr 0] [] (va_up JP 34 f) S (FCQ (fun r q => chF (pM I n) (qM I nq) (I 35 9) (nI a) (nI b) c t (JB 20 q) (JB 25 r)) (fun r q => 360 * JB 20 q + JB 25 r) (fun r q => rightF (pM I n) (nI a) (JB 20 q) c t) KE (r + 1) JB S) := by
  have hn2 := hn.2
  have hq2 := hq.2
  have hm2 := hm.2
  have hD := hL.1
  have hso := hL.2.1
  have hKE := hAB.2.2.2.2.2.2.2.2.2
  have hKY := hAyB.2.2.2.2.2.2.2.2.2
  have hA : VA I n (nI a) c t (JP 19) KE := by rw [hx 19 (by omega)]; exact hAB
  have hB : VB I n (nI a) t (JP 20) (JP 21) (JP 22) (JP 23) KE := by rw [hx 20 (by omega), hx 21 (by omega), hx 22 (by omega), hx 23 (by omega)]; exact hBB
  have hAy : VA I n (nI b) c t (JP 24) KY := by rw [hx 24 (by omega)]; exact hAyB
  have hBy : VB I n (nI b) t (JP 25) (JP 26) (JP 27) (JP 28) KY := by rw [hx 25 (by omega), hx 26 (by omega), hx 27 (by omega), hx 28 (by omega)]; exact hByB
  refine upZ KE (fun q hi ih f hcm => ?_)
  refine Z.iload dX6_findClashOver_40 rfl ?_
  refine Z.aload_n dX6_findClashOver_42 rfl ?_
  refine Z.getR (r := 19) dX6_findClashOver_43 cl6 flX6_49 (by decide) (fx0 hF) rfl ?_
  refine Z.getIv (v := nI KE) dX6_findClashOver_46 cl5 flX6_215 (by decide) (fx19 hF) (hA.2.2.2.2.2.2.2.2.1) ?_
  refine Z.icmp_geN (a := q) (b := KE) (by omega) (by omega) (tgt := 167) dX6_findClashOver_49 (by decide) (fun h1 => ?_) (fun h1 => ?_)
  · exact Z.vret dX6_findClashOver_167 rfl ⟨rfl, fun x hx_ => (show va_up JP 34 f x = JP x by simp [va_up, show ¬ x = 34 by omega]).trans (hx x hx_), CM_row (by rw [show q = KE by omega] at hcm; exact hcm), rfl⟩
  · refine Z.aload_n dX6_findClashOver_52 rfl ?_
    refine Z.getR (r := 19) dX6_findClashOver_53 cl6 flX6_49 (by decide) (fx0 hF) rfl ?_
    refine Z.getR (r := 20) dX6_findClashOver_56 cl5 flX6_282 (by decide) (fx19 hF) rfl ?_
    refine Z.iload dX6_findClashOver_59 rfl ?_
    refine Z.ialdv (j := q) (v := JB 20 q) dX6_findClashOver_61 (fx20 hF) rfl (by omega) (by decide) (congrFun (hx 20 (by omega)) q) ?_
    refine Z.istore (L' := [.ref 0, .int (nI r), .int (nI a), .int (nI b), .int c, .int (JB 25 r), .int (rightF (pM I n) (nI b) (JB 25 r) c t), .int (nI q), .int (JB 20 q), .retAddr 0, .retAddr 0]) dX6_findClashOver_62 (Nat.le_of_ble_eq_true rfl) rfl ?_
    refine Z.aload_n dX6_findClashOver_64 rfl ?_
    refine Z.getR (r := 19) dX6_findClashOver_65 cl6 flX6_49 (by decide) (fx0 hF) rfl ?_
    refine Z.iload dX6_findClashOver_68 rfl ?_
    refine Z.callVp (M := mX6_findClashOver) (pc := 70) (st := []) (N := mX5_rightAt) (n := 1) (r := .int (rightF (pM I n) (nI a) (JB 20 q) c t)) dX6_findClashOver_70 mlX6_199 mkX5_rightAt imX5_rightAt seX5_rightAt (fx19 hF) cl5 rfl (d1 := 1) (by decide) (As := [.int (nI q)]) rfl ⟨rfl, Nat.le_of_ble_eq_true rfl⟩ ⟨rfl, Nat.le_of_ble_eq_true rfl⟩ (by have e := cq_rightAtT19 (g := g) (J := (va_up JP 34 (f))) (hE.up (a := 34) rfl) hF hC hn2 hD hA hB (by omega) hc; rw [show (va_up JP 34 (f)) 20 q = JB 20 q from (congrFun (hx 20 (by omega)) q)] at e; exact e) rfl ?_
    refine Z.istore (L' := [.ref 0, .int (nI r), .int (nI a), .int (nI b), .int c, .int (JB 25 r), .int (rightF (pM I n) (nI b) (JB 25 r) c t), .int (nI q), .int (JB 20 q), .int (rightF (pM I n) (nI a) (JB 20 q) c t), .retAddr 0]) dX6_findClashOver_73 (Nat.le_of_ble_eq_true rfl) rfl ?_
    refine Z.iload dX6_findClashOver_75 rfl ?_
    refine Z.iload dX6_findClashOver_77 rfl ?_
    refine Z.icmp_lt (tgt := 94) dX6_findClashOver_79 (by decide) (fun h2 => ?_) (fun h2 => ?_)
    · refine Z.iconst (v := 1) dX6_findClashOver_94 (by decide) ?_
      refine Z.goto (tgt := 99) dX6_findClashOver_95 (by decide) ?_
      refine Z.istore (L' := [.ref 0, .int (nI r), .int (nI a), .int (nI b), .int c, .int (JB 25 r), .int (rightF (pM I n) (nI b) (JB 25 r) c t), .int (nI q), .int (JB 20 q), .int (rightF (pM I n) (nI a) (JB 20 q) c t), .int 1]) dX6_findClashOver_99 (Nat.le_of_ble_eq_true rfl) rfl ?_
      refine Z.iload dX6_findClashOver_101 rfl ?_
      refine Z.if_eq (tgt := 161) dX6_findClashOver_103 (by decide) (fun h3 => absurd h3 (by decide)) (fun h3 => ?_)
      refine Z.aload_n dX6_findClashOver_106 rfl ?_
      refine Z.getR (r := 19) dX6_findClashOver_107 cl6 flX6_49 (by decide) (fx0 hF) rfl ?_
      refine Z.iload dX6_findClashOver_110 rfl ?_
      refine Z.callVp (M := mX6_findClashOver) (pc := 112) (st := []) (N := mX5_standsAt) (n := 1) (r := .int (bI (standsF (pM I n) (nI a) (JB 20 q) c t))) dX6_findClashOver_112 mlX6_202 mkX5_standsAt imX5_standsAt seX5_standsAt (fx19 hF) cl5 rfl (d1 := 3) (by decide) (As := [.int (nI q)]) rfl ⟨rfl, Nat.le_of_ble_eq_true rfl⟩ ⟨rfl, Nat.le_of_ble_eq_true rfl⟩ (by have e := cq_standsAtT19 (g := g) (J := (va_up JP 34 (f))) (hE.up (a := 34) rfl) hF hC hn2 hD hA hB (by omega) hc; rw [show (va_up JP 34 (f)) 20 q = JB 20 q from (congrFun (hx 20 (by omega)) q)] at e; exact e) rfl ?_
      refine Z.if_eqB (tgt := 161) dX6_findClashOver_115 (by decide) (fun h4 => ?_) (fun h4 => ?_)
      · refine Z.iinc (v := nI (q + 1)) (L' := [.ref 0, .int (nI r), .int (nI a), .int (nI b), .int c, .int (JB 25 r), .int (rightF (pM I n) (nI b) (JB 25 r) c t), .int (nI (q + 1)), .int (JB 20 q), .int (rightF (pM I n) (nI a) (JB 20 q) c t), .int 1]) dX6_findClashOver_161 rfl (nI_1 _) rfl ?_
        refine Z.goto (tgt := 40) dX6_findClashOver_164 (by decide) ?_
        refine Z.drop (i := 8) (L' := [.ref 0, .int (nI r), .int (nI a), .int (nI b), .int c, .int (JB 25 r), .int (rightF (pM I n) (nI b) (JB 25 r) c t), .int (nI (q + 1)), .retAddr 0, .int (rightF (pM I n) (nI a) (JB 20 q) c t), .int 1]) rfl ?_
        refine Z.drop (i := 9) (L' := [.ref 0, .int (nI r), .int (nI a), .int (nI b), .int c, .int (JB 25 r), .int (rightF (pM I n) (nI b) (JB 25 r) c t), .int (nI (q + 1)), .retAddr 0, .retAddr 0, .int 1]) rfl ?_
        refine Z.drop (i := 10) (L' := [.ref 0, .int (nI r), .int (nI a), .int (nI b), .int c, .int (JB 25 r), .int (rightF (pM I n) (nI b) (JB 25 r) c t), .int (nI (q + 1)), .retAddr 0, .retAddr 0, .retAddr 0]) rfl ?_
        refine ih (by omega) _ (CM_no (show (fun r q => chF (pM I n) (qM I nq) (I 35 9) (nI a) (nI b) c t (JB 20 q) (JB 25 r)) r q = false by simp [chF, h1, h2, h4]) hcm)
      · refine Z.aload_n dX6_findClashOver_118 rfl ?_
        refine Z.iload dX6_findClashOver_119 rfl ?_
        refine Z.iload dX6_findClashOver_121 rfl ?_
        refine Z.callVp (M := mX6_findClashOver) (pc := 123) (st := []) (N := mX6_isNear) (n := 2) (r := .int (bI (neF (pM I n) (qM I nq) (I 35 9) (nI a) (JB 20 q) (JB 25 r) t))) dX6_findClashOver_123 mlX6_285 mkX6_isNear imX6_isNear seX6_isNear (fx0 hF) cl6 rfl (d1 := 2) (by decide) (As := [.int (JB 20 q), .int (JB 25 r)]) rfl ⟨rfl, Nat.le_of_ble_eq_true rfl⟩ ⟨rfl, Nat.le_of_ble_eq_true rfl⟩ (cc_isNear (hE.up (a := 34) rfl) (JB 20 q) (JB 25 r) hF hC hn hq hcq hM hm hz hL hA hB) rfl ?_
        refine Z.if_eqB (tgt := 161) dX6_findClashOver_126 (by decide) (fun h5 => ?_) (fun h5 => ?_)
        · refine Z.iinc (v := nI (q + 1)) (L' := [.ref 0, .int (nI r), .int (nI a), .int (nI b), .int c, .int (JB 25 r), .int (rightF (pM I n) (nI b) (JB 25 r) c t), .int (nI (q + 1)), .int (JB 20 q), .int (rightF (pM I n) (nI a) (JB 20 q) c t), .int 1]) dX6_findClashOver_161 rfl (nI_1 _) rfl ?_
          refine Z.goto (tgt := 40) dX6_findClashOver_164 (by decide) ?_
          refine Z.drop (i := 8) (L' := [.ref 0, .int (nI r), .int (nI a), .int (nI b), .int c, .int (JB 25 r), .int (rightF (pM I n) (nI b) (JB 25 r) c t), .int (nI (q + 1)), .retAddr 0, .int (rightF (pM I n) (nI a) (JB 20 q) c t), .int 1]) rfl ?_
          refine Z.drop (i := 9) (L' := [.ref 0, .int (nI r), .int (nI a), .int (nI b), .int c, .int (JB 25 r), .int (rightF (pM I n) (nI b) (JB 25 r) c t), .int (nI (q + 1)), .retAddr 0, .retAddr 0, .int 1]) rfl ?_
          refine Z.drop (i := 10) (L' := [.ref 0, .int (nI r), .int (nI a), .int (nI b), .int c, .int (JB 25 r), .int (rightF (pM I n) (nI b) (JB 25 r) c t), .int (nI (q + 1)), .retAddr 0, .retAddr 0, .retAddr 0]) rfl ?_
          refine ih (by omega) _ (CM_no (show (fun r q => chF (pM I n) (qM I nq) (I 35 9) (nI a) (nI b) c t (JB 20 q) (JB 25 r)) r q = false by simp [chF, h1, h2, h4, h5]) hcm)
        · refine Z.aload_n dX6_findClashOver_129 rfl ?_
          refine Z.getR (r := 29) dX6_findClashOver_130 cl6 flX6_56 (by decide) (fx0 hF) rfl ?_
          refine Z.aload_n dX6_findClashOver_133 rfl ?_
          refine Z.getR (r := 29) dX6_findClashOver_134 cl6 flX6_56 (by decide) (fx0 hF) rfl ?_
          refine Z.iload dX6_findClashOver_137 rfl ?_
          refine Z.callVg (M := mX6_findClashOver) (pc := 139) (st := [.ref 29]) (N := mX5_find) (n := 1) dX6_findClashOver_139 mlX6_193 mkX5_find imX5_find seX5_find (fx29 hF) cl5 rfl (d1 := 0) (by decide) (As := [.int (JB 20 q)]) rfl ⟨rfl, Nat.le_of_ble_eq_true rfl⟩ ⟨rfl, Nat.le_of_ble_eq_true rfl⟩ (cv_find29 (J := (va_up JP 34 (f))) (hE.up (a := 34) rfl) (JB 20 q) hF (hAp.2.2.2.2.2.2.2.2.1) (hAp.2.2.2.2.2.2.2.2.2)) rfl (fun v_ J1 S_ h_ => ?_)
          obtain ⟨⟨k_, rfl, hk_⟩, rfl, rfl⟩ := h_
          rcases hk_ with ⟨rfl, hno6⟩ | ⟨q6, hq6, rfl, hg6⟩
          · refine Z.callVp (M := mX6_findClashOver) (pc := 142) (st := []) (N := mX5_standsAt) (n := 1) (r := .int (bI (false))) dX6_findClashOver_142 mlX6_202 mkX5_standsAt imX5_standsAt seX5_standsAt (fx29 hF) cl5 rfl (d1 := 3) (by decide) (As := [.int ((-1))]) rfl ⟨rfl, Nat.le_of_ble_eq_true rfl⟩ ⟨rfl, Nat.le_of_ble_eq_true rfl⟩ (cq_standsAtN29 (hE.up (a := 34) rfl) hF hC hn2 hD hAp hBp) rfl ?_
            refine Z.if_eqB (tgt := 161) dX6_findClashOver_145 (by decide) (fun h7 => ?_) (fun h7 => absurd h7 (by decide))
            refine Z.iinc (v := nI (q + 1)) (L' := [.ref 0, .int (nI r), .int (nI a), .int (nI b), .int c, .int (JB 25 r), .int (rightF (pM I n) (nI b) (JB 25 r) c t), .int (nI (q + 1)), .int (JB 20 q), .int (rightF (pM I n) (nI a) (JB 20 q) c t), .int 1]) dX6_findClashOver_161 rfl (nI_1 _) rfl ?_
            refine Z.goto (tgt := 40) dX6_findClashOver_164 (by decide) ?_
            refine Z.drop (i := 8) (L' := [.ref 0, .int (nI r), .int (nI a), .int (nI b), .int c, .int (JB 25 r), .int (rightF (pM I n) (nI b) (JB 25 r) c t), .int (nI (q + 1)), .retAddr 0, .int (rightF (pM I n) (nI a) (JB 20 q) c t), .int 1]) rfl ?_
            refine Z.drop (i := 9) (L' := [.ref 0, .int (nI r), .int (nI a), .int (nI b), .int c, .int (JB 25 r), .int (rightF (pM I n) (nI b) (JB 25 r) c t), .int (nI (q + 1)), .retAddr 0, .retAddr 0, .int 1]) rfl ?_
            refine Z.drop (i := 10) (L' := [.ref 0, .int (nI r), .int (nI a), .int (nI b), .int c, .int (JB 25 r), .int (rightF (pM I n) (nI b) (JB 25 r) c t), .int (nI (q + 1)), .retAddr 0, .retAddr 0, .retAddr 0]) rfl ?_
            have hps : standsF (pM I n) (nI a) (JB 20 q) c (rightF (pM I n) (nI b) (JB 25 r) c t) = false := stands_no (right_ns (VB_none hBp (hBB.1 q (by omega)).1 hno6))
            refine ih (by omega) _ (CM_no (show (fun r q => chF (pM I n) (qM I nq) (I 35 9) (nI a) (nI b) c t (JB 20 q) (JB 25 r)) r q = false by simp [chF, h1, h2, h4, h5, hps]) hcm)
          · refine Z.callVp (M := mX6_findClashOver) (pc := 142) (st := []) (N := mX5_standsAt) (n := 1) (r := .int (bI (standsF (pM I n) (nI a) (JB 20 q) c (rightF (pM I n) (nI b) (JB 25 r) c t)))) dX6_findClashOver_142 mlX6_202 mkX5_standsAt imX5_standsAt seX5_standsAt (fx29 hF) cl5 rfl (d1 := 3) (by decide) (As := [.int (nI q6)]) rfl ⟨rfl, Nat.le_of_ble_eq_true rfl⟩ ⟨rfl, Nat.le_of_ble_eq_true rfl⟩ (by have e := cq_standsAtT29 (g := g) (J := (va_up JP 34 (f))) (hE.up (a := 34) rfl) hF hC hn2 hD hAp hBp hq6 hc; rw [hg6] at e; exact e) rfl ?_
            refine Z.if_eqB (tgt := 161) dX6_findClashOver_145 (by decide) (fun h8 => ?_) (fun h8 => ?_)
            · refine Z.iinc (v := nI (q + 1)) (L' := [.ref 0, .int (nI r), .int (nI a), .int (nI b), .int c, .int (JB 25 r), .int (rightF (pM I n) (nI b) (JB 25 r) c t), .int (nI (q + 1)), .int (JB 20 q), .int (rightF (pM I n) (nI a) (JB 20 q) c t), .int 1]) dX6_findClashOver_161 rfl (nI_1 _) rfl ?_
              refine Z.goto (tgt := 40) dX6_findClashOver_164 (by decide) ?_
              refine Z.drop (i := 8) (L' := [.ref 0, .int (nI r), .int (nI a), .int (nI b), .int c, .int (JB 25 r), .int (rightF (pM I n) (nI b) (JB 25 r) c t), .int (nI (q + 1)), .retAddr 0, .int (rightF (pM I n) (nI a) (JB 20 q) c t), .int 1]) rfl ?_
              refine Z.drop (i := 9) (L' := [.ref 0, .int (nI r), .int (nI a), .int (nI b), .int c, .int (JB 25 r), .int (rightF (pM I n) (nI b) (JB 25 r) c t), .int (nI (q + 1)), .retAddr 0, .retAddr 0, .int 1]) rfl ?_
              refine Z.drop (i := 10) (L' := [.ref 0, .int (nI r), .int (nI a), .int (nI b), .int c, .int (JB 25 r), .int (rightF (pM I n) (nI b) (JB 25 r) c t), .int (nI (q + 1)), .retAddr 0, .retAddr 0, .retAddr 0]) rfl ?_
              refine ih (by omega) _ (CM_no (show (fun r q => chF (pM I n) (qM I nq) (I 35 9) (nI a) (nI b) c t (JB 20 q) (JB 25 r)) r q = false by simp [chF, h1, h2, h4, h5, h8]) hcm)
            · refine Z.aload_n dX6_findClashOver_148 rfl ?_
              refine Z.getR (r := 34) dX6_findClashOver_149 cl6 flX6_62 (by decide) (fx0 hF) rfl ?_
              refine Z.iload dX6_findClashOver_152 rfl ?_
              refine Z.iload dX6_findClashOver_154 rfl ?_
              refine Z.iload dX6_findClashOver_156 rfl ?_
              refine Z.callVg (M := mX6_findClashOver) (pc := 158) (st := []) (N := mX0_add) (n := 3) dX6_findClashOver_158 mlX6_297 mkX0_add imX0_add seX0_add (fx34 hF) cl0 rfl (d1 := 0) (by decide) (As := [.int (JB 20 q), .int (JB 25 r), .int (rightF (pM I n) (nI a) (JB 20 q) c t)]) rfl ⟨rfl, Nat.le_of_ble_eq_true rfl⟩ ⟨rfl, Nat.le_of_ble_eq_true rfl⟩ (cc_add0 (J := (va_up JP 34 (f))) (hE.up (a := 34) rfl) (JB 20 q) (JB 25 r) (rightF (pM I n) (nI a) (JB 20 q) c t) hF) rfl (fun v_ J2 S_ h_ => ?_)
              obtain ⟨rfl, rfl, rfl⟩ := h_
              refine Z.eqI (bx_uu _ _ _ _) ?_
              refine Z.iinc (v := nI (q + 1)) (L' := [.ref 0, .int (nI r), .int (nI a), .int (nI b), .int c, .int (JB 25 r), .int (rightF (pM I n) (nI b) (JB 25 r) c t), .int (nI (q + 1)), .int (JB 20 q), .int (rightF (pM I n) (nI a) (JB 20 q) c t), .int 1]) dX6_findClashOver_161 rfl (nI_1 _) rfl ?_
              refine Z.goto (tgt := 40) dX6_findClashOver_164 (by decide) ?_
              refine Z.drop (i := 8) (L' := [.ref 0, .int (nI r), .int (nI a), .int (nI b), .int c, .int (JB 25 r), .int (rightF (pM I n) (nI b) (JB 25 r) c t), .int (nI (q + 1)), .retAddr 0, .int (rightF (pM I n) (nI a) (JB 20 q) c t), .int 1]) rfl ?_
              refine Z.drop (i := 9) (L' := [.ref 0, .int (nI r), .int (nI a), .int (nI b), .int c, .int (JB 25 r), .int (rightF (pM I n) (nI b) (JB 25 r) c t), .int (nI (q + 1)), .retAddr 0, .retAddr 0, .int 1]) rfl ?_
              refine Z.drop (i := 10) (L' := [.ref 0, .int (nI r), .int (nI a), .int (nI b), .int c, .int (JB 25 r), .int (rightF (pM I n) (nI b) (JB 25 r) c t), .int (nI (q + 1)), .retAddr 0, .retAddr 0, .retAddr 0]) rfl ?_
              refine ih (by omega) _ (CM_hit (KY := KY) hr (by omega) hnp hnr (show (fun r q => chF (pM I n) (qM I nq) (I 35 9) (nI a) (nI b) c t (JB 20 q) (JB 25 r)) r q = true by simp [chF, hsy, h1, h2, h4, h5, h8]) rfl hcm)
    · refine Z.iload dX6_findClashOver_82 rfl ?_
      refine Z.iload dX6_findClashOver_84 rfl ?_
      refine Z.icmp_ne (tgt := 98) dX6_findClashOver_86 (by decide) (fun h9 => ?_) (fun h9 => ?_)
      · refine Z.iconst (v := 0) dX6_findClashOver_98 (by decide) ?_
        refine Z.istore (L' := [.ref 0, .int (nI r), .int (nI a), .int (nI b), .int c, .int (JB 25 r), .int (rightF (pM I n) (nI b) (JB 25 r) c t), .int (nI q), .int (JB 20 q), .int (rightF (pM I n) (nI a) (JB 20 q) c t), .int 0]) dX6_findClashOver_99 (Nat.le_of_ble_eq_true rfl) rfl ?_
        refine Z.iload dX6_findClashOver_101 rfl ?_
        refine Z.if_eq (tgt := 161) dX6_findClashOver_103 (by decide) (fun h10 => ?_) (fun h10 => absurd h10 (by decide))
        refine Z.iinc (v := nI (q + 1)) (L' := [.ref 0, .int (nI r), .int (nI a), .int (nI b), .int c, .int (JB 25 r), .int (rightF (pM I n) (nI b) (JB 25 r) c t), .int (nI (q + 1)), .int (JB 20 q), .int (rightF (pM I n) (nI a) (JB 20 q) c t), .int 0]) dX6_findClashOver_161 rfl (nI_1 _) rfl ?_
        refine Z.goto (tgt := 40) dX6_findClashOver_164 (by decide) ?_
        refine Z.drop (i := 8) (L' := [.ref 0, .int (nI r), .int (nI a), .int (nI b), .int c, .int (JB 25 r), .int (rightF (pM I n) (nI b) (JB 25 r) c t), .int (nI (q + 1)), .retAddr 0, .int (rightF (pM I n) (nI a) (JB 20 q) c t), .int 0]) rfl ?_
        refine Z.drop (i := 9) (L' := [.ref 0, .int (nI r), .int (nI a), .int (nI b), .int c, .int (JB 25 r), .int (rightF (pM I n) (nI b) (JB 25 r) c t), .int (nI (q + 1)), .retAddr 0, .retAddr 0, .int 0]) rfl ?_
        refine Z.drop (i := 10) (L' := [.ref 0, .int (nI r), .int (nI a), .int (nI b), .int c, .int (JB 25 r), .int (rightF (pM I n) (nI b) (JB 25 r) c t), .int (nI (q + 1)), .retAddr 0, .retAddr 0, .retAddr 0]) rfl ?_
        refine ih (by omega) _ (CM_no (show (fun r q => chF (pM I n) (qM I nq) (I 35 9) (nI a) (nI b) c t (JB 20 q) (JB 25 r)) r q = false by simp [chF, h1, h2, h9]) hcm)
      · refine Z.iload_n dX6_findClashOver_89 rfl ?_
        refine Z.iload_n dX6_findClashOver_90 rfl ?_
        refine Z.icmp_ge (tgt := 98) dX6_findClashOver_91 (by decide) (fun h11 => ?_) (fun h11 => ?_)
        · refine Z.iconst (v := 0) dX6_findClashOver_98 (by decide) ?_
          refine Z.istore (L' := [.ref 0, .int (nI r), .int (nI a), .int (nI b), .int c, .int (JB 25 r), .int (rightF (pM I n) (nI b) (JB 25 r) c t), .int (nI q), .int (JB 20 q), .int (rightF (pM I n) (nI a) (JB 20 q) c t), .int 0]) dX6_findClashOver_99 (Nat.le_of_ble_eq_true rfl) rfl ?_
          refine Z.iload dX6_findClashOver_101 rfl ?_
          refine Z.if_eq (tgt := 161) dX6_findClashOver_103 (by decide) (fun h12 => ?_) (fun h12 => absurd h12 (by decide))
          refine Z.iinc (v := nI (q + 1)) (L' := [.ref 0, .int (nI r), .int (nI a), .int (nI b), .int c, .int (JB 25 r), .int (rightF (pM I n) (nI b) (JB 25 r) c t), .int (nI (q + 1)), .int (JB 20 q), .int (rightF (pM I n) (nI a) (JB 20 q) c t), .int 0]) dX6_findClashOver_161 rfl (nI_1 _) rfl ?_
          refine Z.goto (tgt := 40) dX6_findClashOver_164 (by decide) ?_
          refine Z.drop (i := 8) (L' := [.ref 0, .int (nI r), .int (nI a), .int (nI b), .int c, .int (JB 25 r), .int (rightF (pM I n) (nI b) (JB 25 r) c t), .int (nI (q + 1)), .retAddr 0, .int (rightF (pM I n) (nI a) (JB 20 q) c t), .int 0]) rfl ?_
          refine Z.drop (i := 9) (L' := [.ref 0, .int (nI r), .int (nI a), .int (nI b), .int c, .int (JB 25 r), .int (rightF (pM I n) (nI b) (JB 25 r) c t), .int (nI (q + 1)), .retAddr 0, .retAddr 0, .int 0]) rfl ?_
          refine Z.drop (i := 10) (L' := [.ref 0, .int (nI r), .int (nI a), .int (nI b), .int c, .int (JB 25 r), .int (rightF (pM I n) (nI b) (JB 25 r) c t), .int (nI (q + 1)), .retAddr 0, .retAddr 0, .retAddr 0]) rfl ?_
          refine ih (by omega) _ (CM_no (show (fun r q => chF (pM I n) (qM I nq) (I 35 9) (nI a) (nI b) c t (JB 20 q) (JB 25 r)) r q = false by simp [chF, h1, h2, eq_true h9, h11]) hcm)
        · refine Z.iconst (v := 1) dX6_findClashOver_94 (by decide) ?_
          refine Z.goto (tgt := 99) dX6_findClashOver_95 (by decide) ?_
          refine Z.istore (L' := [.ref 0, .int (nI r), .int (nI a), .int (nI b), .int c, .int (JB 25 r), .int (rightF (pM I n) (nI b) (JB 25 r) c t), .int (nI q), .int (JB 20 q), .int (rightF (pM I n) (nI a) (JB 20 q) c t), .int 1]) dX6_findClashOver_99 (Nat.le_of_ble_eq_true rfl) rfl ?_
          refine Z.iload dX6_findClashOver_101 rfl ?_
          refine Z.if_eq (tgt := 161) dX6_findClashOver_103 (by decide) (fun h13 => absurd h13 (by decide)) (fun h13 => ?_)
          refine Z.aload_n dX6_findClashOver_106 rfl ?_
          refine Z.getR (r := 19) dX6_findClashOver_107 cl6 flX6_49 (by decide) (fx0 hF) rfl ?_
          refine Z.iload dX6_findClashOver_110 rfl ?_
          refine Z.callVp (M := mX6_findClashOver) (pc := 112) (st := []) (N := mX5_standsAt) (n := 1) (r := .int (bI (standsF (pM I n) (nI a) (JB 20 q) c t))) dX6_findClashOver_112 mlX6_202 mkX5_standsAt imX5_standsAt seX5_standsAt (fx19 hF) cl5 rfl (d1 := 3) (by decide) (As := [.int (nI q)]) rfl ⟨rfl, Nat.le_of_ble_eq_true rfl⟩ ⟨rfl, Nat.le_of_ble_eq_true rfl⟩ (by have e := cq_standsAtT19 (g := g) (J := (va_up JP 34 (f))) (hE.up (a := 34) rfl) hF hC hn2 hD hA hB (by omega) hc; rw [show (va_up JP 34 (f)) 20 q = JB 20 q from (congrFun (hx 20 (by omega)) q)] at e; exact e) rfl ?_
          refine Z.if_eqB (tgt := 161) dX6_findClashOver_115 (by decide) (fun h14 => ?_) (fun h14 => ?_)
          · refine Z.iinc (v := nI (q + 1)) (L' := [.ref 0, .int (nI r), .int (nI a), .int (nI b), .int c, .int (JB 25 r), .int (rightF (pM I n) (nI b) (JB 25 r) c t), .int (nI (q + 1)), .int (JB 20 q), .int (rightF (pM I n) (nI a) (JB 20 q) c t), .int 1]) dX6_findClashOver_161 rfl (nI_1 _) rfl ?_
            refine Z.goto (tgt := 40) dX6_findClashOver_164 (by decide) ?_
            refine Z.drop (i := 8) (L' := [.ref 0, .int (nI r), .int (nI a), .int (nI b), .int c, .int (JB 25 r), .int (rightF (pM I n) (nI b) (JB 25 r) c t), .int (nI (q + 1)), .retAddr 0, .int (rightF (pM I n) (nI a) (JB 20 q) c t), .int 1]) rfl ?_
            refine Z.drop (i := 9) (L' := [.ref 0, .int (nI r), .int (nI a), .int (nI b), .int c, .int (JB 25 r), .int (rightF (pM I n) (nI b) (JB 25 r) c t), .int (nI (q + 1)), .retAddr 0, .retAddr 0, .int 1]) rfl ?_
            refine Z.drop (i := 10) (L' := [.ref 0, .int (nI r), .int (nI a), .int (nI b), .int c, .int (JB 25 r), .int (rightF (pM I n) (nI b) (JB 25 r) c t), .int (nI (q + 1)), .retAddr 0, .retAddr 0, .retAddr 0]) rfl ?_
            refine ih (by omega) _ (CM_no (show (fun r q => chF (pM I n) (qM I nq) (I 35 9) (nI a) (nI b) c t (JB 20 q) (JB 25 r)) r q = false by simp [chF, h1, h2, eq_true h9, h11, h14]) hcm)
          · refine Z.aload_n dX6_findClashOver_118 rfl ?_
            refine Z.iload dX6_findClashOver_119 rfl ?_
            refine Z.iload dX6_findClashOver_121 rfl ?_
            refine Z.callVp (M := mX6_findClashOver) (pc := 123) (st := []) (N := mX6_isNear) (n := 2) (r := .int (bI (neF (pM I n) (qM I nq) (I 35 9) (nI a) (JB 20 q) (JB 25 r) t))) dX6_findClashOver_123 mlX6_285 mkX6_isNear imX6_isNear seX6_isNear (fx0 hF) cl6 rfl (d1 := 2) (by decide) (As := [.int (JB 20 q), .int (JB 25 r)]) rfl ⟨rfl, Nat.le_of_ble_eq_true rfl⟩ ⟨rfl, Nat.le_of_ble_eq_true rfl⟩ (cc_isNear (hE.up (a := 34) rfl) (JB 20 q) (JB 25 r) hF hC hn hq hcq hM hm hz hL hA hB) rfl ?_
            refine Z.if_eqB (tgt := 161) dX6_findClashOver_126 (by decide) (fun h15 => ?_) (fun h15 => ?_)
            · refine Z.iinc (v := nI (q + 1)) (L' := [.ref 0, .int (nI r), .int (nI a), .int (nI b), .int c, .int (JB 25 r), .int (rightF (pM I n) (nI b) (JB 25 r) c t), .int (nI (q + 1)), .int (JB 20 q), .int (rightF (pM I n) (nI a) (JB 20 q) c t), .int 1]) dX6_findClashOver_161 rfl (nI_1 _) rfl ?_
              refine Z.goto (tgt := 40) dX6_findClashOver_164 (by decide) ?_
              refine Z.drop (i := 8) (L' := [.ref 0, .int (nI r), .int (nI a), .int (nI b), .int c, .int (JB 25 r), .int (rightF (pM I n) (nI b) (JB 25 r) c t), .int (nI (q + 1)), .retAddr 0, .int (rightF (pM I n) (nI a) (JB 20 q) c t), .int 1]) rfl ?_
              refine Z.drop (i := 9) (L' := [.ref 0, .int (nI r), .int (nI a), .int (nI b), .int c, .int (JB 25 r), .int (rightF (pM I n) (nI b) (JB 25 r) c t), .int (nI (q + 1)), .retAddr 0, .retAddr 0, .int 1]) rfl ?_
              refine Z.drop (i := 10) (L' := [.ref 0, .int (nI r), .int (nI a), .int (nI b), .int c, .int (JB 25 r), .int (rightF (pM I n) (nI b) (JB 25 r) c t), .int (nI (q + 1)), .retAddr 0, .retAddr 0, .retAddr 0]) rfl ?_
              refine ih (by omega) _ (CM_no (show (fun r q => chF (pM I n) (qM I nq) (I 35 9) (nI a) (nI b) c t (JB 20 q) (JB 25 r)) r q = false by simp [chF, h1, h2, eq_true h9, h11, h14, h15]) hcm)
            · refine Z.aload_n dX6_findClashOver_129 rfl ?_
              refine Z.getR (r := 29) dX6_findClashOver_130 cl6 flX6_56 (by decide) (fx0 hF) rfl ?_
              refine Z.aload_n dX6_findClashOver_133 rfl ?_
              refine Z.getR (r := 29) dX6_findClashOver_134 cl6 flX6_56 (by decide) (fx0 hF) rfl ?_
              refine Z.iload dX6_findClashOver_137 rfl ?_
              refine Z.callVg (M := mX6_findClashOver) (pc := 139) (st := [.ref 29]) (N := mX5_find) (n := 1) dX6_findClashOver_139 mlX6_193 mkX5_find imX5_find seX5_find (fx29 hF) cl5 rfl (d1 := 0) (by decide) (As := [.int (JB 20 q)]) rfl ⟨rfl, Nat.le_of_ble_eq_true rfl⟩ ⟨rfl, Nat.le_of_ble_eq_true rfl⟩ (cv_find29 (J := (va_up JP 34 (f))) (hE.up (a := 34) rfl) (JB 20 q) hF (hAp.2.2.2.2.2.2.2.2.1) (hAp.2.2.2.2.2.2.2.2.2)) rfl (fun v_ J3 S_ h_ => ?_)
              obtain ⟨⟨k_, rfl, hk_⟩, rfl, rfl⟩ := h_
              rcases hk_ with ⟨rfl, hno16⟩ | ⟨q16, hq16, rfl, hg16⟩
              · refine Z.callVp (M := mX6_findClashOver) (pc := 142) (st := []) (N := mX5_standsAt) (n := 1) (r := .int (bI (false))) dX6_findClashOver_142 mlX6_202 mkX5_standsAt imX5_standsAt seX5_standsAt (fx29 hF) cl5 rfl (d1 := 3) (by decide) (As := [.int ((-1))]) rfl ⟨rfl, Nat.le_of_ble_eq_true rfl⟩ ⟨rfl, Nat.le_of_ble_eq_true rfl⟩ (cq_standsAtN29 (hE.up (a := 34) rfl) hF hC hn2 hD hAp hBp) rfl ?_
                refine Z.if_eqB (tgt := 161) dX6_findClashOver_145 (by decide) (fun h17 => ?_) (fun h17 => absurd h17 (by decide))
                refine Z.iinc (v := nI (q + 1)) (L' := [.ref 0, .int (nI r), .int (nI a), .int (nI b), .int c, .int (JB 25 r), .int (rightF (pM I n) (nI b) (JB 25 r) c t), .int (nI (q + 1)), .int (JB 20 q), .int (rightF (pM I n) (nI a) (JB 20 q) c t), .int 1]) dX6_findClashOver_161 rfl (nI_1 _) rfl ?_
                refine Z.goto (tgt := 40) dX6_findClashOver_164 (by decide) ?_
                refine Z.drop (i := 8) (L' := [.ref 0, .int (nI r), .int (nI a), .int (nI b), .int c, .int (JB 25 r), .int (rightF (pM I n) (nI b) (JB 25 r) c t), .int (nI (q + 1)), .retAddr 0, .int (rightF (pM I n) (nI a) (JB 20 q) c t), .int 1]) rfl ?_
                refine Z.drop (i := 9) (L' := [.ref 0, .int (nI r), .int (nI a), .int (nI b), .int c, .int (JB 25 r), .int (rightF (pM I n) (nI b) (JB 25 r) c t), .int (nI (q + 1)), .retAddr 0, .retAddr 0, .int 1]) rfl ?_
                refine Z.drop (i := 10) (L' := [.ref 0, .int (nI r), .int (nI a), .int (nI b), .int c, .int (JB 25 r), .int (rightF (pM I n) (nI b) (JB 25 r) c t), .int (nI (q + 1)), .retAddr 0, .retAddr 0, .retAddr 0]) rfl ?_
                have hps : standsF (pM I n) (nI a) (JB 20 q) c (rightF (pM I n) (nI b) (JB 25 r) c t) = false := stands_no (right_ns (VB_none hBp (hBB.1 q (by omega)).1 hno16))
                refine ih (by omega) _ (CM_no (show (fun r q => chF (pM I n) (qM I nq) (I 35 9) (nI a) (nI b) c t (JB 20 q) (JB 25 r)) r q = false by simp [chF, h1, h2, eq_true h9, h11, h14, h15, hps]) hcm)
              · refine Z.callVp (M := mX6_findClashOver) (pc := 142) (st := []) (N := mX5_standsAt) (n := 1) (r := .int (bI (standsF (pM I n) (nI a) (JB 20 q) c (rightF (pM I n) (nI b) (JB 25 r) c t)))) dX6_findClashOver_142 mlX6_202 mkX5_standsAt imX5_standsAt seX5_standsAt (fx29 hF) cl5 rfl (d1 := 3) (by decide) (As := [.int (nI q16)]) rfl ⟨rfl, Nat.le_of_ble_eq_true rfl⟩ ⟨rfl, Nat.le_of_ble_eq_true rfl⟩ (by have e := cq_standsAtT29 (g := g) (J := (va_up JP 34 (f))) (hE.up (a := 34) rfl) hF hC hn2 hD hAp hBp hq16 hc; rw [hg16] at e; exact e) rfl ?_
                refine Z.if_eqB (tgt := 161) dX6_findClashOver_145 (by decide) (fun h18 => ?_) (fun h18 => ?_)
                · refine Z.iinc (v := nI (q + 1)) (L' := [.ref 0, .int (nI r), .int (nI a), .int (nI b), .int c, .int (JB 25 r), .int (rightF (pM I n) (nI b) (JB 25 r) c t), .int (nI (q + 1)), .int (JB 20 q), .int (rightF (pM I n) (nI a) (JB 20 q) c t), .int 1]) dX6_findClashOver_161 rfl (nI_1 _) rfl ?_
                  refine Z.goto (tgt := 40) dX6_findClashOver_164 (by decide) ?_
                  refine Z.drop (i := 8) (L' := [.ref 0, .int (nI r), .int (nI a), .int (nI b), .int c, .int (JB 25 r), .int (rightF (pM I n) (nI b) (JB 25 r) c t), .int (nI (q + 1)), .retAddr 0, .int (rightF (pM I n) (nI a) (JB 20 q) c t), .int 1]) rfl ?_
                  refine Z.drop (i := 9) (L' := [.ref 0, .int (nI r), .int (nI a), .int (nI b), .int c, .int (JB 25 r), .int (rightF (pM I n) (nI b) (JB 25 r) c t), .int (nI (q + 1)), .retAddr 0, .retAddr 0, .int 1]) rfl ?_
                  refine Z.drop (i := 10) (L' := [.ref 0, .int (nI r), .int (nI a), .int (nI b), .int c, .int (JB 25 r), .int (rightF (pM I n) (nI b) (JB 25 r) c t), .int (nI (q + 1)), .retAddr 0, .retAddr 0, .retAddr 0]) rfl ?_
                  refine ih (by omega) _ (CM_no (show (fun r q => chF (pM I n) (qM I nq) (I 35 9) (nI a) (nI b) c t (JB 20 q) (JB 25 r)) r q = false by simp [chF, h1, h2, eq_true h9, h11, h14, h15, h18]) hcm)
                · refine Z.aload_n dX6_findClashOver_148 rfl ?_
                  refine Z.getR (r := 34) dX6_findClashOver_149 cl6 flX6_62 (by decide) (fx0 hF) rfl ?_
                  refine Z.iload dX6_findClashOver_152 rfl ?_
                  refine Z.iload dX6_findClashOver_154 rfl ?_
                  refine Z.iload dX6_findClashOver_156 rfl ?_
                  refine Z.callVg (M := mX6_findClashOver) (pc := 158) (st := []) (N := mX0_add) (n := 3) dX6_findClashOver_158 mlX6_297 mkX0_add imX0_add seX0_add (fx34 hF) cl0 rfl (d1 := 0) (by decide) (As := [.int (JB 20 q), .int (JB 25 r), .int (rightF (pM I n) (nI a) (JB 20 q) c t)]) rfl ⟨rfl, Nat.le_of_ble_eq_true rfl⟩ ⟨rfl, Nat.le_of_ble_eq_true rfl⟩ (cc_add0 (J := (va_up JP 34 (f))) (hE.up (a := 34) rfl) (JB 20 q) (JB 25 r) (rightF (pM I n) (nI a) (JB 20 q) c t) hF) rfl (fun v_ J4 S_ h_ => ?_)
                  obtain ⟨rfl, rfl, rfl⟩ := h_
                  refine Z.eqI (bx_uu _ _ _ _) ?_
                  refine Z.iinc (v := nI (q + 1)) (L' := [.ref 0, .int (nI r), .int (nI a), .int (nI b), .int c, .int (JB 25 r), .int (rightF (pM I n) (nI b) (JB 25 r) c t), .int (nI (q + 1)), .int (JB 20 q), .int (rightF (pM I n) (nI a) (JB 20 q) c t), .int 1]) dX6_findClashOver_161 rfl (nI_1 _) rfl ?_
                  refine Z.goto (tgt := 40) dX6_findClashOver_164 (by decide) ?_
                  refine Z.drop (i := 8) (L' := [.ref 0, .int (nI r), .int (nI a), .int (nI b), .int c, .int (JB 25 r), .int (rightF (pM I n) (nI b) (JB 25 r) c t), .int (nI (q + 1)), .retAddr 0, .int (rightF (pM I n) (nI a) (JB 20 q) c t), .int 1]) rfl ?_
                  refine Z.drop (i := 9) (L' := [.ref 0, .int (nI r), .int (nI a), .int (nI b), .int c, .int (JB 25 r), .int (rightF (pM I n) (nI b) (JB 25 r) c t), .int (nI (q + 1)), .retAddr 0, .retAddr 0, .int 1]) rfl ?_
                  refine Z.drop (i := 10) (L' := [.ref 0, .int (nI r), .int (nI a), .int (nI b), .int c, .int (JB 25 r), .int (rightF (pM I n) (nI b) (JB 25 r) c t), .int (nI (q + 1)), .retAddr 0, .retAddr 0, .retAddr 0]) rfl ?_
                  refine ih (by omega) _ (CM_hit (KY := KY) hr (by omega) hnp hnr (show (fun r q => chF (pM I n) (qM I nq) (I 35 9) (nI a) (nI b) c t (JB 20 q) (JB 25 r)) r q = true by simp [chF, hsy, h1, h2, eq_true h9, h11, h14, h15, h18]) rfl hcm)

set_option maxHeartbeats 4000000 in
set_option maxRecDepth 100000 in
theorem cc_fco {g : GP} {I J : IM} {S : SH} (hE : Ex I J)  (hF : Fx S) (hC : Cp I) {n : Nat} (hn : Mp I n) {nq : Nat} (hq : Mq I nq) (hcq : Cq I nq) (hM : MIv I) {mm : Nat} (hm : Mm I mm) (hz : Mz I S mm) (hL : LG I n) {JB : IM} {a b KE KY : Nat} {c t : Int32} (ha : a < mm) (hb : b < mm) (hc : ¬ c = -1) (hAB : VA I n (nI a) c t (JB 19) KE) (hBB : VB I n (nI a) t (JB 20) (JB 21) (JB 22) (JB 23) KE) (hAyB : VA I n (nI b) c t (JB 24) KY) (hByB : VB I n (nI b) t (JB 25) (JB 26) (JB 27) (JB 28) KY) (hnp : ∀ r q, r < KY → q < KE → (fun r q => chF (pM I n) (qM I nq) (I 35 9) (nI a) (nI b) c t (JB 20 q) (JB 25 r)) r q = true → ¬ (fun r q => 360 * JB 20 q + JB 25 r) r q < 0) (hnr : ∀ r q, r < KY → q < KE → (fun r q => chF (pM I n) (qM I nq) (I 35 9) (nI a) (nI b) c t (JB 20 q) (JB 25 r)) r q = true → ¬ (fun r q => rightF (pM I n) (nI a) (JB 20 q) c t) r q < 0) {r : Nat} (hr : r < KY) (hsy : standsF (pM I n) (nI b) (JB 25 r) c t = true) (hx : AX JB J) (hcm : CM (fun r q => chF (pM I n) (qM I nq) (I 35 9) (nI a) (nI b) c t (JB 20 q) (JB 25 r)) (fun r q => 360 * JB 20 q + JB 25 r) (fun r q => rightF (pM I n) (nI a) (JB 20 q) c t) KE r 0 (J 34)) : Z g 4 0 0 mX6_findClashOver 0 (enL mX6_findClashOver [.ref 0, .int (nI r), .int (nI a), .int (nI b), .int c]) [] J S (FCQ (fun r q => chF (pM I n) (qM I nq) (I 35 9) (nI a) (nI b) c t (JB 20 q) (JB 25 r)) (fun r q => 360 * JB 20 q + JB 25 r) (fun r q => rightF (pM I n) (nI a) (JB 20 q) c t) KE (r + 1) JB S) := by
  show Z g 4 0 0 mX6_findClashOver 0 [.ref 0, .int (nI r), .int (nI a), .int (nI b), .int c, .retAddr 0, .retAddr 0, .retAddr 0, .retAddr 0, .retAddr 0, .retAddr 0] [] J S _
  have hn2 := hn.2
  have hq2 := hq.2
  have hm2 := hm.2
  have hD := hL.1
  have hso := hL.2.1
  have hKE := hAB.2.2.2.2.2.2.2.2.2
  have hKY := hAyB.2.2.2.2.2.2.2.2.2
  have hA : VA I n (nI a) c t (J 19) KE := by rw [hx 19 (by omega)]; exact hAB
  have hB : VB I n (nI a) t (J 20) (J 21) (J 22) (J 23) KE := by rw [hx 20 (by omega), hx 21 (by omega), hx 22 (by omega), hx 23 (by omega)]; exact hBB
  have hAy : VA I n (nI b) c t (J 24) KY := by rw [hx 24 (by omega)]; exact hAyB
  have hBy : VB I n (nI b) t (J 25) (J 26) (J 27) (J 28) KY := by rw [hx 25 (by omega), hx 26 (by omega), hx 27 (by omega), hx 28 (by omega)]; exact hByB
  refine Z.aload_n dX6_findClashOver_0 rfl ?_
  refine Z.getR (r := 24) dX6_findClashOver_1 cl6 flX6_53 (by decide) (fx0 hF) rfl ?_
  refine Z.getR (r := 25) dX6_findClashOver_4 cl5 flX6_282 (by decide) (fx24 hF) rfl ?_
  refine Z.iload_n dX6_findClashOver_7 rfl ?_
  refine Z.ialdv (j := r) (v := JB 25 r) dX6_findClashOver_8 (fx25 hF) rfl (by omega) (by decide) (congrFun (hx 25 (by omega)) r) ?_
  refine Z.istore (L' := [.ref 0, .int (nI r), .int (nI a), .int (nI b), .int c, .int (JB 25 r), .retAddr 0, .retAddr 0, .retAddr 0, .retAddr 0, .retAddr 0]) dX6_findClashOver_9 (Nat.le_of_ble_eq_true rfl) rfl ?_
  refine Z.aload_n dX6_findClashOver_11 rfl ?_
  refine Z.getR (r := 24) dX6_findClashOver_12 cl6 flX6_53 (by decide) (fx0 hF) rfl ?_
  refine Z.iload_n dX6_findClashOver_15 rfl ?_
  refine Z.callVp (M := mX6_findClashOver) (pc := 16) (st := []) (N := mX5_rightAt) (n := 1) (r := .int (rightF (pM I n) (nI b) (JB 25 r) c t)) dX6_findClashOver_16 mlX6_199 mkX5_rightAt imX5_rightAt seX5_rightAt (fx24 hF) cl5 rfl (d1 := 1) (by decide) (As := [.int (nI r)]) rfl ⟨rfl, Nat.le_of_ble_eq_true rfl⟩ ⟨rfl, Nat.le_of_ble_eq_true rfl⟩ (by have e := cq_rightAtT24 (g := g) (J := J) hE hF hC hn2 hD hAy hBy (by omega) hc; rw [show J 25 r = JB 25 r from (congrFun (hx 25 (by omega)) r)] at e; exact e) rfl ?_
  refine Z.istore (L' := [.ref 0, .int (nI r), .int (nI a), .int (nI b), .int c, .int (JB 25 r), .int (rightF (pM I n) (nI b) (JB 25 r) c t), .retAddr 0, .retAddr 0, .retAddr 0, .retAddr 0]) dX6_findClashOver_19 (Nat.le_of_ble_eq_true rfl) rfl ?_
  refine Z.aload_n dX6_findClashOver_21 rfl ?_
  refine Z.getR (r := 29) dX6_findClashOver_22 cl6 flX6_56 (by decide) (fx0 hF) rfl ?_
  refine Z.aload_n dX6_findClashOver_25 rfl ?_
  refine Z.getR (r := 14) dX6_findClashOver_26 cl6 flX6_32 (by decide) (fx0 hF) rfl ?_
  refine Z.iload_n dX6_findClashOver_29 rfl ?_
  refine Z.iload dX6_findClashOver_30 rfl ?_
  refine Z.iload dX6_findClashOver_32 rfl ?_
  refine Z.callVg (M := mX6_findClashOver) (pc := 34) (st := []) (N := mX5_read) (n := 4) dX6_findClashOver_34 mlX6_118 mkX5_read imX5_read seX5_read (fx29 hF) cl5 rfl (d1 := 3) (by decide) (As := [.ref 14, .int (nI a), .int c, .int (rightF (pM I n) (nI b) (JB 25 r) c t)]) rfl ⟨rfl, Nat.le_of_ble_eq_true rfl⟩ ⟨rfl, Nat.le_of_ble_eq_true rfl⟩ (cv_read29 hE (nI a) c (rightF (pM I n) (nI b) (JB 25 r) c t) hF hC hn hL) rfl (fun v_ J1 S_ h_ => ?_)
  obtain ⟨rfl, hw, ⟨KP, hAp, hBp⟩, rfl⟩ := h_
  have hE := AW29.ex hw hE
  have h34 := hw 34 (by omega)
  have hx2 : AX JB J1 := fun x hx_ => (hw x (by omega)).trans (hx x hx_)
  refine Z.iconst (v := 0) dX6_findClashOver_37 (by decide) ?_
  refine Z.istore (L' := [.ref 0, .int (nI r), .int (nI a), .int (nI b), .int c, .int (JB 25 r), .int (rightF (pM I n) (nI b) (JB 25 r) c t), .int 0, .retAddr 0, .retAddr 0, .retAddr 0]) dX6_findClashOver_38 (Nat.le_of_ble_eq_true rfl) rfl ?_
  rw [← h34] at hcm
  refine Z.eqI (up_self (a := 34)).symm ?_
  exact lc_fco hE hF hC hn hq hcq hM hm hz hL ha hb hc hAB hBB hAyB hByB hnp hnr hr hsy hx2 hAp hBp 0 (Nat.zero_le _) _ hcm

