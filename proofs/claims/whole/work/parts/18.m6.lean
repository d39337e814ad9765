set_option maxHeartbeats 4000000 in
set_option maxRecDepth 100000 in
theorem lp_cr2 {g : GP} {I J : IM} {S : SH} (hE : Ex I J) (a b : Nat) (c t : Int32) (hF : Fx S) {n : Nat} (hn : Mp I n) {nq : Nat} (hq : Mq I nq) (hM : MIv I) (ha : a < 120) (hb : b < 120) (fA56 fB57 : Nat → Int32) (hfA56 : ∀ k, k < (gS (pM I n) (nI a) t).1 → fA56 k = (gS (pM I n) (nI a) t).2 k) (hfB57 : ∀ k, k < (gS (pM I n) (nI b) t).1 → fB57 k = (gS (pM I n) (nI b) t).2 k) (i : Nat) (hi : i < (gS (pM I n) (nI a) t).1) (hk : Z g 7 0 0 mX7_clashRight 45 [.ref 35, .int (nI a), .int (nI b), .int c, .int t, .int (crJ ((fun i j => chF (pM I n) (qM I nq) (I 35 9) (nI a) (nI b) c t ((gS (pM I n) (nI a) t).2 i) ((gS (pM I n) (nI b) t).2 j)) i) ((fun i => rightF (pM I n) (nI a) ((gS (pM I n) (nI a) t).2 i) c t) i) (crI (fun i j => chF (pM I n) (qM I nq) (I 35 9) (nI a) (nI b) c t ((gS (pM I n) (nI a) t).2 i) ((gS (pM I n) (nI b) t).2 j)) (fun i => rightF (pM I n) (nI a) ((gS (pM I n) (nI a) t).2 i) c t) (gS (pM I n) (nI b) t).1 i) (gS (pM I n) (nI b) t).1), .int (nI ((gS (pM I n) (nI a) t).1)), .int (nI ((gS (pM I n) (nI b) t).1)), .int (nI (i + 1)), .retAddr 0, .retAddr 0] [] (va_up (va_up J 56 fA56) 57 fB57) S (NQ (.int (crF I n nq a b c t)) I S)) : ∀ j, j ≤ (gS (pM I n) (nI b) t).1 → Z g 7 0 0 mX7_clashRight 55 [.ref 35, .int (nI a), .int (nI b), .int c, .int t, .int (crJ ((fun i j => chF (pM I n) (qM I nq) (I 35 9) (nI a) (nI b) c t ((gS (pM I n) (nI a) t).2 i) ((gS (pM I n) (nI b) t).2 j)) i) ((fun i => rightF (pM I n) (nI a) ((gS (pM I n) (nI a) t).2 i) c t) i) (crI (fun i j => chF (pM I n) (qM I nq) (I 35 9) (nI a) (nI b) c t ((gS (pM I n) (nI a) t).2 i) ((gS (pM I n) (nI b) t).2 j)) (fun i => rightF (pM I n) (nI a) ((gS (pM I n) (nI a) t).2 i) c t) (gS (pM I n) (nI b) t).1 i) j), .int (nI ((gS (pM I n) (nI a) t).1)), .int (nI ((gS (pM I n) (nI b) t).1)), .int (nI i), .int (nI j), .retAddr 0] [] (va_up (va_up J 56 fA56) 57 fB57) S (NQ (.int (crF I n nq a b c t)) I S) := by
  have hle1 : (gS (pM I n) (nI a) t).1 ≤ n := gS_le
  have hle2 : (gS (pM I n) (nI b) t).1 ≤ n := gS_le
  have hn2 := hn.2
  refine upZ _ (fun j hj ih => ?_)
  refine Z.iload dX7_clashRight_55 rfl ?_
  refine Z.iload dX7_clashRight_57 rfl ?_
  refine Z.icmp_geN (a := j) (b := (gS (pM I n) (nI b) t).1) (by omega) (by omega) (tgt := 127) dX7_clashRight_59 (by decide) (fun h1 => ?_) (fun h1 => ?_)
  · refine Z.iinc (v := nI (i + 1)) (L' := [.ref 35, .int (nI a), .int (nI b), .int c, .int t, .int (crJ ((fun i j => chF (pM I n) (qM I nq) (I 35 9) (nI a) (nI b) c t ((gS (pM I n) (nI a) t).2 i) ((gS (pM I n) (nI b) t).2 j)) i) ((fun i => rightF (pM I n) (nI a) ((gS (pM I n) (nI a) t).2 i) c t) i) (crI (fun i j => chF (pM I n) (qM I nq) (I 35 9) (nI a) (nI b) c t ((gS (pM I n) (nI a) t).2 i) ((gS (pM I n) (nI b) t).2 j)) (fun i => rightF (pM I n) (nI a) ((gS (pM I n) (nI a) t).2 i) c t) (gS (pM I n) (nI b) t).1 i) j), .int (nI ((gS (pM I n) (nI a) t).1)), .int (nI ((gS (pM I n) (nI b) t).1)), .int (nI (i + 1)), .int (nI j), .retAddr 0]) dX7_clashRight_127 rfl (nI_1 _) rfl ?_
    refine Z.goto (tgt := 45) dX7_clashRight_130 (by decide) ?_
    refine Z.drop (i := 9) (L' := [.ref 35, .int (nI a), .int (nI b), .int c, .int t, .int (crJ ((fun i j => chF (pM I n) (qM I nq) (I 35 9) (nI a) (nI b) c t ((gS (pM I n) (nI a) t).2 i) ((gS (pM I n) (nI b) t).2 j)) i) ((fun i => rightF (pM I n) (nI a) ((gS (pM I n) (nI a) t).2 i) c t) i) (crI (fun i j => chF (pM I n) (qM I nq) (I 35 9) (nI a) (nI b) c t ((gS (pM I n) (nI a) t).2 i) ((gS (pM I n) (nI b) t).2 j)) (fun i => rightF (pM I n) (nI a) ((gS (pM I n) (nI a) t).2 i) c t) (gS (pM I n) (nI b) t).1 i) j), .int (nI ((gS (pM I n) (nI a) t).1)), .int (nI ((gS (pM I n) (nI b) t).1)), .int (nI (i + 1)), .retAddr 0, .retAddr 0]) rfl ?_
    rw [show j = (gS (pM I n) (nI b) t).1 by omega]
    exact hk
  · refine Z.aload_n dX7_clashRight_62 rfl ?_
    refine Z.iload_n dX7_clashRight_63 rfl ?_
    refine Z.aload_n dX7_clashRight_64 rfl ?_
    refine Z.getR (r := 56) dX7_clashRight_65 cl7 flX7_70 (by decide) (fx35 hF) rfl ?_
    refine Z.iload dX7_clashRight_68 rfl ?_
    refine Z.ialdv (j := i) (v := (gS (pM I n) (nI a) t).2 i) dX7_clashRight_70 (fx56 hF) rfl (by omega) (by decide) (hfA56 i (by omega)) ?_
    refine Z.iload_n dX7_clashRight_71 rfl ?_
    refine Z.iload dX7_clashRight_72 rfl ?_
    refine Z.callVp (M := mX7_clashRight) (pc := 74) (st := []) (N := mX7_rightOf) (n := 4) (r := .int (rightF (pM I n) (nI a) ((gS (pM I n) (nI a) t).2 i) c t)) dX7_clashRight_74 mlX7_158 mkX7_rightOf imX7_rightOf seX7_rightOf (fx35 hF) cl7 rfl (d1 := 2) (by decide) (As := [.int (nI a), .int ((gS (pM I n) (nI a) t).2 i), .int c, .int t]) rfl ⟨rfl, Nat.le_of_ble_eq_true rfl⟩ ⟨rfl, Nat.le_of_ble_eq_true rfl⟩ (ct_rightOf ((hE.up (a := 56) rfl).up (a := 57) rfl) (nI a) ((gS (pM I n) (nI a) t).2 i) c t hF hn) rfl ?_
    refine Z.istore (L' := [.ref 35, .int (nI a), .int (nI b), .int c, .int t, .int (crJ ((fun i j => chF (pM I n) (qM I nq) (I 35 9) (nI a) (nI b) c t ((gS (pM I n) (nI a) t).2 i) ((gS (pM I n) (nI b) t).2 j)) i) ((fun i => rightF (pM I n) (nI a) ((gS (pM I n) (nI a) t).2 i) c t) i) (crI (fun i j => chF (pM I n) (qM I nq) (I 35 9) (nI a) (nI b) c t ((gS (pM I n) (nI a) t).2 i) ((gS (pM I n) (nI b) t).2 j)) (fun i => rightF (pM I n) (nI a) ((gS (pM I n) (nI a) t).2 i) c t) (gS (pM I n) (nI b) t).1 i) j), .int (nI ((gS (pM I n) (nI a) t).1)), .int (nI ((gS (pM I n) (nI b) t).1)), .int (nI i), .int (nI j), .int (rightF (pM I n) (nI a) ((gS (pM I n) (nI a) t).2 i) c t)]) dX7_clashRight_77 (Nat.le_of_ble_eq_true rfl) rfl ?_
    refine Z.iload dX7_clashRight_79 rfl ?_
    refine Z.if_lt (tgt := 91) dX7_clashRight_81 (by decide) (fun h2 => ?_) (fun h2 => ?_)
    · refine Z.aload_n dX7_clashRight_91 rfl ?_
      refine Z.iload_n dX7_clashRight_92 rfl ?_
      refine Z.iload_n dX7_clashRight_93 rfl ?_
      refine Z.iload_n dX7_clashRight_94 rfl ?_
      refine Z.iload dX7_clashRight_95 rfl ?_
      refine Z.aload_n dX7_clashRight_97 rfl ?_
      refine Z.getR (r := 56) dX7_clashRight_98 cl7 flX7_70 (by decide) (fx35 hF) rfl ?_
      refine Z.iload dX7_clashRight_101 rfl ?_
      refine Z.ialdv (j := i) (v := (gS (pM I n) (nI a) t).2 i) dX7_clashRight_103 (fx56 hF) rfl (by omega) (by decide) (hfA56 i (by omega)) ?_
      refine Z.aload_n dX7_clashRight_104 rfl ?_
      refine Z.getR (r := 57) dX7_clashRight_105 cl7 flX7_73 (by decide) (fx35 hF) rfl ?_
      refine Z.iload dX7_clashRight_108 rfl ?_
      refine Z.ialdv (j := j) (v := (gS (pM I n) (nI b) t).2 j) dX7_clashRight_110 (fx57 hF) rfl (by omega) (by decide) (hfB57 j (by omega)) ?_
      refine Z.callVp (M := mX7_clashRight) (pc := 111) (st := []) (N := mX7_clashes) (n := 6) (r := .int (bI (chF (pM I n) (qM I nq) (I 35 9) (nI a) (nI b) c t ((gS (pM I n) (nI a) t).2 i) ((gS (pM I n) (nI b) t).2 j)))) dX7_clashRight_111 mlX7_190 mkX7_clashes imX7_clashes seX7_clashes (fx35 hF) cl7 rfl (d1 := 5) (by decide) (As := [.int (nI a), .int (nI b), .int c, .int t, .int ((gS (pM I n) (nI a) t).2 i), .int ((gS (pM I n) (nI b) t).2 j)]) rfl ⟨rfl, Nat.le_of_ble_eq_true rfl⟩ ⟨rfl, Nat.le_of_ble_eq_true rfl⟩ (ct_clashes ((hE.up (a := 56) rfl).up (a := 57) rfl) (nI a) (nI b) c t ((gS (pM I n) (nI a) t).2 i) ((gS (pM I n) (nI b) t).2 j) hF hn hq) rfl ?_
      refine Z.if_eqB (tgt := 121) dX7_clashRight_114 (by decide) (fun h3 => ?_) (fun h3 => ?_)
      · refine Z.iinc (v := nI (j + 1)) (L' := [.ref 35, .int (nI a), .int (nI b), .int c, .int t, .int (crJ ((fun i j => chF (pM I n) (qM I nq) (I 35 9) (nI a) (nI b) c t ((gS (pM I n) (nI a) t).2 i) ((gS (pM I n) (nI b) t).2 j)) i) ((fun i => rightF (pM I n) (nI a) ((gS (pM I n) (nI a) t).2 i) c t) i) (crI (fun i j => chF (pM I n) (qM I nq) (I 35 9) (nI a) (nI b) c t ((gS (pM I n) (nI a) t).2 i) ((gS (pM I n) (nI b) t).2 j)) (fun i => rightF (pM I n) (nI a) ((gS (pM I n) (nI a) t).2 i) c t) (gS (pM I n) (nI b) t).1 i) j), .int (nI ((gS (pM I n) (nI a) t).1)), .int (nI ((gS (pM I n) (nI b) t).1)), .int (nI i), .int (nI (j + 1)), .int (rightF (pM I n) (nI a) ((gS (pM I n) (nI a) t).2 i) c t)]) dX7_clashRight_121 rfl (nI_1 _) rfl ?_
        refine Z.goto (tgt := 55) dX7_clashRight_124 (by decide) ?_
        refine Z.drop (i := 10) (L' := [.ref 35, .int (nI a), .int (nI b), .int c, .int t, .int (crJ ((fun i j => chF (pM I n) (qM I nq) (I 35 9) (nI a) (nI b) c t ((gS (pM I n) (nI a) t).2 i) ((gS (pM I n) (nI b) t).2 j)) i) ((fun i => rightF (pM I n) (nI a) ((gS (pM I n) (nI a) t).2 i) c t) i) (crI (fun i j => chF (pM I n) (qM I nq) (I 35 9) (nI a) (nI b) c t ((gS (pM I n) (nI a) t).2 i) ((gS (pM I n) (nI b) t).2 j)) (fun i => rightF (pM I n) (nI a) ((gS (pM I n) (nI a) t).2 i) c t) (gS (pM I n) (nI b) t).1 i) j), .int (nI ((gS (pM I n) (nI a) t).1)), .int (nI ((gS (pM I n) (nI b) t).1)), .int (nI i), .int (nI (j + 1)), .retAddr 0]) rfl ?_
        have e := ih (by omega)
        rw [show crJ ((fun i j => chF (pM I n) (qM I nq) (I 35 9) (nI a) (nI b) c t ((gS (pM I n) (nI a) t).2 i) ((gS (pM I n) (nI b) t).2 j)) i) ((fun i => rightF (pM I n) (nI a) ((gS (pM I n) (nI a) t).2 i) c t) i) (crI (fun i j => chF (pM I n) (qM I nq) (I 35 9) (nI a) (nI b) c t ((gS (pM I n) (nI a) t).2 i) ((gS (pM I n) (nI b) t).2 j)) (fun i => rightF (pM I n) (nI a) ((gS (pM I n) (nI a) t).2 i) c t) (gS (pM I n) (nI b) t).1 i) (j + 1) = crJ ((fun i j => chF (pM I n) (qM I nq) (I 35 9) (nI a) (nI b) c t ((gS (pM I n) (nI a) t).2 i) ((gS (pM I n) (nI b) t).2 j)) i) ((fun i => rightF (pM I n) (nI a) ((gS (pM I n) (nI a) t).2 i) c t) i) (crI (fun i j => chF (pM I n) (qM I nq) (I 35 9) (nI a) (nI b) c t ((gS (pM I n) (nI a) t).2 i) ((gS (pM I n) (nI b) t).2 j)) (fun i => rightF (pM I n) (nI a) ((gS (pM I n) (nI a) t).2 i) c t) (gS (pM I n) (nI b) t).1 i) j by simp [crJ, h1, h2, h3]] at e
        exact e
      · refine Z.iload dX7_clashRight_117 rfl ?_
        refine Z.istore (L' := [.ref 35, .int (nI a), .int (nI b), .int c, .int t, .int (rightF (pM I n) (nI a) ((gS (pM I n) (nI a) t).2 i) c t), .int (nI ((gS (pM I n) (nI a) t).1)), .int (nI ((gS (pM I n) (nI b) t).1)), .int (nI i), .int (nI j), .int (rightF (pM I n) (nI a) ((gS (pM I n) (nI a) t).2 i) c t)]) dX7_clashRight_119 (Nat.le_of_ble_eq_true rfl) rfl ?_
        refine Z.iinc (v := nI (j + 1)) (L' := [.ref 35, .int (nI a), .int (nI b), .int c, .int t, .int (rightF (pM I n) (nI a) ((gS (pM I n) (nI a) t).2 i) c t), .int (nI ((gS (pM I n) (nI a) t).1)), .int (nI ((gS (pM I n) (nI b) t).1)), .int (nI i), .int (nI (j + 1)), .int (rightF (pM I n) (nI a) ((gS (pM I n) (nI a) t).2 i) c t)]) dX7_clashRight_121 rfl (nI_1 _) rfl ?_
        refine Z.goto (tgt := 55) dX7_clashRight_124 (by decide) ?_
        refine Z.drop (i := 10) (L' := [.ref 35, .int (nI a), .int (nI b), .int c, .int t, .int (rightF (pM I n) (nI a) ((gS (pM I n) (nI a) t).2 i) c t), .int (nI ((gS (pM I n) (nI a) t).1)), .int (nI ((gS (pM I n) (nI b) t).1)), .int (nI i), .int (nI (j + 1)), .retAddr 0]) rfl ?_
        have e := ih (by omega)
        rw [show crJ ((fun i j => chF (pM I n) (qM I nq) (I 35 9) (nI a) (nI b) c t ((gS (pM I n) (nI a) t).2 i) ((gS (pM I n) (nI b) t).2 j)) i) ((fun i => rightF (pM I n) (nI a) ((gS (pM I n) (nI a) t).2 i) c t) i) (crI (fun i j => chF (pM I n) (qM I nq) (I 35 9) (nI a) (nI b) c t ((gS (pM I n) (nI a) t).2 i) ((gS (pM I n) (nI b) t).2 j)) (fun i => rightF (pM I n) (nI a) ((gS (pM I n) (nI a) t).2 i) c t) (gS (pM I n) (nI b) t).1 i) (j + 1) = rightF (pM I n) (nI a) ((gS (pM I n) (nI a) t).2 i) c t by simp [crJ, h1, h2, h3]] at e
        exact e
    · refine Z.iload dX7_clashRight_84 rfl ?_
      refine Z.iload dX7_clashRight_86 rfl ?_
      refine Z.icmp_ge (tgt := 121) dX7_clashRight_88 (by decide) (fun h4 => ?_) (fun h4 => ?_)
      · refine Z.iinc (v := nI (j + 1)) (L' := [.ref 35, .int (nI a), .int (nI b), .int c, .int t, .int (crJ ((fun i j => chF (pM I n) (qM I nq) (I 35 9) (nI a) (nI b) c t ((gS (pM I n) (nI a) t).2 i) ((gS (pM I n) (nI b) t).2 j)) i) ((fun i => rightF (pM I n) (nI a) ((gS (pM I n) (nI a) t).2 i) c t) i) (crI (fun i j => chF (pM I n) (qM I nq) (I 35 9) (nI a) (nI b) c t ((gS (pM I n) (nI a) t).2 i) ((gS (pM I n) (nI b) t).2 j)) (fun i => rightF (pM I n) (nI a) ((gS (pM I n) (nI a) t).2 i) c t) (gS (pM I n) (nI b) t).1 i) j), .int (nI ((gS (pM I n) (nI a) t).1)), .int (nI ((gS (pM I n) (nI b) t).1)), .int (nI i), .int (nI (j + 1)), .int (rightF (pM I n) (nI a) ((gS (pM I n) (nI a) t).2 i) c t)]) dX7_clashRight_121 rfl (nI_1 _) rfl ?_
        refine Z.goto (tgt := 55) dX7_clashRight_124 (by decide) ?_
        refine Z.drop (i := 10) (L' := [.ref 35, .int (nI a), .int (nI b), .int c, .int t, .int (crJ ((fun i j => chF (pM I n) (qM I nq) (I 35 9) (nI a) (nI b) c t ((gS (pM I n) (nI a) t).2 i) ((gS (pM I n) (nI b) t).2 j)) i) ((fun i => rightF (pM I n) (nI a) ((gS (pM I n) (nI a) t).2 i) c t) i) (crI (fun i j => chF (pM I n) (qM I nq) (I 35 9) (nI a) (nI b) c t ((gS (pM I n) (nI a) t).2 i) ((gS (pM I n) (nI b) t).2 j)) (fun i => rightF (pM I n) (nI a) ((gS (pM I n) (nI a) t).2 i) c t) (gS (pM I n) (nI b) t).1 i) j), .int (nI ((gS (pM I n) (nI a) t).1)), .int (nI ((gS (pM I n) (nI b) t).1)), .int (nI i), .int (nI (j + 1)), .retAddr 0]) rfl ?_
        have e := ih (by omega)
        rw [show crJ ((fun i j => chF (pM I n) (qM I nq) (I 35 9) (nI a) (nI b) c t ((gS (pM I n) (nI a) t).2 i) ((gS (pM I n) (nI b) t).2 j)) i) ((fun i => rightF (pM I n) (nI a) ((gS (pM I n) (nI a) t).2 i) c t) i) (crI (fun i j => chF (pM I n) (qM I nq) (I 35 9) (nI a) (nI b) c t ((gS (pM I n) (nI a) t).2 i) ((gS (pM I n) (nI b) t).2 j)) (fun i => rightF (pM I n) (nI a) ((gS (pM I n) (nI a) t).2 i) c t) (gS (pM I n) (nI b) t).1 i) (j + 1) = crJ ((fun i j => chF (pM I n) (qM I nq) (I 35 9) (nI a) (nI b) c t ((gS (pM I n) (nI a) t).2 i) ((gS (pM I n) (nI b) t).2 j)) i) ((fun i => rightF (pM I n) (nI a) ((gS (pM I n) (nI a) t).2 i) c t) i) (crI (fun i j => chF (pM I n) (qM I nq) (I 35 9) (nI a) (nI b) c t ((gS (pM I n) (nI a) t).2 i) ((gS (pM I n) (nI b) t).2 j)) (fun i => rightF (pM I n) (nI a) ((gS (pM I n) (nI a) t).2 i) c t) (gS (pM I n) (nI b) t).1 i) j by simp [crJ, h1, h2, h4]] at e
        exact e
      · refine Z.aload_n dX7_clashRight_91 rfl ?_
        refine Z.iload_n dX7_clashRight_92 rfl ?_
        refine Z.iload_n dX7_clashRight_93 rfl ?_
        refine Z.iload_n dX7_clashRight_94 rfl ?_
        refine Z.iload dX7_clashRight_95 rfl ?_
        refine Z.aload_n dX7_clashRight_97 rfl ?_
        refine Z.getR (r := 56) dX7_clashRight_98 cl7 flX7_70 (by decide) (fx35 hF) rfl ?_
        refine Z.iload dX7_clashRight_101 rfl ?_
        refine Z.ialdv (j := i) (v := (gS (pM I n) (nI a) t).2 i) dX7_clashRight_103 (fx56 hF) rfl (by omega) (by decide) (hfA56 i (by omega)) ?_
        refine Z.aload_n dX7_clashRight_104 rfl ?_
        refine Z.getR (r := 57) dX7_clashRight_105 cl7 flX7_73 (by decide) (fx35 hF) rfl ?_
        refine Z.iload dX7_clashRight_108 rfl ?_
        refine Z.ialdv (j := j) (v := (gS (pM I n) (nI b) t).2 j) dX7_clashRight_110 (fx57 hF) rfl (by omega) (by decide) (hfB57 j (by omega)) ?_
        refine Z.callVp (M := mX7_clashRight) (pc := 111) (st := []) (N := mX7_clashes) (n := 6) (r := .int (bI (chF (pM I n) (qM I nq) (I 35 9) (nI a) (nI b) c t ((gS (pM I n) (nI a) t).2 i) ((gS (pM I n) (nI b) t).2 j)))) dX7_clashRight_111 mlX7_190 mkX7_clashes imX7_clashes seX7_clashes (fx35 hF) cl7 rfl (d1 := 5) (by decide) (As := [.int (nI a), .int (nI b), .int c, .int t, .int ((gS (pM I n) (nI a) t).2 i), .int ((gS (pM I n) (nI b) t).2 j)]) rfl ⟨rfl, Nat.le_of_ble_eq_true rfl⟩ ⟨rfl, Nat.le_of_ble_eq_true rfl⟩ (ct_clashes ((hE.up (a := 56) rfl).up (a := 57) rfl) (nI a) (nI b) c t ((gS (pM I n) (nI a) t).2 i) ((gS (pM I n) (nI b) t).2 j) hF hn hq) rfl ?_
        refine Z.if_eqB (tgt := 121) dX7_clashRight_114 (by decide) (fun h5 => ?_) (fun h5 => ?_)
        · refine Z.iinc (v := nI (j + 1)) (L' := [.ref 35, .int (nI a), .int (nI b), .int c, .int t, .int (crJ ((fun i j => chF (pM I n) (qM I nq) (I 35 9) (nI a) (nI b) c t ((gS (pM I n) (nI a) t).2 i) ((gS (pM I n) (nI b) t).2 j)) i) ((fun i => rightF (pM I n) (nI a) ((gS (pM I n) (nI a) t).2 i) c t) i) (crI (fun i j => chF (pM I n) (qM I nq) (I 35 9) (nI a) (nI b) c t ((gS (pM I n) (nI a) t).2 i) ((gS (pM I n) (nI b) t).2 j)) (fun i => rightF (pM I n) (nI a) ((gS (pM I n) (nI a) t).2 i) c t) (gS (pM I n) (nI b) t).1 i) j), .int (nI ((gS (pM I n) (nI a) t).1)), .int (nI ((gS (pM I n) (nI b) t).1)), .int (nI i), .int (nI (j + 1)), .int (rightF (pM I n) (nI a) ((gS (pM I n) (nI a) t).2 i) c t)]) dX7_clashRight_121 rfl (nI_1 _) rfl ?_
          refine Z.goto (tgt := 55) dX7_clashRight_124 (by decide) ?_
          refine Z.drop (i := 10) (L' := [.ref 35, .int (nI a), .int (nI b), .int c, .int t, .int (crJ ((fun i j => chF (pM I n) (qM I nq) (I 35 9) (nI a) (nI b) c t ((gS (pM I n) (nI a) t).2 i) ((gS (pM I n) (nI b) t).2 j)) i) ((fun i => rightF (pM I n) (nI a) ((gS (pM I n) (nI a) t).2 i) c t) i) (crI (fun i j => chF (pM I n) (qM I nq) (I 35 9) (nI a) (nI b) c t ((gS (pM I n) (nI a) t).2 i) ((gS (pM I n) (nI b) t).2 j)) (fun i => rightF (pM I n) (nI a) ((gS (pM I n) (nI a) t).2 i) c t) (gS (pM I n) (nI b) t).1 i) j), .int (nI ((gS (pM I n) (nI a) t).1)), .int (nI ((gS (pM I n) (nI b) t).1)), .int (nI i), .int (nI (j + 1)), .retAddr 0]) rfl ?_
          have e := ih (by omega)
          rw [show crJ ((fun i j => chF (pM I n) (qM I nq) (I 35 9) (nI a) (nI b) c t ((gS (pM I n) (nI a) t).2 i) ((gS (pM I n) (nI b) t).2 j)) i) ((fun i => rightF (pM I n) (nI a) ((gS (pM I n) (nI a) t).2 i) c t) i) (crI (fun i j => chF (pM I n) (qM I nq) (I 35 9) (nI a) (nI b) c t ((gS (pM I n) (nI a) t).2 i) ((gS (pM I n) (nI b) t).2 j)) (fun i => rightF (pM I n) (nI a) ((gS (pM I n) (nI a) t).2 i) c t) (gS (pM I n) (nI b) t).1 i) (j + 1) = crJ ((fun i j => chF (pM I n) (qM I nq) (I 35 9) (nI a) (nI b) c t ((gS (pM I n) (nI a) t).2 i) ((gS (pM I n) (nI b) t).2 j)) i) ((fun i => rightF (pM I n) (nI a) ((gS (pM I n) (nI a) t).2 i) c t) i) (crI (fun i j => chF (pM I n) (qM I nq) (I 35 9) (nI a) (nI b) c t ((gS (pM I n) (nI a) t).2 i) ((gS (pM I n) (nI b) t).2 j)) (fun i => rightF (pM I n) (nI a) ((gS (pM I n) (nI a) t).2 i) c t) (gS (pM I n) (nI b) t).1 i) j by simp [crJ, h1, h2, h4, h5]] at e
          exact e
        · refine Z.iload dX7_clashRight_117 rfl ?_
          refine Z.istore (L' := [.ref 35, .int (nI a), .int (nI b), .int c, .int t, .int (rightF (pM I n) (nI a) ((gS (pM I n) (nI a) t).2 i) c t), .int (nI ((gS (pM I n) (nI a) t).1)), .int (nI ((gS (pM I n) (nI b) t).1)), .int (nI i), .int (nI j), .int (rightF (pM I n) (nI a) ((gS (pM I n) (nI a) t).2 i) c t)]) dX7_clashRight_119 (Nat.le_of_ble_eq_true rfl) rfl ?_
          refine Z.iinc (v := nI (j + 1)) (L' := [.ref 35, .int (nI a), .int (nI b), .int c, .int t, .int (rightF (pM I n) (nI a) ((gS (pM I n) (nI a) t).2 i) c t), .int (nI ((gS (pM I n) (nI a) t).1)), .int (nI ((gS (pM I n) (nI b) t).1)), .int (nI i), .int (nI (j + 1)), .int (rightF (pM I n) (nI a) ((gS (pM I n) (nI a) t).2 i) c t)]) dX7_clashRight_121 rfl (nI_1 _) rfl ?_
          refine Z.goto (tgt := 55) dX7_clashRight_124 (by decide) ?_
          refine Z.drop (i := 10) (L' := [.ref 35, .int (nI a), .int (nI b), .int c, .int t, .int (rightF (pM I n) (nI a) ((gS (pM I n) (nI a) t).2 i) c t), .int (nI ((gS (pM I n) (nI a) t).1)), .int (nI ((gS (pM I n) (nI b) t).1)), .int (nI i), .int (nI (j + 1)), .retAddr 0]) rfl ?_
          have e := ih (by omega)
          rw [show crJ ((fun i j => chF (pM I n) (qM I nq) (I 35 9) (nI a) (nI b) c t ((gS (pM I n) (nI a) t).2 i) ((gS (pM I n) (nI b) t).2 j)) i) ((fun i => rightF (pM I n) (nI a) ((gS (pM I n) (nI a) t).2 i) c t) i) (crI (fun i j => chF (pM I n) (qM I nq) (I 35 9) (nI a) (nI b) c t ((gS (pM I n) (nI a) t).2 i) ((gS (pM I n) (nI b) t).2 j)) (fun i => rightF (pM I n) (nI a) ((gS (pM I n) (nI a) t).2 i) c t) (gS (pM I n) (nI b) t).1 i) (j + 1) = rightF (pM I n) (nI a) ((gS (pM I n) (nI a) t).2 i) c t by simp [crJ, h1, h2, h4, h5]] at e
          exact e

set_option maxHeartbeats 4000000 in
set_option maxRecDepth 100000 in
theorem lp_cr1 {g : GP} {I J : IM} {S : SH} (hE : Ex I J) (a b : Nat) (c t : Int32) (hF : Fx S) {n : Nat} (hn : Mp I n) {nq : Nat} (hq : Mq I nq) (hM : MIv I) (ha : a < 120) (hb : b < 120) (fA56 fB57 : Nat → Int32) (hfA56 : ∀ k, k < (gS (pM I n) (nI a) t).1 → fA56 k = (gS (pM I n) (nI a) t).2 k) (hfB57 : ∀ k, k < (gS (pM I n) (nI b) t).1 → fB57 k = (gS (pM I n) (nI b) t).2 k) (hmc : mcF I n a b t = true) : ∀ i, i ≤ (gS (pM I n) (nI a) t).1 → Z g 7 0 0 mX7_clashRight 45 [.ref 35, .int (nI a), .int (nI b), .int c, .int t, .int (crI (fun i j => chF (pM I n) (qM I nq) (I 35 9) (nI a) (nI b) c t ((gS (pM I n) (nI a) t).2 i) ((gS (pM I n) (nI b) t).2 j)) (fun i => rightF (pM I n) (nI a) ((gS (pM I n) (nI a) t).2 i) c t) (gS (pM I n) (nI b) t).1 i), .int (nI ((gS (pM I n) (nI a) t).1)), .int (nI ((gS (pM I n) (nI b) t).1)), .int (nI i), .retAddr 0, .retAddr 0] [] (va_up (va_up J 56 fA56) 57 fB57) S (NQ (.int (crF I n nq a b c t)) I S) := by
  have hle1 : (gS (pM I n) (nI a) t).1 ≤ n := gS_le
  have hle2 : (gS (pM I n) (nI b) t).1 ≤ n := gS_le
  have hn2 := hn.2
  refine upZ _ (fun i hi ih => ?_)
  refine Z.iload dX7_clashRight_45 rfl ?_
  refine Z.iload dX7_clashRight_47 rfl ?_
  refine Z.icmp_geN (a := i) (b := (gS (pM I n) (nI a) t).1) (by omega) (by omega) (tgt := 133) dX7_clashRight_49 (by decide) (fun h1 => ?_) (fun h1 => ?_)
  · refine Z.iload dX7_clashRight_133 rfl ?_
    exact Z.iret dX7_clashRight_135 rfl ⟨by rw [crF, if_pos hmc, show i = (gS (pM I n) (nI a) t).1 by omega], ((hE.up (a := 56) rfl).up (a := 57) rfl), rfl⟩
  · refine Z.iconst (v := 0) dX7_clashRight_52 (by decide) ?_
    refine Z.istore (L' := [.ref 35, .int (nI a), .int (nI b), .int c, .int t, .int (crI (fun i j => chF (pM I n) (qM I nq) (I 35 9) (nI a) (nI b) c t ((gS (pM I n) (nI a) t).2 i) ((gS (pM I n) (nI b) t).2 j)) (fun i => rightF (pM I n) (nI a) ((gS (pM I n) (nI a) t).2 i) c t) (gS (pM I n) (nI b) t).1 i), .int (nI ((gS (pM I n) (nI a) t).1)), .int (nI ((gS (pM I n) (nI b) t).1)), .int (nI i), .int 0, .retAddr 0]) dX7_clashRight_53 (Nat.le_of_ble_eq_true rfl) rfl ?_
    exact lp_cr2 hE a b c t hF hn hq hM ha hb fA56 fB57 hfA56 hfB57 i (by omega) (ih (by omega)) 0 (Nat.zero_le _)

set_option maxHeartbeats 4000000 in
set_option maxRecDepth 100000 in
theorem ct_clashRight {g : GP} {I J : IM} {S : SH} (hE : Ex I J) (a b : Nat) (c t : Int32) (hF : Fx S) {n : Nat} (hn : Mp I n) {nq : Nat} (hq : Mq I nq) (hM : MIv I) (ha : a < 120) (hb : b < 120) : Z g 7 0 0 mX7_clashRight 0 (enL mX7_clashRight [.ref 35, .int (nI a), .int (nI b), .int c, .int t]) [] J S (NQ (.int (crF I n nq a b c t)) I S) := by
  show Z g 7 0 0 mX7_clashRight 0 [.ref 35, .int (nI a), .int (nI b), .int c, .int t, .retAddr 0, .retAddr 0, .retAddr 0, .retAddr 0, .retAddr 0, .retAddr 0] [] J S _
  have hn2 := hn.2
  refine Z.aload_n dX7_clashRight_0 rfl ?_
  refine Z.iload_n dX7_clashRight_1 rfl ?_
  refine Z.iload_n dX7_clashRight_2 rfl ?_
  refine Z.iload dX7_clashRight_3 rfl ?_
  refine Z.callVg (M := mX7_clashRight) (pc := 5) (st := []) (N := mX7_mayClash) (n := 3) dX7_clashRight_5 mlX7_183 mkX7_mayClash imX7_mayClash seX7_mayClash (fx35 hF) cl7 rfl (d1 := 6) (by decide) (As := [.int (nI a), .int (nI b), .int t]) rfl ⟨rfl, Nat.le_of_ble_eq_true rfl⟩ ⟨rfl, Nat.le_of_ble_eq_true rfl⟩ (ct_mayClash hE a b t hF hn hM (by omega) (by omega)) rfl (fun v_ J1 S_ h_ => ?_)
  obtain ⟨rfl, hE, rfl⟩ := h_
  refine Z.if_neB (tgt := 13) dX7_clashRight_8 (by decide) (fun h1 => ?_) (fun h1 => ?_)
  · refine Z.iconst (v := (-1)) dX7_clashRight_13 (by decide) ?_
    refine Z.istore (L' := [.ref 35, .int (nI a), .int (nI b), .int c, .int t, .int ((-1)), .retAddr 0, .retAddr 0, .retAddr 0, .retAddr 0, .retAddr 0]) dX7_clashRight_14 (Nat.le_of_ble_eq_true rfl) rfl ?_
    refine Z.aload_n dX7_clashRight_16 rfl ?_
    refine Z.iload_n dX7_clashRight_17 rfl ?_
    refine Z.iload dX7_clashRight_18 rfl ?_
    refine Z.aload_n dX7_clashRight_20 rfl ?_
    refine Z.getR (r := 56) dX7_clashRight_21 cl7 flX7_70 (by decide) (fx35 hF) rfl ?_
    refine Z.callVg (M := mX7_clashRight) (pc := 24) (st := []) (N := mX7_goodsInto) (n := 3) dX7_clashRight_24 mlX7_186 mkX7_goodsInto imX7_goodsInto seX7_goodsInto (fx35 hF) cl7 rfl (d1 := 2) (by decide) (As := [.int (nI a), .int t, .ref 56]) rfl ⟨rfl, Nat.le_of_ble_eq_true rfl⟩ ⟨rfl, Nat.le_of_ble_eq_true rfl⟩ (ct_goodsA2 hE (nI a) t hF hn) rfl (fun v_ J2 S_ h_ => ?_)
    obtain ⟨rfl, fA56, rfl, hfA56, rfl⟩ := h_
    have hfA56le : (gS (pM I n) (nI a) t).1 ≤ n := gS_le
    refine Z.istore (L' := [.ref 35, .int (nI a), .int (nI b), .int c, .int t, .int ((-1)), .int (nI ((gS (pM I n) (nI a) t).1)), .retAddr 0, .retAddr 0, .retAddr 0, .retAddr 0]) dX7_clashRight_27 (Nat.le_of_ble_eq_true rfl) rfl ?_
    refine Z.aload_n dX7_clashRight_29 rfl ?_
    refine Z.iload_n dX7_clashRight_30 rfl ?_
    refine Z.iload dX7_clashRight_31 rfl ?_
    refine Z.aload_n dX7_clashRight_33 rfl ?_
    refine Z.getR (r := 57) dX7_clashRight_34 cl7 flX7_73 (by decide) (fx35 hF) rfl ?_
    refine Z.callVg (M := mX7_clashRight) (pc := 37) (st := []) (N := mX7_goodsInto) (n := 3) dX7_clashRight_37 mlX7_186 mkX7_goodsInto imX7_goodsInto seX7_goodsInto (fx35 hF) cl7 rfl (d1 := 2) (by decide) (As := [.int (nI b), .int t, .ref 57]) rfl ⟨rfl, Nat.le_of_ble_eq_true rfl⟩ ⟨rfl, Nat.le_of_ble_eq_true rfl⟩ (ct_goodsB2 (hE.up (a := 56) rfl) (nI b) t hF hn) rfl (fun v_ J3 S_ h_ => ?_)
    obtain ⟨rfl, fB57, rfl, hfB57, rfl⟩ := h_
    have hfB57le : (gS (pM I n) (nI b) t).1 ≤ n := gS_le
    refine Z.istore (L' := [.ref 35, .int (nI a), .int (nI b), .int c, .int t, .int ((-1)), .int (nI ((gS (pM I n) (nI a) t).1)), .int (nI ((gS (pM I n) (nI b) t).1)), .retAddr 0, .retAddr 0, .retAddr 0]) dX7_clashRight_40 (Nat.le_of_ble_eq_true rfl) rfl ?_
    refine Z.iconst (v := 0) dX7_clashRight_42 (by decide) ?_
    refine Z.istore (L' := [.ref 35, .int (nI a), .int (nI b), .int c, .int t, .int ((-1)), .int (nI ((gS (pM I n) (nI a) t).1)), .int (nI ((gS (pM I n) (nI b) t).1)), .int 0, .retAddr 0, .retAddr 0]) dX7_clashRight_43 (Nat.le_of_ble_eq_true rfl) rfl ?_
    exact lp_cr1 hE a b c t hF hn hq hM ha hb fA56 fB57 hfA56 hfB57 h1 0 (Nat.zero_le _)
  · refine Z.iconst (v := (-1)) dX7_clashRight_11 (by decide) ?_
    exact Z.iret dX7_clashRight_12 rfl ⟨by simp [crF, h1], hE, rfl⟩

def nrF (I : IM) (n nq : Nat) (a h_ c t : Int32) : Int32 := nrU (fun i => neF (pM I n) (qM I nq) (I 35 9) a ((gS (pM I n) a t).2 i) h_ t && standsF (pM I n) a ((gS (pM I n) a t).2 i) c t) (fun i => rightF (pM I n) a ((gS (pM I n) a t).2 i) c t) (gS (pM I n) a t).1
def XQ (r : Nat) (v0 : Value) (J : IM) (S : SH) : ZQ := fun v J' T => v = some v0 ∧ ∃ f, J' = va_up J r f ∧ T = S
set_option maxHeartbeats 4000000 in
set_option maxRecDepth 100000 in
theorem lp_nr {g : GP} {I J : IM} {S : SH} (hE : Ex I J) (a h_ c t : Int32) (hF : Fx S) {n : Nat} (hn : Mp I n) {nq : Nat} (hq : Mq I nq) (fA56 : Nat → Int32) (hfA56 : ∀ k, k < (gS (pM I n) a t).1 → fA56 k = (gS (pM I n) a t).2 k) : ∀ i, i ≤ (gS (pM I n) a t).1 → Z g 5 0 0 mX7_nearRight 19 [.ref 35, .int a, .int h_, .int c, .int t, .int (nrU (fun i => neF (pM I n) (qM I nq) (I 35 9) a ((gS (pM I n) a t).2 i) h_ t && standsF (pM I n) a ((gS (pM I n) a t).2 i) c t) (fun i => rightF (pM I n) a ((gS (pM I n) a t).2 i) c t) i), .int (nI ((gS (pM I n) a t).1)), .int (nI i), .retAddr 0] [] (va_up J 56 fA56) S (XQ 56 (.int (nrF I n nq a h_ c t)) J S) := by
  have hle1 : (gS (pM I n) a t).1 ≤ n := gS_le
  have hn2 := hn.2
  refine upZ _ (fun i hi ih => ?_)
  refine Z.iload dX7_nearRight_19 rfl ?_
  refine Z.iload dX7_nearRight_21 rfl ?_
  refine Z.icmp_geN (a := i) (b := (gS (pM I n) a t).1) (by omega) (by omega) (tgt := 106) dX7_nearRight_23 (by decide) (fun h1 => ?_) (fun h1 => ?_)
  · refine Z.iload dX7_nearRight_106 rfl ?_
    exact Z.iret dX7_nearRight_108 rfl ⟨by rw [nrF, show i = (gS (pM I n) a t).1 by omega], fA56, rfl, rfl⟩
  · refine Z.aload_n dX7_nearRight_26 rfl ?_
    refine Z.iload_n dX7_nearRight_27 rfl ?_
    refine Z.aload_n dX7_nearRight_28 rfl ?_
    refine Z.getR (r := 56) dX7_nearRight_29 cl7 flX7_70 (by decide) (fx35 hF) rfl ?_
    refine Z.iload dX7_nearRight_32 rfl ?_
    refine Z.ialdv (j := i) (v := (gS (pM I n) a t).2 i) dX7_nearRight_34 (fx56 hF) rfl (by omega) (by decide) (hfA56 i (by omega)) ?_
    refine Z.iload_n dX7_nearRight_35 rfl ?_
    refine Z.iload dX7_nearRight_36 rfl ?_
    refine Z.callVp (M := mX7_nearRight) (pc := 38) (st := []) (N := mX7_isNear) (n := 4) (r := .int (bI (neF (pM I n) (qM I nq) (I 35 9) a ((gS (pM I n) a t).2 i) h_ t))) dX7_nearRight_38 mlX7_176 mkX7_isNear imX7_isNear seX7_isNear (fx35 hF) cl7 rfl (d1 := 2) (by decide) (As := [.int a, .int ((gS (pM I n) a t).2 i), .int h_, .int t]) rfl ⟨rfl, Nat.le_of_ble_eq_true rfl⟩ ⟨rfl, Nat.le_of_ble_eq_true rfl⟩ (ct_isNear (hE.up (a := 56) rfl) a ((gS (pM I n) a t).2 i) h_ t hF hn hq) rfl ?_
    refine Z.if_eqB (tgt := 100) dX7_nearRight_41 (by decide) (fun h2 => ?_) (fun h2 => ?_)
    · refine Z.iinc (v := nI (i + 1)) (L' := [.ref 35, .int a, .int h_, .int c, .int t, .int (nrU (fun i => neF (pM I n) (qM I nq) (I 35 9) a ((gS (pM I n) a t).2 i) h_ t && standsF (pM I n) a ((gS (pM I n) a t).2 i) c t) (fun i => rightF (pM I n) a ((gS (pM I n) a t).2 i) c t) i), .int (nI ((gS (pM I n) a t).1)), .int (nI (i + 1)), .retAddr 0]) dX7_nearRight_100 rfl (nI_1 _) rfl ?_
      refine Z.goto (tgt := 19) dX7_nearRight_103 (by decide) ?_
      have e := ih (by omega)
      rw [show nrU (fun i => neF (pM I n) (qM I nq) (I 35 9) a ((gS (pM I n) a t).2 i) h_ t && standsF (pM I n) a ((gS (pM I n) a t).2 i) c t) (fun i => rightF (pM I n) a ((gS (pM I n) a t).2 i) c t) (i + 1) = nrU (fun i => neF (pM I n) (qM I nq) (I 35 9) a ((gS (pM I n) a t).2 i) h_ t && standsF (pM I n) a ((gS (pM I n) a t).2 i) c t) (fun i => rightF (pM I n) a ((gS (pM I n) a t).2 i) c t) i by simp [nrU, h1, h2]] at e
      exact e
    · refine Z.aload_n dX7_nearRight_44 rfl ?_
      refine Z.iload_n dX7_nearRight_45 rfl ?_
      refine Z.aload_n dX7_nearRight_46 rfl ?_
      refine Z.getR (r := 56) dX7_nearRight_47 cl7 flX7_70 (by decide) (fx35 hF) rfl ?_
      refine Z.iload dX7_nearRight_50 rfl ?_
      refine Z.ialdv (j := i) (v := (gS (pM I n) a t).2 i) dX7_nearRight_52 (fx56 hF) rfl (by omega) (by decide) (hfA56 i (by omega)) ?_
      refine Z.iload_n dX7_nearRight_53 rfl ?_
      refine Z.iload dX7_nearRight_54 rfl ?_
      refine Z.callVp (M := mX7_nearRight) (pc := 56) (st := []) (N := mX7_stands) (n := 4) (r := .int (bI (standsF (pM I n) a ((gS (pM I n) a t).2 i) c t))) dX7_nearRight_56 mlX7_180 mkX7_stands imX7_stands seX7_stands (fx35 hF) cl7 rfl (d1 := 4) (by decide) (As := [.int a, .int ((gS (pM I n) a t).2 i), .int c, .int t]) rfl ⟨rfl, Nat.le_of_ble_eq_true rfl⟩ ⟨rfl, Nat.le_of_ble_eq_true rfl⟩ (ct_stands (hE.up (a := 56) rfl) a ((gS (pM I n) a t).2 i) c t hF hn) rfl ?_
      refine Z.if_eqB (tgt := 100) dX7_nearRight_59 (by decide) (fun h3 => ?_) (fun h3 => ?_)
      · refine Z.iinc (v := nI (i + 1)) (L' := [.ref 35, .int a, .int h_, .int c, .int t, .int (nrU (fun i => neF (pM I n) (qM I nq) (I 35 9) a ((gS (pM I n) a t).2 i) h_ t && standsF (pM I n) a ((gS (pM I n) a t).2 i) c t) (fun i => rightF (pM I n) a ((gS (pM I n) a t).2 i) c t) i), .int (nI ((gS (pM I n) a t).1)), .int (nI (i + 1)), .retAddr 0]) dX7_nearRight_100 rfl (nI_1 _) rfl ?_
        refine Z.goto (tgt := 19) dX7_nearRight_103 (by decide) ?_
        have e := ih (by omega)
        rw [show nrU (fun i => neF (pM I n) (qM I nq) (I 35 9) a ((gS (pM I n) a t).2 i) h_ t && standsF (pM I n) a ((gS (pM I n) a t).2 i) c t) (fun i => rightF (pM I n) a ((gS (pM I n) a t).2 i) c t) (i + 1) = nrU (fun i => neF (pM I n) (qM I nq) (I 35 9) a ((gS (pM I n) a t).2 i) h_ t && standsF (pM I n) a ((gS (pM I n) a t).2 i) c t) (fun i => rightF (pM I n) a ((gS (pM I n) a t).2 i) c t) i by simp [nrU, h1, h2, h3]] at e
        exact e
      · refine Z.aload_n dX7_nearRight_62 rfl ?_
        refine Z.iload_n dX7_nearRight_63 rfl ?_
        refine Z.aload_n dX7_nearRight_64 rfl ?_
        refine Z.getR (r := 56) dX7_nearRight_65 cl7 flX7_70 (by decide) (fx35 hF) rfl ?_
        refine Z.iload dX7_nearRight_68 rfl ?_
        refine Z.ialdv (j := i) (v := (gS (pM I n) a t).2 i) dX7_nearRight_70 (fx56 hF) rfl (by omega) (by decide) (hfA56 i (by omega)) ?_
        refine Z.iload_n dX7_nearRight_71 rfl ?_
        refine Z.iload dX7_nearRight_72 rfl ?_
        refine Z.callVp (M := mX7_nearRight) (pc := 74) (st := []) (N := mX7_rightOf) (n := 4) (r := .int (rightF (pM I n) a ((gS (pM I n) a t).2 i) c t)) dX7_nearRight_74 mlX7_158 mkX7_rightOf imX7_rightOf seX7_rightOf (fx35 hF) cl7 rfl (d1 := 2) (by decide) (As := [.int a, .int ((gS (pM I n) a t).2 i), .int c, .int t]) rfl ⟨rfl, Nat.le_of_ble_eq_true rfl⟩ ⟨rfl, Nat.le_of_ble_eq_true rfl⟩ (ct_rightOf (hE.up (a := 56) rfl) a ((gS (pM I n) a t).2 i) c t hF hn) rfl ?_
        refine Z.istore (L' := [.ref 35, .int a, .int h_, .int c, .int t, .int (nrU (fun i => neF (pM I n) (qM I nq) (I 35 9) a ((gS (pM I n) a t).2 i) h_ t && standsF (pM I n) a ((gS (pM I n) a t).2 i) c t) (fun i => rightF (pM I n) a ((gS (pM I n) a t).2 i) c t) i), .int (nI ((gS (pM I n) a t).1)), .int (nI i), .int (rightF (pM I n) a ((gS (pM I n) a t).2 i) c t)]) dX7_nearRight_77 (Nat.le_of_ble_eq_true rfl) rfl ?_
        refine Z.iload dX7_nearRight_79 rfl ?_
        refine Z.if_lt (tgt := 91) dX7_nearRight_81 (by decide) (fun h4 => ?_) (fun h4 => ?_)
        · refine Z.iload dX7_nearRight_91 rfl ?_
          refine Z.goto (tgt := 98) dX7_nearRight_93 (by decide) ?_
          refine Z.istore (L' := [.ref 35, .int a, .int h_, .int c, .int t, .int (rightF (pM I n) a ((gS (pM I n) a t).2 i) c t), .int (nI ((gS (pM I n) a t).1)), .int (nI i), .int (rightF (pM I n) a ((gS (pM I n) a t).2 i) c t)]) dX7_nearRight_98 (Nat.le_of_ble_eq_true rfl) rfl ?_
          refine Z.iinc (v := nI (i + 1)) (L' := [.ref 35, .int a, .int h_, .int c, .int t, .int (rightF (pM I n) a ((gS (pM I n) a t).2 i) c t), .int (nI ((gS (pM I n) a t).1)), .int (nI (i + 1)), .int (rightF (pM I n) a ((gS (pM I n) a t).2 i) c t)]) dX7_nearRight_100 rfl (nI_1 _) rfl ?_
          refine Z.goto (tgt := 19) dX7_nearRight_103 (by decide) ?_
          refine Z.drop (i := 8) (L' := [.ref 35, .int a, .int h_, .int c, .int t, .int (rightF (pM I n) a ((gS (pM I n) a t).2 i) c t), .int (nI ((gS (pM I n) a t).1)), .int (nI (i + 1)), .retAddr 0]) rfl ?_
          have e := ih (by omega)
          rw [show nrU (fun i => neF (pM I n) (qM I nq) (I 35 9) a ((gS (pM I n) a t).2 i) h_ t && standsF (pM I n) a ((gS (pM I n) a t).2 i) c t) (fun i => rightF (pM I n) a ((gS (pM I n) a t).2 i) c t) (i + 1) = rightF (pM I n) a ((gS (pM I n) a t).2 i) c t by simp [nrU, h1, h2, h3, h4]] at e
          exact e
        · refine Z.iload dX7_nearRight_84 rfl ?_
          refine Z.iload dX7_nearRight_86 rfl ?_
          refine Z.icmp_ge (tgt := 96) dX7_nearRight_88 (by decide) (fun h5 => ?_) (fun h5 => ?_)
          · refine Z.iload dX7_nearRight_96 rfl ?_
            refine Z.istore (L' := [.ref 35, .int a, .int h_, .int c, .int t, .int (nrU (fun i => neF (pM I n) (qM I nq) (I 35 9) a ((gS (pM I n) a t).2 i) h_ t && standsF (pM I n) a ((gS (pM I n) a t).2 i) c t) (fun i => rightF (pM I n) a ((gS (pM I n) a t).2 i) c t) i), .int (nI ((gS (pM I n) a t).1)), .int (nI i), .int (rightF (pM I n) a ((gS (pM I n) a t).2 i) c t)]) dX7_nearRight_98 (Nat.le_of_ble_eq_true rfl) rfl ?_
            refine Z.iinc (v := nI (i + 1)) (L' := [.ref 35, .int a, .int h_, .int c, .int t, .int (nrU (fun i => neF (pM I n) (qM I nq) (I 35 9) a ((gS (pM I n) a t).2 i) h_ t && standsF (pM I n) a ((gS (pM I n) a t).2 i) c t) (fun i => rightF (pM I n) a ((gS (pM I n) a t).2 i) c t) i), .int (nI ((gS (pM I n) a t).1)), .int (nI (i + 1)), .int (rightF (pM I n) a ((gS (pM I n) a t).2 i) c t)]) dX7_nearRight_100 rfl (nI_1 _) rfl ?_
            refine Z.goto (tgt := 19) dX7_nearRight_103 (by decide) ?_
            refine Z.drop (i := 8) (L' := [.ref 35, .int a, .int h_, .int c, .int t, .int (nrU (fun i => neF (pM I n) (qM I nq) (I 35 9) a ((gS (pM I n) a t).2 i) h_ t && standsF (pM I n) a ((gS (pM I n) a t).2 i) c t) (fun i => rightF (pM I n) a ((gS (pM I n) a t).2 i) c t) i), .int (nI ((gS (pM I n) a t).1)), .int (nI (i + 1)), .retAddr 0]) rfl ?_
            have e := ih (by omega)
            rw [show nrU (fun i => neF (pM I n) (qM I nq) (I 35 9) a ((gS (pM I n) a t).2 i) h_ t && standsF (pM I n) a ((gS (pM I n) a t).2 i) c t) (fun i => rightF (pM I n) a ((gS (pM I n) a t).2 i) c t) (i + 1) = nrU (fun i => neF (pM I n) (qM I nq) (I 35 9) a ((gS (pM I n) a t).2 i) h_ t && standsF (pM I n) a ((gS (pM I n) a t).2 i) c t) (fun i => rightF (pM I n) a ((gS (pM I n) a t).2 i) c t) i by simp [nrU, h1, h2, h3, h4, h5]] at e
            exact e
          · refine Z.iload dX7_nearRight_91 rfl ?_
            refine Z.goto (tgt := 98) dX7_nearRight_93 (by decide) ?_
            refine Z.istore (L' := [.ref 35, .int a, .int h_, .int c, .int t, .int (rightF (pM I n) a ((gS (pM I n) a t).2 i) c t), .int (nI ((gS (pM I n) a t).1)), .int (nI i), .int (rightF (pM I n) a ((gS (pM I n) a t).2 i) c t)]) dX7_nearRight_98 (Nat.le_of_ble_eq_true rfl) rfl ?_
            refine Z.iinc (v := nI (i + 1)) (L' := [.ref 35, .int a, .int h_, .int c, .int t, .int (rightF (pM I n) a ((gS (pM I n) a t).2 i) c t), .int (nI ((gS (pM I n) a t).1)), .int (nI (i + 1)), .int (rightF (pM I n) a ((gS (pM I n) a t).2 i) c t)]) dX7_nearRight_100 rfl (nI_1 _) rfl ?_
            refine Z.goto (tgt := 19) dX7_nearRight_103 (by decide) ?_
            refine Z.drop (i := 8) (L' := [.ref 35, .int a, .int h_, .int c, .int t, .int (rightF (pM I n) a ((gS (pM I n) a t).2 i) c t), .int (nI ((gS (pM I n) a t).1)), .int (nI (i + 1)), .retAddr 0]) rfl ?_
            have e := ih (by omega)
            rw [show nrU (fun i => neF (pM I n) (qM I nq) (I 35 9) a ((gS (pM I n) a t).2 i) h_ t && standsF (pM I n) a ((gS (pM I n) a t).2 i) c t) (fun i => rightF (pM I n) a ((gS (pM I n) a t).2 i) c t) (i + 1) = rightF (pM I n) a ((gS (pM I n) a t).2 i) c t by simp [nrU, h1, h2, h3, h4, h5]] at e
            exact e

set_option maxHeartbeats 4000000 in
set_option maxRecDepth 100000 in
theorem ct_nearRight {g : GP} {I J : IM} {S : SH} (hE : Ex I J) (a h_ c t : Int32) (hF : Fx S) {n : Nat} (hn : Mp I n) {nq : Nat} (hq : Mq I nq) : Z g 5 0 0 mX7_nearRight 0 (enL mX7_nearRight [.ref 35, .int a, .int h_, .int c, .int t]) [] J S (XQ 56 (.int (nrF I n nq a h_ c t)) J S) := by
  show Z g 5 0 0 mX7_nearRight 0 [.ref 35, .int a, .int h_, .int c, .int t, .retAddr 0, .retAddr 0, .retAddr 0, .retAddr 0] [] J S _
  have hn2 := hn.2
  refine Z.iconst (v := (-1)) dX7_nearRight_0 (by decide) ?_
  refine Z.istore (L' := [.ref 35, .int a, .int h_, .int c, .int t, .int ((-1)), .retAddr 0, .retAddr 0, .retAddr 0]) dX7_nearRight_1 (Nat.le_of_ble_eq_true rfl) rfl ?_
  refine Z.aload_n dX7_nearRight_3 rfl ?_
  refine Z.iload_n dX7_nearRight_4 rfl ?_
  refine Z.iload dX7_nearRight_5 rfl ?_
  refine Z.aload_n dX7_nearRight_7 rfl ?_
  refine Z.getR (r := 56) dX7_nearRight_8 cl7 flX7_70 (by decide) (fx35 hF) rfl ?_
  refine Z.callVg (M := mX7_nearRight) (pc := 11) (st := []) (N := mX7_goodsInto) (n := 3) dX7_nearRight_11 mlX7_186 mkX7_goodsInto imX7_goodsInto seX7_goodsInto (fx35 hF) cl7 rfl (d1 := 2) (by decide) (As := [.int a, .int t, .ref 56]) rfl ⟨rfl, Nat.le_of_ble_eq_true rfl⟩ ⟨rfl, Nat.le_of_ble_eq_true rfl⟩ (ct_goodsA2 hE a t hF hn) rfl (fun v_ J1 S_ h_ => ?_)
  obtain ⟨rfl, fA56, rfl, hfA56, rfl⟩ := h_
  have hfA56le : (gS (pM I n) a t).1 ≤ n := gS_le
  refine Z.istore (L' := [.ref 35, .int a, .int h_, .int c, .int t, .int ((-1)), .int (nI ((gS (pM I n) a t).1)), .retAddr 0, .retAddr 0]) dX7_nearRight_14 (Nat.le_of_ble_eq_true rfl) rfl ?_
  refine Z.iconst (v := 0) dX7_nearRight_16 (by decide) ?_
  refine Z.istore (L' := [.ref 35, .int a, .int h_, .int c, .int t, .int ((-1)), .int (nI ((gS (pM I n) a t).1)), .int 0, .retAddr 0]) dX7_nearRight_17 (Nat.le_of_ble_eq_true rfl) rfl ?_
  exact lp_nr hE a h_ c t hF hn hq fA56 hfA56 0 (Nat.zero_le _)

def cnF (I : IM) (n nq : Nat) (a m c t : Int32) : Bool := anU (fun k => !decide (nrF I n nq a ((gS (pM I n) m t).2 k) c t < 0)) (gS (pM I n) m t).1
theorem anU_mono {h : Nat → Bool} {k N : Nat} (hk : anU h k = true) (hN : k ≤ N) : anU h N = true := by
  induction N with
  | zero => rw [show k = 0 by omega] at hk; exact hk
  | succ N ih =>
    by_cases c : k = N + 1
    · rw [← c]; exact hk
    · simp [anU, ih (by omega)]
set_option maxHeartbeats 4000000 in
set_option maxRecDepth 100000 in
theorem lp_cn {g : GP} {I J : IM} {S : SH} (hE : Ex I J) (a m c t : Int32) (hF : Fx S) {n : Nat} (hn : Mp I n) {nq : Nat} (hq : Mq I nq) (fB57 : Nat → Int32) (hfB57 : ∀ k, k < (gS (pM I n) m t).1 → fB57 k = (gS (pM I n) m t).2 k) : ∀ k, k ≤ (gS (pM I n) m t).1 → ∀ fa, Z g 6 0 0 mX7_comesNear 19 [.ref 35, .int a, .int m, .int c, .int t, .int (nI ((gS (pM I n) m t).1)), .int (bI (anU (fun k => !decide (nrF I n nq a ((gS (pM I n) m t).2 k) c t < 0)) k)), .int (nI k)] [] (va_up (va_up J 57 fB57) 56 fa) S (NQ (.int (bI (cnF I n nq a m c t))) I S) := by
  have hle1 : (gS (pM I n) m t).1 ≤ n := gS_le
  have hn2 := hn.2
  refine upZ _ (fun k hi ih fa => ?_)
  refine Z.iload dX7_comesNear_19 rfl ?_
  refine Z.iload dX7_comesNear_21 rfl ?_
  refine Z.icmp_geN (a := k) (b := (gS (pM I n) m t).1) (by omega) (by omega) (tgt := 62) dX7_comesNear_23 (by decide) (fun h1 => ?_) (fun h1 => ?_)
  · refine Z.iload dX7_comesNear_62 rfl ?_
    exact Z.zret dX7_comesNear_64 rfl (bI_01 _) ⟨by rw [cnF, show k = (gS (pM I n) m t).1 by omega], ((hE.up (a := 57) rfl).up (a := 56) rfl), rfl⟩
  · refine Z.iload dX7_comesNear_26 rfl ?_
    refine Z.if_neB (tgt := 62) dX7_comesNear_28 (by decide) (fun h2 => ?_) (fun h2 => ?_)
    · refine Z.iload dX7_comesNear_62 rfl ?_
      exact Z.zret dX7_comesNear_64 rfl (bI_01 _) ⟨by have e := anU_mono (N := (gS (pM I n) m t).1) h2 (by omega); rw [cnF, e, h2], ((hE.up (a := 57) rfl).up (a := 56) rfl), rfl⟩
    · refine Z.aload_n dX7_comesNear_31 rfl ?_
      refine Z.iload_n dX7_comesNear_32 rfl ?_
      refine Z.aload_n dX7_comesNear_33 rfl ?_
      refine Z.getR (r := 57) dX7_comesNear_34 cl7 flX7_73 (by decide) (fx35 hF) rfl ?_
      refine Z.iload dX7_comesNear_37 rfl ?_
      refine Z.ialdv (j := k) (v := (gS (pM I n) m t).2 k) dX7_comesNear_39 (fx57 hF) rfl (by omega) (by decide) (hfB57 k (by omega)) ?_
      refine Z.iload_n dX7_comesNear_40 rfl ?_
      refine Z.iload dX7_comesNear_41 rfl ?_
      refine Z.callVg (M := mX7_comesNear) (pc := 43) (st := []) (N := mX7_nearRight) (n := 4) dX7_comesNear_43 mlX7_215 mkX7_nearRight imX7_nearRight seX7_nearRight (fx35 hF) cl7 rfl (d1 := 5) (by decide) (As := [.int a, .int ((gS (pM I n) m t).2 k), .int c, .int t]) rfl ⟨rfl, Nat.le_of_ble_eq_true rfl⟩ ⟨rfl, Nat.le_of_ble_eq_true rfl⟩ (ct_nearRight ((hE.up (a := 57) rfl).up (a := 56) rfl) a ((gS (pM I n) m t).2 k) c t hF hn hq) rfl (fun v_ J1 S_ h_ => ?_)
      obtain ⟨rfl, fx_2, rfl, rfl⟩ := h_
      refine Z.eqI (bx_uu _ _ _ _) ?_
      refine Z.if_lt (tgt := 53) dX7_comesNear_46 (by decide) (fun h3 => ?_) (fun h3 => ?_)
      · refine Z.iconst (v := 0) dX7_comesNear_53 (by decide) ?_
        refine Z.istore (L' := [.ref 35, .int a, .int m, .int c, .int t, .int (nI ((gS (pM I n) m t).1)), .int 0, .int (nI k)]) dX7_comesNear_54 (Nat.le_of_ble_eq_true rfl) rfl ?_
        refine Z.iinc (v := nI (k + 1)) (L' := [.ref 35, .int a, .int m, .int c, .int t, .int (nI ((gS (pM I n) m t).1)), .int 0, .int (nI (k + 1))]) dX7_comesNear_56 rfl (nI_1 _) rfl ?_
        refine Z.goto (tgt := 19) dX7_comesNear_59 (by decide) ?_
        have e := ih (by omega) fx_2
        rw [show bI (anU (fun k => !decide (nrF I n nq a ((gS (pM I n) m t).2 k) c t < 0)) (k + 1)) = 0 by simp [anU, bI, h1, h2, h3]] at e
        exact e
      · refine Z.iconst (v := 1) dX7_comesNear_49 (by decide) ?_
        refine Z.goto (tgt := 54) dX7_comesNear_50 (by decide) ?_
        refine Z.istore (L' := [.ref 35, .int a, .int m, .int c, .int t, .int (nI ((gS (pM I n) m t).1)), .int 1, .int (nI k)]) dX7_comesNear_54 (Nat.le_of_ble_eq_true rfl) rfl ?_
        refine Z.iinc (v := nI (k + 1)) (L' := [.ref 35, .int a, .int m, .int c, .int t, .int (nI ((gS (pM I n) m t).1)), .int 1, .int (nI (k + 1))]) dX7_comesNear_56 rfl (nI_1 _) rfl ?_
        refine Z.goto (tgt := 19) dX7_comesNear_59 (by decide) ?_
        have e := ih (by omega) fx_2
        rw [show bI (anU (fun k => !decide (nrF I n nq a ((gS (pM I n) m t).2 k) c t < 0)) (k + 1)) = 1 by simp [anU, bI, h1, h2, h3]] at e
        exact e

set_option maxHeartbeats 4000000 in
set_option maxRecDepth 100000 in
theorem ct_comesNear {g : GP} {I J : IM} {S : SH} (hE : Ex I J) (a m c t : Int32) (hF : Fx S) {n : Nat} (hn : Mp I n) {nq : Nat} (hq : Mq I nq) : Z g 6 0 0 mX7_comesNear 0 (enL mX7_comesNear [.ref 35, .int a, .int m, .int c, .int t]) [] J S (NQ (.int (bI (cnF I n nq a m c t))) I S) := by
  show Z g 6 0 0 mX7_comesNear 0 [.ref 35, .int a, .int m, .int c, .int t, .retAddr 0, .retAddr 0, .retAddr 0] [] J S _
  have hn2 := hn.2
  refine Z.aload_n dX7_comesNear_0 rfl ?_
  refine Z.iload_n dX7_comesNear_1 rfl ?_
  refine Z.iload dX7_comesNear_2 rfl ?_
  refine Z.aload_n dX7_comesNear_4 rfl ?_
  refine Z.getR (r := 57) dX7_comesNear_5 cl7 flX7_73 (by decide) (fx35 hF) rfl ?_
  refine Z.callVg (M := mX7_comesNear) (pc := 8) (st := []) (N := mX7_goodsInto) (n := 3) dX7_comesNear_8 mlX7_186 mkX7_goodsInto imX7_goodsInto seX7_goodsInto (fx35 hF) cl7 rfl (d1 := 2) (by decide) (As := [.int m, .int t, .ref 57]) rfl ⟨rfl, Nat.le_of_ble_eq_true rfl⟩ ⟨rfl, Nat.le_of_ble_eq_true rfl⟩ (ct_goodsB2 hE m t hF hn) rfl (fun v_ J1 S_ h_ => ?_)
  obtain ⟨rfl, fB57, rfl, hfB57, rfl⟩ := h_
  have hfB57le : (gS (pM I n) m t).1 ≤ n := gS_le
  refine Z.istore (L' := [.ref 35, .int a, .int m, .int c, .int t, .int (nI ((gS (pM I n) m t).1)), .retAddr 0, .retAddr 0]) dX7_comesNear_11 (Nat.le_of_ble_eq_true rfl) rfl ?_
  refine Z.iconst (v := 0) dX7_comesNear_13 (by decide) ?_
  refine Z.istore (L' := [.ref 35, .int a, .int m, .int c, .int t, .int (nI ((gS (pM I n) m t).1)), .int 0, .retAddr 0]) dX7_comesNear_14 (Nat.le_of_ble_eq_true rfl) rfl ?_
  refine Z.iconst (v := 0) dX7_comesNear_16 (by decide) ?_
  refine Z.istore (L' := [.ref 35, .int a, .int m, .int c, .int t, .int (nI ((gS (pM I n) m t).1)), .int 0, .int 0]) dX7_comesNear_17 (Nat.le_of_ble_eq_true rfl) rfl ?_
  refine Z.eqI (up_self (a := 56)).symm ?_
  exact lp_cn hE a m c t hF hn hq fB57 hfB57 0 (Nat.zero_le _) _

def isXF (k x : Int32) : Bool := if k = 0 ∨ k = 3 ∨ k = 6 then inB x 0 359 else if k = 1 then inB x 0 15 else if k = 5 ∨ k = 8 then inB x 0 99 else decide (x = 0)
set_option maxHeartbeats 4000000 in
set_option maxRecDepth 100000 in
theorem ct_isX {g : GP} {I J : IM} {S : SH} (hE : Ex I J) (k x : Int32)  : Z g 2 0 0 mX7_isX 0 (enL mX7_isX [.int k, .int x]) [] J S (PQ (.int (bI (isXF k x))) J S) := by
  show Z g 2 0 0 mX7_isX 0 [.int k, .int x] [] J S _
  refine Z.iload_n dX7_isX_0 rfl ?_
  refine Z.if_eq (tgt := 15) dX7_isX_1 (by decide) (fun h1 => ?_) (fun h1 => ?_)
  · refine Z.iload_n dX7_isX_15 rfl ?_
    refine Z.callSp (M := mX7_isX) (pc := 16) (st := []) (N := mX7_isGoods) (n := 1) (r := .int (bI (inB x 0 359))) dX7_isX_16 mlX7_94 mkX7_isGoods stX7_isGoods (d1 := 1) (by decide) (As := [.int x]) rfl ⟨rfl, Nat.le_of_ble_eq_true rfl⟩ ⟨rfl, Nat.le_of_ble_eq_true rfl⟩ (ct_isGoods hE x) rfl ?_
    exact Z.zret dX7_isX_19 rfl (bI_01 _) ⟨by simp [isXF, bI, h1], rfl, rfl⟩
  · refine Z.iload_n dX7_isX_4 rfl ?_
    refine Z.iconst (v := 3) dX7_isX_5 (by decide) ?_
    refine Z.icmp_eq (tgt := 15) dX7_isX_6 (by decide) (fun h2 => ?_) (fun h2 => ?_)
    · refine Z.iload_n dX7_isX_15 rfl ?_
      refine Z.callSp (M := mX7_isX) (pc := 16) (st := []) (N := mX7_isGoods) (n := 1) (r := .int (bI (inB x 0 359))) dX7_isX_16 mlX7_94 mkX7_isGoods stX7_isGoods (d1 := 1) (by decide) (As := [.int x]) rfl ⟨rfl, Nat.le_of_ble_eq_true rfl⟩ ⟨rfl, Nat.le_of_ble_eq_true rfl⟩ (ct_isGoods hE x) rfl ?_
      exact Z.zret dX7_isX_19 rfl (bI_01 _) ⟨by simp [isXF, bI, h1, h2], rfl, rfl⟩
    · refine Z.iload_n dX7_isX_9 rfl ?_
      refine Z.bipush (v := 6) dX7_isX_10 (by decide) ?_
      refine Z.icmp_ne (tgt := 20) dX7_isX_12 (by decide) (fun h3 => ?_) (fun h3 => ?_)
      · refine Z.iload_n dX7_isX_20 rfl ?_
        refine Z.iconst (v := 1) dX7_isX_21 (by decide) ?_
        refine Z.icmp_ne (tgt := 30) dX7_isX_22 (by decide) (fun h4 => ?_) (fun h4 => ?_)
        · refine Z.iload_n dX7_isX_30 rfl ?_
          refine Z.iconst (v := 5) dX7_isX_31 (by decide) ?_
          refine Z.icmp_eq (tgt := 41) dX7_isX_32 (by decide) (fun h5 => ?_) (fun h5 => ?_)
          · refine Z.iload_n dX7_isX_41 rfl ?_
            refine Z.callSp (M := mX7_isX) (pc := 42) (st := []) (N := mX7_isPerson) (n := 1) (r := .int (bI (inB x 0 99))) dX7_isX_42 mlX7_102 mkX7_isPerson stX7_isPerson (d1 := 1) (by decide) (As := [.int x]) rfl ⟨rfl, Nat.le_of_ble_eq_true rfl⟩ ⟨rfl, Nat.le_of_ble_eq_true rfl⟩ (ct_isPerson hE x) rfl ?_
            refine Z.goto (tgt := 57) dX7_isX_45 (by decide) ?_
            exact Z.zret dX7_isX_57 rfl (bI_01 _) ⟨by simp [isXF, bI, h1, h2, h3, h4, h5], rfl, rfl⟩
          · refine Z.iload_n dX7_isX_35 rfl ?_
            refine Z.bipush (v := 8) dX7_isX_36 (by decide) ?_
            refine Z.icmp_ne (tgt := 48) dX7_isX_38 (by decide) (fun h6 => ?_) (fun h6 => ?_)
            · refine Z.iload_n dX7_isX_48 rfl ?_
              refine Z.if_ne (tgt := 56) dX7_isX_49 (by decide) (fun h7 => ?_) (fun h7 => ?_)
              · refine Z.iconst (v := 0) dX7_isX_56 (by decide) ?_
                exact Z.zret dX7_isX_57 rfl (by decide) ⟨by simp [isXF, bI, h1, h2, h3, h4, h5, h6, h7], rfl, rfl⟩
              · refine Z.iconst (v := 1) dX7_isX_52 (by decide) ?_
                refine Z.goto (tgt := 57) dX7_isX_53 (by decide) ?_
                exact Z.zret dX7_isX_57 rfl (by decide) ⟨by simp [isXF, bI, h1, h2, h3, h4, h5, h6, h7], rfl, rfl⟩
            · refine Z.iload_n dX7_isX_41 rfl ?_
              refine Z.callSp (M := mX7_isX) (pc := 42) (st := []) (N := mX7_isPerson) (n := 1) (r := .int (bI (inB x 0 99))) dX7_isX_42 mlX7_102 mkX7_isPerson stX7_isPerson (d1 := 1) (by decide) (As := [.int x]) rfl ⟨rfl, Nat.le_of_ble_eq_true rfl⟩ ⟨rfl, Nat.le_of_ble_eq_true rfl⟩ (ct_isPerson hE x) rfl ?_
              refine Z.goto (tgt := 57) dX7_isX_45 (by decide) ?_
              exact Z.zret dX7_isX_57 rfl (bI_01 _) ⟨by simp [isXF, bI, h1, h2, h3, h4, h5, h6], rfl, rfl⟩
        · refine Z.iload_n dX7_isX_25 rfl ?_
          refine Z.callSp (M := mX7_isX) (pc := 26) (st := []) (N := mX7_isCountry) (n := 1) (r := .int (bI (inB x 0 15))) dX7_isX_26 mlX7_194 mkX7_isCountry stX7_isCountry (d1 := 1) (by decide) (As := [.int x]) rfl ⟨rfl, Nat.le_of_ble_eq_true rfl⟩ ⟨rfl, Nat.le_of_ble_eq_true rfl⟩ (ct_isCountry hE x) rfl ?_
          exact Z.zret dX7_isX_29 rfl (bI_01 _) ⟨by simp [isXF, bI, h1, h2, h3, h4], rfl, rfl⟩
      · refine Z.iload_n dX7_isX_15 rfl ?_
        refine Z.callSp (M := mX7_isX) (pc := 16) (st := []) (N := mX7_isGoods) (n := 1) (r := .int (bI (inB x 0 359))) dX7_isX_16 mlX7_94 mkX7_isGoods stX7_isGoods (d1 := 1) (by decide) (As := [.int x]) rfl ⟨rfl, Nat.le_of_ble_eq_true rfl⟩ ⟨rfl, Nat.le_of_ble_eq_true rfl⟩ (ct_isGoods hE x) rfl ?_
        exact Z.zret dX7_isX_19 rfl (bI_01 _) ⟨by simp [isXF, bI, h1, h2, h3], rfl, rfl⟩

def cbF (I : IM) (n : Nat) (k : Int32) (j : Nat) (x t : Int32) : Bool :=
  if k = 0 then !(!decide (latF (pM I n) 0 (nI j) x t < 0) && decide (latF (pM I n) 3 (nI j) x t < latF (pM I n) 0 (nI j) x t)) && decide ((gS (pM I n) (nI j) t).1 < 20)
  else if k = 1 then decide (latF (pM I n) 1 (nI j) x t < 0) && !decide (latF (pM I n) 0 (nI j) (-1) t < 0)
  else if firF (pM I n) (nI j) t < 0 then false
  else if k = 2 then !decide (t < termF (pM I n) (nI j) t - 365) && !decide (termF (pM I n) (nI j) t + 180 < t)
  else if k = 3 ∨ k = 6 then decide (latF (pM I n) 3 (nI j) x t < latF (pM I n) 0 (nI j) x t)
  else if k = 4 then !strF (pM I n) (nI j) t
  else if k = 5 then !leF (pM I n) (nI j) x t
  else if k = 7 then decide (I 43 j = 4) && decide (latF (pM I n) 7 (nI j) (-1) t < 0)
  else decide (I 43 j = 3) && decide (latF (pM I n) 8 (nI j) x t < 0)
theorem sw27_o {x : Int32} (h : x.toInt < 2 ∨ 7 < x.toInt) : ¬ x = 2 ∧ ¬ x = 3 ∧ ¬ x = 4 ∧ ¬ x = 5 ∧ ¬ x = 6 ∧ ¬ x = 7 := by
  refine ⟨?_, ?_, ?_, ?_, ?_, ?_⟩ <;> (intro q; rw [q] at h; revert h; decide)
set_option maxHeartbeats 4000000 in
set_option maxRecDepth 100000 in
theorem ct_canBe {g : GP} {I J : IM} {S : SH} (hE : Ex I J) (k : Int32) (j : Nat) (x t : Int32) (hF : Fx S) {n : Nat} (hn : Mp I n) (hM : MIv I) (hj : j < 120) : Z g 3 0 0 mX7_canBe 0 (enL mX7_canBe [.ref 35, .int k, .int (nI j), .int x, .int t]) [] J S (NQ (.int (bI (cbF I n k j x t))) I S) := by
  show Z g 3 0 0 mX7_canBe 0 [.ref 35, .int k, .int (nI j), .int x, .int t, .retAddr 0, .retAddr 0, .retAddr 0, .retAddr 0] [] J S _
  have hn2 := hn.2
  refine Z.aload_n dX7_canBe_0 rfl ?_
  refine Z.iload_n dX7_canBe_1 rfl ?_
  refine Z.iload dX7_canBe_2 rfl ?_
  refine Z.callVp (M := mX7_canBe) (pc := 4) (st := []) (N := mX7_firstOf) (n := 2) (r := .int (firF (pM I n) (nI j) t)) dX7_canBe_4 mlX7_145 mkX7_firstOf imX7_firstOf seX7_firstOf (fx35 hF) cl7 rfl (d1 := 1) (by decide) (As := [.int (nI j), .int t]) rfl ⟨rfl, Nat.le_of_ble_eq_true rfl⟩ ⟨rfl, Nat.le_of_ble_eq_true rfl⟩ (ct_firstOf hE (nI j) t hF hn) rfl ?_
  refine Z.istore (L' := [.ref 35, .int k, .int (nI j), .int x, .int t, .int (firF (pM I n) (nI j) t), .retAddr 0, .retAddr 0, .retAddr 0]) dX7_canBe_7 (Nat.le_of_ble_eq_true rfl) rfl ?_
  refine Z.iload_n dX7_canBe_9 rfl ?_
  refine Z.if_ne (tgt := 81) dX7_canBe_10 (by decide) (fun h1 => ?_) (fun h1 => ?_)
  · refine Z.iload_n dX7_canBe_81 rfl ?_
    refine Z.iconst (v := 1) dX7_canBe_82 (by decide) ?_
    refine Z.icmp_ne (tgt := 116) dX7_canBe_83 (by decide) (fun h2 => ?_) (fun h2 => ?_)
    · refine Z.iload dX7_canBe_116 rfl ?_
      refine Z.if_ge (tgt := 123) dX7_canBe_118 (by decide) (fun h3 => ?_) (fun h3 => ?_)
      · refine Z.iload_n dX7_canBe_123 rfl ?_
        rcases sw_2_7 k with h4 | h4 | h4 | h4 | h4 | h4 | h4
        · refine Z.tableIn (off := 40) (tgt := 164) dX7_canBe_124 (by rw [h4]; decide) (by rw [h4]; decide) (by rw [h4]; decide) (by decide) ?_
          refine Z.aload_n dX7_canBe_164 rfl ?_
          refine Z.iload_n dX7_canBe_165 rfl ?_
          refine Z.iload dX7_canBe_166 rfl ?_
          refine Z.callVp (M := mX7_canBe) (pc := 168) (st := []) (N := mX7_termEnd) (n := 2) (r := .int (termF (pM I n) (nI j) t)) dX7_canBe_168 mlX7_152 mkX7_termEnd imX7_termEnd seX7_termEnd (fx35 hF) cl7 rfl (d1 := 2) (by decide) (As := [.int (nI j), .int t]) rfl ⟨rfl, Nat.le_of_ble_eq_true rfl⟩ ⟨rfl, Nat.le_of_ble_eq_true rfl⟩ (ct_termEnd hE (nI j) t hF hn) rfl ?_
          refine Z.istore (L' := [.ref 35, .int k, .int (nI j), .int x, .int t, .int (firF (pM I n) (nI j) t), .int (termF (pM I n) (nI j) t), .retAddr 0, .retAddr 0]) dX7_canBe_171 (Nat.le_of_ble_eq_true rfl) rfl ?_
          refine Z.iload dX7_canBe_173 rfl ?_
          refine Z.iload dX7_canBe_175 rfl ?_
          refine Z.sipush (v := 365) dX7_canBe_177 (by decide) ?_
          refine Z.isub dX7_canBe_180 ?_
          refine Z.icmp_lt (tgt := 199) dX7_canBe_181 (by decide) (fun h5 => ?_) (fun h5 => ?_)
          · refine Z.iconst (v := 0) dX7_canBe_199 (by decide) ?_
            exact Z.zret dX7_canBe_200 rfl (by decide) ⟨by simp [cbF, bI, h1, h2, h3, h4, h5], hE, rfl⟩
          · refine Z.iload dX7_canBe_184 rfl ?_
            refine Z.iload dX7_canBe_186 rfl ?_
            refine Z.sipush (v := 180) dX7_canBe_188 (by decide) ?_
            refine Z.iadd dX7_canBe_191 ?_
            refine Z.icmp_gt (tgt := 199) dX7_canBe_192 (by decide) (fun h6 => ?_) (fun h6 => ?_)
            · refine Z.iconst (v := 0) dX7_canBe_199 (by decide) ?_
              exact Z.zret dX7_canBe_200 rfl (by decide) ⟨by simp [cbF, bI, h1, h2, h3, h4, h5, h6], hE, rfl⟩
            · refine Z.iconst (v := 1) dX7_canBe_195 (by decide) ?_
              refine Z.goto (tgt := 200) dX7_canBe_196 (by decide) ?_
              exact Z.zret dX7_canBe_200 rfl (by decide) ⟨by simp [cbF, bI, h1, h2, h3, h4, h5, h6], hE, rfl⟩
        · refine Z.tableIn (off := 77) (tgt := 201) dX7_canBe_124 (by rw [h4]; decide) (by rw [h4]; decide) (by rw [h4]; decide) (by decide) ?_
          refine Z.aload_n dX7_canBe_201 rfl ?_
          refine Z.iconst (v := 0) dX7_canBe_202 (by decide) ?_
          refine Z.iload_n dX7_canBe_203 rfl ?_
          refine Z.iload_n dX7_canBe_204 rfl ?_
          refine Z.iload dX7_canBe_205 rfl ?_
          refine Z.callVp (M := mX7_canBe) (pc := 207) (st := []) (N := mX7_latest) (n := 4) (r := .int (latF (pM I n) 0 (nI j) x t)) dX7_canBe_207 mlX7_138 mkX7_latest imX7_latest seX7_latest (fx35 hF) cl7 rfl (d1 := 0) (by decide) (As := [.int 0, .int (nI j), .int x, .int t]) rfl ⟨rfl, Nat.le_of_ble_eq_true rfl⟩ ⟨rfl, Nat.le_of_ble_eq_true rfl⟩ (ct_latest hE 0 (nI j) x t hF hn) rfl ?_
          refine Z.aload_n dX7_canBe_210 rfl ?_
          refine Z.iconst (v := 3) dX7_canBe_211 (by decide) ?_
          refine Z.iload_n dX7_canBe_212 rfl ?_
          refine Z.iload_n dX7_canBe_213 rfl ?_
          refine Z.iload dX7_canBe_214 rfl ?_
          refine Z.callVp (M := mX7_canBe) (pc := 216) (st := [.int (latF (pM I n) 0 (nI j) x t)]) (N := mX7_latest) (n := 4) (r := .int (latF (pM I n) 3 (nI j) x t)) dX7_canBe_216 mlX7_138 mkX7_latest imX7_latest seX7_latest (fx35 hF) cl7 rfl (d1 := 0) (by decide) (As := [.int 3, .int (nI j), .int x, .int t]) rfl ⟨rfl, Nat.le_of_ble_eq_true rfl⟩ ⟨rfl, Nat.le_of_ble_eq_true rfl⟩ (ct_latest hE 3 (nI j) x t hF hn) rfl ?_
          refine Z.icmp_le (tgt := 226) dX7_canBe_219 (by decide) (fun h7 => ?_) (fun h7 => ?_)
          · refine Z.iconst (v := 0) dX7_canBe_226 (by decide) ?_
            exact Z.zret dX7_canBe_227 rfl (by decide) ⟨by simp [cbF, bI, h1, h2, h3, h4, h7], hE, rfl⟩
          · refine Z.iconst (v := 1) dX7_canBe_222 (by decide) ?_
            refine Z.goto (tgt := 227) dX7_canBe_223 (by decide) ?_
            exact Z.zret dX7_canBe_227 rfl (by decide) ⟨by simp [cbF, bI, h1, h2, h3, h4, h7], hE, rfl⟩
        · refine Z.tableIn (off := 104) (tgt := 228) dX7_canBe_124 (by rw [h4]; decide) (by rw [h4]; decide) (by rw [h4]; decide) (by decide) ?_
          refine Z.aload_n dX7_canBe_228 rfl ?_
          refine Z.iload_n dX7_canBe_229 rfl ?_
          refine Z.iload dX7_canBe_230 rfl ?_
          refine Z.callVp (M := mX7_canBe) (pc := 232) (st := []) (N := mX7_isStruck) (n := 2) (r := .int (bI (strF (pM I n) (nI j) t))) dX7_canBe_232 mlX7_164 mkX7_isStruck imX7_isStruck seX7_isStruck (fx35 hF) cl7 rfl (d1 := 1) (by decide) (As := [.int (nI j), .int t]) rfl ⟨rfl, Nat.le_of_ble_eq_true rfl⟩ ⟨rfl, Nat.le_of_ble_eq_true rfl⟩ (ct_isStruck hE (nI j) t hF hn) rfl ?_
          refine Z.if_neB (tgt := 242) dX7_canBe_235 (by decide) (fun h8 => ?_) (fun h8 => ?_)
          · refine Z.iconst (v := 0) dX7_canBe_242 (by decide) ?_
            exact Z.zret dX7_canBe_243 rfl (by decide) ⟨by simp [cbF, bI, h1, h2, h3, h4, h8], hE, rfl⟩
          · refine Z.iconst (v := 1) dX7_canBe_238 (by decide) ?_
            refine Z.goto (tgt := 243) dX7_canBe_239 (by decide) ?_
            exact Z.zret dX7_canBe_243 rfl (by decide) ⟨by simp [cbF, bI, h1, h2, h3, h4, h8], hE, rfl⟩
        · refine Z.tableIn (off := 120) (tgt := 244) dX7_canBe_124 (by rw [h4]; decide) (by rw [h4]; decide) (by rw [h4]; decide) (by decide) ?_
          refine Z.aload_n dX7_canBe_244 rfl ?_
          refine Z.iload_n dX7_canBe_245 rfl ?_
          refine Z.iload_n dX7_canBe_246 rfl ?_
          refine Z.iload dX7_canBe_247 rfl ?_
          refine Z.callVp (M := mX7_canBe) (pc := 249) (st := []) (N := mX7_hasLeave) (n := 3) (r := .int (bI (leF (pM I n) (nI j) x t))) dX7_canBe_249 mlX7_170 mkX7_hasLeave imX7_hasLeave seX7_hasLeave (fx35 hF) cl7 rfl (d1 := 1) (by decide) (As := [.int (nI j), .int x, .int t]) rfl ⟨rfl, Nat.le_of_ble_eq_true rfl⟩ ⟨rfl, Nat.le_of_ble_eq_true rfl⟩ (ct_hasLeave hE (nI j) x t hF hn) rfl ?_
          refine Z.if_neB (tgt := 259) dX7_canBe_252 (by decide) (fun h9 => ?_) (fun h9 => ?_)
          · refine Z.iconst (v := 0) dX7_canBe_259 (by decide) ?_
            exact Z.zret dX7_canBe_260 rfl (by decide) ⟨by simp [cbF, bI, h1, h2, h3, h4, h9], hE, rfl⟩
          · refine Z.iconst (v := 1) dX7_canBe_255 (by decide) ?_
            refine Z.goto (tgt := 260) dX7_canBe_256 (by decide) ?_
            exact Z.zret dX7_canBe_260 rfl (by decide) ⟨by simp [cbF, bI, h1, h2, h3, h4, h9], hE, rfl⟩
        · refine Z.tableIn (off := 77) (tgt := 201) dX7_canBe_124 (by rw [h4]; decide) (by rw [h4]; decide) (by rw [h4]; decide) (by decide) ?_
          refine Z.aload_n dX7_canBe_201 rfl ?_
          refine Z.iconst (v := 0) dX7_canBe_202 (by decide) ?_
          refine Z.iload_n dX7_canBe_203 rfl ?_
          refine Z.iload_n dX7_canBe_204 rfl ?_
          refine Z.iload dX7_canBe_205 rfl ?_
          refine Z.callVp (M := mX7_canBe) (pc := 207) (st := []) (N := mX7_latest) (n := 4) (r := .int (latF (pM I n) 0 (nI j) x t)) dX7_canBe_207 mlX7_138 mkX7_latest imX7_latest seX7_latest (fx35 hF) cl7 rfl (d1 := 0) (by decide) (As := [.int 0, .int (nI j), .int x, .int t]) rfl ⟨rfl, Nat.le_of_ble_eq_true rfl⟩ ⟨rfl, Nat.le_of_ble_eq_true rfl⟩ (ct_latest hE 0 (nI j) x t hF hn) rfl ?_
          refine Z.aload_n dX7_canBe_210 rfl ?_
          refine Z.iconst (v := 3) dX7_canBe_211 (by decide) ?_
          refine Z.iload_n dX7_canBe_212 rfl ?_
          refine Z.iload_n dX7_canBe_213 rfl ?_
          refine Z.iload dX7_canBe_214 rfl ?_
          refine Z.callVp (M := mX7_canBe) (pc := 216) (st := [.int (latF (pM I n) 0 (nI j) x t)]) (N := mX7_latest) (n := 4) (r := .int (latF (pM I n) 3 (nI j) x t)) dX7_canBe_216 mlX7_138 mkX7_latest imX7_latest seX7_latest (fx35 hF) cl7 rfl (d1 := 0) (by decide) (As := [.int 3, .int (nI j), .int x, .int t]) rfl ⟨rfl, Nat.le_of_ble_eq_true rfl⟩ ⟨rfl, Nat.le_of_ble_eq_true rfl⟩ (ct_latest hE 3 (nI j) x t hF hn) rfl ?_
          refine Z.icmp_le (tgt := 226) dX7_canBe_219 (by decide) (fun h10 => ?_) (fun h10 => ?_)
          · refine Z.iconst (v := 0) dX7_canBe_226 (by decide) ?_
            exact Z.zret dX7_canBe_227 rfl (by decide) ⟨by simp [cbF, bI, h1, h2, h3, h4, h10], hE, rfl⟩
          · refine Z.iconst (v := 1) dX7_canBe_222 (by decide) ?_
            refine Z.goto (tgt := 227) dX7_canBe_223 (by decide) ?_
            exact Z.zret dX7_canBe_227 rfl (by decide) ⟨by simp [cbF, bI, h1, h2, h3, h4, h10], hE, rfl⟩
        · refine Z.tableIn (off := 137) (tgt := 261) dX7_canBe_124 (by rw [h4]; decide) (by rw [h4]; decide) (by rw [h4]; decide) (by decide) ?_
          refine Z.aload_n dX7_canBe_261 rfl ?_
          refine Z.getR (r := 43) dX7_canBe_262 cl7 flX7_31 (by decide) (fx35 hF) rfl ?_
          refine Z.iload_n dX7_canBe_265 rfl ?_
          refine Z.ialdv (j := j) (v := I 43 j) dX7_canBe_266 (fx43 hF) rfl (by omega) (by decide) (hE.at 43 j rfl) ?_
          refine Z.iconst (v := 4) dX7_canBe_267 (by decide) ?_
          refine Z.icmp_ne (tgt := 288) dX7_canBe_268 (by decide) (fun h11 => ?_) (fun h11 => ?_)
          · refine Z.iconst (v := 0) dX7_canBe_288 (by decide) ?_
            exact Z.zret dX7_canBe_289 rfl (by decide) ⟨by simp [cbF, bI, h1, h2, h3, h4, h11], hE, rfl⟩
          · refine Z.aload_n dX7_canBe_271 rfl ?_
            refine Z.bipush (v := 7) dX7_canBe_272 (by decide) ?_
            refine Z.iload_n dX7_canBe_274 rfl ?_
            refine Z.iconst (v := (-1)) dX7_canBe_275 (by decide) ?_
            refine Z.iload dX7_canBe_276 rfl ?_
            refine Z.callVp (M := mX7_canBe) (pc := 278) (st := []) (N := mX7_latest) (n := 4) (r := .int (latF (pM I n) 7 (nI j) (-1) t)) dX7_canBe_278 mlX7_138 mkX7_latest imX7_latest seX7_latest (fx35 hF) cl7 rfl (d1 := 0) (by decide) (As := [.int 7, .int (nI j), .int ((-1)), .int t]) rfl ⟨rfl, Nat.le_of_ble_eq_true rfl⟩ ⟨rfl, Nat.le_of_ble_eq_true rfl⟩ (ct_latest hE 7 (nI j) (-1) t hF hn) rfl ?_
            refine Z.if_ge (tgt := 288) dX7_canBe_281 (by decide) (fun h12 => ?_) (fun h12 => ?_)
            · refine Z.iconst (v := 0) dX7_canBe_288 (by decide) ?_
              exact Z.zret dX7_canBe_289 rfl (by decide) ⟨by simp [cbF, bI, h1, h2, h3, h4, h11, h12], hE, rfl⟩
            · refine Z.iconst (v := 1) dX7_canBe_284 (by decide) ?_
              refine Z.goto (tgt := 289) dX7_canBe_285 (by decide) ?_
              exact Z.zret dX7_canBe_289 rfl (by decide) ⟨by simp [cbF, bI, h1, h2, h3, h4, h11, h12], hE, rfl⟩
        · refine Z.tableOut (tgt := 290) dX7_canBe_124 h4 (by decide) ?_
          refine Z.aload_n dX7_canBe_290 rfl ?_
          refine Z.getR (r := 43) dX7_canBe_291 cl7 flX7_31 (by decide) (fx35 hF) rfl ?_
          refine Z.iload_n dX7_canBe_294 rfl ?_
          refine Z.ialdv (j := j) (v := I 43 j) dX7_canBe_295 (fx43 hF) rfl (by omega) (by decide) (hE.at 43 j rfl) ?_
          refine Z.iconst (v := 3) dX7_canBe_296 (by decide) ?_
          refine Z.icmp_ne (tgt := 317) dX7_canBe_297 (by decide) (fun h13 => ?_) (fun h13 => ?_)
          · refine Z.iconst (v := 0) dX7_canBe_317 (by decide) ?_
            exact Z.zret dX7_canBe_318 rfl (by decide) ⟨by have hq := sw27_o h4; simp [cbF, bI, hq.1, hq.2.1, hq.2.2.1, hq.2.2.2.1, hq.2.2.2.2.1, hq.2.2.2.2.2, h1, h2, h3, h13], hE, rfl⟩
          · refine Z.aload_n dX7_canBe_300 rfl ?_
            refine Z.bipush (v := 8) dX7_canBe_301 (by decide) ?_
            refine Z.iload_n dX7_canBe_303 rfl ?_
            refine Z.iload_n dX7_canBe_304 rfl ?_
            refine Z.iload dX7_canBe_305 rfl ?_
            refine Z.callVp (M := mX7_canBe) (pc := 307) (st := []) (N := mX7_latest) (n := 4) (r := .int (latF (pM I n) 8 (nI j) x t)) dX7_canBe_307 mlX7_138 mkX7_latest imX7_latest seX7_latest (fx35 hF) cl7 rfl (d1 := 0) (by decide) (As := [.int 8, .int (nI j), .int x, .int t]) rfl ⟨rfl, Nat.le_of_ble_eq_true rfl⟩ ⟨rfl, Nat.le_of_ble_eq_true rfl⟩ (ct_latest hE 8 (nI j) x t hF hn) rfl ?_
            refine Z.if_ge (tgt := 317) dX7_canBe_310 (by decide) (fun h14 => ?_) (fun h14 => ?_)
            · refine Z.iconst (v := 0) dX7_canBe_317 (by decide) ?_
              exact Z.zret dX7_canBe_318 rfl (by decide) ⟨by have hq := sw27_o h4; simp [cbF, bI, hq.1, hq.2.1, hq.2.2.1, hq.2.2.2.1, hq.2.2.2.2.1, hq.2.2.2.2.2, h1, h2, h3, h13, h14], hE, rfl⟩
            · refine Z.iconst (v := 1) dX7_canBe_313 (by decide) ?_
              refine Z.goto (tgt := 318) dX7_canBe_314 (by decide) ?_
              exact Z.zret dX7_canBe_318 rfl (by decide) ⟨by have hq := sw27_o h4; simp [cbF, bI, hq.1, hq.2.1, hq.2.2.1, hq.2.2.2.1, hq.2.2.2.2.1, hq.2.2.2.2.2, h1, h2, h3, h13, h14], hE, rfl⟩
      · refine Z.iconst (v := 0) dX7_canBe_121 (by decide) ?_
        exact Z.zret dX7_canBe_122 rfl (by decide) ⟨by simp [cbF, bI, h1, h2, h3], hE, rfl⟩
    · refine Z.aload_n dX7_canBe_86 rfl ?_
      refine Z.iconst (v := 1) dX7_canBe_87 (by decide) ?_
      refine Z.iload_n dX7_canBe_88 rfl ?_
      refine Z.iload_n dX7_canBe_89 rfl ?_
      refine Z.iload dX7_canBe_90 rfl ?_
      refine Z.callVp (M := mX7_canBe) (pc := 92) (st := []) (N := mX7_latest) (n := 4) (r := .int (latF (pM I n) 1 (nI j) x t)) dX7_canBe_92 mlX7_138 mkX7_latest imX7_latest seX7_latest (fx35 hF) cl7 rfl (d1 := 0) (by decide) (As := [.int 1, .int (nI j), .int x, .int t]) rfl ⟨rfl, Nat.le_of_ble_eq_true rfl⟩ ⟨rfl, Nat.le_of_ble_eq_true rfl⟩ (ct_latest hE 1 (nI j) x t hF hn) rfl ?_
      refine Z.if_ge (tgt := 114) dX7_canBe_95 (by decide) (fun h15 => ?_) (fun h15 => ?_)
      · refine Z.iconst (v := 0) dX7_canBe_114 (by decide) ?_
        exact Z.zret dX7_canBe_115 rfl (by decide) ⟨by simp [cbF, bI, h1, h2, h15], hE, rfl⟩
      · refine Z.aload_n dX7_canBe_98 rfl ?_
        refine Z.iconst (v := 0) dX7_canBe_99 (by decide) ?_
        refine Z.iload_n dX7_canBe_100 rfl ?_
        refine Z.iconst (v := (-1)) dX7_canBe_101 (by decide) ?_
        refine Z.iload dX7_canBe_102 rfl ?_
        refine Z.callVp (M := mX7_canBe) (pc := 104) (st := []) (N := mX7_latest) (n := 4) (r := .int (latF (pM I n) 0 (nI j) (-1) t)) dX7_canBe_104 mlX7_138 mkX7_latest imX7_latest seX7_latest (fx35 hF) cl7 rfl (d1 := 0) (by decide) (As := [.int 0, .int (nI j), .int ((-1)), .int t]) rfl ⟨rfl, Nat.le_of_ble_eq_true rfl⟩ ⟨rfl, Nat.le_of_ble_eq_true rfl⟩ (ct_latest hE 0 (nI j) (-1) t hF hn) rfl ?_
        refine Z.if_lt (tgt := 114) dX7_canBe_107 (by decide) (fun h16 => ?_) (fun h16 => ?_)
        · refine Z.iconst (v := 0) dX7_canBe_114 (by decide) ?_
          exact Z.zret dX7_canBe_115 rfl (by decide) ⟨by simp [cbF, bI, h1, h2, h15, h16], hE, rfl⟩
        · refine Z.iconst (v := 1) dX7_canBe_110 (by decide) ?_
          refine Z.goto (tgt := 115) dX7_canBe_111 (by decide) ?_
          exact Z.zret dX7_canBe_115 rfl (by decide) ⟨by simp [cbF, bI, h1, h2, h15, h16], hE, rfl⟩
  · refine Z.aload_n dX7_canBe_13 rfl ?_
    refine Z.iconst (v := 3) dX7_canBe_14 (by decide) ?_
    refine Z.iload_n dX7_canBe_15 rfl ?_
    refine Z.iload_n dX7_canBe_16 rfl ?_
    refine Z.iload dX7_canBe_17 rfl ?_
    refine Z.callVp (M := mX7_canBe) (pc := 19) (st := []) (N := mX7_latest) (n := 4) (r := .int (latF (pM I n) 3 (nI j) x t)) dX7_canBe_19 mlX7_138 mkX7_latest imX7_latest seX7_latest (fx35 hF) cl7 rfl (d1 := 0) (by decide) (As := [.int 3, .int (nI j), .int x, .int t]) rfl ⟨rfl, Nat.le_of_ble_eq_true rfl⟩ ⟨rfl, Nat.le_of_ble_eq_true rfl⟩ (ct_latest hE 3 (nI j) x t hF hn) rfl ?_
    refine Z.istore (L' := [.ref 35, .int k, .int (nI j), .int x, .int t, .int (firF (pM I n) (nI j) t), .int (latF (pM I n) 3 (nI j) x t), .retAddr 0, .retAddr 0]) dX7_canBe_22 (Nat.le_of_ble_eq_true rfl) rfl ?_
    refine Z.aload_n dX7_canBe_24 rfl ?_
    refine Z.iconst (v := 0) dX7_canBe_25 (by decide) ?_
    refine Z.iload_n dX7_canBe_26 rfl ?_
    refine Z.iload_n dX7_canBe_27 rfl ?_
    refine Z.iload dX7_canBe_28 rfl ?_
    refine Z.callVp (M := mX7_canBe) (pc := 30) (st := []) (N := mX7_latest) (n := 4) (r := .int (latF (pM I n) 0 (nI j) x t)) dX7_canBe_30 mlX7_138 mkX7_latest imX7_latest seX7_latest (fx35 hF) cl7 rfl (d1 := 0) (by decide) (As := [.int 0, .int (nI j), .int x, .int t]) rfl ⟨rfl, Nat.le_of_ble_eq_true rfl⟩ ⟨rfl, Nat.le_of_ble_eq_true rfl⟩ (ct_latest hE 0 (nI j) x t hF hn) rfl ?_
    refine Z.istore (L' := [.ref 35, .int k, .int (nI j), .int x, .int t, .int (firF (pM I n) (nI j) t), .int (latF (pM I n) 3 (nI j) x t), .int (latF (pM I n) 0 (nI j) x t), .retAddr 0]) dX7_canBe_33 (Nat.le_of_ble_eq_true rfl) rfl ?_
    refine Z.iload dX7_canBe_35 rfl ?_
    refine Z.if_lt (tgt := 51) dX7_canBe_37 (by decide) (fun h17 => ?_) (fun h17 => ?_)
    · refine Z.iconst (v := 0) dX7_canBe_51 (by decide) ?_
      refine Z.istore (L' := [.ref 35, .int k, .int (nI j), .int x, .int t, .int (firF (pM I n) (nI j) t), .int (latF (pM I n) 3 (nI j) x t), .int (latF (pM I n) 0 (nI j) x t), .int 0]) dX7_canBe_52 (Nat.le_of_ble_eq_true rfl) rfl ?_
      refine Z.iload dX7_canBe_54 rfl ?_
      refine Z.if_ne (tgt := 79) dX7_canBe_56 (by decide) (fun h18 => absurd h18 (by decide)) (fun h18 => ?_)
      refine Z.aload_n dX7_canBe_59 rfl ?_
      refine Z.iload_n dX7_canBe_60 rfl ?_
      refine Z.iload dX7_canBe_61 rfl ?_
      refine Z.aload_n dX7_canBe_63 rfl ?_
      refine Z.getR (r := 56) dX7_canBe_64 cl7 flX7_70 (by decide) (fx35 hF) rfl ?_
      refine Z.callVg (M := mX7_canBe) (pc := 67) (st := []) (N := mX7_goodsInto) (n := 3) dX7_canBe_67 mlX7_186 mkX7_goodsInto imX7_goodsInto seX7_goodsInto (fx35 hF) cl7 rfl (d1 := 2) (by decide) (As := [.int (nI j), .int t, .ref 56]) rfl ⟨rfl, Nat.le_of_ble_eq_true rfl⟩ ⟨rfl, Nat.le_of_ble_eq_true rfl⟩ (ct_goodsA2 hE (nI j) t hF hn) rfl (fun v_ J1 S_ h_ => ?_)
      obtain ⟨rfl, fA56, rfl, hfA56, rfl⟩ := h_
      have hfA56le : (gS (pM I n) (nI j) t).1 ≤ n := gS_le
      refine Z.bipush (v := 20) dX7_canBe_70 (by decide) ?_
      refine Z.icmp_geN (a := (gS (pM I n) (nI j) t).1) (b := 20) (by omega) (by decide) (tgt := 79) dX7_canBe_72 (by decide) (fun h19 => ?_) (fun h19 => ?_)
      · refine Z.iconst (v := 0) dX7_canBe_79 (by decide) ?_
        exact Z.zret dX7_canBe_80 rfl (by decide) ⟨by simp [cbF, bI, h1, h17, h19], (hE.up (a := 56) rfl), rfl⟩
      · refine Z.iconst (v := 1) dX7_canBe_75 (by decide) ?_
        refine Z.goto (tgt := 80) dX7_canBe_76 (by decide) ?_
        exact Z.zret dX7_canBe_80 rfl (by decide) ⟨by simp [cbF, bI, h1, h17, h19], (hE.up (a := 56) rfl), rfl⟩
    · refine Z.iload dX7_canBe_40 rfl ?_
      refine Z.iload dX7_canBe_42 rfl ?_
      refine Z.icmp_le (tgt := 51) dX7_canBe_44 (by decide) (fun h20 => ?_) (fun h20 => ?_)
      · refine Z.iconst (v := 0) dX7_canBe_51 (by decide) ?_
        refine Z.istore (L' := [.ref 35, .int k, .int (nI j), .int x, .int t, .int (firF (pM I n) (nI j) t), .int (latF (pM I n) 3 (nI j) x t), .int (latF (pM I n) 0 (nI j) x t), .int 0]) dX7_canBe_52 (Nat.le_of_ble_eq_true rfl) rfl ?_
        refine Z.iload dX7_canBe_54 rfl ?_
        refine Z.if_ne (tgt := 79) dX7_canBe_56 (by decide) (fun h21 => absurd h21 (by decide)) (fun h21 => ?_)
        refine Z.aload_n dX7_canBe_59 rfl ?_
        refine Z.iload_n dX7_canBe_60 rfl ?_
        refine Z.iload dX7_canBe_61 rfl ?_
        refine Z.aload_n dX7_canBe_63 rfl ?_
        refine Z.getR (r := 56) dX7_canBe_64 cl7 flX7_70 (by decide) (fx35 hF) rfl ?_
        refine Z.callVg (M := mX7_canBe) (pc := 67) (st := []) (N := mX7_goodsInto) (n := 3) dX7_canBe_67 mlX7_186 mkX7_goodsInto imX7_goodsInto seX7_goodsInto (fx35 hF) cl7 rfl (d1 := 2) (by decide) (As := [.int (nI j), .int t, .ref 56]) rfl ⟨rfl, Nat.le_of_ble_eq_true rfl⟩ ⟨rfl, Nat.le_of_ble_eq_true rfl⟩ (ct_goodsA2 hE (nI j) t hF hn) rfl (fun v_ J2 S_ h_ => ?_)
        obtain ⟨rfl, fA56, rfl, hfA56, rfl⟩ := h_
        have hfA56le : (gS (pM I n) (nI j) t).1 ≤ n := gS_le
        refine Z.bipush (v := 20) dX7_canBe_70 (by decide) ?_
        refine Z.icmp_geN (a := (gS (pM I n) (nI j) t).1) (b := 20) (by omega) (by decide) (tgt := 79) dX7_canBe_72 (by decide) (fun h22 => ?_) (fun h22 => ?_)
        · refine Z.iconst (v := 0) dX7_canBe_79 (by decide) ?_
          exact Z.zret dX7_canBe_80 rfl (by decide) ⟨by simp [cbF, bI, h1, h17, h20, h22], (hE.up (a := 56) rfl), rfl⟩
        · refine Z.iconst (v := 1) dX7_canBe_75 (by decide) ?_
          refine Z.goto (tgt := 80) dX7_canBe_76 (by decide) ?_
          exact Z.zret dX7_canBe_80 rfl (by decide) ⟨by simp [cbF, bI, h1, h17, h20, h22], (hE.up (a := 56) rfl), rfl⟩
      · refine Z.iconst (v := 1) dX7_canBe_47 (by decide) ?_
        refine Z.goto (tgt := 52) dX7_canBe_48 (by decide) ?_
        refine Z.istore (L' := [.ref 35, .int k, .int (nI j), .int x, .int t, .int (firF (pM I n) (nI j) t), .int (latF (pM I n) 3 (nI j) x t), .int (latF (pM I n) 0 (nI j) x t), .int 1]) dX7_canBe_52 (Nat.le_of_ble_eq_true rfl) rfl ?_
        refine Z.iload dX7_canBe_54 rfl ?_
        refine Z.if_ne (tgt := 79) dX7_canBe_56 (by decide) (fun h23 => ?_) (fun h23 => absurd h23 (by decide))
        refine Z.iconst (v := 0) dX7_canBe_79 (by decide) ?_
        exact Z.zret dX7_canBe_80 rfl (by decide) ⟨by simp [cbF, bI, h1, h17, h20], hE, rfl⟩

