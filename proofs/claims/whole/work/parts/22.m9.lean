def neK (I : IM) (nq : Nat) (g_ h_ v : Int32) : Bool := inB g_ 0 359 && (inB h_ 0 359 && (!decide (g_ = h_) && (inB v 0 999 && !(decide ((prF (qM I nq) g_ h_) < 0) && (!decide (v = 0) && decide (nq = 100))))))
def neN (I : IM) (nq : Nat) (g_ h_ v : Int32) : IM := if (prF (qM I nq) g_ h_) < 0 then (if v = 0 then I else va_up (va_up (va_up (va_up I 35 (upd (I 35) 7 (nI (nq + 1)))) 40 (upd (I 40) nq (lowF g_ h_))) 41 (upd (I 41) nq (highF g_ h_))) 42 (upd (I 42) nq v))
  else (if v = 0 then va_up (va_up (va_up (va_up I 35 (upd (I 35) 7 (nI (nq - 1)))) 40 (upd (I 40) (prF (qM I nq) g_ h_).toNatClampNeg (I 40 (nq - 1)))) 41 (upd (I 41) (prF (qM I nq) g_ h_).toNatClampNeg (I 41 (nq - 1)))) 42 (upd (I 42) (prF (qM I nq) g_ h_).toNatClampNeg (I 42 (nq - 1))) else va_up I 42 (upd (I 42) (prF (qM I nq) g_ h_).toNatClampNeg v))
set_option maxHeartbeats 4000000 in
set_option maxRecDepth 100000 in
theorem cp_near {g : GP} {I J : IM} {S : SH} (hE : Ex I J) (g_ h_ v : Int32) (hF : Fx S) {n : Nat} (hn : Mp I n) {nq : Nat} (hq : Mq I nq) (hM : MIv I) {mm : Nat} (hm : Mm I mm) : Z g 2 0 0 mX7_near 0 (enL mX7_near [.ref 35, .int g_, .int h_, .int v]) [] J S (NQ (.int (bI (neK I nq g_ h_ v))) (if neK I nq g_ h_ v = true then neN I nq g_ h_ v else I) S) := by
  show Z g 2 0 0 mX7_near 0 [.ref 35, .int g_, .int h_, .int v, .retAddr 0] [] J S _
  have hn2 := hn.2
  have hq2 := hq.2
  have hm2 := hm.2
  refine Z.iload_n dX7_near_0 rfl ?_
  refine Z.callSp (M := mX7_near) (pc := 1) (st := []) (N := mX7_isGoods) (n := 1) (r := .int (bI (inB g_ 0 359))) dX7_near_1 mlX7_94 mkX7_isGoods stX7_isGoods (d1 := 1) (by decide) (As := [.int g_]) rfl ⟨rfl, Nat.le_of_ble_eq_true rfl⟩ ⟨rfl, Nat.le_of_ble_eq_true rfl⟩ (ct_isGoods hE g_) rfl ?_
  refine Z.if_eqB (tgt := 30) dX7_near_4 (by decide) (fun h1 => ?_) (fun h1 => ?_)
  · refine Z.iconst (v := 0) dX7_near_30 (by decide) ?_
    exact Z.zret dX7_near_31 rfl (by decide) ⟨by simp [neK, bI, h1], by rw [if_neg (by simp [neK, h1])]; exact hE, rfl⟩
  · refine Z.iload_n dX7_near_7 rfl ?_
    refine Z.callSp (M := mX7_near) (pc := 8) (st := []) (N := mX7_isGoods) (n := 1) (r := .int (bI (inB h_ 0 359))) dX7_near_8 mlX7_94 mkX7_isGoods stX7_isGoods (d1 := 1) (by decide) (As := [.int h_]) rfl ⟨rfl, Nat.le_of_ble_eq_true rfl⟩ ⟨rfl, Nat.le_of_ble_eq_true rfl⟩ (ct_isGoods hE h_) rfl ?_
    refine Z.if_eqB (tgt := 30) dX7_near_11 (by decide) (fun h2 => ?_) (fun h2 => ?_)
    · refine Z.iconst (v := 0) dX7_near_30 (by decide) ?_
      exact Z.zret dX7_near_31 rfl (by decide) ⟨by simp [neK, bI, h1, h2], by rw [if_neg (by simp [neK, h1, h2])]; exact hE, rfl⟩
    · refine Z.iload_n dX7_near_14 rfl ?_
      refine Z.iload_n dX7_near_15 rfl ?_
      refine Z.icmp_eq (tgt := 30) dX7_near_16 (by decide) (fun h3 => ?_) (fun h3 => ?_)
      · refine Z.iconst (v := 0) dX7_near_30 (by decide) ?_
        exact Z.zret dX7_near_31 rfl (by decide) ⟨by simp [neK, bI, h1, h2, eq_true h3], by rw [if_neg (by simp [neK, h1, h2, eq_true h3])]; exact hE, rfl⟩
      · refine Z.iload_n dX7_near_19 rfl ?_
        refine Z.iconst (v := 0) dX7_near_20 (by decide) ?_
        refine Z.sipush (v := 999) dX7_near_21 (by decide) ?_
        refine Z.callSp (M := mX7_near) (pc := 24) (st := []) (N := mX7_in) (n := 3) (r := .int (bI (inB v 0 999))) dX7_near_24 mlX7_86 mkX7_in stX7_in (d1 := 0) (by decide) (As := [.int v, .int 0, .int 999]) rfl ⟨rfl, Nat.le_of_ble_eq_true rfl⟩ ⟨rfl, Nat.le_of_ble_eq_true rfl⟩ (ct_in hE v 0 999) rfl ?_
        refine Z.if_neB (tgt := 32) dX7_near_27 (by decide) (fun h4 => ?_) (fun h4 => ?_)
        · refine Z.aload_n dX7_near_32 rfl ?_
          refine Z.iload_n dX7_near_33 rfl ?_
          refine Z.iload_n dX7_near_34 rfl ?_
          refine Z.callVp (M := mX7_near) (pc := 35) (st := []) (N := mX7_pairOf) (n := 2) (r := .int (prF (qM I nq) g_ h_)) dX7_near_35 mlX7_98 mkX7_pairOf imX7_pairOf seX7_pairOf (fx35 hF) cl7 rfl (d1 := 0) (by decide) (As := [.int g_, .int h_]) rfl ⟨rfl, Nat.le_of_ble_eq_true rfl⟩ ⟨rfl, Nat.le_of_ble_eq_true rfl⟩ (ct_pairOf hE g_ h_ hF hq) rfl ?_
          refine Z.istore (L' := [.ref 35, .int g_, .int h_, .int v, .int (prF (qM I nq) g_ h_)]) dX7_near_38 (Nat.le_of_ble_eq_true rfl) rfl ?_
          refine Z.iload dX7_near_40 rfl ?_
          refine Z.if_ge (tgt := 51) dX7_near_42 (by decide) (fun h5 => ?_) (fun h5 => ?_)
          · refine Z.iload dX7_near_51 rfl ?_
            refine Z.if_ge (tgt := 67) dX7_near_53 (by decide) (fun h6 => ?_) (fun h6 => absurd h6 h5)
            refine Z.iload_n dX7_near_67 rfl ?_
            refine Z.if_ne (tgt := 131) dX7_near_68 (by decide) (fun h7 => ?_) (fun h7 => ?_)
            · refine Z.iload dX7_near_131 rfl ?_
              refine Z.if_ge (tgt := 186) dX7_near_133 (by decide) (fun h8 => ?_) (fun h8 => absurd h8 h5)
              have hkl : (prF (qM I nq) g_ h_).toNatClampNeg < nq := prU_lt (q := qM I nq) (i := nq) (by omega) h5
              refine Z.aload_n dX7_near_186 rfl ?_
              refine Z.getR (r := 42) dX7_near_187 cl7 flX7_28 (by decide) (fx35 hF) rfl ?_
              refine Z.iload dX7_near_190 rfl ?_
              refine Z.iload_n dX7_near_192 rfl ?_
              refine Z.iast (j := (prF (qM I nq) g_ h_).toNatClampNeg) (x := v) dX7_near_193 (fx42 hF) (tn_eq h5) (by omega) (by decide) ?_
              refine Z.iconst (v := 1) dX7_near_194 (by decide) ?_
              exact Z.zret dX7_near_195 rfl (by decide) ⟨by simp [neK, bI, h1, h2, h3, h4, h5, h7], by rw [if_pos (by simp [neK, h1, h2, h3, h4, h5, h7])]; rw [neN, if_neg h5, if_neg h7]; exact (Ex.upC hE (by have h := hE 42 rfl; first | (rw [h]; done) | (show upd (I 42) _ _ = upd (J 42) _ _; rw [h]; done) | (show _ = upd (upd (J 42) _ _) _ _; rw [h]; done) | (show zf (I 42) _ _ = zf (J 42) _ _; rw [h]))), rfl⟩
            · have hkl : (prF (qM I nq) g_ h_).toNatClampNeg < nq := prU_lt (q := qM I nq) (i := nq) (by omega) h5
              refine Z.aload_n dX7_near_71 rfl ?_
              refine Z.dupR dX7_near_72 ?_
              refine Z.getIv (v := nI nq) dX7_near_73 cl7 flX7_91 (by decide) (fx35 hF) ((hE.at 35 7 rfl).trans hq.1) ?_
              refine Z.iconst (v := 1) dX7_near_76 (by decide) ?_
              refine Z.isubN (a := nq) (b := 1) (by omega) dX7_near_77 ?_
              refine Z.putI (x := nI (nq - 1)) dX7_near_78 cl7 flX7_91 (by decide) ⟨rfl, rfl⟩ (fx35 hF) ?_
              refine Z.aload_n dX7_near_81 rfl ?_
              refine Z.getR (r := 40) dX7_near_82 cl7 flX7_22 (by decide) (fx35 hF) rfl ?_
              refine Z.iload dX7_near_85 rfl ?_
              refine Z.aload_n dX7_near_87 rfl ?_
              refine Z.getR (r := 40) dX7_near_88 cl7 flX7_22 (by decide) (fx35 hF) rfl ?_
              refine Z.aload_n dX7_near_91 rfl ?_
              refine Z.getIv (v := nI (nq - 1)) dX7_near_92 cl7 flX7_91 (by decide) (fx35 hF) rfl ?_
              refine Z.ialdv (j := nq - 1) (v := I 40 (nq - 1)) dX7_near_95 (fx40 hF) rfl (by omega) (by decide) (hE.at 40 (nq - 1) rfl) ?_
              refine Z.iast (j := (prF (qM I nq) g_ h_).toNatClampNeg) (x := I 40 (nq - 1)) dX7_near_96 (fx40 hF) (tn_eq h5) (by omega) (by decide) ?_
              refine Z.aload_n dX7_near_97 rfl ?_
              refine Z.getR (r := 41) dX7_near_98 cl7 flX7_25 (by decide) (fx35 hF) rfl ?_
              refine Z.iload dX7_near_101 rfl ?_
              refine Z.aload_n dX7_near_103 rfl ?_
              refine Z.getR (r := 41) dX7_near_104 cl7 flX7_25 (by decide) (fx35 hF) rfl ?_
              refine Z.aload_n dX7_near_107 rfl ?_
              refine Z.getIv (v := nI (nq - 1)) dX7_near_108 cl7 flX7_91 (by decide) (fx35 hF) rfl ?_
              refine Z.ialdv (j := nq - 1) (v := I 41 (nq - 1)) dX7_near_111 (fx41 hF) rfl (by omega) (by decide) (hE.at 41 (nq - 1) rfl) ?_
              refine Z.iast (j := (prF (qM I nq) g_ h_).toNatClampNeg) (x := I 41 (nq - 1)) dX7_near_112 (fx41 hF) (tn_eq h5) (by omega) (by decide) ?_
              refine Z.aload_n dX7_near_113 rfl ?_
              refine Z.getR (r := 42) dX7_near_114 cl7 flX7_28 (by decide) (fx35 hF) rfl ?_
              refine Z.iload dX7_near_117 rfl ?_
              refine Z.aload_n dX7_near_119 rfl ?_
              refine Z.getR (r := 42) dX7_near_120 cl7 flX7_28 (by decide) (fx35 hF) rfl ?_
              refine Z.aload_n dX7_near_123 rfl ?_
              refine Z.getIv (v := nI (nq - 1)) dX7_near_124 cl7 flX7_91 (by decide) (fx35 hF) rfl ?_
              refine Z.ialdv (j := nq - 1) (v := I 42 (nq - 1)) dX7_near_127 (fx42 hF) rfl (by omega) (by decide) (hE.at 42 (nq - 1) rfl) ?_
              refine Z.iast (j := (prF (qM I nq) g_ h_).toNatClampNeg) (x := I 42 (nq - 1)) dX7_near_128 (fx42 hF) (tn_eq h5) (by omega) (by decide) ?_
              refine Z.iconst (v := 1) dX7_near_129 (by decide) ?_
              exact Z.zret dX7_near_130 rfl (by decide) ⟨by simp [neK, bI, h1, h2, h3, h4, h5, eq_true h7], by rw [if_pos (by simp [neK, h1, h2, h3, h4, h5, eq_true h7])]; rw [neN, if_neg h5, if_pos h7]; exact (Ex.upC (Ex.upC (Ex.upC (Ex.upC hE (by have h := hE 35 rfl; first | (rw [h]; done) | (show upd (I 35) _ _ = upd (J 35) _ _; rw [h]; done) | (show _ = upd (upd (J 35) _ _) _ _; rw [h]; done) | (show zf (I 35) _ _ = zf (J 35) _ _; rw [h]))) (by have h := hE 40 rfl; first | (rw [h]; done) | (show upd (I 40) _ _ = upd (J 40) _ _; rw [h]; done) | (show _ = upd (upd (J 40) _ _) _ _; rw [h]; done) | (show zf (I 40) _ _ = zf (J 40) _ _; rw [h]))) (by have h := hE 41 rfl; first | (rw [h]; done) | (show upd (I 41) _ _ = upd (J 41) _ _; rw [h]; done) | (show _ = upd (upd (J 41) _ _) _ _; rw [h]; done) | (show zf (I 41) _ _ = zf (J 41) _ _; rw [h]))) (by have h := hE 42 rfl; first | (rw [h]; done) | (show upd (I 42) _ _ = upd (J 42) _ _; rw [h]; done) | (show _ = upd (upd (J 42) _ _) _ _; rw [h]; done) | (show zf (I 42) _ _ = zf (J 42) _ _; rw [h]))), rfl⟩
          · refine Z.iload_n dX7_near_45 rfl ?_
            refine Z.if_ne (tgt := 51) dX7_near_46 (by decide) (fun h9 => ?_) (fun h9 => ?_)
            · refine Z.iload dX7_near_51 rfl ?_
              refine Z.if_ge (tgt := 67) dX7_near_53 (by decide) (fun h10 => absurd h5 h10) (fun h10 => ?_)
              refine Z.aload_n dX7_near_56 rfl ?_
              refine Z.getIv (v := nI nq) dX7_near_57 cl7 flX7_91 (by decide) (fx35 hF) ((hE.at 35 7 rfl).trans hq.1) ?_
              refine Z.bipush (v := 100) dX7_near_60 (by decide) ?_
              refine Z.icmp_neN (a := nq) (b := 100) (by omega) (by decide) (tgt := 67) dX7_near_62 (by decide) (fun h11 => ?_) (fun h11 => ?_)
              · refine Z.iload_n dX7_near_67 rfl ?_
                refine Z.if_ne (tgt := 131) dX7_near_68 (by decide) (fun h12 => ?_) (fun h12 => absurd h12 h9)
                refine Z.iload dX7_near_131 rfl ?_
                refine Z.if_ge (tgt := 186) dX7_near_133 (by decide) (fun h13 => absurd h5 h13) (fun h13 => ?_)
                refine Z.aload_n dX7_near_136 rfl ?_
                refine Z.getIv (v := nI nq) dX7_near_137 cl7 flX7_91 (by decide) (fx35 hF) ((hE.at 35 7 rfl).trans hq.1) ?_
                refine Z.istore (L' := [.ref 35, .int g_, .int h_, .int v, .int (nI nq)]) dX7_near_140 (Nat.le_of_ble_eq_true rfl) rfl ?_
                refine Z.aload_n dX7_near_142 rfl ?_
                refine Z.dupR dX7_near_143 ?_
                refine Z.getIv (v := nI nq) dX7_near_144 cl7 flX7_91 (by decide) (fx35 hF) ((hE.at 35 7 rfl).trans hq.1) ?_
                refine Z.iconst (v := 1) dX7_near_147 (by decide) ?_
                refine Z.iaddN (a := nq) (b := 1) dX7_near_148 ?_
                refine Z.putI (x := nI (nq + 1)) dX7_near_149 cl7 flX7_91 (by decide) ⟨rfl, rfl⟩ (fx35 hF) ?_
                refine Z.aload_n dX7_near_152 rfl ?_
                refine Z.getR (r := 40) dX7_near_153 cl7 flX7_22 (by decide) (fx35 hF) rfl ?_
                refine Z.iload dX7_near_156 rfl ?_
                refine Z.iload_n dX7_near_158 rfl ?_
                refine Z.iload_n dX7_near_159 rfl ?_
                refine Z.icmp_ge (tgt := 167) dX7_near_160 (by decide) (fun h14 => ?_) (fun h14 => ?_)
                · refine Z.iload_n dX7_near_167 rfl ?_
                  refine Z.iast (j := nq) (x := h_) dX7_near_168 (fx40 hF) rfl (by omega) (by decide) ?_
                  refine Z.aload_n dX7_near_169 rfl ?_
                  refine Z.getR (r := 41) dX7_near_170 cl7 flX7_25 (by decide) (fx35 hF) rfl ?_
                  refine Z.iload dX7_near_173 rfl ?_
                  refine Z.iload_n dX7_near_175 rfl ?_
                  refine Z.iload_n dX7_near_176 rfl ?_
                  refine Z.icmp_ge (tgt := 184) dX7_near_177 (by decide) (fun h15 => ?_) (fun h15 => absurd h15 h14)
                  refine Z.iload_n dX7_near_184 rfl ?_
                  refine Z.iast (j := nq) (x := g_) dX7_near_185 (fx41 hF) rfl (by omega) (by decide) ?_
                  refine Z.aload_n dX7_near_186 rfl ?_
                  refine Z.getR (r := 42) dX7_near_187 cl7 flX7_28 (by decide) (fx35 hF) rfl ?_
                  refine Z.iload dX7_near_190 rfl ?_
                  refine Z.iload_n dX7_near_192 rfl ?_
                  refine Z.iast (j := nq) (x := v) dX7_near_193 (fx42 hF) rfl (by omega) (by decide) ?_
                  refine Z.iconst (v := 1) dX7_near_194 (by decide) ?_
                  exact Z.zret dX7_near_195 rfl (by decide) ⟨by simp [neK, bI, h1, h2, h3, h4, h5, h9, h11, h14], by rw [if_pos (by simp [neK, h1, h2, h3, h4, h5, h9, h11, h14])]; rw [neN, if_pos h5, if_neg h9]; rw [lowF, highF]; simp only [h14, if_true, if_false]; exact (Ex.upC (Ex.upC (Ex.upC (Ex.upC hE (by have h := hE 35 rfl; first | (rw [h]; done) | (show upd (I 35) _ _ = upd (J 35) _ _; rw [h]; done) | (show _ = upd (upd (J 35) _ _) _ _; rw [h]; done) | (show zf (I 35) _ _ = zf (J 35) _ _; rw [h]))) (by have h := hE 40 rfl; first | (rw [h]; done) | (show upd (I 40) _ _ = upd (J 40) _ _; rw [h]; done) | (show _ = upd (upd (J 40) _ _) _ _; rw [h]; done) | (show zf (I 40) _ _ = zf (J 40) _ _; rw [h]))) (by have h := hE 41 rfl; first | (rw [h]; done) | (show upd (I 41) _ _ = upd (J 41) _ _; rw [h]; done) | (show _ = upd (upd (J 41) _ _) _ _; rw [h]; done) | (show zf (I 41) _ _ = zf (J 41) _ _; rw [h]))) (by have h := hE 42 rfl; first | (rw [h]; done) | (show upd (I 42) _ _ = upd (J 42) _ _; rw [h]; done) | (show _ = upd (upd (J 42) _ _) _ _; rw [h]; done) | (show zf (I 42) _ _ = zf (J 42) _ _; rw [h]))), rfl⟩
                · refine Z.iload_n dX7_near_163 rfl ?_
                  refine Z.goto (tgt := 168) dX7_near_164 (by decide) ?_
                  refine Z.iast (j := nq) (x := g_) dX7_near_168 (fx40 hF) rfl (by omega) (by decide) ?_
                  refine Z.aload_n dX7_near_169 rfl ?_
                  refine Z.getR (r := 41) dX7_near_170 cl7 flX7_25 (by decide) (fx35 hF) rfl ?_
                  refine Z.iload dX7_near_173 rfl ?_
                  refine Z.iload_n dX7_near_175 rfl ?_
                  refine Z.iload_n dX7_near_176 rfl ?_
                  refine Z.icmp_ge (tgt := 184) dX7_near_177 (by decide) (fun h16 => absurd h14 h16) (fun h16 => ?_)
                  refine Z.iload_n dX7_near_180 rfl ?_
                  refine Z.goto (tgt := 185) dX7_near_181 (by decide) ?_
                  refine Z.iast (j := nq) (x := h_) dX7_near_185 (fx41 hF) rfl (by omega) (by decide) ?_
                  refine Z.aload_n dX7_near_186 rfl ?_
                  refine Z.getR (r := 42) dX7_near_187 cl7 flX7_28 (by decide) (fx35 hF) rfl ?_
                  refine Z.iload dX7_near_190 rfl ?_
                  refine Z.iload_n dX7_near_192 rfl ?_
                  refine Z.iast (j := nq) (x := v) dX7_near_193 (fx42 hF) rfl (by omega) (by decide) ?_
                  refine Z.iconst (v := 1) dX7_near_194 (by decide) ?_
                  exact Z.zret dX7_near_195 rfl (by decide) ⟨by simp [neK, bI, h1, h2, h3, h4, h5, h9, h11, h14], by rw [if_pos (by simp [neK, h1, h2, h3, h4, h5, h9, h11, h14])]; rw [neN, if_pos h5, if_neg h9]; rw [lowF, highF]; simp only [h14, if_true, if_false]; exact (Ex.upC (Ex.upC (Ex.upC (Ex.upC hE (by have h := hE 35 rfl; first | (rw [h]; done) | (show upd (I 35) _ _ = upd (J 35) _ _; rw [h]; done) | (show _ = upd (upd (J 35) _ _) _ _; rw [h]; done) | (show zf (I 35) _ _ = zf (J 35) _ _; rw [h]))) (by have h := hE 40 rfl; first | (rw [h]; done) | (show upd (I 40) _ _ = upd (J 40) _ _; rw [h]; done) | (show _ = upd (upd (J 40) _ _) _ _; rw [h]; done) | (show zf (I 40) _ _ = zf (J 40) _ _; rw [h]))) (by have h := hE 41 rfl; first | (rw [h]; done) | (show upd (I 41) _ _ = upd (J 41) _ _; rw [h]; done) | (show _ = upd (upd (J 41) _ _) _ _; rw [h]; done) | (show zf (I 41) _ _ = zf (J 41) _ _; rw [h]))) (by have h := hE 42 rfl; first | (rw [h]; done) | (show upd (I 42) _ _ = upd (J 42) _ _; rw [h]; done) | (show _ = upd (upd (J 42) _ _) _ _; rw [h]; done) | (show zf (I 42) _ _ = zf (J 42) _ _; rw [h]))), rfl⟩
              · refine Z.iconst (v := 0) dX7_near_65 (by decide) ?_
                exact Z.zret dX7_near_66 rfl (by decide) ⟨by simp [neK, bI, h1, h2, h3, h4, h5, h9, eq_true h11], by rw [if_neg (by simp [neK, h1, h2, h3, h4, h5, h9, eq_true h11])]; exact hE, rfl⟩
            · refine Z.iconst (v := 1) dX7_near_49 (by decide) ?_
              exact Z.zret dX7_near_50 rfl (by decide) ⟨by simp [neK, bI, h1, h2, h3, h4, h5, eq_true h9], by rw [if_pos (by simp [neK, h1, h2, h3, h4, h5, eq_true h9])]; rw [neN, if_pos h5, if_pos h9]; exact hE, rfl⟩
        · refine Z.iconst (v := 0) dX7_near_30 (by decide) ?_
          exact Z.zret dX7_near_31 rfl (by decide) ⟨by simp [neK, bI, h1, h2, h3, h4], by rw [if_neg (by simp [neK, h1, h2, h3, h4])]; exact hE, rfl⟩

def pkB (I : IM) (n : Nat) (k m x t : Int32) : Bool := !decide (n = 400) && (inB k 0 8 && (inB m 0 (I 35 10 - 1) && (isXF k x && (inB t 0 60000 && (!(decide (0 < n) && decide (t < I 52 (n - 1))) && cbF I n k m.toNatClampNeg x t)))))
def ppN (I : IM) (n : Nat) (k m x t : Int32) : IM := va_up (va_up (va_up (va_up (va_up I 49 (upd (I 49) n k)) 50 (upd (I 50) n m)) 51 (upd (I 51) n x)) 52 (upd (I 52) n t)) 35 (upd (I 35) 17 (nI (n + 1)))
set_option maxHeartbeats 4000000 in
set_option maxRecDepth 100000 in
theorem cp_paper {g : GP} {I J : IM} {S : SH} (hE : Ex I J) (k m x t : Int32) (hF : Fx S) {n : Nat} (hn : Mp I n) {nq : Nat} (hq : Mq I nq) (hM : MIv I) {mm : Nat} (hm : Mm I mm) : Z g 4 0 0 mX7_paper 0 (enL mX7_paper [.ref 35, .int k, .int m, .int x, .int t]) [] J S (NQ (.int (if pkB I n k m x t = true then nI n else -1)) (if pkB I n k m x t = true then ppN I n k m x t else I) S) := by
  show Z g 4 0 0 mX7_paper 0 [.ref 35, .int k, .int m, .int x, .int t] [] J S _
  have hn2 := hn.2
  have hq2 := hq.2
  have hm2 := hm.2
  refine Z.aload_n dX7_paper_0 rfl ?_
  refine Z.getIv (v := nI n) dX7_paper_1 cl7 flX7_105 (by decide) (fx35 hF) ((hE.at 35 17 rfl).trans hn.1) ?_
  refine Z.sipush (v := 400) dX7_paper_4 (by decide) ?_
  refine Z.icmp_eqN (a := n) (b := 400) (by omega) (by decide) (tgt := 79) dX7_paper_7 (by decide) (fun h1 => ?_) (fun h1 => ?_)
  · refine Z.iconst (v := (-1)) dX7_paper_79 (by decide) ?_
    exact Z.iret dX7_paper_80 rfl ⟨by simp [pkB, eq_true h1], by rw [if_neg (by simp [pkB, eq_true h1])]; exact hE, rfl⟩
  · refine Z.iload_n dX7_paper_10 rfl ?_
    refine Z.iconst (v := 0) dX7_paper_11 (by decide) ?_
    refine Z.bipush (v := 8) dX7_paper_12 (by decide) ?_
    refine Z.callSp (M := mX7_paper) (pc := 14) (st := []) (N := mX7_in) (n := 3) (r := .int (bI (inB k 0 8))) dX7_paper_14 mlX7_86 mkX7_in stX7_in (d1 := 0) (by decide) (As := [.int k, .int 0, .int 8]) rfl ⟨rfl, Nat.le_of_ble_eq_true rfl⟩ ⟨rfl, Nat.le_of_ble_eq_true rfl⟩ (ct_in hE k 0 8) rfl ?_
    refine Z.if_eqB (tgt := 79) dX7_paper_17 (by decide) (fun h2 => ?_) (fun h2 => ?_)
    · refine Z.iconst (v := (-1)) dX7_paper_79 (by decide) ?_
      exact Z.iret dX7_paper_80 rfl ⟨by simp [pkB, h1, h2], by rw [if_neg (by simp [pkB, h1, h2])]; exact hE, rfl⟩
    · refine Z.aload_n dX7_paper_20 rfl ?_
      refine Z.iload_n dX7_paper_21 rfl ?_
      refine Z.callVp (M := mX7_paper) (pc := 22) (st := []) (N := mX7_isMark) (n := 1) (r := .int (bI (inB m 0 (I 35 10 - 1)))) dX7_paper_22 mlX7_108 mkX7_isMark imX7_isMark seX7_isMark (fx35 hF) cl7 rfl (d1 := 1) (by decide) (As := [.int m]) rfl ⟨rfl, Nat.le_of_ble_eq_true rfl⟩ ⟨rfl, Nat.le_of_ble_eq_true rfl⟩ (ct_isMark hE m hF) rfl ?_
      refine Z.if_eqB (tgt := 79) dX7_paper_25 (by decide) (fun h3 => ?_) (fun h3 => ?_)
      · refine Z.iconst (v := (-1)) dX7_paper_79 (by decide) ?_
        exact Z.iret dX7_paper_80 rfl ⟨by simp [pkB, h1, h2, h3], by rw [if_neg (by simp [pkB, h1, h2, h3])]; exact hE, rfl⟩
      · refine Z.iload_n dX7_paper_28 rfl ?_
        refine Z.iload_n dX7_paper_29 rfl ?_
        refine Z.callSp (M := mX7_paper) (pc := 30) (st := []) (N := mX7_isX) (n := 2) (r := .int (bI (isXF k x))) dX7_paper_30 mlX7_197 mkX7_isX stX7_isX (d1 := 2) (by decide) (As := [.int k, .int x]) rfl ⟨rfl, Nat.le_of_ble_eq_true rfl⟩ ⟨rfl, Nat.le_of_ble_eq_true rfl⟩ (ct_isX hE k x ) rfl ?_
        refine Z.if_eqB (tgt := 79) dX7_paper_33 (by decide) (fun h4 => ?_) (fun h4 => ?_)
        · refine Z.iconst (v := (-1)) dX7_paper_79 (by decide) ?_
          exact Z.iret dX7_paper_80 rfl ⟨by simp [pkB, h1, h2, h3, h4], by rw [if_neg (by simp [pkB, h1, h2, h3, h4])]; exact hE, rfl⟩
        · refine Z.iload dX7_paper_36 rfl ?_
          refine Z.callSp (M := mX7_paper) (pc := 38) (st := []) (N := mX7_isDay) (n := 1) (r := .int (bI (inB t 0 60000))) dX7_paper_38 mlX7_200 mkX7_isDay stX7_isDay (d1 := 1) (by decide) (As := [.int t]) rfl ⟨rfl, Nat.le_of_ble_eq_true rfl⟩ ⟨rfl, Nat.le_of_ble_eq_true rfl⟩ (ct_isDay hE t) rfl ?_
          refine Z.if_eqB (tgt := 79) dX7_paper_41 (by decide) (fun h5 => ?_) (fun h5 => ?_)
          · refine Z.iconst (v := (-1)) dX7_paper_79 (by decide) ?_
            exact Z.iret dX7_paper_80 rfl ⟨by simp [pkB, h1, h2, h3, h4, h5], by rw [if_neg (by simp [pkB, h1, h2, h3, h4, h5])]; exact hE, rfl⟩
          · refine Z.aload_n dX7_paper_44 rfl ?_
            refine Z.getIv (v := nI n) dX7_paper_45 cl7 flX7_105 (by decide) (fx35 hF) ((hE.at 35 17 rfl).trans hn.1) ?_
            refine Z.if_leN (a := n) (by omega) (tgt := 67) dX7_paper_48 (by decide) (fun h6 => ?_) (fun h6 => ?_)
            · have e_m := (mk_rg hm.1 hm.2 h3).1
              have l_m := (mk_rg hm.1 hm.2 h3).2
              refine Z.eqLs (L' := [.ref 35, .int k, .int (nI (m.toNatClampNeg)), .int x, .int t]) (st' := []) (by rw [← e_m]) (by first | rfl | rw [← e_m]) ?_
              refine Z.aload_n dX7_paper_67 rfl ?_
              refine Z.iload_n dX7_paper_68 rfl ?_
              refine Z.iload_n dX7_paper_69 rfl ?_
              refine Z.iload_n dX7_paper_70 rfl ?_
              refine Z.iload dX7_paper_71 rfl ?_
              refine Z.callVg (M := mX7_paper) (pc := 73) (st := []) (N := mX7_canBe) (n := 4) dX7_paper_73 mlX7_203 mkX7_canBe imX7_canBe seX7_canBe (fx35 hF) cl7 rfl (d1 := 3) (by decide) (As := [.int k, .int (nI (m.toNatClampNeg)), .int x, .int t]) rfl ⟨rfl, Nat.le_of_ble_eq_true rfl⟩ ⟨rfl, Nat.le_of_ble_eq_true rfl⟩ (ct_canBe hE k m.toNatClampNeg x t hF hn hM (by omega)) rfl (fun v_ J1 S_ h_ => ?_)
              obtain ⟨rfl, hE, rfl⟩ := h_
              refine Z.if_neB (tgt := 81) dX7_paper_76 (by decide) (fun h7 => ?_) (fun h7 => ?_)
              · refine Z.eqLs (L' := [.ref 35, .int k, .int m, .int x, .int t]) (st' := []) (by rw [← e_m]) (by first | rfl | rw [← e_m]) ?_
                refine Z.aload_n dX7_paper_81 rfl ?_
                refine Z.getR (r := 49) dX7_paper_82 cl7 flX7_49 (by decide) (fx35 hF) rfl ?_
                refine Z.aload_n dX7_paper_85 rfl ?_
                refine Z.getIv (v := nI n) dX7_paper_86 cl7 flX7_105 (by decide) (fx35 hF) ((hE.at 35 17 rfl).trans hn.1) ?_
                refine Z.iload_n dX7_paper_89 rfl ?_
                refine Z.iast (j := n) (x := k) dX7_paper_90 (fx49 hF) rfl (by omega) (by decide) ?_
                refine Z.aload_n dX7_paper_91 rfl ?_
                refine Z.getR (r := 50) dX7_paper_92 cl7 flX7_52 (by decide) (fx35 hF) rfl ?_
                refine Z.aload_n dX7_paper_95 rfl ?_
                refine Z.getIv (v := nI n) dX7_paper_96 cl7 flX7_105 (by decide) (fx35 hF) ((hE.at 35 17 rfl).trans hn.1) ?_
                refine Z.iload_n dX7_paper_99 rfl ?_
                refine Z.iast (j := n) (x := m) dX7_paper_100 (fx50 hF) rfl (by omega) (by decide) ?_
                refine Z.aload_n dX7_paper_101 rfl ?_
                refine Z.getR (r := 51) dX7_paper_102 cl7 flX7_55 (by decide) (fx35 hF) rfl ?_
                refine Z.aload_n dX7_paper_105 rfl ?_
                refine Z.getIv (v := nI n) dX7_paper_106 cl7 flX7_105 (by decide) (fx35 hF) ((hE.at 35 17 rfl).trans hn.1) ?_
                refine Z.iload_n dX7_paper_109 rfl ?_
                refine Z.iast (j := n) (x := x) dX7_paper_110 (fx51 hF) rfl (by omega) (by decide) ?_
                refine Z.aload_n dX7_paper_111 rfl ?_
                refine Z.getR (r := 52) dX7_paper_112 cl7 flX7_58 (by decide) (fx35 hF) rfl ?_
                refine Z.aload_n dX7_paper_115 rfl ?_
                refine Z.getIv (v := nI n) dX7_paper_116 cl7 flX7_105 (by decide) (fx35 hF) ((hE.at 35 17 rfl).trans hn.1) ?_
                refine Z.iload dX7_paper_119 rfl ?_
                refine Z.iast (j := n) (x := t) dX7_paper_121 (fx52 hF) rfl (by omega) (by decide) ?_
                refine Z.aload_n dX7_paper_122 rfl ?_
                refine Z.dupR dX7_paper_123 ?_
                refine Z.getIv (v := nI n) dX7_paper_124 cl7 flX7_105 (by decide) (fx35 hF) ((hE.at 35 17 rfl).trans hn.1) ?_
                refine Z.iconst (v := 1) dX7_paper_127 (by decide) ?_
                refine Z.iaddN (a := n) (b := 1) dX7_paper_128 ?_
                refine Z.putI (x := nI (n + 1)) dX7_paper_129 cl7 flX7_105 (by decide) ⟨rfl, rfl⟩ (fx35 hF) ?_
                refine Z.aload_n dX7_paper_132 rfl ?_
                refine Z.getIv (v := nI (n + 1)) dX7_paper_133 cl7 flX7_105 (by decide) (fx35 hF) rfl ?_
                refine Z.iconst (v := 1) dX7_paper_136 (by decide) ?_
                refine Z.isubN (a := n + 1) (b := 1) (by omega) dX7_paper_137 ?_
                exact Z.iret dX7_paper_138 rfl ⟨by rw [if_pos (by simp [pkB, h1, h2, h3, h4, h5, eq_true h6, h7])]; rfl, by rw [if_pos (by simp [pkB, h1, h2, h3, h4, h5, eq_true h6, h7])]; rw [ppN]; exact (Ex.upC (Ex.upC (Ex.upC (Ex.upC (Ex.upC hE (by have h := hE 49 rfl; first | (rw [h]; done) | (show upd (I 49) _ _ = upd (J1 49) _ _; rw [h]; done) | (show _ = upd (upd (J1 49) _ _) _ _; rw [h]; done) | (show zf (I 49) _ _ = zf (J 49) _ _; rw [h]))) (by have h := hE 50 rfl; first | (rw [h]; done) | (show upd (I 50) _ _ = upd (J1 50) _ _; rw [h]; done) | (show _ = upd (upd (J1 50) _ _) _ _; rw [h]; done) | (show zf (I 50) _ _ = zf (J 50) _ _; rw [h]))) (by have h := hE 51 rfl; first | (rw [h]; done) | (show upd (I 51) _ _ = upd (J1 51) _ _; rw [h]; done) | (show _ = upd (upd (J1 51) _ _) _ _; rw [h]; done) | (show zf (I 51) _ _ = zf (J 51) _ _; rw [h]))) (by have h := hE 52 rfl; first | (rw [h]; done) | (show upd (I 52) _ _ = upd (J1 52) _ _; rw [h]; done) | (show _ = upd (upd (J1 52) _ _) _ _; rw [h]; done) | (show zf (I 52) _ _ = zf (J 52) _ _; rw [h]))) (by have h := hE 35 rfl; first | (rw [h]; done) | (show upd (I 35) _ _ = upd (J1 35) _ _; rw [h]; done) | (show _ = upd (upd (J1 35) _ _) _ _; rw [h]; done) | (show zf (I 35) _ _ = zf (J 35) _ _; rw [h]))), rfl⟩
              · refine Z.iconst (v := (-1)) dX7_paper_79 (by decide) ?_
                exact Z.iret dX7_paper_80 rfl ⟨by simp [pkB, h1, h2, h3, h4, h5, eq_true h6, h7], by rw [if_neg (by simp [pkB, h1, h2, h3, h4, h5, eq_true h6, h7])]; exact hE, rfl⟩
            · refine Z.iload dX7_paper_51 rfl ?_
              refine Z.aload_n dX7_paper_53 rfl ?_
              refine Z.getR (r := 52) dX7_paper_54 cl7 flX7_58 (by decide) (fx35 hF) rfl ?_
              refine Z.aload_n dX7_paper_57 rfl ?_
              refine Z.getIv (v := nI n) dX7_paper_58 cl7 flX7_105 (by decide) (fx35 hF) ((hE.at 35 17 rfl).trans hn.1) ?_
              refine Z.iconst (v := 1) dX7_paper_61 (by decide) ?_
              refine Z.isubN (a := n) (b := 1) (by omega) dX7_paper_62 ?_
              refine Z.ialdv (j := n - 1) (v := I 52 (n - 1)) dX7_paper_63 (fx52 hF) rfl (by omega) (by decide) (hE.at 52 (n - 1) rfl) ?_
              refine Z.icmp_lt (tgt := 79) dX7_paper_64 (by decide) (fun h8 => ?_) (fun h8 => ?_)
              · refine Z.iconst (v := (-1)) dX7_paper_79 (by decide) ?_
                exact Z.iret dX7_paper_80 rfl ⟨by simp [pkB, h1, h2, h3, h4, h5, h6, h8, Nat.ne_of_gt h6], by rw [if_neg (by simp [pkB, h1, h2, h3, h4, h5, h6, h8, Nat.ne_of_gt h6])]; exact hE, rfl⟩
              · have e_m := (mk_rg hm.1 hm.2 h3).1
                have l_m := (mk_rg hm.1 hm.2 h3).2
                refine Z.eqLs (L' := [.ref 35, .int k, .int (nI (m.toNatClampNeg)), .int x, .int t]) (st' := []) (by rw [← e_m]) (by first | rfl | rw [← e_m]) ?_
                refine Z.aload_n dX7_paper_67 rfl ?_
                refine Z.iload_n dX7_paper_68 rfl ?_
                refine Z.iload_n dX7_paper_69 rfl ?_
                refine Z.iload_n dX7_paper_70 rfl ?_
                refine Z.iload dX7_paper_71 rfl ?_
                refine Z.callVg (M := mX7_paper) (pc := 73) (st := []) (N := mX7_canBe) (n := 4) dX7_paper_73 mlX7_203 mkX7_canBe imX7_canBe seX7_canBe (fx35 hF) cl7 rfl (d1 := 3) (by decide) (As := [.int k, .int (nI (m.toNatClampNeg)), .int x, .int t]) rfl ⟨rfl, Nat.le_of_ble_eq_true rfl⟩ ⟨rfl, Nat.le_of_ble_eq_true rfl⟩ (ct_canBe hE k m.toNatClampNeg x t hF hn hM (by omega)) rfl (fun v_ J2 S_ h_ => ?_)
                obtain ⟨rfl, hE, rfl⟩ := h_
                refine Z.if_neB (tgt := 81) dX7_paper_76 (by decide) (fun h9 => ?_) (fun h9 => ?_)
                · refine Z.eqLs (L' := [.ref 35, .int k, .int m, .int x, .int t]) (st' := []) (by rw [← e_m]) (by first | rfl | rw [← e_m]) ?_
                  refine Z.aload_n dX7_paper_81 rfl ?_
                  refine Z.getR (r := 49) dX7_paper_82 cl7 flX7_49 (by decide) (fx35 hF) rfl ?_
                  refine Z.aload_n dX7_paper_85 rfl ?_
                  refine Z.getIv (v := nI n) dX7_paper_86 cl7 flX7_105 (by decide) (fx35 hF) ((hE.at 35 17 rfl).trans hn.1) ?_
                  refine Z.iload_n dX7_paper_89 rfl ?_
                  refine Z.iast (j := n) (x := k) dX7_paper_90 (fx49 hF) rfl (by omega) (by decide) ?_
                  refine Z.aload_n dX7_paper_91 rfl ?_
                  refine Z.getR (r := 50) dX7_paper_92 cl7 flX7_52 (by decide) (fx35 hF) rfl ?_
                  refine Z.aload_n dX7_paper_95 rfl ?_
                  refine Z.getIv (v := nI n) dX7_paper_96 cl7 flX7_105 (by decide) (fx35 hF) ((hE.at 35 17 rfl).trans hn.1) ?_
                  refine Z.iload_n dX7_paper_99 rfl ?_
                  refine Z.iast (j := n) (x := m) dX7_paper_100 (fx50 hF) rfl (by omega) (by decide) ?_
                  refine Z.aload_n dX7_paper_101 rfl ?_
                  refine Z.getR (r := 51) dX7_paper_102 cl7 flX7_55 (by decide) (fx35 hF) rfl ?_
                  refine Z.aload_n dX7_paper_105 rfl ?_
                  refine Z.getIv (v := nI n) dX7_paper_106 cl7 flX7_105 (by decide) (fx35 hF) ((hE.at 35 17 rfl).trans hn.1) ?_
                  refine Z.iload_n dX7_paper_109 rfl ?_
                  refine Z.iast (j := n) (x := x) dX7_paper_110 (fx51 hF) rfl (by omega) (by decide) ?_
                  refine Z.aload_n dX7_paper_111 rfl ?_
                  refine Z.getR (r := 52) dX7_paper_112 cl7 flX7_58 (by decide) (fx35 hF) rfl ?_
                  refine Z.aload_n dX7_paper_115 rfl ?_
                  refine Z.getIv (v := nI n) dX7_paper_116 cl7 flX7_105 (by decide) (fx35 hF) ((hE.at 35 17 rfl).trans hn.1) ?_
                  refine Z.iload dX7_paper_119 rfl ?_
                  refine Z.iast (j := n) (x := t) dX7_paper_121 (fx52 hF) rfl (by omega) (by decide) ?_
                  refine Z.aload_n dX7_paper_122 rfl ?_
                  refine Z.dupR dX7_paper_123 ?_
                  refine Z.getIv (v := nI n) dX7_paper_124 cl7 flX7_105 (by decide) (fx35 hF) ((hE.at 35 17 rfl).trans hn.1) ?_
                  refine Z.iconst (v := 1) dX7_paper_127 (by decide) ?_
                  refine Z.iaddN (a := n) (b := 1) dX7_paper_128 ?_
                  refine Z.putI (x := nI (n + 1)) dX7_paper_129 cl7 flX7_105 (by decide) ⟨rfl, rfl⟩ (fx35 hF) ?_
                  refine Z.aload_n dX7_paper_132 rfl ?_
                  refine Z.getIv (v := nI (n + 1)) dX7_paper_133 cl7 flX7_105 (by decide) (fx35 hF) rfl ?_
                  refine Z.iconst (v := 1) dX7_paper_136 (by decide) ?_
                  refine Z.isubN (a := n + 1) (b := 1) (by omega) dX7_paper_137 ?_
                  exact Z.iret dX7_paper_138 rfl ⟨by rw [if_pos (by simp [pkB, h1, h2, h3, h4, h5, h6, h8, h9, Nat.ne_of_gt h6])]; rfl, by rw [if_pos (by simp [pkB, h1, h2, h3, h4, h5, h6, h8, h9, Nat.ne_of_gt h6])]; rw [ppN]; exact (Ex.upC (Ex.upC (Ex.upC (Ex.upC (Ex.upC hE (by have h := hE 49 rfl; first | (rw [h]; done) | (show upd (I 49) _ _ = upd (J2 49) _ _; rw [h]; done) | (show _ = upd (upd (J2 49) _ _) _ _; rw [h]; done) | (show zf (I 49) _ _ = zf (J 49) _ _; rw [h]))) (by have h := hE 50 rfl; first | (rw [h]; done) | (show upd (I 50) _ _ = upd (J2 50) _ _; rw [h]; done) | (show _ = upd (upd (J2 50) _ _) _ _; rw [h]; done) | (show zf (I 50) _ _ = zf (J 50) _ _; rw [h]))) (by have h := hE 51 rfl; first | (rw [h]; done) | (show upd (I 51) _ _ = upd (J2 51) _ _; rw [h]; done) | (show _ = upd (upd (J2 51) _ _) _ _; rw [h]; done) | (show zf (I 51) _ _ = zf (J 51) _ _; rw [h]))) (by have h := hE 52 rfl; first | (rw [h]; done) | (show upd (I 52) _ _ = upd (J2 52) _ _; rw [h]; done) | (show _ = upd (upd (J2 52) _ _) _ _; rw [h]; done) | (show zf (I 52) _ _ = zf (J 52) _ _; rw [h]))) (by have h := hE 35 rfl; first | (rw [h]; done) | (show upd (I 35) _ _ = upd (J2 35) _ _; rw [h]; done) | (show _ = upd (upd (J2 35) _ _) _ _; rw [h]; done) | (show zf (I 35) _ _ = zf (J 35) _ _; rw [h]))), rfl⟩
                · refine Z.iconst (v := (-1)) dX7_paper_79 (by decide) ?_
                  exact Z.iret dX7_paper_80 rfl ⟨by simp [pkB, h1, h2, h3, h4, h5, h6, h8, h9, Nat.ne_of_gt h6], by rw [if_neg (by simp [pkB, h1, h2, h3, h4, h5, h6, h8, h9, Nat.ne_of_gt h6])]; exact hE, rfl⟩

def opB (I : IM) (n nq : Nat) (m by_ t : Int32) : Bool := anU (fun c => !decide (coF I n nq by_.toNatClampNeg m.toNatClampNeg (nI c) t < 0)) 16 && (!decide (firF (pM I n) m t < 0) && !decide (90 < t - firF (pM I n) m t))
def opK (I : IM) (n nq : Nat) (m by_ t : Int32) : Bool := inB m 0 (I 35 10 - 1) && (inB by_ 0 (I 35 10 - 1) && (inB t 0 60000 && opB I n nq m by_ t))
set_option maxHeartbeats 4000000 in
set_option maxRecDepth 100000 in
theorem lp_oppose {g : GP} {I : IM} {S : SH} (m by_ t f_ : Int32) {Q : ZQ} (hF : Fx S) {n : Nat} (hn : Mp I n) {nq : Nat} (hq : Mq I nq) (hM : MIv I) {mm : Nat} (hm : Mm I mm) (hmm : m.toNatClampNeg < 120) (hbb : by_.toNatClampNeg < 120) (hk : ∀ J, Ex I J → Z g 8 0 0 mX7_oppose 76 [.ref 35, .int (nI (m.toNatClampNeg)), .int (nI (by_.toNatClampNeg)), .int t, .int f_, .int (bI (anU (fun c => !decide (coF I n nq by_.toNatClampNeg m.toNatClampNeg (nI c) t < 0)) 16)), .retAddr 0] [] J S Q) : ∀ c, c ≤ 16 → ∀ J, Ex I J → Z g 8 0 0 mX7_oppose 39 [.ref 35, .int (nI (m.toNatClampNeg)), .int (nI (by_.toNatClampNeg)), .int t, .int f_, .int (bI (anU (fun c => !decide (coF I n nq by_.toNatClampNeg m.toNatClampNeg (nI c) t < 0)) c)), .int (nI c)] [] J S Q := by
  have hn2 := hn.2
  have hq2 := hq.2
  have hm2 := hm.2
  refine upZ 16 (fun c hi ih J hE => ?_)
  refine Z.iload dX7_oppose_39 rfl ?_
  refine Z.bipush (v := 16) dX7_oppose_41 (by decide) ?_
  refine Z.icmp_geN (a := c) (b := 16) (by omega) (by decide) (tgt := 76) dX7_oppose_43 (by decide) (fun h1 => ?_) (fun h1 => ?_)
  · refine Z.drop (i := 6) (L' := [.ref 35, .int (nI (m.toNatClampNeg)), .int (nI (by_.toNatClampNeg)), .int t, .int f_, .int (bI (anU (fun c => !decide (coF I n nq by_.toNatClampNeg m.toNatClampNeg (nI c) t < 0)) c)), .retAddr 0]) rfl ?_
    rw [show c = 16 by omega]
    exact hk _ hE
  · refine Z.iload dX7_oppose_46 rfl ?_
    refine Z.if_neB (tgt := 63) dX7_oppose_48 (by decide) (fun h2 => ?_) (fun h2 => ?_)
    · refine Z.iconst (v := 1) dX7_oppose_63 (by decide) ?_
      refine Z.goto (tgt := 68) dX7_oppose_64 (by decide) ?_
      refine Z.istore (L' := [.ref 35, .int (nI (m.toNatClampNeg)), .int (nI (by_.toNatClampNeg)), .int t, .int f_, .int 1, .int (nI c)]) dX7_oppose_68 (Nat.le_of_ble_eq_true rfl) rfl ?_
      refine Z.iinc (v := nI (c + 1)) (L' := [.ref 35, .int (nI (m.toNatClampNeg)), .int (nI (by_.toNatClampNeg)), .int t, .int f_, .int 1, .int (nI (c + 1))]) dX7_oppose_70 rfl (nI_1 _) rfl ?_
      refine Z.goto (tgt := 39) dX7_oppose_73 (by decide) ?_
      have e := ih (by omega) _ hE
      rw [show bI (anU (fun c => !decide (coF I n nq by_.toNatClampNeg m.toNatClampNeg (nI c) t < 0)) (c + 1)) = 1 by simp [anU, bI, h1, h2]] at e
      exact e
    · refine Z.aload_n dX7_oppose_51 rfl ?_
      refine Z.iload_n dX7_oppose_52 rfl ?_
      refine Z.iload_n dX7_oppose_53 rfl ?_
      refine Z.iload dX7_oppose_54 rfl ?_
      refine Z.iload_n dX7_oppose_56 rfl ?_
      refine Z.callVg (M := mX7_oppose) (pc := 57) (st := []) (N := mX7_clashOf) (n := 4) dX7_oppose_57 mlX7_206 mkX7_clashOf imX7_clashOf seX7_clashOf (fx35 hF) cl7 rfl (d1 := 7) (by decide) (As := [.int (nI (by_.toNatClampNeg)), .int (nI (m.toNatClampNeg)), .int (nI c), .int t]) rfl ⟨rfl, Nat.le_of_ble_eq_true rfl⟩ ⟨rfl, Nat.le_of_ble_eq_true rfl⟩ (ct_clashOf hE by_.toNatClampNeg m.toNatClampNeg (nI c) t hF hn hq hM (by omega) (by omega)) rfl (fun v_ J1 S_ h_ => ?_)
      obtain ⟨rfl, hE, rfl⟩ := h_
      refine Z.if_lt (tgt := 67) dX7_oppose_60 (by decide) (fun h3 => ?_) (fun h3 => ?_)
      · refine Z.iconst (v := 0) dX7_oppose_67 (by decide) ?_
        refine Z.istore (L' := [.ref 35, .int (nI (m.toNatClampNeg)), .int (nI (by_.toNatClampNeg)), .int t, .int f_, .int 0, .int (nI c)]) dX7_oppose_68 (Nat.le_of_ble_eq_true rfl) rfl ?_
        refine Z.iinc (v := nI (c + 1)) (L' := [.ref 35, .int (nI (m.toNatClampNeg)), .int (nI (by_.toNatClampNeg)), .int t, .int f_, .int 0, .int (nI (c + 1))]) dX7_oppose_70 rfl (nI_1 _) rfl ?_
        refine Z.goto (tgt := 39) dX7_oppose_73 (by decide) ?_
        have e := ih (by omega) _ hE
        rw [show bI (anU (fun c => !decide (coF I n nq by_.toNatClampNeg m.toNatClampNeg (nI c) t < 0)) (c + 1)) = 0 by simp [anU, bI, h1, h2, h3]] at e
        exact e
      · refine Z.iconst (v := 1) dX7_oppose_63 (by decide) ?_
        refine Z.goto (tgt := 68) dX7_oppose_64 (by decide) ?_
        refine Z.istore (L' := [.ref 35, .int (nI (m.toNatClampNeg)), .int (nI (by_.toNatClampNeg)), .int t, .int f_, .int 1, .int (nI c)]) dX7_oppose_68 (Nat.le_of_ble_eq_true rfl) rfl ?_
        refine Z.iinc (v := nI (c + 1)) (L' := [.ref 35, .int (nI (m.toNatClampNeg)), .int (nI (by_.toNatClampNeg)), .int t, .int f_, .int 1, .int (nI (c + 1))]) dX7_oppose_70 rfl (nI_1 _) rfl ?_
        refine Z.goto (tgt := 39) dX7_oppose_73 (by decide) ?_
        have e := ih (by omega) _ hE
        rw [show bI (anU (fun c => !decide (coF I n nq by_.toNatClampNeg m.toNatClampNeg (nI c) t < 0)) (c + 1)) = 1 by simp [anU, bI, h1, h2, h3]] at e
        exact e

set_option maxHeartbeats 4000000 in
set_option maxRecDepth 100000 in
theorem cp_oppose {g : GP} {I J : IM} {S : SH} (hE : Ex I J) (m by_ t : Int32) (hF : Fx S) {n : Nat} (hn : Mp I n) {nq : Nat} (hq : Mq I nq) (hM : MIv I) {mm : Nat} (hm : Mm I mm) : Z g 8 0 0 mX7_oppose 0 (enL mX7_oppose [.ref 35, .int m, .int by_, .int t]) [] J S (NQ (.int (if opK I n nq m by_ t = true then (if pkB I n 4 m 0 t = true then nI n else -1) else -1)) (if opK I n nq m by_ t = true then (if pkB I n 4 m 0 t = true then ppN I n 4 m 0 t else I) else I) S) := by
  show Z g 8 0 0 mX7_oppose 0 [.ref 35, .int m, .int by_, .int t, .retAddr 0, .retAddr 0, .retAddr 0] [] J S _
  have hn2 := hn.2
  have hq2 := hq.2
  have hm2 := hm.2
  refine Z.aload_n dX7_oppose_0 rfl ?_
  refine Z.iload_n dX7_oppose_1 rfl ?_
  refine Z.callVp (M := mX7_oppose) (pc := 2) (st := []) (N := mX7_isMark) (n := 1) (r := .int (bI (inB m 0 (I 35 10 - 1)))) dX7_oppose_2 mlX7_108 mkX7_isMark imX7_isMark seX7_isMark (fx35 hF) cl7 rfl (d1 := 1) (by decide) (As := [.int m]) rfl ⟨rfl, Nat.le_of_ble_eq_true rfl⟩ ⟨rfl, Nat.le_of_ble_eq_true rfl⟩ (ct_isMark hE m hF) rfl ?_
  refine Z.if_eqB (tgt := 23) dX7_oppose_5 (by decide) (fun h1 => ?_) (fun h1 => ?_)
  · refine Z.iconst (v := (-1)) dX7_oppose_23 (by decide) ?_
    exact Z.iret dX7_oppose_24 rfl ⟨by rw [if_neg (by simp [opK, opB, h1])], by rw [if_neg (by simp [opK, opB, h1])]; exact hE, rfl⟩
  · refine Z.aload_n dX7_oppose_8 rfl ?_
    refine Z.iload_n dX7_oppose_9 rfl ?_
    refine Z.callVp (M := mX7_oppose) (pc := 10) (st := []) (N := mX7_isMark) (n := 1) (r := .int (bI (inB by_ 0 (I 35 10 - 1)))) dX7_oppose_10 mlX7_108 mkX7_isMark imX7_isMark seX7_isMark (fx35 hF) cl7 rfl (d1 := 1) (by decide) (As := [.int by_]) rfl ⟨rfl, Nat.le_of_ble_eq_true rfl⟩ ⟨rfl, Nat.le_of_ble_eq_true rfl⟩ (ct_isMark hE by_ hF) rfl ?_
    refine Z.if_eqB (tgt := 23) dX7_oppose_13 (by decide) (fun h2 => ?_) (fun h2 => ?_)
    · refine Z.iconst (v := (-1)) dX7_oppose_23 (by decide) ?_
      exact Z.iret dX7_oppose_24 rfl ⟨by rw [if_neg (by simp [opK, opB, h1, h2])], by rw [if_neg (by simp [opK, opB, h1, h2])]; exact hE, rfl⟩
    · refine Z.iload_n dX7_oppose_16 rfl ?_
      refine Z.callSp (M := mX7_oppose) (pc := 17) (st := []) (N := mX7_isDay) (n := 1) (r := .int (bI (inB t 0 60000))) dX7_oppose_17 mlX7_200 mkX7_isDay stX7_isDay (d1 := 1) (by decide) (As := [.int t]) rfl ⟨rfl, Nat.le_of_ble_eq_true rfl⟩ ⟨rfl, Nat.le_of_ble_eq_true rfl⟩ (ct_isDay hE t) rfl ?_
      refine Z.if_neB (tgt := 25) dX7_oppose_20 (by decide) (fun h3 => ?_) (fun h3 => ?_)
      · refine Z.aload_n dX7_oppose_25 rfl ?_
        refine Z.iload_n dX7_oppose_26 rfl ?_
        refine Z.iload_n dX7_oppose_27 rfl ?_
        refine Z.callVp (M := mX7_oppose) (pc := 28) (st := []) (N := mX7_firstOf) (n := 2) (r := .int (firF (pM I n) m t)) dX7_oppose_28 mlX7_145 mkX7_firstOf imX7_firstOf seX7_firstOf (fx35 hF) cl7 rfl (d1 := 1) (by decide) (As := [.int m, .int t]) rfl ⟨rfl, Nat.le_of_ble_eq_true rfl⟩ ⟨rfl, Nat.le_of_ble_eq_true rfl⟩ (ct_firstOf hE m t hF hn) rfl ?_
        refine Z.istore (L' := [.ref 35, .int m, .int by_, .int t, .int (firF (pM I n) m t), .retAddr 0, .retAddr 0]) dX7_oppose_31 (Nat.le_of_ble_eq_true rfl) rfl ?_
        have e_m := (mk_rg hm.1 hm.2 h1).1
        have l_m := (mk_rg hm.1 hm.2 h1).2
        refine Z.eqLs (L' := [.ref 35, .int (nI (m.toNatClampNeg)), .int by_, .int t, .int (firF (pM I n) m t), .retAddr 0, .retAddr 0]) (st' := []) (by rw [← e_m]) (by first | rfl | rw [← e_m]) ?_
        have e_by_ := (mk_rg hm.1 hm.2 h2).1
        have l_by_ := (mk_rg hm.1 hm.2 h2).2
        refine Z.eqLs (L' := [.ref 35, .int (nI (m.toNatClampNeg)), .int (nI (by_.toNatClampNeg)), .int t, .int (firF (pM I n) m t), .retAddr 0, .retAddr 0]) (st' := []) (by rw [← e_by_]) (by first | rfl | rw [← e_by_]) ?_
        refine Z.iconst (v := 0) dX7_oppose_33 (by decide) ?_
        refine Z.istore (L' := [.ref 35, .int (nI (m.toNatClampNeg)), .int (nI (by_.toNatClampNeg)), .int t, .int (firF (pM I n) m t), .int 0, .retAddr 0]) dX7_oppose_34 (Nat.le_of_ble_eq_true rfl) rfl ?_
        refine Z.iconst (v := 0) dX7_oppose_36 (by decide) ?_
        refine Z.istore (L' := [.ref 35, .int (nI (m.toNatClampNeg)), .int (nI (by_.toNatClampNeg)), .int t, .int (firF (pM I n) m t), .int 0, .int 0]) dX7_oppose_37 (Nat.le_of_ble_eq_true rfl) rfl ?_
        refine lp_oppose m by_ t _ hF hn hq hM hm (by omega) (by omega) (fun J1 hE => ?_) 0 (Nat.zero_le _) _ hE
        refine Z.eqLs (L' := [.ref 35, .int m, .int (nI (by_.toNatClampNeg)), .int t, .int (firF (pM I n) m t), .int (bI (anU (fun c => !decide (coF I n nq by_.toNatClampNeg m.toNatClampNeg (nI c) t < 0)) 16)), .retAddr 0]) (st' := []) (by rw [← e_m]) (by first | rfl | rw [← e_m]) ?_
        refine Z.iload dX7_oppose_76 rfl ?_
        refine Z.if_eqB (tgt := 106) dX7_oppose_78 (by decide) (fun h4 => ?_) (fun h4 => ?_)
        · refine Z.iconst (v := (-1)) dX7_oppose_106 (by decide) ?_
          exact Z.iret dX7_oppose_107 rfl ⟨by rw [if_neg (by simp [opK, opB, h1, h2, h3, h4])], by rw [if_neg (by simp [opK, opB, h1, h2, h3, h4])]; exact hE, rfl⟩
        · refine Z.iload dX7_oppose_81 rfl ?_
          refine Z.if_lt (tgt := 106) dX7_oppose_83 (by decide) (fun h5 => ?_) (fun h5 => ?_)
          · refine Z.iconst (v := (-1)) dX7_oppose_106 (by decide) ?_
            exact Z.iret dX7_oppose_107 rfl ⟨by rw [if_neg (by simp [opK, opB, h1, h2, h3, h4, h5])], by rw [if_neg (by simp [opK, opB, h1, h2, h3, h4, h5])]; exact hE, rfl⟩
          · refine Z.iload_n dX7_oppose_86 rfl ?_
            refine Z.iload dX7_oppose_87 rfl ?_
            refine Z.isub dX7_oppose_89 ?_
            refine Z.bipush (v := 90) dX7_oppose_90 (by decide) ?_
            refine Z.icmp_gt (tgt := 106) dX7_oppose_92 (by decide) (fun h6 => ?_) (fun h6 => ?_)
            · refine Z.iconst (v := (-1)) dX7_oppose_106 (by decide) ?_
              exact Z.iret dX7_oppose_107 rfl ⟨by rw [if_neg (by simp [opK, opB, h1, h2, h3, h4, h5, h6])], by rw [if_neg (by simp [opK, opB, h1, h2, h3, h4, h5, h6])]; exact hE, rfl⟩
            · refine Z.aload_n dX7_oppose_95 rfl ?_
              refine Z.iconst (v := 4) dX7_oppose_96 (by decide) ?_
              refine Z.iload_n dX7_oppose_97 rfl ?_
              refine Z.iconst (v := 0) dX7_oppose_98 (by decide) ?_
              refine Z.iload_n dX7_oppose_99 rfl ?_
              refine Z.callVg (M := mX7_oppose) (pc := 100) (st := []) (N := mX7_paper) (n := 4) dX7_oppose_100 mlX7_209 mkX7_paper imX7_paper seX7_paper (fx35 hF) cl7 rfl (d1 := 4) (by decide) (As := [.int 4, .int m, .int 0, .int t]) rfl ⟨rfl, Nat.le_of_ble_eq_true rfl⟩ ⟨rfl, Nat.le_of_ble_eq_true rfl⟩ (cp_paper hE 4 m 0 t hF hn hq hM hm) rfl (fun v_ J2 S_ h_ => ?_)
              obtain ⟨rfl, hE2, rfl⟩ := h_
              refine Z.goto (tgt := 107) dX7_oppose_103 (by decide) ?_
              exact Z.iret dX7_oppose_107 rfl ⟨by simp only [show opK I n nq m by_ t = true by simp [opK, opB, h1, h2, h3, h4, h5, h6], if_true], by simp only [show opK I n nq m by_ t = true by simp [opK, opB, h1, h2, h3, h4, h5, h6], if_true]; exact hE2, rfl⟩
      · refine Z.iconst (v := (-1)) dX7_oppose_23 (by decide) ?_
        exact Z.iret dX7_oppose_24 rfl ⟨by rw [if_neg (by simp [opK, opB, h1, h2, h3])], by rw [if_neg (by simp [opK, opB, h1, h2, h3])]; exact hE, rfl⟩

