set_option maxHeartbeats 4000000 in
set_option maxRecDepth 100000 in
theorem lp_giAA {g : GP} {I J : IM} {S : SH} (hE : Ex I J) (m t g_ : Int32) (f : Nat → Int32) {i c : Nat} {Q : ZQ} (hc : c ≤ 400) (hF : Fx S) {n : Nat} (hn : Mp I n) (hk : Z g 2 0 0 mX7_goodsInto 99 [.ref 35, .int m, .int t, .ref 56, .int (nI c), .int (nI i), .int g_, .int (bI (inRU f g_ c)), .retAddr 0] [] (va_up J 56 f) S Q) : ∀ k, k ≤ c → Z g 2 0 0 mX7_goodsInto 65 [.ref 35, .int m, .int t, .ref 56, .int (nI c), .int (nI i), .int g_, .int (bI (inRU f g_ k)), .int (nI k)] [] (va_up J 56 f) S Q := by
  refine upZ c (fun k hi ih => ?_)
  refine Z.iload dX7_goodsInto_65 rfl ?_
  refine Z.iload dX7_goodsInto_67 rfl ?_
  refine Z.icmp_geN (a := k) (b := c) (by omega) (by omega) (tgt := 99) dX7_goodsInto_69 (by decide) (fun h1 => ?_) (fun h1 => ?_)
  · refine Z.drop (i := 8) (L' := [.ref 35, .int m, .int t, .ref 56, .int (nI c), .int (nI i), .int g_, .int (bI (inRU f g_ k)), .retAddr 0]) rfl ?_
    rw [show k = c by omega]
    exact hk
  · refine Z.iload dX7_goodsInto_72 rfl ?_
    refine Z.if_neB (tgt := 86) dX7_goodsInto_74 (by decide) (fun h2 => ?_) (fun h2 => ?_)
    · refine Z.iconst (v := 1) dX7_goodsInto_86 (by decide) ?_
      refine Z.goto (tgt := 91) dX7_goodsInto_87 (by decide) ?_
      refine Z.istore (L' := [.ref 35, .int m, .int t, .ref 56, .int (nI c), .int (nI i), .int g_, .int 1, .int (nI k)]) dX7_goodsInto_91 (Nat.le_of_ble_eq_true rfl) rfl ?_
      refine Z.iinc (v := nI (k + 1)) (L' := [.ref 35, .int m, .int t, .ref 56, .int (nI c), .int (nI i), .int g_, .int 1, .int (nI (k + 1))]) dX7_goodsInto_93 rfl (nI_1 _) rfl ?_
      refine Z.goto (tgt := 65) dX7_goodsInto_96 (by decide) ?_
      have e := ih (by omega)
      rw [show bI (inRU f g_ (k + 1)) = 1 by simp [inRU, bI, h1, h2]] at e
      exact e
    · refine Z.aload_n dX7_goodsInto_77 rfl ?_
      refine Z.iload dX7_goodsInto_78 rfl ?_
      refine Z.ialdv (j := k) (v := (f) k) dX7_goodsInto_80 (fx56 hF) rfl (by omega) (by decide) rfl ?_
      refine Z.iload dX7_goodsInto_81 rfl ?_
      refine Z.icmp_ne (tgt := 90) dX7_goodsInto_83 (by decide) (fun h3 => ?_) (fun h3 => ?_)
      · refine Z.iconst (v := 0) dX7_goodsInto_90 (by decide) ?_
        refine Z.istore (L' := [.ref 35, .int m, .int t, .ref 56, .int (nI c), .int (nI i), .int g_, .int 0, .int (nI k)]) dX7_goodsInto_91 (Nat.le_of_ble_eq_true rfl) rfl ?_
        refine Z.iinc (v := nI (k + 1)) (L' := [.ref 35, .int m, .int t, .ref 56, .int (nI c), .int (nI i), .int g_, .int 0, .int (nI (k + 1))]) dX7_goodsInto_93 rfl (nI_1 _) rfl ?_
        refine Z.goto (tgt := 65) dX7_goodsInto_96 (by decide) ?_
        have e := ih (by omega)
        rw [show bI (inRU f g_ (k + 1)) = 0 by simp [inRU, bI, h1, h2, h3]] at e
        exact e
      · refine Z.iconst (v := 1) dX7_goodsInto_86 (by decide) ?_
        refine Z.goto (tgt := 91) dX7_goodsInto_87 (by decide) ?_
        refine Z.istore (L' := [.ref 35, .int m, .int t, .ref 56, .int (nI c), .int (nI i), .int g_, .int 1, .int (nI k)]) dX7_goodsInto_91 (Nat.le_of_ble_eq_true rfl) rfl ?_
        refine Z.iinc (v := nI (k + 1)) (L' := [.ref 35, .int m, .int t, .ref 56, .int (nI c), .int (nI i), .int g_, .int 1, .int (nI (k + 1))]) dX7_goodsInto_93 rfl (nI_1 _) rfl ?_
        refine Z.goto (tgt := 65) dX7_goodsInto_96 (by decide) ?_
        have e := ih (by omega)
        rw [show bI (inRU f g_ (k + 1)) = 1 by simp [inRU, bI, h1, h2, h3]] at e
        exact e

set_option maxHeartbeats 4000000 in
set_option maxRecDepth 100000 in
theorem lp_giBA {g : GP} {I J : IM} {S : SH} (hE : Ex I J) (m t g_ : Int32) {i c : Nat} {Q : ZQ} (hc : c < 400) (hF : Fx S) {n : Nat} (hn : Mp I n) : ∀ k, ∀ (f : Nat → Int32), k ≤ c → Z g 2 0 0 mX7_goodsInto 160 [.ref 35, .int m, .int t, .ref 56, .int (nI c), .int (nI i), .int g_, .retAddr 0, .retAddr 0] [] (va_up J 56 (insF g_ k f)) S Q → Z g 2 0 0 mX7_goodsInto 122 [.ref 35, .int m, .int t, .ref 56, .int (nI c), .int (nI i), .int g_, .retAddr 0, .int (nI k)] [] (va_up J 56 f) S Q := by
  refine dnZ (fun k ih f hkc hk => ?_)
  refine Z.iload dX7_goodsInto_122 rfl ?_
  refine Z.if_leN (a := k) (by omega) (tgt := 154) dX7_goodsInto_124 (by decide) (fun h1 => ?_) (fun h1 => ?_)
  · refine Z.aload_n dX7_goodsInto_154 rfl ?_
    refine Z.iload dX7_goodsInto_155 rfl ?_
    refine Z.iload dX7_goodsInto_157 rfl ?_
    refine Z.iast (j := k) (x := g_) dX7_goodsInto_159 (fx56 hF) rfl (by omega) (by decide) ?_
    refine Z.eqI (bx_uu _ _ _ _) ?_
    refine Z.drop (i := 8) (L' := [.ref 35, .int m, .int t, .ref 56, .int (nI c), .int (nI i), .int g_, .retAddr 0, .retAddr 0]) rfl ?_
    subst h1
    exact hk
  · refine Z.aload_n dX7_goodsInto_127 rfl ?_
    refine Z.iload dX7_goodsInto_128 rfl ?_
    refine Z.iconst (v := 1) dX7_goodsInto_130 (by decide) ?_
    refine Z.isubN (a := k) (b := 1) (by omega) dX7_goodsInto_131 ?_
    refine Z.ialdv (j := k - 1) (v := (f) (k - 1)) dX7_goodsInto_132 (fx56 hF) rfl (by omega) (by decide) rfl ?_
    refine Z.iload dX7_goodsInto_133 rfl ?_
    refine Z.icmp_le (tgt := 154) dX7_goodsInto_135 (by decide) (fun h2 => ?_) (fun h2 => ?_)
    · refine Z.aload_n dX7_goodsInto_154 rfl ?_
      refine Z.iload dX7_goodsInto_155 rfl ?_
      refine Z.iload dX7_goodsInto_157 rfl ?_
      refine Z.iast (j := k) (x := g_) dX7_goodsInto_159 (fx56 hF) rfl (by omega) (by decide) ?_
      refine Z.eqI (bx_uu _ _ _ _) ?_
      refine Z.drop (i := 8) (L' := [.ref 35, .int m, .int t, .ref 56, .int (nI c), .int (nI i), .int g_, .retAddr 0, .retAddr 0]) rfl ?_
      rw [insF_p (by omega), if_neg h2] at hk
      exact hk
    · refine Z.aload_n dX7_goodsInto_138 rfl ?_
      refine Z.iload dX7_goodsInto_139 rfl ?_
      refine Z.aload_n dX7_goodsInto_141 rfl ?_
      refine Z.iload dX7_goodsInto_142 rfl ?_
      refine Z.iconst (v := 1) dX7_goodsInto_144 (by decide) ?_
      refine Z.isubN (a := k) (b := 1) (by omega) dX7_goodsInto_145 ?_
      refine Z.ialdv (j := k - 1) (v := (f) (k - 1)) dX7_goodsInto_146 (fx56 hF) rfl (by omega) (by decide) rfl ?_
      refine Z.iast (j := k) (x := (f) (k - 1)) dX7_goodsInto_147 (fx56 hF) rfl (by omega) (by decide) ?_
      refine Z.eqI (bx_uu _ _ _ _) ?_
      refine Z.iinc (v := nI (k - 1)) (L' := [.ref 35, .int m, .int t, .ref 56, .int (nI c), .int (nI i), .int g_, .retAddr 0, .int (nI (k - 1))]) dX7_goodsInto_148 rfl (nI_dec (by omega)) rfl ?_
      refine Z.goto (tgt := 122) dX7_goodsInto_151 (by decide) ?_
      refine ih (k - 1) (by omega) _ (by omega) ?_
      rw [insF_p (by omega), if_pos h2] at hk
      exact hk

set_option maxHeartbeats 4000000 in
set_option maxRecDepth 100000 in
theorem lp_giA {g : GP} {I J : IM} {S : SH} (hE : Ex I J) (m t : Int32) (hF : Fx S) {n : Nat} (hn : Mp I n) : ∀ i, i ≤ n → Z g 2 0 0 mX7_goodsInto 6 [.ref 35, .int m, .int t, .ref 56, .int (nI ((giU (pM I n) m t (J 56) i).1)), .int (nI i), .retAddr 0, .retAddr 0, .retAddr 0] [] (va_up J 56 (giU (pM I n) m t (J 56) i).2) S (PQ (.int (nI (giU (pM I n) m t (J 56) n).1)) (va_up J 56 (giU (pM I n) m t (J 56) n).2) S) := by
  refine upZ n (fun i hi ih => ?_)
  have hn2 := hn.2
  have hle : (giU (pM I n) m t (J 56) i).1 ≤ i := giU_le i
  refine Z.iload dX7_goodsInto_6 rfl ?_
  refine Z.aload_n dX7_goodsInto_8 rfl ?_
  refine Z.getIv (v := nI n) dX7_goodsInto_9 cl7 flX7_105 (by decide) (fx35 hF) ((hE.at 35 17 rfl).trans hn.1) ?_
  refine Z.icmp_geN (a := i) (b := n) (by omega) (by omega) (tgt := 169) dX7_goodsInto_12 (by decide) (fun h1 => ?_) (fun h1 => ?_)
  · refine Z.iload dX7_goodsInto_169 rfl ?_
    exact Z.iret dX7_goodsInto_171 rfl ⟨by rw [show i = n by omega], by rw [show i = n by omega], rfl⟩
  · refine Z.aload_n dX7_goodsInto_15 rfl ?_
    refine Z.getR (r := 49) dX7_goodsInto_16 cl7 flX7_49 (by decide) (fx35 hF) rfl ?_
    refine Z.iload dX7_goodsInto_19 rfl ?_
    refine Z.ialdv (j := i) (v := I 49 i) dX7_goodsInto_21 (fx49 hF) rfl (by omega) (by decide) (hE.at 49 i rfl) ?_
    refine Z.if_ne (tgt := 163) dX7_goodsInto_22 (by decide) (fun h2 => ?_) (fun h2 => ?_)
    · refine Z.iinc (v := nI (i + 1)) (L' := [.ref 35, .int m, .int t, .ref 56, .int (nI ((giU (pM I n) m t (J 56) i).1)), .int (nI (i + 1)), .retAddr 0, .retAddr 0, .retAddr 0]) dX7_goodsInto_163 rfl (nI_1 _) rfl ?_
      refine Z.goto (tgt := 6) dX7_goodsInto_166 (by decide) ?_
      have e := ih (by omega)
      rw [show giU (pM I n) m t (J 56) (i + 1) = giU (pM I n) m t (J 56) i by simp [giU, gdC, pM_k, pM_m, pM_x, pM_d, h1, h2]] at e
      exact e
    · refine Z.aload_n dX7_goodsInto_25 rfl ?_
      refine Z.getR (r := 50) dX7_goodsInto_26 cl7 flX7_52 (by decide) (fx35 hF) rfl ?_
      refine Z.iload dX7_goodsInto_29 rfl ?_
      refine Z.ialdv (j := i) (v := I 50 i) dX7_goodsInto_31 (fx50 hF) rfl (by omega) (by decide) (hE.at 50 i rfl) ?_
      refine Z.iload_n dX7_goodsInto_32 rfl ?_
      refine Z.icmp_ne (tgt := 163) dX7_goodsInto_33 (by decide) (fun h3 => ?_) (fun h3 => ?_)
      · refine Z.iinc (v := nI (i + 1)) (L' := [.ref 35, .int m, .int t, .ref 56, .int (nI ((giU (pM I n) m t (J 56) i).1)), .int (nI (i + 1)), .retAddr 0, .retAddr 0, .retAddr 0]) dX7_goodsInto_163 rfl (nI_1 _) rfl ?_
        refine Z.goto (tgt := 6) dX7_goodsInto_166 (by decide) ?_
        have e := ih (by omega)
        rw [show giU (pM I n) m t (J 56) (i + 1) = giU (pM I n) m t (J 56) i by simp [giU, gdC, pM_k, pM_m, pM_x, pM_d, h1, h2, h3]] at e
        exact e
      · refine Z.aload_n dX7_goodsInto_36 rfl ?_
        refine Z.getR (r := 52) dX7_goodsInto_37 cl7 flX7_58 (by decide) (fx35 hF) rfl ?_
        refine Z.iload dX7_goodsInto_40 rfl ?_
        refine Z.ialdv (j := i) (v := I 52 i) dX7_goodsInto_42 (fx52 hF) rfl (by omega) (by decide) (hE.at 52 i rfl) ?_
        refine Z.iload_n dX7_goodsInto_43 rfl ?_
        refine Z.icmp_le (tgt := 50) dX7_goodsInto_44 (by decide) (fun h4 => ?_) (fun h4 => ?_)
        · refine Z.aload_n dX7_goodsInto_50 rfl ?_
          refine Z.getR (r := 51) dX7_goodsInto_51 cl7 flX7_55 (by decide) (fx35 hF) rfl ?_
          refine Z.iload dX7_goodsInto_54 rfl ?_
          refine Z.ialdv (j := i) (v := I 51 i) dX7_goodsInto_56 (fx51 hF) rfl (by omega) (by decide) (hE.at 51 i rfl) ?_
          refine Z.istore (L' := [.ref 35, .int m, .int t, .ref 56, .int (nI ((giU (pM I n) m t (J 56) i).1)), .int (nI i), .int (I 51 i), .retAddr 0, .retAddr 0]) dX7_goodsInto_57 (Nat.le_of_ble_eq_true rfl) rfl ?_
          refine Z.iconst (v := 0) dX7_goodsInto_59 (by decide) ?_
          refine Z.istore (L' := [.ref 35, .int m, .int t, .ref 56, .int (nI ((giU (pM I n) m t (J 56) i).1)), .int (nI i), .int (I 51 i), .int 0, .retAddr 0]) dX7_goodsInto_60 (Nat.le_of_ble_eq_true rfl) rfl ?_
          refine Z.iconst (v := 0) dX7_goodsInto_62 (by decide) ?_
          refine Z.istore (L' := [.ref 35, .int m, .int t, .ref 56, .int (nI ((giU (pM I n) m t (J 56) i).1)), .int (nI i), .int (I 51 i), .int 0, .int 0]) dX7_goodsInto_63 (Nat.le_of_ble_eq_true rfl) rfl ?_
          refine lp_giAA hE m t (I 51 i) (giU (pM I n) m t (J 56) i).2 (by omega) hF hn ?_ 0 (Nat.zero_le _)
          refine Z.iload dX7_goodsInto_99 rfl ?_
          refine Z.if_neB (tgt := 163) dX7_goodsInto_101 (by decide) (fun h5 => ?_) (fun h5 => ?_)
          · refine Z.iinc (v := nI (i + 1)) (L' := [.ref 35, .int m, .int t, .ref 56, .int (nI ((giU (pM I n) m t (J 56) i).1)), .int (nI (i + 1)), .int (I 51 i), .int (bI (inRU (giU (pM I n) m t (J 56) i).2 (I 51 i) (giU (pM I n) m t (J 56) i).1)), .retAddr 0]) dX7_goodsInto_163 rfl (nI_1 _) rfl ?_
            refine Z.goto (tgt := 6) dX7_goodsInto_166 (by decide) ?_
            refine Z.drop (i := 6) (L' := [.ref 35, .int m, .int t, .ref 56, .int (nI ((giU (pM I n) m t (J 56) i).1)), .int (nI (i + 1)), .retAddr 0, .int (bI (inRU (giU (pM I n) m t (J 56) i).2 (I 51 i) (giU (pM I n) m t (J 56) i).1)), .retAddr 0]) rfl ?_
            refine Z.drop (i := 7) (L' := [.ref 35, .int m, .int t, .ref 56, .int (nI ((giU (pM I n) m t (J 56) i).1)), .int (nI (i + 1)), .retAddr 0, .retAddr 0, .retAddr 0]) rfl ?_
            have e := ih (by omega)
            rw [show giU (pM I n) m t (J 56) (i + 1) = giU (pM I n) m t (J 56) i by simp [giU, gdC, pM_k, pM_m, pM_x, pM_d, h1, h2, h3, h4, h5]] at e
            exact e
          · refine Z.aload_n dX7_goodsInto_104 rfl ?_
            refine Z.iload_n dX7_goodsInto_105 rfl ?_
            refine Z.iload dX7_goodsInto_106 rfl ?_
            refine Z.iload_n dX7_goodsInto_108 rfl ?_
            refine Z.callVp (M := mX7_goodsInto) (pc := 109) (st := []) (N := mX7_since) (n := 3) (r := .int (sinceF (pM I n) m (I 51 i) t)) dX7_goodsInto_109 mlX7_155 mkX7_since imX7_since seX7_since (fx35 hF) cl7 rfl (d1 := 1) (by decide) (As := [.int m, .int (I 51 i), .int t]) rfl ⟨rfl, Nat.le_of_ble_eq_true rfl⟩ ⟨rfl, Nat.le_of_ble_eq_true rfl⟩ (ct_since (hE.up (a := 56) rfl) m (I 51 i) t hF hn) rfl ?_
            refine Z.if_ge (tgt := 118) dX7_goodsInto_112 (by decide) (fun h6 => ?_) (fun h6 => ?_)
            · refine Z.iload dX7_goodsInto_118 rfl ?_
              refine Z.istore (L' := [.ref 35, .int m, .int t, .ref 56, .int (nI ((giU (pM I n) m t (J 56) i).1)), .int (nI i), .int (I 51 i), .int (bI (inRU (giU (pM I n) m t (J 56) i).2 (I 51 i) (giU (pM I n) m t (J 56) i).1)), .int (nI ((giU (pM I n) m t (J 56) i).1))]) dX7_goodsInto_120 (Nat.le_of_ble_eq_true rfl) rfl ?_
              refine Z.drop (i := 7) (L' := [.ref 35, .int m, .int t, .ref 56, .int (nI ((giU (pM I n) m t (J 56) i).1)), .int (nI i), .int (I 51 i), .retAddr 0, .int (nI ((giU (pM I n) m t (J 56) i).1))]) rfl ?_
              refine lp_giBA hE m t (I 51 i) (by omega) hF hn (giU (pM I n) m t (J 56) i).1 (giU (pM I n) m t (J 56) i).2 (Nat.le_refl _) ?_
              refine Z.iinc (v := nI (((giU (pM I n) m t (J 56) i).1) + 1)) (L' := [.ref 35, .int m, .int t, .ref 56, .int (nI (((giU (pM I n) m t (J 56) i).1) + 1)), .int (nI i), .int (I 51 i), .retAddr 0, .retAddr 0]) dX7_goodsInto_160 rfl (nI_1 _) rfl ?_
              refine Z.iinc (v := nI (i + 1)) (L' := [.ref 35, .int m, .int t, .ref 56, .int (nI (((giU (pM I n) m t (J 56) i).1) + 1)), .int (nI (i + 1)), .int (I 51 i), .retAddr 0, .retAddr 0]) dX7_goodsInto_163 rfl (nI_1 _) rfl ?_
              refine Z.goto (tgt := 6) dX7_goodsInto_166 (by decide) ?_
              refine Z.drop (i := 6) (L' := [.ref 35, .int m, .int t, .ref 56, .int (nI (((giU (pM I n) m t (J 56) i).1) + 1)), .int (nI (i + 1)), .retAddr 0, .retAddr 0, .retAddr 0]) rfl ?_
              have e := ih (by omega)
              rw [show giU (pM I n) m t (J 56) (i + 1) = ((giU (pM I n) m t (J 56) i).1 + 1, insF (I 51 i) (giU (pM I n) m t (J 56) i).1 (giU (pM I n) m t (J 56) i).2) by simp [giU, gdC, pM_k, pM_m, pM_x, pM_d, h1, h2, h3, h4, h5, h6]] at e
              exact e
            · refine Z.goto (tgt := 163) dX7_goodsInto_115 (by decide) ?_
              refine Z.iinc (v := nI (i + 1)) (L' := [.ref 35, .int m, .int t, .ref 56, .int (nI ((giU (pM I n) m t (J 56) i).1)), .int (nI (i + 1)), .int (I 51 i), .int (bI (inRU (giU (pM I n) m t (J 56) i).2 (I 51 i) (giU (pM I n) m t (J 56) i).1)), .retAddr 0]) dX7_goodsInto_163 rfl (nI_1 _) rfl ?_
              refine Z.goto (tgt := 6) dX7_goodsInto_166 (by decide) ?_
              refine Z.drop (i := 6) (L' := [.ref 35, .int m, .int t, .ref 56, .int (nI ((giU (pM I n) m t (J 56) i).1)), .int (nI (i + 1)), .retAddr 0, .int (bI (inRU (giU (pM I n) m t (J 56) i).2 (I 51 i) (giU (pM I n) m t (J 56) i).1)), .retAddr 0]) rfl ?_
              refine Z.drop (i := 7) (L' := [.ref 35, .int m, .int t, .ref 56, .int (nI ((giU (pM I n) m t (J 56) i).1)), .int (nI (i + 1)), .retAddr 0, .retAddr 0, .retAddr 0]) rfl ?_
              have e := ih (by omega)
              rw [show giU (pM I n) m t (J 56) (i + 1) = giU (pM I n) m t (J 56) i by simp [giU, gdC, pM_k, pM_m, pM_x, pM_d, h1, h2, h3, h4, h5, h6]] at e
              exact e
        · refine Z.goto (tgt := 163) dX7_goodsInto_47 (by decide) ?_
          refine Z.iinc (v := nI (i + 1)) (L' := [.ref 35, .int m, .int t, .ref 56, .int (nI ((giU (pM I n) m t (J 56) i).1)), .int (nI (i + 1)), .retAddr 0, .retAddr 0, .retAddr 0]) dX7_goodsInto_163 rfl (nI_1 _) rfl ?_
          refine Z.goto (tgt := 6) dX7_goodsInto_166 (by decide) ?_
          have e := ih (by omega)
          rw [show giU (pM I n) m t (J 56) (i + 1) = giU (pM I n) m t (J 56) i by simp [giU, gdC, pM_k, pM_m, pM_x, pM_d, h1, h2, h3, h4]] at e
          exact e

set_option maxHeartbeats 4000000 in
set_option maxRecDepth 100000 in
theorem ct_goodsIntoA {g : GP} {I J : IM} {S : SH} (hE : Ex I J) (m t : Int32) (hF : Fx S) {n : Nat} (hn : Mp I n) : Z g 2 0 0 mX7_goodsInto 0 (enL mX7_goodsInto [.ref 35, .int m, .int t, .ref 56]) [] J S (PQ (.int (nI (giU (pM I n) m t (J 56) n).1)) (va_up J 56 (giU (pM I n) m t (J 56) n).2) S) := by
  show Z g 2 0 0 mX7_goodsInto 0 [.ref 35, .int m, .int t, .ref 56, .retAddr 0, .retAddr 0, .retAddr 0, .retAddr 0, .retAddr 0] [] J S _
  refine Z.iconst (v := 0) dX7_goodsInto_0 (by decide) ?_
  refine Z.istore (L' := [.ref 35, .int m, .int t, .ref 56, .int 0, .retAddr 0, .retAddr 0, .retAddr 0, .retAddr 0]) dX7_goodsInto_1 (Nat.le_of_ble_eq_true rfl) rfl ?_
  refine Z.iconst (v := 0) dX7_goodsInto_3 (by decide) ?_
  refine Z.istore (L' := [.ref 35, .int m, .int t, .ref 56, .int 0, .int 0, .retAddr 0, .retAddr 0, .retAddr 0]) dX7_goodsInto_4 (Nat.le_of_ble_eq_true rfl) rfl ?_
  refine Z.eqI (up_self (a := 56)).symm ?_
  exact lp_giA hE m t hF hn 0 (Nat.zero_le _)

set_option maxHeartbeats 4000000 in
set_option maxRecDepth 100000 in
theorem lp_giAB {g : GP} {I J : IM} {S : SH} (hE : Ex I J) (m t g_ : Int32) (f : Nat → Int32) {i c : Nat} {Q : ZQ} (hc : c ≤ 400) (hF : Fx S) {n : Nat} (hn : Mp I n) (hk : Z g 2 0 0 mX7_goodsInto 99 [.ref 35, .int m, .int t, .ref 57, .int (nI c), .int (nI i), .int g_, .int (bI (inRU f g_ c)), .retAddr 0] [] (va_up J 57 f) S Q) : ∀ k, k ≤ c → Z g 2 0 0 mX7_goodsInto 65 [.ref 35, .int m, .int t, .ref 57, .int (nI c), .int (nI i), .int g_, .int (bI (inRU f g_ k)), .int (nI k)] [] (va_up J 57 f) S Q := by
  refine upZ c (fun k hi ih => ?_)
  refine Z.iload dX7_goodsInto_65 rfl ?_
  refine Z.iload dX7_goodsInto_67 rfl ?_
  refine Z.icmp_geN (a := k) (b := c) (by omega) (by omega) (tgt := 99) dX7_goodsInto_69 (by decide) (fun h1 => ?_) (fun h1 => ?_)
  · refine Z.drop (i := 8) (L' := [.ref 35, .int m, .int t, .ref 57, .int (nI c), .int (nI i), .int g_, .int (bI (inRU f g_ k)), .retAddr 0]) rfl ?_
    rw [show k = c by omega]
    exact hk
  · refine Z.iload dX7_goodsInto_72 rfl ?_
    refine Z.if_neB (tgt := 86) dX7_goodsInto_74 (by decide) (fun h2 => ?_) (fun h2 => ?_)
    · refine Z.iconst (v := 1) dX7_goodsInto_86 (by decide) ?_
      refine Z.goto (tgt := 91) dX7_goodsInto_87 (by decide) ?_
      refine Z.istore (L' := [.ref 35, .int m, .int t, .ref 57, .int (nI c), .int (nI i), .int g_, .int 1, .int (nI k)]) dX7_goodsInto_91 (Nat.le_of_ble_eq_true rfl) rfl ?_
      refine Z.iinc (v := nI (k + 1)) (L' := [.ref 35, .int m, .int t, .ref 57, .int (nI c), .int (nI i), .int g_, .int 1, .int (nI (k + 1))]) dX7_goodsInto_93 rfl (nI_1 _) rfl ?_
      refine Z.goto (tgt := 65) dX7_goodsInto_96 (by decide) ?_
      have e := ih (by omega)
      rw [show bI (inRU f g_ (k + 1)) = 1 by simp [inRU, bI, h1, h2]] at e
      exact e
    · refine Z.aload_n dX7_goodsInto_77 rfl ?_
      refine Z.iload dX7_goodsInto_78 rfl ?_
      refine Z.ialdv (j := k) (v := (f) k) dX7_goodsInto_80 (fx57 hF) rfl (by omega) (by decide) rfl ?_
      refine Z.iload dX7_goodsInto_81 rfl ?_
      refine Z.icmp_ne (tgt := 90) dX7_goodsInto_83 (by decide) (fun h3 => ?_) (fun h3 => ?_)
      · refine Z.iconst (v := 0) dX7_goodsInto_90 (by decide) ?_
        refine Z.istore (L' := [.ref 35, .int m, .int t, .ref 57, .int (nI c), .int (nI i), .int g_, .int 0, .int (nI k)]) dX7_goodsInto_91 (Nat.le_of_ble_eq_true rfl) rfl ?_
        refine Z.iinc (v := nI (k + 1)) (L' := [.ref 35, .int m, .int t, .ref 57, .int (nI c), .int (nI i), .int g_, .int 0, .int (nI (k + 1))]) dX7_goodsInto_93 rfl (nI_1 _) rfl ?_
        refine Z.goto (tgt := 65) dX7_goodsInto_96 (by decide) ?_
        have e := ih (by omega)
        rw [show bI (inRU f g_ (k + 1)) = 0 by simp [inRU, bI, h1, h2, h3]] at e
        exact e
      · refine Z.iconst (v := 1) dX7_goodsInto_86 (by decide) ?_
        refine Z.goto (tgt := 91) dX7_goodsInto_87 (by decide) ?_
        refine Z.istore (L' := [.ref 35, .int m, .int t, .ref 57, .int (nI c), .int (nI i), .int g_, .int 1, .int (nI k)]) dX7_goodsInto_91 (Nat.le_of_ble_eq_true rfl) rfl ?_
        refine Z.iinc (v := nI (k + 1)) (L' := [.ref 35, .int m, .int t, .ref 57, .int (nI c), .int (nI i), .int g_, .int 1, .int (nI (k + 1))]) dX7_goodsInto_93 rfl (nI_1 _) rfl ?_
        refine Z.goto (tgt := 65) dX7_goodsInto_96 (by decide) ?_
        have e := ih (by omega)
        rw [show bI (inRU f g_ (k + 1)) = 1 by simp [inRU, bI, h1, h2, h3]] at e
        exact e

set_option maxHeartbeats 4000000 in
set_option maxRecDepth 100000 in
theorem lp_giBB {g : GP} {I J : IM} {S : SH} (hE : Ex I J) (m t g_ : Int32) {i c : Nat} {Q : ZQ} (hc : c < 400) (hF : Fx S) {n : Nat} (hn : Mp I n) : ∀ k, ∀ (f : Nat → Int32), k ≤ c → Z g 2 0 0 mX7_goodsInto 160 [.ref 35, .int m, .int t, .ref 57, .int (nI c), .int (nI i), .int g_, .retAddr 0, .retAddr 0] [] (va_up J 57 (insF g_ k f)) S Q → Z g 2 0 0 mX7_goodsInto 122 [.ref 35, .int m, .int t, .ref 57, .int (nI c), .int (nI i), .int g_, .retAddr 0, .int (nI k)] [] (va_up J 57 f) S Q := by
  refine dnZ (fun k ih f hkc hk => ?_)
  refine Z.iload dX7_goodsInto_122 rfl ?_
  refine Z.if_leN (a := k) (by omega) (tgt := 154) dX7_goodsInto_124 (by decide) (fun h1 => ?_) (fun h1 => ?_)
  · refine Z.aload_n dX7_goodsInto_154 rfl ?_
    refine Z.iload dX7_goodsInto_155 rfl ?_
    refine Z.iload dX7_goodsInto_157 rfl ?_
    refine Z.iast (j := k) (x := g_) dX7_goodsInto_159 (fx57 hF) rfl (by omega) (by decide) ?_
    refine Z.eqI (bx_uu _ _ _ _) ?_
    refine Z.drop (i := 8) (L' := [.ref 35, .int m, .int t, .ref 57, .int (nI c), .int (nI i), .int g_, .retAddr 0, .retAddr 0]) rfl ?_
    subst h1
    exact hk
  · refine Z.aload_n dX7_goodsInto_127 rfl ?_
    refine Z.iload dX7_goodsInto_128 rfl ?_
    refine Z.iconst (v := 1) dX7_goodsInto_130 (by decide) ?_
    refine Z.isubN (a := k) (b := 1) (by omega) dX7_goodsInto_131 ?_
    refine Z.ialdv (j := k - 1) (v := (f) (k - 1)) dX7_goodsInto_132 (fx57 hF) rfl (by omega) (by decide) rfl ?_
    refine Z.iload dX7_goodsInto_133 rfl ?_
    refine Z.icmp_le (tgt := 154) dX7_goodsInto_135 (by decide) (fun h2 => ?_) (fun h2 => ?_)
    · refine Z.aload_n dX7_goodsInto_154 rfl ?_
      refine Z.iload dX7_goodsInto_155 rfl ?_
      refine Z.iload dX7_goodsInto_157 rfl ?_
      refine Z.iast (j := k) (x := g_) dX7_goodsInto_159 (fx57 hF) rfl (by omega) (by decide) ?_
      refine Z.eqI (bx_uu _ _ _ _) ?_
      refine Z.drop (i := 8) (L' := [.ref 35, .int m, .int t, .ref 57, .int (nI c), .int (nI i), .int g_, .retAddr 0, .retAddr 0]) rfl ?_
      rw [insF_p (by omega), if_neg h2] at hk
      exact hk
    · refine Z.aload_n dX7_goodsInto_138 rfl ?_
      refine Z.iload dX7_goodsInto_139 rfl ?_
      refine Z.aload_n dX7_goodsInto_141 rfl ?_
      refine Z.iload dX7_goodsInto_142 rfl ?_
      refine Z.iconst (v := 1) dX7_goodsInto_144 (by decide) ?_
      refine Z.isubN (a := k) (b := 1) (by omega) dX7_goodsInto_145 ?_
      refine Z.ialdv (j := k - 1) (v := (f) (k - 1)) dX7_goodsInto_146 (fx57 hF) rfl (by omega) (by decide) rfl ?_
      refine Z.iast (j := k) (x := (f) (k - 1)) dX7_goodsInto_147 (fx57 hF) rfl (by omega) (by decide) ?_
      refine Z.eqI (bx_uu _ _ _ _) ?_
      refine Z.iinc (v := nI (k - 1)) (L' := [.ref 35, .int m, .int t, .ref 57, .int (nI c), .int (nI i), .int g_, .retAddr 0, .int (nI (k - 1))]) dX7_goodsInto_148 rfl (nI_dec (by omega)) rfl ?_
      refine Z.goto (tgt := 122) dX7_goodsInto_151 (by decide) ?_
      refine ih (k - 1) (by omega) _ (by omega) ?_
      rw [insF_p (by omega), if_pos h2] at hk
      exact hk

set_option maxHeartbeats 4000000 in
set_option maxRecDepth 100000 in
theorem lp_giB {g : GP} {I J : IM} {S : SH} (hE : Ex I J) (m t : Int32) (hF : Fx S) {n : Nat} (hn : Mp I n) : ∀ i, i ≤ n → Z g 2 0 0 mX7_goodsInto 6 [.ref 35, .int m, .int t, .ref 57, .int (nI ((giU (pM I n) m t (J 57) i).1)), .int (nI i), .retAddr 0, .retAddr 0, .retAddr 0] [] (va_up J 57 (giU (pM I n) m t (J 57) i).2) S (PQ (.int (nI (giU (pM I n) m t (J 57) n).1)) (va_up J 57 (giU (pM I n) m t (J 57) n).2) S) := by
  refine upZ n (fun i hi ih => ?_)
  have hn2 := hn.2
  have hle : (giU (pM I n) m t (J 57) i).1 ≤ i := giU_le i
  refine Z.iload dX7_goodsInto_6 rfl ?_
  refine Z.aload_n dX7_goodsInto_8 rfl ?_
  refine Z.getIv (v := nI n) dX7_goodsInto_9 cl7 flX7_105 (by decide) (fx35 hF) ((hE.at 35 17 rfl).trans hn.1) ?_
  refine Z.icmp_geN (a := i) (b := n) (by omega) (by omega) (tgt := 169) dX7_goodsInto_12 (by decide) (fun h1 => ?_) (fun h1 => ?_)
  · refine Z.iload dX7_goodsInto_169 rfl ?_
    exact Z.iret dX7_goodsInto_171 rfl ⟨by rw [show i = n by omega], by rw [show i = n by omega], rfl⟩
  · refine Z.aload_n dX7_goodsInto_15 rfl ?_
    refine Z.getR (r := 49) dX7_goodsInto_16 cl7 flX7_49 (by decide) (fx35 hF) rfl ?_
    refine Z.iload dX7_goodsInto_19 rfl ?_
    refine Z.ialdv (j := i) (v := I 49 i) dX7_goodsInto_21 (fx49 hF) rfl (by omega) (by decide) (hE.at 49 i rfl) ?_
    refine Z.if_ne (tgt := 163) dX7_goodsInto_22 (by decide) (fun h2 => ?_) (fun h2 => ?_)
    · refine Z.iinc (v := nI (i + 1)) (L' := [.ref 35, .int m, .int t, .ref 57, .int (nI ((giU (pM I n) m t (J 57) i).1)), .int (nI (i + 1)), .retAddr 0, .retAddr 0, .retAddr 0]) dX7_goodsInto_163 rfl (nI_1 _) rfl ?_
      refine Z.goto (tgt := 6) dX7_goodsInto_166 (by decide) ?_
      have e := ih (by omega)
      rw [show giU (pM I n) m t (J 57) (i + 1) = giU (pM I n) m t (J 57) i by simp [giU, gdC, pM_k, pM_m, pM_x, pM_d, h1, h2]] at e
      exact e
    · refine Z.aload_n dX7_goodsInto_25 rfl ?_
      refine Z.getR (r := 50) dX7_goodsInto_26 cl7 flX7_52 (by decide) (fx35 hF) rfl ?_
      refine Z.iload dX7_goodsInto_29 rfl ?_
      refine Z.ialdv (j := i) (v := I 50 i) dX7_goodsInto_31 (fx50 hF) rfl (by omega) (by decide) (hE.at 50 i rfl) ?_
      refine Z.iload_n dX7_goodsInto_32 rfl ?_
      refine Z.icmp_ne (tgt := 163) dX7_goodsInto_33 (by decide) (fun h3 => ?_) (fun h3 => ?_)
      · refine Z.iinc (v := nI (i + 1)) (L' := [.ref 35, .int m, .int t, .ref 57, .int (nI ((giU (pM I n) m t (J 57) i).1)), .int (nI (i + 1)), .retAddr 0, .retAddr 0, .retAddr 0]) dX7_goodsInto_163 rfl (nI_1 _) rfl ?_
        refine Z.goto (tgt := 6) dX7_goodsInto_166 (by decide) ?_
        have e := ih (by omega)
        rw [show giU (pM I n) m t (J 57) (i + 1) = giU (pM I n) m t (J 57) i by simp [giU, gdC, pM_k, pM_m, pM_x, pM_d, h1, h2, h3]] at e
        exact e
      · refine Z.aload_n dX7_goodsInto_36 rfl ?_
        refine Z.getR (r := 52) dX7_goodsInto_37 cl7 flX7_58 (by decide) (fx35 hF) rfl ?_
        refine Z.iload dX7_goodsInto_40 rfl ?_
        refine Z.ialdv (j := i) (v := I 52 i) dX7_goodsInto_42 (fx52 hF) rfl (by omega) (by decide) (hE.at 52 i rfl) ?_
        refine Z.iload_n dX7_goodsInto_43 rfl ?_
        refine Z.icmp_le (tgt := 50) dX7_goodsInto_44 (by decide) (fun h4 => ?_) (fun h4 => ?_)
        · refine Z.aload_n dX7_goodsInto_50 rfl ?_
          refine Z.getR (r := 51) dX7_goodsInto_51 cl7 flX7_55 (by decide) (fx35 hF) rfl ?_
          refine Z.iload dX7_goodsInto_54 rfl ?_
          refine Z.ialdv (j := i) (v := I 51 i) dX7_goodsInto_56 (fx51 hF) rfl (by omega) (by decide) (hE.at 51 i rfl) ?_
          refine Z.istore (L' := [.ref 35, .int m, .int t, .ref 57, .int (nI ((giU (pM I n) m t (J 57) i).1)), .int (nI i), .int (I 51 i), .retAddr 0, .retAddr 0]) dX7_goodsInto_57 (Nat.le_of_ble_eq_true rfl) rfl ?_
          refine Z.iconst (v := 0) dX7_goodsInto_59 (by decide) ?_
          refine Z.istore (L' := [.ref 35, .int m, .int t, .ref 57, .int (nI ((giU (pM I n) m t (J 57) i).1)), .int (nI i), .int (I 51 i), .int 0, .retAddr 0]) dX7_goodsInto_60 (Nat.le_of_ble_eq_true rfl) rfl ?_
          refine Z.iconst (v := 0) dX7_goodsInto_62 (by decide) ?_
          refine Z.istore (L' := [.ref 35, .int m, .int t, .ref 57, .int (nI ((giU (pM I n) m t (J 57) i).1)), .int (nI i), .int (I 51 i), .int 0, .int 0]) dX7_goodsInto_63 (Nat.le_of_ble_eq_true rfl) rfl ?_
          refine lp_giAB hE m t (I 51 i) (giU (pM I n) m t (J 57) i).2 (by omega) hF hn ?_ 0 (Nat.zero_le _)
          refine Z.iload dX7_goodsInto_99 rfl ?_
          refine Z.if_neB (tgt := 163) dX7_goodsInto_101 (by decide) (fun h5 => ?_) (fun h5 => ?_)
          · refine Z.iinc (v := nI (i + 1)) (L' := [.ref 35, .int m, .int t, .ref 57, .int (nI ((giU (pM I n) m t (J 57) i).1)), .int (nI (i + 1)), .int (I 51 i), .int (bI (inRU (giU (pM I n) m t (J 57) i).2 (I 51 i) (giU (pM I n) m t (J 57) i).1)), .retAddr 0]) dX7_goodsInto_163 rfl (nI_1 _) rfl ?_
            refine Z.goto (tgt := 6) dX7_goodsInto_166 (by decide) ?_
            refine Z.drop (i := 6) (L' := [.ref 35, .int m, .int t, .ref 57, .int (nI ((giU (pM I n) m t (J 57) i).1)), .int (nI (i + 1)), .retAddr 0, .int (bI (inRU (giU (pM I n) m t (J 57) i).2 (I 51 i) (giU (pM I n) m t (J 57) i).1)), .retAddr 0]) rfl ?_
            refine Z.drop (i := 7) (L' := [.ref 35, .int m, .int t, .ref 57, .int (nI ((giU (pM I n) m t (J 57) i).1)), .int (nI (i + 1)), .retAddr 0, .retAddr 0, .retAddr 0]) rfl ?_
            have e := ih (by omega)
            rw [show giU (pM I n) m t (J 57) (i + 1) = giU (pM I n) m t (J 57) i by simp [giU, gdC, pM_k, pM_m, pM_x, pM_d, h1, h2, h3, h4, h5]] at e
            exact e
          · refine Z.aload_n dX7_goodsInto_104 rfl ?_
            refine Z.iload_n dX7_goodsInto_105 rfl ?_
            refine Z.iload dX7_goodsInto_106 rfl ?_
            refine Z.iload_n dX7_goodsInto_108 rfl ?_
            refine Z.callVp (M := mX7_goodsInto) (pc := 109) (st := []) (N := mX7_since) (n := 3) (r := .int (sinceF (pM I n) m (I 51 i) t)) dX7_goodsInto_109 mlX7_155 mkX7_since imX7_since seX7_since (fx35 hF) cl7 rfl (d1 := 1) (by decide) (As := [.int m, .int (I 51 i), .int t]) rfl ⟨rfl, Nat.le_of_ble_eq_true rfl⟩ ⟨rfl, Nat.le_of_ble_eq_true rfl⟩ (ct_since (hE.up (a := 57) rfl) m (I 51 i) t hF hn) rfl ?_
            refine Z.if_ge (tgt := 118) dX7_goodsInto_112 (by decide) (fun h6 => ?_) (fun h6 => ?_)
            · refine Z.iload dX7_goodsInto_118 rfl ?_
              refine Z.istore (L' := [.ref 35, .int m, .int t, .ref 57, .int (nI ((giU (pM I n) m t (J 57) i).1)), .int (nI i), .int (I 51 i), .int (bI (inRU (giU (pM I n) m t (J 57) i).2 (I 51 i) (giU (pM I n) m t (J 57) i).1)), .int (nI ((giU (pM I n) m t (J 57) i).1))]) dX7_goodsInto_120 (Nat.le_of_ble_eq_true rfl) rfl ?_
              refine Z.drop (i := 7) (L' := [.ref 35, .int m, .int t, .ref 57, .int (nI ((giU (pM I n) m t (J 57) i).1)), .int (nI i), .int (I 51 i), .retAddr 0, .int (nI ((giU (pM I n) m t (J 57) i).1))]) rfl ?_
              refine lp_giBB hE m t (I 51 i) (by omega) hF hn (giU (pM I n) m t (J 57) i).1 (giU (pM I n) m t (J 57) i).2 (Nat.le_refl _) ?_
              refine Z.iinc (v := nI (((giU (pM I n) m t (J 57) i).1) + 1)) (L' := [.ref 35, .int m, .int t, .ref 57, .int (nI (((giU (pM I n) m t (J 57) i).1) + 1)), .int (nI i), .int (I 51 i), .retAddr 0, .retAddr 0]) dX7_goodsInto_160 rfl (nI_1 _) rfl ?_
              refine Z.iinc (v := nI (i + 1)) (L' := [.ref 35, .int m, .int t, .ref 57, .int (nI (((giU (pM I n) m t (J 57) i).1) + 1)), .int (nI (i + 1)), .int (I 51 i), .retAddr 0, .retAddr 0]) dX7_goodsInto_163 rfl (nI_1 _) rfl ?_
              refine Z.goto (tgt := 6) dX7_goodsInto_166 (by decide) ?_
              refine Z.drop (i := 6) (L' := [.ref 35, .int m, .int t, .ref 57, .int (nI (((giU (pM I n) m t (J 57) i).1) + 1)), .int (nI (i + 1)), .retAddr 0, .retAddr 0, .retAddr 0]) rfl ?_
              have e := ih (by omega)
              rw [show giU (pM I n) m t (J 57) (i + 1) = ((giU (pM I n) m t (J 57) i).1 + 1, insF (I 51 i) (giU (pM I n) m t (J 57) i).1 (giU (pM I n) m t (J 57) i).2) by simp [giU, gdC, pM_k, pM_m, pM_x, pM_d, h1, h2, h3, h4, h5, h6]] at e
              exact e
            · refine Z.goto (tgt := 163) dX7_goodsInto_115 (by decide) ?_
              refine Z.iinc (v := nI (i + 1)) (L' := [.ref 35, .int m, .int t, .ref 57, .int (nI ((giU (pM I n) m t (J 57) i).1)), .int (nI (i + 1)), .int (I 51 i), .int (bI (inRU (giU (pM I n) m t (J 57) i).2 (I 51 i) (giU (pM I n) m t (J 57) i).1)), .retAddr 0]) dX7_goodsInto_163 rfl (nI_1 _) rfl ?_
              refine Z.goto (tgt := 6) dX7_goodsInto_166 (by decide) ?_
              refine Z.drop (i := 6) (L' := [.ref 35, .int m, .int t, .ref 57, .int (nI ((giU (pM I n) m t (J 57) i).1)), .int (nI (i + 1)), .retAddr 0, .int (bI (inRU (giU (pM I n) m t (J 57) i).2 (I 51 i) (giU (pM I n) m t (J 57) i).1)), .retAddr 0]) rfl ?_
              refine Z.drop (i := 7) (L' := [.ref 35, .int m, .int t, .ref 57, .int (nI ((giU (pM I n) m t (J 57) i).1)), .int (nI (i + 1)), .retAddr 0, .retAddr 0, .retAddr 0]) rfl ?_
              have e := ih (by omega)
              rw [show giU (pM I n) m t (J 57) (i + 1) = giU (pM I n) m t (J 57) i by simp [giU, gdC, pM_k, pM_m, pM_x, pM_d, h1, h2, h3, h4, h5, h6]] at e
              exact e
        · refine Z.goto (tgt := 163) dX7_goodsInto_47 (by decide) ?_
          refine Z.iinc (v := nI (i + 1)) (L' := [.ref 35, .int m, .int t, .ref 57, .int (nI ((giU (pM I n) m t (J 57) i).1)), .int (nI (i + 1)), .retAddr 0, .retAddr 0, .retAddr 0]) dX7_goodsInto_163 rfl (nI_1 _) rfl ?_
          refine Z.goto (tgt := 6) dX7_goodsInto_166 (by decide) ?_
          have e := ih (by omega)
          rw [show giU (pM I n) m t (J 57) (i + 1) = giU (pM I n) m t (J 57) i by simp [giU, gdC, pM_k, pM_m, pM_x, pM_d, h1, h2, h3, h4]] at e
          exact e

set_option maxHeartbeats 4000000 in
set_option maxRecDepth 100000 in
theorem ct_goodsIntoB {g : GP} {I J : IM} {S : SH} (hE : Ex I J) (m t : Int32) (hF : Fx S) {n : Nat} (hn : Mp I n) : Z g 2 0 0 mX7_goodsInto 0 (enL mX7_goodsInto [.ref 35, .int m, .int t, .ref 57]) [] J S (PQ (.int (nI (giU (pM I n) m t (J 57) n).1)) (va_up J 57 (giU (pM I n) m t (J 57) n).2) S) := by
  show Z g 2 0 0 mX7_goodsInto 0 [.ref 35, .int m, .int t, .ref 57, .retAddr 0, .retAddr 0, .retAddr 0, .retAddr 0, .retAddr 0] [] J S _
  refine Z.iconst (v := 0) dX7_goodsInto_0 (by decide) ?_
  refine Z.istore (L' := [.ref 35, .int m, .int t, .ref 57, .int 0, .retAddr 0, .retAddr 0, .retAddr 0, .retAddr 0]) dX7_goodsInto_1 (Nat.le_of_ble_eq_true rfl) rfl ?_
  refine Z.iconst (v := 0) dX7_goodsInto_3 (by decide) ?_
  refine Z.istore (L' := [.ref 35, .int m, .int t, .ref 57, .int 0, .int 0, .retAddr 0, .retAddr 0, .retAddr 0]) dX7_goodsInto_4 (Nat.le_of_ble_eq_true rfl) rfl ?_
  refine Z.eqI (up_self (a := 57)).symm ?_
  exact lp_giB hE m t hF hn 0 (Nat.zero_le _)

