set_option maxHeartbeats 4000000 in
set_option maxRecDepth 100000 in
theorem ct_soundOfLetter {g : GP} {I J : IM} {S : SH} (hE : Ex I J) (j k : Nat) (hF : Fx S) (hM : MIv I) (hj : j < 120) (hk : k < (I 45 j).toNatClampNeg) : Z g 0 0 0 mX7_soundOfLetter 0 (enL mX7_soundOfLetter [.ref 35, .int (nI j), .int (nI k)]) [] J S (PQ (.int (soG (I 36) (I 37) (wM I j) (I 45 j).toNatClampNeg k)) J S) := by
  show Z g 0 0 0 mX7_soundOfLetter 0 [.ref 35, .int (nI j), .int (nI k), .retAddr 0, .retAddr 0] [] J S _
  have hl := hM.2.2.1 j hj
  have hl2 := hl.2
  have hw := hM.2.2.2.2.1
  refine Z.aload_n dX7_soundOfLetter_0 rfl ?_
  refine Z.getR (r := 46) dX7_soundOfLetter_1 cl7 flX7_40 (by decide) (fx35 hF) rfl ?_
  refine Z.bipush (v := 40) dX7_soundOfLetter_4 (by decide) ?_
  refine Z.iload_n dX7_soundOfLetter_6 rfl ?_
  refine Z.imulN (a := 40) (b := j) dX7_soundOfLetter_7 ?_
  refine Z.iload_n dX7_soundOfLetter_8 rfl ?_
  refine Z.iaddN (a := 40 * j) (b := k) dX7_soundOfLetter_9 ?_
  refine Z.ialdv (j := (40 * j) + k) (v := nI ((I 46 (40 * j + k)).toNatClampNeg)) dX7_soundOfLetter_10 (fx46 hF) rfl (by have := (hw (40 * j + k) (by omega)).2; omega) (by decide) ((hE.at 46 ((40 * j) + k) rfl).trans (hw (40 * j + k) (by omega)).1) ?_
  refine Z.istore_n (L' := [.ref 35, .int (nI j), .int (nI k), .int (nI ((I 46 (40 * j + k)).toNatClampNeg)), .retAddr 0]) dX7_soundOfLetter_11 (Nat.le_of_ble_eq_true rfl) rfl ?_
  refine Z.iload_n dX7_soundOfLetter_12 rfl ?_
  refine Z.iconst (v := 1) dX7_soundOfLetter_13 (by decide) ?_
  refine Z.iaddN (a := k) (b := 1) dX7_soundOfLetter_14 ?_
  refine Z.aload_n dX7_soundOfLetter_15 rfl ?_
  refine Z.getR (r := 45) dX7_soundOfLetter_16 cl7 flX7_37 (by decide) (fx35 hF) rfl ?_
  refine Z.iload_n dX7_soundOfLetter_19 rfl ?_
  refine Z.ialdv (j := j) (v := nI ((I 45 j).toNatClampNeg)) dX7_soundOfLetter_20 (fx45 hF) rfl (by have := (hw (40 * j + k) (by omega)).2; omega) (by decide) ((hE.at 45 j rfl).trans hl.1) ?_
  refine Z.icmp_geN (a := k + 1) (b := (I 45 j).toNatClampNeg) (by omega) (by omega) (tgt := 40) dX7_soundOfLetter_21 (by decide) (fun h1 => ?_) (fun h1 => ?_)
  · refine Z.bipush (v := 26) dX7_soundOfLetter_40 (by decide) ?_
    refine Z.istore (L' := [.ref 35, .int (nI j), .int (nI k), .int (nI ((I 46 (40 * j + k)).toNatClampNeg)), .int 26]) dX7_soundOfLetter_42 (Nat.le_of_ble_eq_true rfl) rfl ?_
    refine Z.aload_n dX7_soundOfLetter_44 rfl ?_
    refine Z.getR (r := 36) dX7_soundOfLetter_45 cl7 flX7_7 (by decide) (fx35 hF) rfl ?_
    refine Z.iload_n dX7_soundOfLetter_48 rfl ?_
    refine Z.ialdv (j := (I 46 (40 * j + k)).toNatClampNeg) (v := I 36 ((I 46 (40 * j + k)).toNatClampNeg)) dX7_soundOfLetter_49 (fx36 hF) rfl (by have := (hw (40 * j + k) (by omega)).2; omega) (by decide) (hE.at 36 ((I 46 (40 * j + k)).toNatClampNeg) rfl) ?_
    refine Z.iconst (v := (-1)) dX7_soundOfLetter_50 (by decide) ?_
    refine Z.icmp_ne (tgt := 59) dX7_soundOfLetter_51 (by decide) (fun h2 => ?_) (fun h2 => ?_)
    · refine Z.iload dX7_soundOfLetter_59 rfl ?_
      refine Z.aload_n dX7_soundOfLetter_61 rfl ?_
      refine Z.getR (r := 36) dX7_soundOfLetter_62 cl7 flX7_7 (by decide) (fx35 hF) rfl ?_
      refine Z.iload_n dX7_soundOfLetter_65 rfl ?_
      refine Z.ialdv (j := (I 46 (40 * j + k)).toNatClampNeg) (v := I 36 ((I 46 (40 * j + k)).toNatClampNeg)) dX7_soundOfLetter_66 (fx36 hF) rfl (by have := (hw (40 * j + k) (by omega)).2; omega) (by decide) (hE.at 36 ((I 46 (40 * j + k)).toNatClampNeg) rfl) ?_
      refine Z.icmp_ge (tgt := 85) dX7_soundOfLetter_67 (by decide) (fun h3 => ?_) (fun h3 => ?_)
      · refine Z.iconst (v := (-1)) dX7_soundOfLetter_85 (by decide) ?_
        exact Z.iret dX7_soundOfLetter_86 rfl ⟨by show _ = some (Value.int (heardF (I 36) (I 37) (I 46 (40 * j + k)).toNatClampNeg (if k + 1 < (I 45 j).toNatClampNeg then (I 46 (40 * j + k + 1)).toNatClampNeg else 26))); first | (rw [if_pos (show k + 1 < (I 45 j).toNatClampNeg by omega)]; simp [heardF, h1, h2, h3]; done) | (rw [if_neg (show ¬ k + 1 < (I 45 j).toNatClampNeg by omega)]; simp [heardF, show nI 26 = 26 from rfl, h1, h2, h3]; done), rfl, rfl⟩
      · refine Z.aload_n dX7_soundOfLetter_70 rfl ?_
        refine Z.getR (r := 37) dX7_soundOfLetter_71 cl7 flX7_13 (by decide) (fx35 hF) rfl ?_
        refine Z.bipush (v := 27) dX7_soundOfLetter_74 (by decide) ?_
        refine Z.iload_n dX7_soundOfLetter_76 rfl ?_
        refine Z.imulN (a := 27) (b := (I 46 (40 * j + k)).toNatClampNeg) dX7_soundOfLetter_77 ?_
        refine Z.iload dX7_soundOfLetter_78 rfl ?_
        refine Z.iaddN (a := 27 * ((I 46 (40 * j + k)).toNatClampNeg)) (b := 26) dX7_soundOfLetter_80 ?_
        refine Z.ialdv (j := (27 * ((I 46 (40 * j + k)).toNatClampNeg)) + 26) (v := I 37 ((27 * ((I 46 (40 * j + k)).toNatClampNeg)) + 26)) dX7_soundOfLetter_81 (fx37 hF) rfl (by have := (hw (40 * j + k) (by omega)).2; omega) (by decide) (hE.at 37 ((27 * ((I 46 (40 * j + k)).toNatClampNeg)) + 26) rfl) ?_
        refine Z.goto (tgt := 86) dX7_soundOfLetter_82 (by decide) ?_
        exact Z.iret dX7_soundOfLetter_86 rfl ⟨by show _ = some (Value.int (heardF (I 36) (I 37) (I 46 (40 * j + k)).toNatClampNeg (if k + 1 < (I 45 j).toNatClampNeg then (I 46 (40 * j + k + 1)).toNatClampNeg else 26))); first | (rw [if_pos (show k + 1 < (I 45 j).toNatClampNeg by omega)]; simp [heardF, h1, h2, h3]; done) | (rw [if_neg (show ¬ k + 1 < (I 45 j).toNatClampNeg by omega)]; simp [heardF, show nI 26 = 26 from rfl, h1, h2, h3]; done), rfl, rfl⟩
    · refine Z.bipush (v := 40) dX7_soundOfLetter_54 (by decide) ?_
      refine Z.iload_n dX7_soundOfLetter_56 rfl ?_
      refine Z.iaddN (a := 40) (b := (I 46 (40 * j + k)).toNatClampNeg) dX7_soundOfLetter_57 ?_
      exact Z.iret dX7_soundOfLetter_58 rfl ⟨by show _ = some (Value.int (heardF (I 36) (I 37) (I 46 (40 * j + k)).toNatClampNeg (if k + 1 < (I 45 j).toNatClampNeg then (I 46 (40 * j + k + 1)).toNatClampNeg else 26))); first | (rw [if_pos (show k + 1 < (I 45 j).toNatClampNeg by omega)]; simp [heardF, h1, h2]; done) | (rw [if_neg (show ¬ k + 1 < (I 45 j).toNatClampNeg by omega)]; simp [heardF, show nI 26 = 26 from rfl, h1, h2]; done), rfl, rfl⟩
  · refine Z.aload_n dX7_soundOfLetter_24 rfl ?_
    refine Z.getR (r := 46) dX7_soundOfLetter_25 cl7 flX7_40 (by decide) (fx35 hF) rfl ?_
    refine Z.bipush (v := 40) dX7_soundOfLetter_28 (by decide) ?_
    refine Z.iload_n dX7_soundOfLetter_30 rfl ?_
    refine Z.imulN (a := 40) (b := j) dX7_soundOfLetter_31 ?_
    refine Z.iload_n dX7_soundOfLetter_32 rfl ?_
    refine Z.iaddN (a := 40 * j) (b := k) dX7_soundOfLetter_33 ?_
    refine Z.iconst (v := 1) dX7_soundOfLetter_34 (by decide) ?_
    refine Z.iaddN (a := (40 * j) + k) (b := 1) dX7_soundOfLetter_35 ?_
    refine Z.ialdv (j := ((40 * j) + k) + 1) (v := nI ((I 46 (40 * j + k + 1)).toNatClampNeg)) dX7_soundOfLetter_36 (fx46 hF) rfl (by have := (hw (40 * j + k) (by omega)).2; have := (hw (40 * j + k + 1) (by omega)).2; omega) (by decide) ((hE.at 46 (((40 * j) + k) + 1) rfl).trans (hw (40 * j + k + 1) (by omega)).1) ?_
    refine Z.goto (tgt := 42) dX7_soundOfLetter_37 (by decide) ?_
    refine Z.istore (L' := [.ref 35, .int (nI j), .int (nI k), .int (nI ((I 46 (40 * j + k)).toNatClampNeg)), .int (nI ((I 46 (40 * j + k + 1)).toNatClampNeg))]) dX7_soundOfLetter_42 (Nat.le_of_ble_eq_true rfl) rfl ?_
    refine Z.aload_n dX7_soundOfLetter_44 rfl ?_
    refine Z.getR (r := 36) dX7_soundOfLetter_45 cl7 flX7_7 (by decide) (fx35 hF) rfl ?_
    refine Z.iload_n dX7_soundOfLetter_48 rfl ?_
    refine Z.ialdv (j := (I 46 (40 * j + k)).toNatClampNeg) (v := I 36 ((I 46 (40 * j + k)).toNatClampNeg)) dX7_soundOfLetter_49 (fx36 hF) rfl (by have := (hw (40 * j + k) (by omega)).2; omega) (by decide) (hE.at 36 ((I 46 (40 * j + k)).toNatClampNeg) rfl) ?_
    refine Z.iconst (v := (-1)) dX7_soundOfLetter_50 (by decide) ?_
    refine Z.icmp_ne (tgt := 59) dX7_soundOfLetter_51 (by decide) (fun h4 => ?_) (fun h4 => ?_)
    · refine Z.iload dX7_soundOfLetter_59 rfl ?_
      refine Z.aload_n dX7_soundOfLetter_61 rfl ?_
      refine Z.getR (r := 36) dX7_soundOfLetter_62 cl7 flX7_7 (by decide) (fx35 hF) rfl ?_
      refine Z.iload_n dX7_soundOfLetter_65 rfl ?_
      refine Z.ialdv (j := (I 46 (40 * j + k)).toNatClampNeg) (v := I 36 ((I 46 (40 * j + k)).toNatClampNeg)) dX7_soundOfLetter_66 (fx36 hF) rfl (by have := (hw (40 * j + k) (by omega)).2; omega) (by decide) (hE.at 36 ((I 46 (40 * j + k)).toNatClampNeg) rfl) ?_
      refine Z.icmp_ge (tgt := 85) dX7_soundOfLetter_67 (by decide) (fun h5 => ?_) (fun h5 => ?_)
      · refine Z.iconst (v := (-1)) dX7_soundOfLetter_85 (by decide) ?_
        exact Z.iret dX7_soundOfLetter_86 rfl ⟨by show _ = some (Value.int (heardF (I 36) (I 37) (I 46 (40 * j + k)).toNatClampNeg (if k + 1 < (I 45 j).toNatClampNeg then (I 46 (40 * j + k + 1)).toNatClampNeg else 26))); first | (rw [if_pos (show k + 1 < (I 45 j).toNatClampNeg by omega)]; simp [heardF, h1, h4, h5]; done) | (rw [if_neg (show ¬ k + 1 < (I 45 j).toNatClampNeg by omega)]; simp [heardF, show nI 26 = 26 from rfl, h1, h4, h5]; done), rfl, rfl⟩
      · refine Z.aload_n dX7_soundOfLetter_70 rfl ?_
        refine Z.getR (r := 37) dX7_soundOfLetter_71 cl7 flX7_13 (by decide) (fx35 hF) rfl ?_
        refine Z.bipush (v := 27) dX7_soundOfLetter_74 (by decide) ?_
        refine Z.iload_n dX7_soundOfLetter_76 rfl ?_
        refine Z.imulN (a := 27) (b := (I 46 (40 * j + k)).toNatClampNeg) dX7_soundOfLetter_77 ?_
        refine Z.iload dX7_soundOfLetter_78 rfl ?_
        refine Z.iaddN (a := 27 * ((I 46 (40 * j + k)).toNatClampNeg)) (b := (I 46 (40 * j + k + 1)).toNatClampNeg) dX7_soundOfLetter_80 ?_
        refine Z.ialdv (j := (27 * ((I 46 (40 * j + k)).toNatClampNeg)) + ((I 46 (40 * j + k + 1)).toNatClampNeg)) (v := I 37 ((27 * ((I 46 (40 * j + k)).toNatClampNeg)) + ((I 46 (40 * j + k + 1)).toNatClampNeg))) dX7_soundOfLetter_81 (fx37 hF) rfl (by have := (hw (40 * j + k) (by omega)).2; have := (hw (40 * j + k + 1) (by omega)).2; omega) (by decide) (hE.at 37 ((27 * ((I 46 (40 * j + k)).toNatClampNeg)) + ((I 46 (40 * j + k + 1)).toNatClampNeg)) rfl) ?_
        refine Z.goto (tgt := 86) dX7_soundOfLetter_82 (by decide) ?_
        exact Z.iret dX7_soundOfLetter_86 rfl ⟨by show _ = some (Value.int (heardF (I 36) (I 37) (I 46 (40 * j + k)).toNatClampNeg (if k + 1 < (I 45 j).toNatClampNeg then (I 46 (40 * j + k + 1)).toNatClampNeg else 26))); first | (rw [if_pos (show k + 1 < (I 45 j).toNatClampNeg by omega)]; simp [heardF, h1, h4, h5]; done) | (rw [if_neg (show ¬ k + 1 < (I 45 j).toNatClampNeg by omega)]; simp [heardF, show nI 26 = 26 from rfl, h1, h4, h5]; done), rfl, rfl⟩
    · refine Z.bipush (v := 40) dX7_soundOfLetter_54 (by decide) ?_
      refine Z.iload_n dX7_soundOfLetter_56 rfl ?_
      refine Z.iaddN (a := 40) (b := (I 46 (40 * j + k)).toNatClampNeg) dX7_soundOfLetter_57 ?_
      exact Z.iret dX7_soundOfLetter_58 rfl ⟨by show _ = some (Value.int (heardF (I 36) (I 37) (I 46 (40 * j + k)).toNatClampNeg (if k + 1 < (I 45 j).toNatClampNeg then (I 46 (40 * j + k + 1)).toNatClampNeg else 26))); first | (rw [if_pos (show k + 1 < (I 45 j).toNatClampNeg by omega)]; simp [heardF, h1, h4]; done) | (rw [if_neg (show ¬ k + 1 < (I 45 j).toNatClampNeg by omega)]; simp [heardF, show nI 26 = 26 from rfl, h1, h4]; done), rfl, rfl⟩

set_option maxHeartbeats 4000000 in
set_option maxRecDepth 100000 in
theorem lp_soundsIntoA {g : GP} {I J : IM} {S : SH} (hE : Ex I J) (j : Nat) (hF : Fx S) (hM : MIv I) (hj : j < 120) : ∀ i, i ≤ (I 45 j).toNatClampNeg → Z g 1 0 0 mX7_soundsInto 5 [.ref 35, .int (nI j), .ref 53, .int (nI ((siU (I 36) (I 37) (wM I j) (I 45 j).toNatClampNeg (J 53) i).1)), .int (nI i), .retAddr 0] [] (va_up J 53 ((siU (I 36) (I 37) (wM I j) (I 45 j).toNatClampNeg (J 53) i).2)) S (PQ (.int (nI (siU (I 36) (I 37) (wM I j) (I 45 j).toNatClampNeg (J 53) (I 45 j).toNatClampNeg).1)) (va_up J 53 (siU (I 36) (I 37) (wM I j) (I 45 j).toNatClampNeg (J 53) (I 45 j).toNatClampNeg).2) S) := by
  refine upZ ((I 45 j).toNatClampNeg) (fun i hi ih => ?_)
  have hl := hM.2.2.1 j hj
  have hl2 := hl.2
  have hle : (siU (I 36) (I 37) (wM I j) (I 45 j).toNatClampNeg (J 53) i).1 ≤ i := siU_le i
  refine Z.iload dX7_soundsInto_5 rfl ?_
  refine Z.aload_n dX7_soundsInto_7 rfl ?_
  refine Z.getR (r := 45) dX7_soundsInto_8 cl7 flX7_37 (by decide) (fx35 hF) rfl ?_
  refine Z.iload_n dX7_soundsInto_11 rfl ?_
  refine Z.ialdv (j := j) (v := nI ((I 45 j).toNatClampNeg)) dX7_soundsInto_12 (fx45 hF) rfl (by omega) (by decide) ((hE.at 45 j rfl).trans hl.1) ?_
  refine Z.icmp_geN (a := i) (b := (I 45 j).toNatClampNeg) (by omega) (by omega) (tgt := 44) dX7_soundsInto_13 (by decide) (fun h1 => ?_) (fun h1 => ?_)
  · refine Z.iload_n dX7_soundsInto_44 rfl ?_
    exact Z.iret dX7_soundsInto_45 rfl ⟨by rw [show i = (I 45 j).toNatClampNeg by omega], by rw [show i = (I 45 j).toNatClampNeg by omega], rfl⟩
  · refine Z.aload_n dX7_soundsInto_16 rfl ?_
    refine Z.iload_n dX7_soundsInto_17 rfl ?_
    refine Z.iload dX7_soundsInto_18 rfl ?_
    refine Z.callVp (M := mX7_soundsInto) (pc := 20) (st := []) (N := mX7_soundOfLetter) (n := 2) (r := .int (soG (I 36) (I 37) (wM I j) (I 45 j).toNatClampNeg i)) dX7_soundsInto_20 mlX7_118 mkX7_soundOfLetter imX7_soundOfLetter seX7_soundOfLetter (fx35 hF) cl7 rfl (d1 := 0) (by decide) (As := [.int (nI j), .int (nI i)]) rfl ⟨rfl, Nat.le_of_ble_eq_true rfl⟩ ⟨rfl, Nat.le_of_ble_eq_true rfl⟩ (ct_soundOfLetter (hE.up (a := 53) rfl) j i hF hM (by omega) (by omega)) rfl ?_
    refine Z.istore (L' := [.ref 35, .int (nI j), .ref 53, .int (nI ((siU (I 36) (I 37) (wM I j) (I 45 j).toNatClampNeg (J 53) i).1)), .int (nI i), .int (soG (I 36) (I 37) (wM I j) (I 45 j).toNatClampNeg i)]) dX7_soundsInto_23 (Nat.le_of_ble_eq_true rfl) rfl ?_
    refine Z.iload dX7_soundsInto_25 rfl ?_
    refine Z.if_lt (tgt := 38) dX7_soundsInto_27 (by decide) (fun h2 => ?_) (fun h2 => ?_)
    · refine Z.iinc (v := nI (i + 1)) (L' := [.ref 35, .int (nI j), .ref 53, .int (nI ((siU (I 36) (I 37) (wM I j) (I 45 j).toNatClampNeg (J 53) i).1)), .int (nI (i + 1)), .int (soG (I 36) (I 37) (wM I j) (I 45 j).toNatClampNeg i)]) dX7_soundsInto_38 rfl (nI_1 _) rfl ?_
      refine Z.goto (tgt := 5) dX7_soundsInto_41 (by decide) ?_
      refine Z.drop (i := 5) (L' := [.ref 35, .int (nI j), .ref 53, .int (nI ((siU (I 36) (I 37) (wM I j) (I 45 j).toNatClampNeg (J 53) i).1)), .int (nI (i + 1)), .retAddr 0]) rfl ?_
      have e := ih (by omega)
      rw [show siU (I 36) (I 37) (wM I j) (I 45 j).toNatClampNeg (J 53) (i + 1) = siU (I 36) (I 37) (wM I j) (I 45 j).toNatClampNeg (J 53) i by simp [siU, h1, h2]] at e
      exact e
    · refine Z.aload_n dX7_soundsInto_30 rfl ?_
      refine Z.iload_n dX7_soundsInto_31 rfl ?_
      refine Z.iload dX7_soundsInto_32 rfl ?_
      refine Z.iast (j := (siU (I 36) (I 37) (wM I j) (I 45 j).toNatClampNeg (J 53) i).1) (x := soG (I 36) (I 37) (wM I j) (I 45 j).toNatClampNeg i) dX7_soundsInto_34 (fx53 hF) rfl (by omega) (by decide) ?_
      refine Z.eqI (bx_uu _ _ _ _) ?_
      refine Z.iinc (v := nI (((siU (I 36) (I 37) (wM I j) (I 45 j).toNatClampNeg (J 53) i).1) + 1)) (L' := [.ref 35, .int (nI j), .ref 53, .int (nI (((siU (I 36) (I 37) (wM I j) (I 45 j).toNatClampNeg (J 53) i).1) + 1)), .int (nI i), .int (soG (I 36) (I 37) (wM I j) (I 45 j).toNatClampNeg i)]) dX7_soundsInto_35 rfl (nI_1 _) rfl ?_
      refine Z.iinc (v := nI (i + 1)) (L' := [.ref 35, .int (nI j), .ref 53, .int (nI (((siU (I 36) (I 37) (wM I j) (I 45 j).toNatClampNeg (J 53) i).1) + 1)), .int (nI (i + 1)), .int (soG (I 36) (I 37) (wM I j) (I 45 j).toNatClampNeg i)]) dX7_soundsInto_38 rfl (nI_1 _) rfl ?_
      refine Z.goto (tgt := 5) dX7_soundsInto_41 (by decide) ?_
      refine Z.drop (i := 5) (L' := [.ref 35, .int (nI j), .ref 53, .int (nI (((siU (I 36) (I 37) (wM I j) (I 45 j).toNatClampNeg (J 53) i).1) + 1)), .int (nI (i + 1)), .retAddr 0]) rfl ?_
      have e := ih (by omega)
      rw [show siU (I 36) (I 37) (wM I j) (I 45 j).toNatClampNeg (J 53) (i + 1) = ((siU (I 36) (I 37) (wM I j) (I 45 j).toNatClampNeg (J 53) i).1 + 1, upd (siU (I 36) (I 37) (wM I j) (I 45 j).toNatClampNeg (J 53) i).2 (siU (I 36) (I 37) (wM I j) (I 45 j).toNatClampNeg (J 53) i).1 (soG (I 36) (I 37) (wM I j) (I 45 j).toNatClampNeg i)) by simp [siU, h1, h2]] at e
      exact e

set_option maxHeartbeats 4000000 in
set_option maxRecDepth 100000 in
theorem ct_soundsIntoA {g : GP} {I J : IM} {S : SH} (hE : Ex I J) (j : Nat) (hF : Fx S) (hM : MIv I) (hj : j < 120) : Z g 1 0 0 mX7_soundsInto 0 (enL mX7_soundsInto [.ref 35, .int (nI j), .ref 53]) [] J S (PQ (.int (nI (siU (I 36) (I 37) (wM I j) (I 45 j).toNatClampNeg (J 53) (I 45 j).toNatClampNeg).1)) (va_up J 53 (siU (I 36) (I 37) (wM I j) (I 45 j).toNatClampNeg (J 53) (I 45 j).toNatClampNeg).2) S) := by
  show Z g 1 0 0 mX7_soundsInto 0 [.ref 35, .int (nI j), .ref 53, .retAddr 0, .retAddr 0, .retAddr 0] [] J S _
  refine Z.iconst (v := 0) dX7_soundsInto_0 (by decide) ?_
  refine Z.istore_n (L' := [.ref 35, .int (nI j), .ref 53, .int 0, .retAddr 0, .retAddr 0]) dX7_soundsInto_1 (Nat.le_of_ble_eq_true rfl) rfl ?_
  refine Z.iconst (v := 0) dX7_soundsInto_2 (by decide) ?_
  refine Z.istore (L' := [.ref 35, .int (nI j), .ref 53, .int 0, .int 0, .retAddr 0]) dX7_soundsInto_3 (Nat.le_of_ble_eq_true rfl) rfl ?_
  refine Z.eqI (up_self (a := 53)).symm ?_
  exact lp_soundsIntoA hE j hF hM hj 0 (Nat.zero_le _)

set_option maxHeartbeats 4000000 in
set_option maxRecDepth 100000 in
theorem lp_soundsIntoB {g : GP} {I J : IM} {S : SH} (hE : Ex I J) (j : Nat) (hF : Fx S) (hM : MIv I) (hj : j < 120) : ∀ i, i ≤ (I 45 j).toNatClampNeg → Z g 1 0 0 mX7_soundsInto 5 [.ref 35, .int (nI j), .ref 54, .int (nI ((siU (I 36) (I 37) (wM I j) (I 45 j).toNatClampNeg (J 54) i).1)), .int (nI i), .retAddr 0] [] (va_up J 54 ((siU (I 36) (I 37) (wM I j) (I 45 j).toNatClampNeg (J 54) i).2)) S (PQ (.int (nI (siU (I 36) (I 37) (wM I j) (I 45 j).toNatClampNeg (J 54) (I 45 j).toNatClampNeg).1)) (va_up J 54 (siU (I 36) (I 37) (wM I j) (I 45 j).toNatClampNeg (J 54) (I 45 j).toNatClampNeg).2) S) := by
  refine upZ ((I 45 j).toNatClampNeg) (fun i hi ih => ?_)
  have hl := hM.2.2.1 j hj
  have hl2 := hl.2
  have hle : (siU (I 36) (I 37) (wM I j) (I 45 j).toNatClampNeg (J 54) i).1 ≤ i := siU_le i
  refine Z.iload dX7_soundsInto_5 rfl ?_
  refine Z.aload_n dX7_soundsInto_7 rfl ?_
  refine Z.getR (r := 45) dX7_soundsInto_8 cl7 flX7_37 (by decide) (fx35 hF) rfl ?_
  refine Z.iload_n dX7_soundsInto_11 rfl ?_
  refine Z.ialdv (j := j) (v := nI ((I 45 j).toNatClampNeg)) dX7_soundsInto_12 (fx45 hF) rfl (by omega) (by decide) ((hE.at 45 j rfl).trans hl.1) ?_
  refine Z.icmp_geN (a := i) (b := (I 45 j).toNatClampNeg) (by omega) (by omega) (tgt := 44) dX7_soundsInto_13 (by decide) (fun h1 => ?_) (fun h1 => ?_)
  · refine Z.iload_n dX7_soundsInto_44 rfl ?_
    exact Z.iret dX7_soundsInto_45 rfl ⟨by rw [show i = (I 45 j).toNatClampNeg by omega], by rw [show i = (I 45 j).toNatClampNeg by omega], rfl⟩
  · refine Z.aload_n dX7_soundsInto_16 rfl ?_
    refine Z.iload_n dX7_soundsInto_17 rfl ?_
    refine Z.iload dX7_soundsInto_18 rfl ?_
    refine Z.callVp (M := mX7_soundsInto) (pc := 20) (st := []) (N := mX7_soundOfLetter) (n := 2) (r := .int (soG (I 36) (I 37) (wM I j) (I 45 j).toNatClampNeg i)) dX7_soundsInto_20 mlX7_118 mkX7_soundOfLetter imX7_soundOfLetter seX7_soundOfLetter (fx35 hF) cl7 rfl (d1 := 0) (by decide) (As := [.int (nI j), .int (nI i)]) rfl ⟨rfl, Nat.le_of_ble_eq_true rfl⟩ ⟨rfl, Nat.le_of_ble_eq_true rfl⟩ (ct_soundOfLetter (hE.up (a := 54) rfl) j i hF hM (by omega) (by omega)) rfl ?_
    refine Z.istore (L' := [.ref 35, .int (nI j), .ref 54, .int (nI ((siU (I 36) (I 37) (wM I j) (I 45 j).toNatClampNeg (J 54) i).1)), .int (nI i), .int (soG (I 36) (I 37) (wM I j) (I 45 j).toNatClampNeg i)]) dX7_soundsInto_23 (Nat.le_of_ble_eq_true rfl) rfl ?_
    refine Z.iload dX7_soundsInto_25 rfl ?_
    refine Z.if_lt (tgt := 38) dX7_soundsInto_27 (by decide) (fun h2 => ?_) (fun h2 => ?_)
    · refine Z.iinc (v := nI (i + 1)) (L' := [.ref 35, .int (nI j), .ref 54, .int (nI ((siU (I 36) (I 37) (wM I j) (I 45 j).toNatClampNeg (J 54) i).1)), .int (nI (i + 1)), .int (soG (I 36) (I 37) (wM I j) (I 45 j).toNatClampNeg i)]) dX7_soundsInto_38 rfl (nI_1 _) rfl ?_
      refine Z.goto (tgt := 5) dX7_soundsInto_41 (by decide) ?_
      refine Z.drop (i := 5) (L' := [.ref 35, .int (nI j), .ref 54, .int (nI ((siU (I 36) (I 37) (wM I j) (I 45 j).toNatClampNeg (J 54) i).1)), .int (nI (i + 1)), .retAddr 0]) rfl ?_
      have e := ih (by omega)
      rw [show siU (I 36) (I 37) (wM I j) (I 45 j).toNatClampNeg (J 54) (i + 1) = siU (I 36) (I 37) (wM I j) (I 45 j).toNatClampNeg (J 54) i by simp [siU, h1, h2]] at e
      exact e
    · refine Z.aload_n dX7_soundsInto_30 rfl ?_
      refine Z.iload_n dX7_soundsInto_31 rfl ?_
      refine Z.iload dX7_soundsInto_32 rfl ?_
      refine Z.iast (j := (siU (I 36) (I 37) (wM I j) (I 45 j).toNatClampNeg (J 54) i).1) (x := soG (I 36) (I 37) (wM I j) (I 45 j).toNatClampNeg i) dX7_soundsInto_34 (fx54 hF) rfl (by omega) (by decide) ?_
      refine Z.eqI (bx_uu _ _ _ _) ?_
      refine Z.iinc (v := nI (((siU (I 36) (I 37) (wM I j) (I 45 j).toNatClampNeg (J 54) i).1) + 1)) (L' := [.ref 35, .int (nI j), .ref 54, .int (nI (((siU (I 36) (I 37) (wM I j) (I 45 j).toNatClampNeg (J 54) i).1) + 1)), .int (nI i), .int (soG (I 36) (I 37) (wM I j) (I 45 j).toNatClampNeg i)]) dX7_soundsInto_35 rfl (nI_1 _) rfl ?_
      refine Z.iinc (v := nI (i + 1)) (L' := [.ref 35, .int (nI j), .ref 54, .int (nI (((siU (I 36) (I 37) (wM I j) (I 45 j).toNatClampNeg (J 54) i).1) + 1)), .int (nI (i + 1)), .int (soG (I 36) (I 37) (wM I j) (I 45 j).toNatClampNeg i)]) dX7_soundsInto_38 rfl (nI_1 _) rfl ?_
      refine Z.goto (tgt := 5) dX7_soundsInto_41 (by decide) ?_
      refine Z.drop (i := 5) (L' := [.ref 35, .int (nI j), .ref 54, .int (nI (((siU (I 36) (I 37) (wM I j) (I 45 j).toNatClampNeg (J 54) i).1) + 1)), .int (nI (i + 1)), .retAddr 0]) rfl ?_
      have e := ih (by omega)
      rw [show siU (I 36) (I 37) (wM I j) (I 45 j).toNatClampNeg (J 54) (i + 1) = ((siU (I 36) (I 37) (wM I j) (I 45 j).toNatClampNeg (J 54) i).1 + 1, upd (siU (I 36) (I 37) (wM I j) (I 45 j).toNatClampNeg (J 54) i).2 (siU (I 36) (I 37) (wM I j) (I 45 j).toNatClampNeg (J 54) i).1 (soG (I 36) (I 37) (wM I j) (I 45 j).toNatClampNeg i)) by simp [siU, h1, h2]] at e
      exact e

set_option maxHeartbeats 4000000 in
set_option maxRecDepth 100000 in
theorem ct_soundsIntoB {g : GP} {I J : IM} {S : SH} (hE : Ex I J) (j : Nat) (hF : Fx S) (hM : MIv I) (hj : j < 120) : Z g 1 0 0 mX7_soundsInto 0 (enL mX7_soundsInto [.ref 35, .int (nI j), .ref 54]) [] J S (PQ (.int (nI (siU (I 36) (I 37) (wM I j) (I 45 j).toNatClampNeg (J 54) (I 45 j).toNatClampNeg).1)) (va_up J 54 (siU (I 36) (I 37) (wM I j) (I 45 j).toNatClampNeg (J 54) (I 45 j).toNatClampNeg).2) S) := by
  show Z g 1 0 0 mX7_soundsInto 0 [.ref 35, .int (nI j), .ref 54, .retAddr 0, .retAddr 0, .retAddr 0] [] J S _
  refine Z.iconst (v := 0) dX7_soundsInto_0 (by decide) ?_
  refine Z.istore_n (L' := [.ref 35, .int (nI j), .ref 54, .int 0, .retAddr 0, .retAddr 0]) dX7_soundsInto_1 (Nat.le_of_ble_eq_true rfl) rfl ?_
  refine Z.iconst (v := 0) dX7_soundsInto_2 (by decide) ?_
  refine Z.istore (L' := [.ref 35, .int (nI j), .ref 54, .int 0, .int 0, .retAddr 0]) dX7_soundsInto_3 (Nat.le_of_ble_eq_true rfl) rfl ?_
  refine Z.eqI (up_self (a := 54)).symm ?_
  exact lp_soundsIntoB hE j hF hM hj 0 (Nat.zero_le _)

set_option maxHeartbeats 4000000 in
set_option maxRecDepth 100000 in
theorem lp_costIn {g : GP} {I J : IM} {S : SH} (hE : Ex I J) (x1 x2 : Int32) (fA fB : Nat → Int32) {na nb : Nat} (hna : na ≤ 40) (hnb : nb ≤ 40) (hA : ∀ i, i < na → rg (fA i) 65) (hB : ∀ j, j < nb → rg (fB j) 65) (hF : Fx S) (hM : MIv I) (i : Nat) (hi : i ≤ na) (hk : ∀ T, Fl (DD fA fB (I 39) (I 38)) na nb (i + 1) 0 T → Z g 2 0 0 mX7_costOf 31 [.ref 35, .int x1, .int x2, .int (nI na), .int (nI nb), .int (nI (i + 1)), .retAddr 0, .retAddr 0, .retAddr 0] [] (va_up (va_up (va_up J 53 fA) 54 fB) 55 T) S (NQ (.int (DD fA fB (I 39) (I 38) na nb)) I S)) : ∀ j, j ≤ nb + 1 → ∀ T, Fl (DD fA fB (I 39) (I 38)) na nb i j T → Z g 2 0 0 mX7_costOf 40 [.ref 35, .int x1, .int x2, .int (nI na), .int (nI nb), .int (nI i), .int (nI j), .retAddr 0, .retAddr 0] [] (va_up (va_up (va_up J 53 fA) 54 fB) 55 T) S (NQ (.int (DD fA fB (I 39) (I 38) na nb)) I S) := by
  refine upZ (nb + 1) (fun j hj ih T hT => ?_)
  refine Z.iload dX7_costOf_40 rfl ?_
  refine Z.iload dX7_costOf_42 rfl ?_
  refine Z.icmp_gtN (a := j) (b := nb) (by omega) (by omega) (tgt := 248) dX7_costOf_44 (by decide) (fun h1 => ?_) (fun h1 => ?_)
  · refine Z.iinc (v := nI (i + 1)) (L' := [.ref 35, .int x1, .int x2, .int (nI na), .int (nI nb), .int (nI (i + 1)), .int (nI j), .retAddr 0, .retAddr 0]) dX7_costOf_248 rfl (nI_1 _) rfl ?_
    refine Z.goto (tgt := 31) dX7_costOf_251 (by decide) ?_
    refine Z.drop (i := 6) (L' := [.ref 35, .int x1, .int x2, .int (nI na), .int (nI nb), .int (nI (i + 1)), .retAddr 0, .retAddr 0, .retAddr 0]) rfl ?_
    exact hk T (Fl_row (by rw [show j = nb + 1 by omega] at hT; exact hT))
  · refine Z.iload dX7_costOf_47 rfl ?_
    refine Z.if_neN (a := i) (by omega) (tgt := 60) dX7_costOf_49 (by decide) (fun h2 => ?_) (fun h2 => ?_)
    · refine Z.ldc (v := 2147483647) dX7_costOf_60 cnX7_125 ?_
      refine Z.istore (L' := [.ref 35, .int x1, .int x2, .int (nI na), .int (nI nb), .int (nI i), .int (nI j), .int 2147483647, .retAddr 0]) dX7_costOf_62 (Nat.le_of_ble_eq_true rfl) rfl ?_
      refine Z.iload dX7_costOf_64 rfl ?_
      refine Z.if_leN (a := i) (by omega) (tgt := 101) dX7_costOf_66 (by decide) (fun h3 => absurd h3 (by omega)) (fun h3 => ?_)
      have hA1 := (hA (i - 1) (by omega)).2
      refine Z.aload_n dX7_costOf_69 rfl ?_
      refine Z.getR (r := 55) dX7_costOf_70 cl7 flX7_67 (by decide) (fx35 hF) rfl ?_
      refine Z.bipush (v := 41) dX7_costOf_73 (by decide) ?_
      refine Z.iload dX7_costOf_75 rfl ?_
      refine Z.iconst (v := 1) dX7_costOf_77 (by decide) ?_
      refine Z.isubN (a := i) (b := 1) (by omega) dX7_costOf_78 ?_
      refine Z.imulN (a := 41) (b := i - 1) dX7_costOf_79 ?_
      refine Z.iload dX7_costOf_80 rfl ?_
      refine Z.iaddN (a := 41 * (i - 1)) (b := j) dX7_costOf_82 ?_
      refine Z.ialdv (j := (41 * (i - 1)) + j) (v := DD fA fB (I 39) (I 38) (i - 1) j) dX7_costOf_83 (fx55 hF) rfl (by omega) (by decide) (hT.2 (i - 1) j (by omega) (by omega) (by omega)) ?_
      refine Z.aload_n dX7_costOf_84 rfl ?_
      refine Z.getR (r := 39) dX7_costOf_85 cl7 flX7_19 (by decide) (fx35 hF) rfl ?_
      refine Z.aload_n dX7_costOf_88 rfl ?_
      refine Z.getR (r := 53) dX7_costOf_89 cl7 flX7_61 (by decide) (fx35 hF) rfl ?_
      refine Z.iload dX7_costOf_92 rfl ?_
      refine Z.iconst (v := 1) dX7_costOf_94 (by decide) ?_
      refine Z.isubN (a := i) (b := 1) (by omega) dX7_costOf_95 ?_
      refine Z.ialdv (j := i - 1) (v := nI ((fA (i - 1)).toNatClampNeg)) dX7_costOf_96 (fx53 hF) rfl (by omega) (by decide) (hA (i - 1) (by omega)).1 ?_
      refine Z.ialdv (j := (fA (i - 1)).toNatClampNeg) (v := I 39 ((fA (i - 1)).toNatClampNeg)) dX7_costOf_97 (fx39 hF) rfl (by omega) (by decide) (hE.at 39 ((fA (i - 1)).toNatClampNeg) rfl) ?_
      refine Z.iadd dX7_costOf_98 ?_
      refine Z.istore (L' := [.ref 35, .int x1, .int x2, .int (nI na), .int (nI nb), .int (nI i), .int (nI j), .int ((DD fA fB (I 39) (I 38) (i - 1) j) + (I 39 ((fA (i - 1)).toNatClampNeg))), .retAddr 0]) dX7_costOf_99 (Nat.le_of_ble_eq_true rfl) rfl ?_
      refine Z.iload dX7_costOf_101 rfl ?_
      refine Z.if_leN (a := j) (by omega) (tgt := 154) dX7_costOf_103 (by decide) (fun h4 => ?_) (fun h4 => ?_)
      · refine Z.iload dX7_costOf_154 rfl ?_
        refine Z.if_leN (a := i) (by omega) (tgt := 227) dX7_costOf_156 (by decide) (fun h5 => absurd h5 (by omega)) (fun h5 => ?_)
        refine Z.iload dX7_costOf_159 rfl ?_
        refine Z.if_leN (a := j) (by omega) (tgt := 227) dX7_costOf_161 (by decide) (fun h6 => ?_) (fun h6 => absurd h6 (by omega))
        refine Z.aload_n dX7_costOf_227 rfl ?_
        refine Z.getR (r := 55) dX7_costOf_228 cl7 flX7_67 (by decide) (fx35 hF) rfl ?_
        refine Z.bipush (v := 41) dX7_costOf_231 (by decide) ?_
        refine Z.iload dX7_costOf_233 rfl ?_
        refine Z.imulN (a := 41) (b := i) dX7_costOf_235 ?_
        refine Z.iload dX7_costOf_236 rfl ?_
        refine Z.iaddN (a := 41 * i) (b := j) dX7_costOf_238 ?_
        refine Z.iload dX7_costOf_239 rfl ?_
        refine Z.iast (j := (41 * i) + j) (x := (DD fA fB (I 39) (I 38) (i - 1) j) + (I 39 ((fA (i - 1)).toNatClampNeg))) dX7_costOf_241 (fx55 hF) rfl (by omega) (by decide) ?_
        refine Z.eqI (bx_uu _ _ _ _) ?_
        refine Z.iinc (v := nI (j + 1)) (L' := [.ref 35, .int x1, .int x2, .int (nI na), .int (nI nb), .int (nI i), .int (nI (j + 1)), .int ((DD fA fB (I 39) (I 38) (i - 1) j) + (I 39 ((fA (i - 1)).toNatClampNeg))), .retAddr 0]) dX7_costOf_242 rfl (nI_1 _) rfl ?_
        refine Z.goto (tgt := 40) dX7_costOf_245 (by decide) ?_
        refine Z.drop (i := 7) (L' := [.ref 35, .int x1, .int x2, .int (nI na), .int (nI nb), .int (nI i), .int (nI (j + 1)), .retAddr 0, .retAddr 0]) rfl ?_
        have hz : j = 0 := by omega
        exact ih (by omega) _ (Fl_up hT hnb (by omega) (by omega) (by rw [hz, DD_p0 (by omega)]))
      · have hB1 := (hB (j - 1) (by omega)).2
        refine Z.aload_n dX7_costOf_106 rfl ?_
        refine Z.getR (r := 55) dX7_costOf_107 cl7 flX7_67 (by decide) (fx35 hF) rfl ?_
        refine Z.bipush (v := 41) dX7_costOf_110 (by decide) ?_
        refine Z.iload dX7_costOf_112 rfl ?_
        refine Z.imulN (a := 41) (b := i) dX7_costOf_114 ?_
        refine Z.iload dX7_costOf_115 rfl ?_
        refine Z.iaddN (a := 41 * i) (b := j) dX7_costOf_117 ?_
        refine Z.iconst (v := 1) dX7_costOf_118 (by decide) ?_
        refine Z.isubN (a := (41 * i) + j) (b := 1) (by omega) dX7_costOf_119 ?_
        refine Z.ialdv (j := ((41 * i) + j) - 1) (v := DD fA fB (I 39) (I 38) i (j - 1)) dX7_costOf_120 (fx55 hF) rfl (by omega) (by decide) (by rw [show ((41 * i) + j) - 1 = 41 * i + (j - 1) by omega]; exact hT.2 i (j - 1) (by omega) (by omega) (by omega)) ?_
        refine Z.aload_n dX7_costOf_121 rfl ?_
        refine Z.getR (r := 39) dX7_costOf_122 cl7 flX7_19 (by decide) (fx35 hF) rfl ?_
        refine Z.aload_n dX7_costOf_125 rfl ?_
        refine Z.getR (r := 54) dX7_costOf_126 cl7 flX7_64 (by decide) (fx35 hF) rfl ?_
        refine Z.iload dX7_costOf_129 rfl ?_
        refine Z.iconst (v := 1) dX7_costOf_131 (by decide) ?_
        refine Z.isubN (a := j) (b := 1) (by omega) dX7_costOf_132 ?_
        refine Z.ialdv (j := j - 1) (v := nI ((fB (j - 1)).toNatClampNeg)) dX7_costOf_133 (fx54 hF) rfl (by omega) (by decide) (hB (j - 1) (by omega)).1 ?_
        refine Z.ialdv (j := (fB (j - 1)).toNatClampNeg) (v := I 39 ((fB (j - 1)).toNatClampNeg)) dX7_costOf_134 (fx39 hF) rfl (by omega) (by decide) (hE.at 39 ((fB (j - 1)).toNatClampNeg) rfl) ?_
        refine Z.iadd dX7_costOf_135 ?_
        refine Z.istore (L' := [.ref 35, .int x1, .int x2, .int (nI na), .int (nI nb), .int (nI i), .int (nI j), .int ((DD fA fB (I 39) (I 38) (i - 1) j) + (I 39 ((fA (i - 1)).toNatClampNeg))), .int ((DD fA fB (I 39) (I 38) i (j - 1)) + (I 39 ((fB (j - 1)).toNatClampNeg)))]) dX7_costOf_136 (Nat.le_of_ble_eq_true rfl) rfl ?_
        refine Z.iload dX7_costOf_138 rfl ?_
        refine Z.iload dX7_costOf_140 rfl ?_
        refine Z.icmp_ge (tgt := 150) dX7_costOf_142 (by decide) (fun h7 => ?_) (fun h7 => ?_)
        · refine Z.iload dX7_costOf_150 rfl ?_
          refine Z.istore (L' := [.ref 35, .int x1, .int x2, .int (nI na), .int (nI nb), .int (nI i), .int (nI j), .int ((DD fA fB (I 39) (I 38) (i - 1) j) + (I 39 ((fA (i - 1)).toNatClampNeg))), .int ((DD fA fB (I 39) (I 38) i (j - 1)) + (I 39 ((fB (j - 1)).toNatClampNeg)))]) dX7_costOf_152 (Nat.le_of_ble_eq_true rfl) rfl ?_
          refine Z.iload dX7_costOf_154 rfl ?_
          refine Z.if_leN (a := i) (by omega) (tgt := 227) dX7_costOf_156 (by decide) (fun h8 => absurd h8 (by omega)) (fun h8 => ?_)
          refine Z.iload dX7_costOf_159 rfl ?_
          refine Z.if_leN (a := j) (by omega) (tgt := 227) dX7_costOf_161 (by decide) (fun h9 => absurd h9 (by omega)) (fun h9 => ?_)
          refine Z.aload_n dX7_costOf_164 rfl ?_
          refine Z.getR (r := 55) dX7_costOf_165 cl7 flX7_67 (by decide) (fx35 hF) rfl ?_
          refine Z.bipush (v := 41) dX7_costOf_168 (by decide) ?_
          refine Z.iload dX7_costOf_170 rfl ?_
          refine Z.iconst (v := 1) dX7_costOf_172 (by decide) ?_
          refine Z.isubN (a := i) (b := 1) (by omega) dX7_costOf_173 ?_
          refine Z.imulN (a := 41) (b := i - 1) dX7_costOf_174 ?_
          refine Z.iload dX7_costOf_175 rfl ?_
          refine Z.iaddN (a := 41 * (i - 1)) (b := j) dX7_costOf_177 ?_
          refine Z.iconst (v := 1) dX7_costOf_178 (by decide) ?_
          refine Z.isubN (a := (41 * (i - 1)) + j) (b := 1) (by omega) dX7_costOf_179 ?_
          refine Z.ialdv (j := ((41 * (i - 1)) + j) - 1) (v := DD fA fB (I 39) (I 38) (i - 1) (j - 1)) dX7_costOf_180 (fx55 hF) rfl (by omega) (by decide) (by rw [show ((41 * (i - 1)) + j) - 1 = 41 * (i - 1) + (j - 1) by omega]; exact hT.2 (i - 1) (j - 1) (by omega) (by omega) (by omega)) ?_
          refine Z.aload_n dX7_costOf_181 rfl ?_
          refine Z.getR (r := 38) dX7_costOf_182 cl7 flX7_16 (by decide) (fx35 hF) rfl ?_
          refine Z.bipush (v := 66) dX7_costOf_185 (by decide) ?_
          refine Z.aload_n dX7_costOf_187 rfl ?_
          refine Z.getR (r := 53) dX7_costOf_188 cl7 flX7_61 (by decide) (fx35 hF) rfl ?_
          refine Z.iload dX7_costOf_191 rfl ?_
          refine Z.iconst (v := 1) dX7_costOf_193 (by decide) ?_
          refine Z.isubN (a := i) (b := 1) (by omega) dX7_costOf_194 ?_
          refine Z.ialdv (j := i - 1) (v := nI ((fA (i - 1)).toNatClampNeg)) dX7_costOf_195 (fx53 hF) rfl (by omega) (by decide) (hA (i - 1) (by omega)).1 ?_
          refine Z.imulN (a := 66) (b := (fA (i - 1)).toNatClampNeg) dX7_costOf_196 ?_
          refine Z.aload_n dX7_costOf_197 rfl ?_
          refine Z.getR (r := 54) dX7_costOf_198 cl7 flX7_64 (by decide) (fx35 hF) rfl ?_
          refine Z.iload dX7_costOf_201 rfl ?_
          refine Z.iconst (v := 1) dX7_costOf_203 (by decide) ?_
          refine Z.isubN (a := j) (b := 1) (by omega) dX7_costOf_204 ?_
          refine Z.ialdv (j := j - 1) (v := nI ((fB (j - 1)).toNatClampNeg)) dX7_costOf_205 (fx54 hF) rfl (by omega) (by decide) (hB (j - 1) (by omega)).1 ?_
          refine Z.iaddN (a := 66 * ((fA (i - 1)).toNatClampNeg)) (b := (fB (j - 1)).toNatClampNeg) dX7_costOf_206 ?_
          refine Z.ialdv (j := (66 * ((fA (i - 1)).toNatClampNeg)) + ((fB (j - 1)).toNatClampNeg)) (v := I 38 ((66 * ((fA (i - 1)).toNatClampNeg)) + ((fB (j - 1)).toNatClampNeg))) dX7_costOf_207 (fx38 hF) rfl (by omega) (by decide) (hE.at 38 ((66 * ((fA (i - 1)).toNatClampNeg)) + ((fB (j - 1)).toNatClampNeg)) rfl) ?_
          refine Z.iadd dX7_costOf_208 ?_
          refine Z.istore (L' := [.ref 35, .int x1, .int x2, .int (nI na), .int (nI nb), .int (nI i), .int (nI j), .int ((DD fA fB (I 39) (I 38) (i - 1) j) + (I 39 ((fA (i - 1)).toNatClampNeg))), .int ((DD fA fB (I 39) (I 38) (i - 1) (j - 1)) + (I 38 ((66 * ((fA (i - 1)).toNatClampNeg)) + ((fB (j - 1)).toNatClampNeg))))]) dX7_costOf_209 (Nat.le_of_ble_eq_true rfl) rfl ?_
          refine Z.iload dX7_costOf_211 rfl ?_
          refine Z.iload dX7_costOf_213 rfl ?_
          refine Z.icmp_ge (tgt := 223) dX7_costOf_215 (by decide) (fun h10 => ?_) (fun h10 => ?_)
          · refine Z.iload dX7_costOf_223 rfl ?_
            refine Z.istore (L' := [.ref 35, .int x1, .int x2, .int (nI na), .int (nI nb), .int (nI i), .int (nI j), .int ((DD fA fB (I 39) (I 38) (i - 1) j) + (I 39 ((fA (i - 1)).toNatClampNeg))), .int ((DD fA fB (I 39) (I 38) (i - 1) (j - 1)) + (I 38 ((66 * ((fA (i - 1)).toNatClampNeg)) + ((fB (j - 1)).toNatClampNeg))))]) dX7_costOf_225 (Nat.le_of_ble_eq_true rfl) rfl ?_
            refine Z.aload_n dX7_costOf_227 rfl ?_
            refine Z.getR (r := 55) dX7_costOf_228 cl7 flX7_67 (by decide) (fx35 hF) rfl ?_
            refine Z.bipush (v := 41) dX7_costOf_231 (by decide) ?_
            refine Z.iload dX7_costOf_233 rfl ?_
            refine Z.imulN (a := 41) (b := i) dX7_costOf_235 ?_
            refine Z.iload dX7_costOf_236 rfl ?_
            refine Z.iaddN (a := 41 * i) (b := j) dX7_costOf_238 ?_
            refine Z.iload dX7_costOf_239 rfl ?_
            refine Z.iast (j := (41 * i) + j) (x := (DD fA fB (I 39) (I 38) (i - 1) j) + (I 39 ((fA (i - 1)).toNatClampNeg))) dX7_costOf_241 (fx55 hF) rfl (by omega) (by decide) ?_
            refine Z.eqI (bx_uu _ _ _ _) ?_
            refine Z.iinc (v := nI (j + 1)) (L' := [.ref 35, .int x1, .int x2, .int (nI na), .int (nI nb), .int (nI i), .int (nI (j + 1)), .int ((DD fA fB (I 39) (I 38) (i - 1) j) + (I 39 ((fA (i - 1)).toNatClampNeg))), .int ((DD fA fB (I 39) (I 38) (i - 1) (j - 1)) + (I 38 ((66 * ((fA (i - 1)).toNatClampNeg)) + ((fB (j - 1)).toNatClampNeg))))]) dX7_costOf_242 rfl (nI_1 _) rfl ?_
            refine Z.goto (tgt := 40) dX7_costOf_245 (by decide) ?_
            refine Z.drop (i := 7) (L' := [.ref 35, .int x1, .int x2, .int (nI na), .int (nI nb), .int (nI i), .int (nI (j + 1)), .retAddr 0, .int ((DD fA fB (I 39) (I 38) (i - 1) (j - 1)) + (I 38 ((66 * ((fA (i - 1)).toNatClampNeg)) + ((fB (j - 1)).toNatClampNeg))))]) rfl ?_
            refine Z.drop (i := 8) (L' := [.ref 35, .int x1, .int x2, .int (nI na), .int (nI nb), .int (nI i), .int (nI (j + 1)), .retAddr 0, .retAddr 0]) rfl ?_
            exact ih (by omega) _ (Fl_up hT hnb (by omega) (by omega) (by rw [DD_pp (by omega) (by omega)]; simp [dmn, h7, h10]))
          · refine Z.iload dX7_costOf_218 rfl ?_
            refine Z.goto (tgt := 225) dX7_costOf_220 (by decide) ?_
            refine Z.istore (L' := [.ref 35, .int x1, .int x2, .int (nI na), .int (nI nb), .int (nI i), .int (nI j), .int ((DD fA fB (I 39) (I 38) (i - 1) (j - 1)) + (I 38 ((66 * ((fA (i - 1)).toNatClampNeg)) + ((fB (j - 1)).toNatClampNeg)))), .int ((DD fA fB (I 39) (I 38) (i - 1) (j - 1)) + (I 38 ((66 * ((fA (i - 1)).toNatClampNeg)) + ((fB (j - 1)).toNatClampNeg))))]) dX7_costOf_225 (Nat.le_of_ble_eq_true rfl) rfl ?_
            refine Z.aload_n dX7_costOf_227 rfl ?_
            refine Z.getR (r := 55) dX7_costOf_228 cl7 flX7_67 (by decide) (fx35 hF) rfl ?_
            refine Z.bipush (v := 41) dX7_costOf_231 (by decide) ?_
            refine Z.iload dX7_costOf_233 rfl ?_
            refine Z.imulN (a := 41) (b := i) dX7_costOf_235 ?_
            refine Z.iload dX7_costOf_236 rfl ?_
            refine Z.iaddN (a := 41 * i) (b := j) dX7_costOf_238 ?_
            refine Z.iload dX7_costOf_239 rfl ?_
            refine Z.iast (j := (41 * i) + j) (x := (DD fA fB (I 39) (I 38) (i - 1) (j - 1)) + (I 38 ((66 * ((fA (i - 1)).toNatClampNeg)) + ((fB (j - 1)).toNatClampNeg)))) dX7_costOf_241 (fx55 hF) rfl (by omega) (by decide) ?_
            refine Z.eqI (bx_uu _ _ _ _) ?_
            refine Z.iinc (v := nI (j + 1)) (L' := [.ref 35, .int x1, .int x2, .int (nI na), .int (nI nb), .int (nI i), .int (nI (j + 1)), .int ((DD fA fB (I 39) (I 38) (i - 1) (j - 1)) + (I 38 ((66 * ((fA (i - 1)).toNatClampNeg)) + ((fB (j - 1)).toNatClampNeg)))), .int ((DD fA fB (I 39) (I 38) (i - 1) (j - 1)) + (I 38 ((66 * ((fA (i - 1)).toNatClampNeg)) + ((fB (j - 1)).toNatClampNeg))))]) dX7_costOf_242 rfl (nI_1 _) rfl ?_
            refine Z.goto (tgt := 40) dX7_costOf_245 (by decide) ?_
            refine Z.drop (i := 7) (L' := [.ref 35, .int x1, .int x2, .int (nI na), .int (nI nb), .int (nI i), .int (nI (j + 1)), .retAddr 0, .int ((DD fA fB (I 39) (I 38) (i - 1) (j - 1)) + (I 38 ((66 * ((fA (i - 1)).toNatClampNeg)) + ((fB (j - 1)).toNatClampNeg))))]) rfl ?_
            refine Z.drop (i := 8) (L' := [.ref 35, .int x1, .int x2, .int (nI na), .int (nI nb), .int (nI i), .int (nI (j + 1)), .retAddr 0, .retAddr 0]) rfl ?_
            exact ih (by omega) _ (Fl_up hT hnb (by omega) (by omega) (by rw [DD_pp (by omega) (by omega)]; simp [dmn, h7, h10]))
        · refine Z.iload dX7_costOf_145 rfl ?_
          refine Z.goto (tgt := 152) dX7_costOf_147 (by decide) ?_
          refine Z.istore (L' := [.ref 35, .int x1, .int x2, .int (nI na), .int (nI nb), .int (nI i), .int (nI j), .int ((DD fA fB (I 39) (I 38) i (j - 1)) + (I 39 ((fB (j - 1)).toNatClampNeg))), .int ((DD fA fB (I 39) (I 38) i (j - 1)) + (I 39 ((fB (j - 1)).toNatClampNeg)))]) dX7_costOf_152 (Nat.le_of_ble_eq_true rfl) rfl ?_
          refine Z.iload dX7_costOf_154 rfl ?_
          refine Z.if_leN (a := i) (by omega) (tgt := 227) dX7_costOf_156 (by decide) (fun h11 => absurd h11 (by omega)) (fun h11 => ?_)
          refine Z.iload dX7_costOf_159 rfl ?_
          refine Z.if_leN (a := j) (by omega) (tgt := 227) dX7_costOf_161 (by decide) (fun h12 => absurd h12 (by omega)) (fun h12 => ?_)
          refine Z.aload_n dX7_costOf_164 rfl ?_
          refine Z.getR (r := 55) dX7_costOf_165 cl7 flX7_67 (by decide) (fx35 hF) rfl ?_
          refine Z.bipush (v := 41) dX7_costOf_168 (by decide) ?_
          refine Z.iload dX7_costOf_170 rfl ?_
          refine Z.iconst (v := 1) dX7_costOf_172 (by decide) ?_
          refine Z.isubN (a := i) (b := 1) (by omega) dX7_costOf_173 ?_
          refine Z.imulN (a := 41) (b := i - 1) dX7_costOf_174 ?_
          refine Z.iload dX7_costOf_175 rfl ?_
          refine Z.iaddN (a := 41 * (i - 1)) (b := j) dX7_costOf_177 ?_
          refine Z.iconst (v := 1) dX7_costOf_178 (by decide) ?_
          refine Z.isubN (a := (41 * (i - 1)) + j) (b := 1) (by omega) dX7_costOf_179 ?_
          refine Z.ialdv (j := ((41 * (i - 1)) + j) - 1) (v := DD fA fB (I 39) (I 38) (i - 1) (j - 1)) dX7_costOf_180 (fx55 hF) rfl (by omega) (by decide) (by rw [show ((41 * (i - 1)) + j) - 1 = 41 * (i - 1) + (j - 1) by omega]; exact hT.2 (i - 1) (j - 1) (by omega) (by omega) (by omega)) ?_
          refine Z.aload_n dX7_costOf_181 rfl ?_
          refine Z.getR (r := 38) dX7_costOf_182 cl7 flX7_16 (by decide) (fx35 hF) rfl ?_
          refine Z.bipush (v := 66) dX7_costOf_185 (by decide) ?_
          refine Z.aload_n dX7_costOf_187 rfl ?_
          refine Z.getR (r := 53) dX7_costOf_188 cl7 flX7_61 (by decide) (fx35 hF) rfl ?_
          refine Z.iload dX7_costOf_191 rfl ?_
          refine Z.iconst (v := 1) dX7_costOf_193 (by decide) ?_
          refine Z.isubN (a := i) (b := 1) (by omega) dX7_costOf_194 ?_
          refine Z.ialdv (j := i - 1) (v := nI ((fA (i - 1)).toNatClampNeg)) dX7_costOf_195 (fx53 hF) rfl (by omega) (by decide) (hA (i - 1) (by omega)).1 ?_
          refine Z.imulN (a := 66) (b := (fA (i - 1)).toNatClampNeg) dX7_costOf_196 ?_
          refine Z.aload_n dX7_costOf_197 rfl ?_
          refine Z.getR (r := 54) dX7_costOf_198 cl7 flX7_64 (by decide) (fx35 hF) rfl ?_
          refine Z.iload dX7_costOf_201 rfl ?_
          refine Z.iconst (v := 1) dX7_costOf_203 (by decide) ?_
          refine Z.isubN (a := j) (b := 1) (by omega) dX7_costOf_204 ?_
          refine Z.ialdv (j := j - 1) (v := nI ((fB (j - 1)).toNatClampNeg)) dX7_costOf_205 (fx54 hF) rfl (by omega) (by decide) (hB (j - 1) (by omega)).1 ?_
          refine Z.iaddN (a := 66 * ((fA (i - 1)).toNatClampNeg)) (b := (fB (j - 1)).toNatClampNeg) dX7_costOf_206 ?_
          refine Z.ialdv (j := (66 * ((fA (i - 1)).toNatClampNeg)) + ((fB (j - 1)).toNatClampNeg)) (v := I 38 ((66 * ((fA (i - 1)).toNatClampNeg)) + ((fB (j - 1)).toNatClampNeg))) dX7_costOf_207 (fx38 hF) rfl (by omega) (by decide) (hE.at 38 ((66 * ((fA (i - 1)).toNatClampNeg)) + ((fB (j - 1)).toNatClampNeg)) rfl) ?_
          refine Z.iadd dX7_costOf_208 ?_
          refine Z.istore (L' := [.ref 35, .int x1, .int x2, .int (nI na), .int (nI nb), .int (nI i), .int (nI j), .int ((DD fA fB (I 39) (I 38) i (j - 1)) + (I 39 ((fB (j - 1)).toNatClampNeg))), .int ((DD fA fB (I 39) (I 38) (i - 1) (j - 1)) + (I 38 ((66 * ((fA (i - 1)).toNatClampNeg)) + ((fB (j - 1)).toNatClampNeg))))]) dX7_costOf_209 (Nat.le_of_ble_eq_true rfl) rfl ?_
          refine Z.iload dX7_costOf_211 rfl ?_
          refine Z.iload dX7_costOf_213 rfl ?_
          refine Z.icmp_ge (tgt := 223) dX7_costOf_215 (by decide) (fun h13 => ?_) (fun h13 => ?_)
          · refine Z.iload dX7_costOf_223 rfl ?_
            refine Z.istore (L' := [.ref 35, .int x1, .int x2, .int (nI na), .int (nI nb), .int (nI i), .int (nI j), .int ((DD fA fB (I 39) (I 38) i (j - 1)) + (I 39 ((fB (j - 1)).toNatClampNeg))), .int ((DD fA fB (I 39) (I 38) (i - 1) (j - 1)) + (I 38 ((66 * ((fA (i - 1)).toNatClampNeg)) + ((fB (j - 1)).toNatClampNeg))))]) dX7_costOf_225 (Nat.le_of_ble_eq_true rfl) rfl ?_
            refine Z.aload_n dX7_costOf_227 rfl ?_
            refine Z.getR (r := 55) dX7_costOf_228 cl7 flX7_67 (by decide) (fx35 hF) rfl ?_
            refine Z.bipush (v := 41) dX7_costOf_231 (by decide) ?_
            refine Z.iload dX7_costOf_233 rfl ?_
            refine Z.imulN (a := 41) (b := i) dX7_costOf_235 ?_
            refine Z.iload dX7_costOf_236 rfl ?_
            refine Z.iaddN (a := 41 * i) (b := j) dX7_costOf_238 ?_
            refine Z.iload dX7_costOf_239 rfl ?_
            refine Z.iast (j := (41 * i) + j) (x := (DD fA fB (I 39) (I 38) i (j - 1)) + (I 39 ((fB (j - 1)).toNatClampNeg))) dX7_costOf_241 (fx55 hF) rfl (by omega) (by decide) ?_
            refine Z.eqI (bx_uu _ _ _ _) ?_
            refine Z.iinc (v := nI (j + 1)) (L' := [.ref 35, .int x1, .int x2, .int (nI na), .int (nI nb), .int (nI i), .int (nI (j + 1)), .int ((DD fA fB (I 39) (I 38) i (j - 1)) + (I 39 ((fB (j - 1)).toNatClampNeg))), .int ((DD fA fB (I 39) (I 38) (i - 1) (j - 1)) + (I 38 ((66 * ((fA (i - 1)).toNatClampNeg)) + ((fB (j - 1)).toNatClampNeg))))]) dX7_costOf_242 rfl (nI_1 _) rfl ?_
            refine Z.goto (tgt := 40) dX7_costOf_245 (by decide) ?_
            refine Z.drop (i := 7) (L' := [.ref 35, .int x1, .int x2, .int (nI na), .int (nI nb), .int (nI i), .int (nI (j + 1)), .retAddr 0, .int ((DD fA fB (I 39) (I 38) (i - 1) (j - 1)) + (I 38 ((66 * ((fA (i - 1)).toNatClampNeg)) + ((fB (j - 1)).toNatClampNeg))))]) rfl ?_
            refine Z.drop (i := 8) (L' := [.ref 35, .int x1, .int x2, .int (nI na), .int (nI nb), .int (nI i), .int (nI (j + 1)), .retAddr 0, .retAddr 0]) rfl ?_
            exact ih (by omega) _ (Fl_up hT hnb (by omega) (by omega) (by rw [DD_pp (by omega) (by omega)]; simp [dmn, h7, h13]))
          · refine Z.iload dX7_costOf_218 rfl ?_
            refine Z.goto (tgt := 225) dX7_costOf_220 (by decide) ?_
            refine Z.istore (L' := [.ref 35, .int x1, .int x2, .int (nI na), .int (nI nb), .int (nI i), .int (nI j), .int ((DD fA fB (I 39) (I 38) (i - 1) (j - 1)) + (I 38 ((66 * ((fA (i - 1)).toNatClampNeg)) + ((fB (j - 1)).toNatClampNeg)))), .int ((DD fA fB (I 39) (I 38) (i - 1) (j - 1)) + (I 38 ((66 * ((fA (i - 1)).toNatClampNeg)) + ((fB (j - 1)).toNatClampNeg))))]) dX7_costOf_225 (Nat.le_of_ble_eq_true rfl) rfl ?_
            refine Z.aload_n dX7_costOf_227 rfl ?_
            refine Z.getR (r := 55) dX7_costOf_228 cl7 flX7_67 (by decide) (fx35 hF) rfl ?_
            refine Z.bipush (v := 41) dX7_costOf_231 (by decide) ?_
            refine Z.iload dX7_costOf_233 rfl ?_
            refine Z.imulN (a := 41) (b := i) dX7_costOf_235 ?_
            refine Z.iload dX7_costOf_236 rfl ?_
            refine Z.iaddN (a := 41 * i) (b := j) dX7_costOf_238 ?_
            refine Z.iload dX7_costOf_239 rfl ?_
            refine Z.iast (j := (41 * i) + j) (x := (DD fA fB (I 39) (I 38) (i - 1) (j - 1)) + (I 38 ((66 * ((fA (i - 1)).toNatClampNeg)) + ((fB (j - 1)).toNatClampNeg)))) dX7_costOf_241 (fx55 hF) rfl (by omega) (by decide) ?_
            refine Z.eqI (bx_uu _ _ _ _) ?_
            refine Z.iinc (v := nI (j + 1)) (L' := [.ref 35, .int x1, .int x2, .int (nI na), .int (nI nb), .int (nI i), .int (nI (j + 1)), .int ((DD fA fB (I 39) (I 38) (i - 1) (j - 1)) + (I 38 ((66 * ((fA (i - 1)).toNatClampNeg)) + ((fB (j - 1)).toNatClampNeg)))), .int ((DD fA fB (I 39) (I 38) (i - 1) (j - 1)) + (I 38 ((66 * ((fA (i - 1)).toNatClampNeg)) + ((fB (j - 1)).toNatClampNeg))))]) dX7_costOf_242 rfl (nI_1 _) rfl ?_
            refine Z.goto (tgt := 40) dX7_costOf_245 (by decide) ?_
            refine Z.drop (i := 7) (L' := [.ref 35, .int x1, .int x2, .int (nI na), .int (nI nb), .int (nI i), .int (nI (j + 1)), .retAddr 0, .int ((DD fA fB (I 39) (I 38) (i - 1) (j - 1)) + (I 38 ((66 * ((fA (i - 1)).toNatClampNeg)) + ((fB (j - 1)).toNatClampNeg))))]) rfl ?_
            refine Z.drop (i := 8) (L' := [.ref 35, .int x1, .int x2, .int (nI na), .int (nI nb), .int (nI i), .int (nI (j + 1)), .retAddr 0, .retAddr 0]) rfl ?_
            exact ih (by omega) _ (Fl_up hT hnb (by omega) (by omega) (by rw [DD_pp (by omega) (by omega)]; simp [dmn, h7, h13]))
    · refine Z.iload dX7_costOf_52 rfl ?_
      refine Z.if_neN (a := j) (by omega) (tgt := 60) dX7_costOf_54 (by decide) (fun h14 => ?_) (fun h14 => ?_)
      · refine Z.ldc (v := 2147483647) dX7_costOf_60 cnX7_125 ?_
        refine Z.istore (L' := [.ref 35, .int x1, .int x2, .int (nI na), .int (nI nb), .int (nI i), .int (nI j), .int 2147483647, .retAddr 0]) dX7_costOf_62 (Nat.le_of_ble_eq_true rfl) rfl ?_
        refine Z.iload dX7_costOf_64 rfl ?_
        refine Z.if_leN (a := i) (by omega) (tgt := 101) dX7_costOf_66 (by decide) (fun h15 => ?_) (fun h15 => absurd h15 (by omega))
        refine Z.iload dX7_costOf_101 rfl ?_
        refine Z.if_leN (a := j) (by omega) (tgt := 154) dX7_costOf_103 (by decide) (fun h16 => absurd h16 (by omega)) (fun h16 => ?_)
        have hB1 := (hB (j - 1) (by omega)).2
        refine Z.aload_n dX7_costOf_106 rfl ?_
        refine Z.getR (r := 55) dX7_costOf_107 cl7 flX7_67 (by decide) (fx35 hF) rfl ?_
        refine Z.bipush (v := 41) dX7_costOf_110 (by decide) ?_
        refine Z.iload dX7_costOf_112 rfl ?_
        refine Z.imulN (a := 41) (b := i) dX7_costOf_114 ?_
        refine Z.iload dX7_costOf_115 rfl ?_
        refine Z.iaddN (a := 41 * i) (b := j) dX7_costOf_117 ?_
        refine Z.iconst (v := 1) dX7_costOf_118 (by decide) ?_
        refine Z.isubN (a := (41 * i) + j) (b := 1) (by omega) dX7_costOf_119 ?_
        refine Z.ialdv (j := ((41 * i) + j) - 1) (v := DD fA fB (I 39) (I 38) i (j - 1)) dX7_costOf_120 (fx55 hF) rfl (by omega) (by decide) (by rw [show ((41 * i) + j) - 1 = 41 * i + (j - 1) by omega]; exact hT.2 i (j - 1) (by omega) (by omega) (by omega)) ?_
        refine Z.aload_n dX7_costOf_121 rfl ?_
        refine Z.getR (r := 39) dX7_costOf_122 cl7 flX7_19 (by decide) (fx35 hF) rfl ?_
        refine Z.aload_n dX7_costOf_125 rfl ?_
        refine Z.getR (r := 54) dX7_costOf_126 cl7 flX7_64 (by decide) (fx35 hF) rfl ?_
        refine Z.iload dX7_costOf_129 rfl ?_
        refine Z.iconst (v := 1) dX7_costOf_131 (by decide) ?_
        refine Z.isubN (a := j) (b := 1) (by omega) dX7_costOf_132 ?_
        refine Z.ialdv (j := j - 1) (v := nI ((fB (j - 1)).toNatClampNeg)) dX7_costOf_133 (fx54 hF) rfl (by omega) (by decide) (hB (j - 1) (by omega)).1 ?_
        refine Z.ialdv (j := (fB (j - 1)).toNatClampNeg) (v := I 39 ((fB (j - 1)).toNatClampNeg)) dX7_costOf_134 (fx39 hF) rfl (by omega) (by decide) (hE.at 39 ((fB (j - 1)).toNatClampNeg) rfl) ?_
        refine Z.iadd dX7_costOf_135 ?_
        refine Z.istore (L' := [.ref 35, .int x1, .int x2, .int (nI na), .int (nI nb), .int (nI i), .int (nI j), .int 2147483647, .int ((DD fA fB (I 39) (I 38) i (j - 1)) + (I 39 ((fB (j - 1)).toNatClampNeg)))]) dX7_costOf_136 (Nat.le_of_ble_eq_true rfl) rfl ?_
        refine Z.iload dX7_costOf_138 rfl ?_
        refine Z.iload dX7_costOf_140 rfl ?_
        refine Z.icmp_ge (tgt := 150) dX7_costOf_142 (by decide) (fun h17 => ?_) (fun h17 => ?_)
        · refine Z.iload dX7_costOf_150 rfl ?_
          refine Z.istore (L' := [.ref 35, .int x1, .int x2, .int (nI na), .int (nI nb), .int (nI i), .int (nI j), .int 2147483647, .int ((DD fA fB (I 39) (I 38) i (j - 1)) + (I 39 ((fB (j - 1)).toNatClampNeg)))]) dX7_costOf_152 (Nat.le_of_ble_eq_true rfl) rfl ?_
          refine Z.iload dX7_costOf_154 rfl ?_
          refine Z.if_leN (a := i) (by omega) (tgt := 227) dX7_costOf_156 (by decide) (fun h18 => ?_) (fun h18 => absurd h18 (by omega))
          refine Z.aload_n dX7_costOf_227 rfl ?_
          refine Z.getR (r := 55) dX7_costOf_228 cl7 flX7_67 (by decide) (fx35 hF) rfl ?_
          refine Z.bipush (v := 41) dX7_costOf_231 (by decide) ?_
          refine Z.iload dX7_costOf_233 rfl ?_
          refine Z.imulN (a := 41) (b := i) dX7_costOf_235 ?_
          refine Z.iload dX7_costOf_236 rfl ?_
          refine Z.iaddN (a := 41 * i) (b := j) dX7_costOf_238 ?_
          refine Z.iload dX7_costOf_239 rfl ?_
          refine Z.iast (j := (41 * i) + j) (x := 2147483647) dX7_costOf_241 (fx55 hF) rfl (by omega) (by decide) ?_
          refine Z.eqI (bx_uu _ _ _ _) ?_
          refine Z.iinc (v := nI (j + 1)) (L' := [.ref 35, .int x1, .int x2, .int (nI na), .int (nI nb), .int (nI i), .int (nI (j + 1)), .int 2147483647, .int ((DD fA fB (I 39) (I 38) i (j - 1)) + (I 39 ((fB (j - 1)).toNatClampNeg)))]) dX7_costOf_242 rfl (nI_1 _) rfl ?_
          refine Z.goto (tgt := 40) dX7_costOf_245 (by decide) ?_
          refine Z.drop (i := 7) (L' := [.ref 35, .int x1, .int x2, .int (nI na), .int (nI nb), .int (nI i), .int (nI (j + 1)), .retAddr 0, .int ((DD fA fB (I 39) (I 38) i (j - 1)) + (I 39 ((fB (j - 1)).toNatClampNeg)))]) rfl ?_
          refine Z.drop (i := 8) (L' := [.ref 35, .int x1, .int x2, .int (nI na), .int (nI nb), .int (nI i), .int (nI (j + 1)), .retAddr 0, .retAddr 0]) rfl ?_
          exact ih (by omega) _ (Fl_up hT hnb (by omega) (by omega) (by subst h2; rw [DD_0p (by omega), dmn]; first | rw [if_pos h17] | rw [if_neg h17]))
        · refine Z.iload dX7_costOf_145 rfl ?_
          refine Z.goto (tgt := 152) dX7_costOf_147 (by decide) ?_
          refine Z.istore (L' := [.ref 35, .int x1, .int x2, .int (nI na), .int (nI nb), .int (nI i), .int (nI j), .int ((DD fA fB (I 39) (I 38) i (j - 1)) + (I 39 ((fB (j - 1)).toNatClampNeg))), .int ((DD fA fB (I 39) (I 38) i (j - 1)) + (I 39 ((fB (j - 1)).toNatClampNeg)))]) dX7_costOf_152 (Nat.le_of_ble_eq_true rfl) rfl ?_
          refine Z.iload dX7_costOf_154 rfl ?_
          refine Z.if_leN (a := i) (by omega) (tgt := 227) dX7_costOf_156 (by decide) (fun h19 => ?_) (fun h19 => absurd h19 (by omega))
          refine Z.aload_n dX7_costOf_227 rfl ?_
          refine Z.getR (r := 55) dX7_costOf_228 cl7 flX7_67 (by decide) (fx35 hF) rfl ?_
          refine Z.bipush (v := 41) dX7_costOf_231 (by decide) ?_
          refine Z.iload dX7_costOf_233 rfl ?_
          refine Z.imulN (a := 41) (b := i) dX7_costOf_235 ?_
          refine Z.iload dX7_costOf_236 rfl ?_
          refine Z.iaddN (a := 41 * i) (b := j) dX7_costOf_238 ?_
          refine Z.iload dX7_costOf_239 rfl ?_
          refine Z.iast (j := (41 * i) + j) (x := (DD fA fB (I 39) (I 38) i (j - 1)) + (I 39 ((fB (j - 1)).toNatClampNeg))) dX7_costOf_241 (fx55 hF) rfl (by omega) (by decide) ?_
          refine Z.eqI (bx_uu _ _ _ _) ?_
          refine Z.iinc (v := nI (j + 1)) (L' := [.ref 35, .int x1, .int x2, .int (nI na), .int (nI nb), .int (nI i), .int (nI (j + 1)), .int ((DD fA fB (I 39) (I 38) i (j - 1)) + (I 39 ((fB (j - 1)).toNatClampNeg))), .int ((DD fA fB (I 39) (I 38) i (j - 1)) + (I 39 ((fB (j - 1)).toNatClampNeg)))]) dX7_costOf_242 rfl (nI_1 _) rfl ?_
          refine Z.goto (tgt := 40) dX7_costOf_245 (by decide) ?_
          refine Z.drop (i := 7) (L' := [.ref 35, .int x1, .int x2, .int (nI na), .int (nI nb), .int (nI i), .int (nI (j + 1)), .retAddr 0, .int ((DD fA fB (I 39) (I 38) i (j - 1)) + (I 39 ((fB (j - 1)).toNatClampNeg)))]) rfl ?_
          refine Z.drop (i := 8) (L' := [.ref 35, .int x1, .int x2, .int (nI na), .int (nI nb), .int (nI i), .int (nI (j + 1)), .retAddr 0, .retAddr 0]) rfl ?_
          exact ih (by omega) _ (Fl_up hT hnb (by omega) (by omega) (by subst h2; rw [DD_0p (by omega), dmn]; first | rw [if_pos h17] | rw [if_neg h17]))
      · refine Z.goto (tgt := 242) dX7_costOf_57 (by decide) ?_
        refine Z.iinc (v := nI (j + 1)) (L' := [.ref 35, .int x1, .int x2, .int (nI na), .int (nI nb), .int (nI i), .int (nI (j + 1)), .retAddr 0, .retAddr 0]) dX7_costOf_242 rfl (nI_1 _) rfl ?_
        refine Z.goto (tgt := 40) dX7_costOf_245 (by decide) ?_
        have hi0 : i = 0 := by omega
        have hj0 : j = 0 := by omega
        subst hi0; subst hj0
        exact ih (by omega) T (Fl_skip hT DD_00)

set_option maxHeartbeats 4000000 in
set_option maxRecDepth 100000 in
theorem lp_costOut {g : GP} {I J : IM} {S : SH} (hE : Ex I J) (x1 x2 : Int32) (fA fB : Nat → Int32) {na nb : Nat} (hna : na ≤ 40) (hnb : nb ≤ 40) (hA : ∀ i, i < na → rg (fA i) 65) (hB : ∀ j, j < nb → rg (fB j) 65) (hF : Fx S) (hM : MIv I) : ∀ i, i ≤ na + 1 → ∀ T, Fl (DD fA fB (I 39) (I 38)) na nb i 0 T → Z g 2 0 0 mX7_costOf 31 [.ref 35, .int x1, .int x2, .int (nI na), .int (nI nb), .int (nI i), .retAddr 0, .retAddr 0, .retAddr 0] [] (va_up (va_up (va_up J 53 fA) 54 fB) 55 T) S (NQ (.int (DD fA fB (I 39) (I 38) na nb)) I S) := by
  refine upZ (na + 1) (fun i hi ih T hT => ?_)
  refine Z.iload dX7_costOf_31 rfl ?_
  refine Z.iload_n dX7_costOf_33 rfl ?_
  refine Z.icmp_gtN (a := i) (b := na) (by omega) (by omega) (tgt := 254) dX7_costOf_34 (by decide) (fun h1 => ?_) (fun h1 => ?_)
  · refine Z.aload_n dX7_costOf_254 rfl ?_
    refine Z.getR (r := 55) dX7_costOf_255 cl7 flX7_67 (by decide) (fx35 hF) rfl ?_
    refine Z.bipush (v := 41) dX7_costOf_258 (by decide) ?_
    refine Z.iload_n dX7_costOf_260 rfl ?_
    refine Z.imulN (a := 41) (b := na) dX7_costOf_261 ?_
    refine Z.iload dX7_costOf_262 rfl ?_
    refine Z.iaddN (a := 41 * na) (b := nb) dX7_costOf_264 ?_
    refine Z.ialdv (j := (41 * na) + nb) (v := DD fA fB (I 39) (I 38) na nb) dX7_costOf_265 (fx55 hF) rfl (by omega) (by decide) (hT.2 na nb (by omega) (by omega) (by omega)) ?_
    exact Z.iret dX7_costOf_266 rfl ⟨rfl, ((hE.up rfl).up rfl).up rfl, rfl⟩
  · refine Z.iconst (v := 0) dX7_costOf_37 (by decide) ?_
    refine Z.istore (L' := [.ref 35, .int x1, .int x2, .int (nI na), .int (nI nb), .int (nI i), .int 0, .retAddr 0, .retAddr 0]) dX7_costOf_38 (Nat.le_of_ble_eq_true rfl) rfl ?_
    exact lp_costIn hE x1 x2 fA fB hna hnb hA hB hF hM i (by omega) (fun T hT => ih (by omega) T hT) 0 (Nat.zero_le _) T hT

set_option maxHeartbeats 4000000 in
set_option maxRecDepth 100000 in
theorem ct_costOf {g : GP} {I J : IM} {S : SH} (hE : Ex I J) (a b : Nat) (hF : Fx S) (hM : MIv I) (ha : a < 120) (hb : b < 120) : Z g 2 0 0 mX7_costOf 0 (enL mX7_costOf [.ref 35, .int (nI a), .int (nI b)]) [] J S (NQ (.int (DD (siU (I 36) (I 37) (wM I a) (I 45 a).toNatClampNeg (J 53) (I 45 a).toNatClampNeg).2 (siU (I 36) (I 37) (wM I b) (I 45 b).toNatClampNeg (J 54) (I 45 b).toNatClampNeg).2 (I 39) (I 38) (siU (I 36) (I 37) (wM I a) (I 45 a).toNatClampNeg (J 53) (I 45 a).toNatClampNeg).1 (siU (I 36) (I 37) (wM I b) (I 45 b).toNatClampNeg (J 54) (I 45 b).toNatClampNeg).1)) I S) := by
  show Z g 2 0 0 mX7_costOf 0 [.ref 35, .int (nI a), .int (nI b), .retAddr 0, .retAddr 0, .retAddr 0, .retAddr 0, .retAddr 0, .retAddr 0] [] J S _
  refine Z.aload_n dX7_costOf_0 rfl ?_
  refine Z.iload_n dX7_costOf_1 rfl ?_
  refine Z.aload_n dX7_costOf_2 rfl ?_
  refine Z.getR (r := 53) dX7_costOf_3 cl7 flX7_61 (by decide) (fx35 hF) rfl ?_
  refine Z.callVg (M := mX7_costOf) (pc := 6) (st := []) (N := mX7_soundsInto) (n := 2) dX7_costOf_6 mlX7_121 mkX7_soundsInto imX7_soundsInto seX7_soundsInto (fx35 hF) cl7 rfl (d1 := 1) (by decide) (As := [.int (nI a), .ref 53]) rfl ⟨rfl, Nat.le_of_ble_eq_true rfl⟩ ⟨rfl, Nat.le_of_ble_eq_true rfl⟩ (ct_soundsIntoA hE a hF hM (by omega)) rfl (fun v_ J1 S_ h_ => ?_)
  obtain ⟨rfl, rfl, rfl⟩ := h_
  refine Z.istore_n (L' := [.ref 35, .int (nI a), .int (nI b), .int (nI ((siU (I 36) (I 37) (wM I a) (I 45 a).toNatClampNeg (J 53) (I 45 a).toNatClampNeg).1)), .retAddr 0, .retAddr 0, .retAddr 0, .retAddr 0, .retAddr 0]) dX7_costOf_9 (Nat.le_of_ble_eq_true rfl) rfl ?_
  refine Z.aload_n dX7_costOf_10 rfl ?_
  refine Z.iload_n dX7_costOf_11 rfl ?_
  refine Z.aload_n dX7_costOf_12 rfl ?_
  refine Z.getR (r := 54) dX7_costOf_13 cl7 flX7_64 (by decide) (fx35 hF) rfl ?_
  refine Z.callVg (M := mX7_costOf) (pc := 16) (st := []) (N := mX7_soundsInto) (n := 2) dX7_costOf_16 mlX7_121 mkX7_soundsInto imX7_soundsInto seX7_soundsInto (fx35 hF) cl7 rfl (d1 := 1) (by decide) (As := [.int (nI b), .ref 54]) rfl ⟨rfl, Nat.le_of_ble_eq_true rfl⟩ ⟨rfl, Nat.le_of_ble_eq_true rfl⟩ (ct_soundsIntoB (hE.up rfl) b hF hM (by omega)) rfl (fun v_ J2 S_ h_ => ?_)
  obtain ⟨rfl, rfl, rfl⟩ := h_
  refine Z.istore (L' := [.ref 35, .int (nI a), .int (nI b), .int (nI ((siU (I 36) (I 37) (wM I a) (I 45 a).toNatClampNeg (J 53) (I 45 a).toNatClampNeg).1)), .int (nI ((siU (I 36) (I 37) (wM I b) (I 45 b).toNatClampNeg ((va_up J 53 ((siU (I 36) (I 37) (wM I a) (I 45 a).toNatClampNeg (J 53) (I 45 a).toNatClampNeg).2)) 54) (I 45 b).toNatClampNeg).1)), .retAddr 0, .retAddr 0, .retAddr 0, .retAddr 0]) dX7_costOf_19 (Nat.le_of_ble_eq_true rfl) rfl ?_
  refine Z.aload_n dX7_costOf_21 rfl ?_
  refine Z.getR (r := 55) dX7_costOf_22 cl7 flX7_67 (by decide) (fx35 hF) rfl ?_
  refine Z.iconst (v := 0) dX7_costOf_25 (by decide) ?_
  refine Z.iconst (v := 0) dX7_costOf_26 (by decide) ?_
  refine Z.iast (j := 0) (x := 0) dX7_costOf_27 (fx55 hF) rfl (by decide) (by decide) ?_
  refine Z.iconst (v := 0) dX7_costOf_28 (by decide) ?_
  refine Z.istore (L' := [.ref 35, .int (nI a), .int (nI b), .int (nI ((siU (I 36) (I 37) (wM I a) (I 45 a).toNatClampNeg (J 53) (I 45 a).toNatClampNeg).1)), .int (nI ((siU (I 36) (I 37) (wM I b) (I 45 b).toNatClampNeg ((va_up J 53 ((siU (I 36) (I 37) (wM I a) (I 45 a).toNatClampNeg (J 53) (I 45 a).toNatClampNeg).2)) 54) (I 45 b).toNatClampNeg).1)), .int 0, .retAddr 0, .retAddr 0, .retAddr 0]) dX7_costOf_29 (Nat.le_of_ble_eq_true rfl) rfl ?_
  have q1 := siU_le (pl := I 36) (sa := I 37) (w := wM I a) (len := (I 45 a).toNatClampNeg) (f0 := J 53) (I 45 a).toNatClampNeg
  have q2 := siU_le (pl := I 36) (sa := I 37) (w := wM I b) (len := (I 45 b).toNatClampNeg) (f0 := J 54) (I 45 b).toNatClampNeg
  have q3 := (hM.2.2.1 a ha).2
  have q4 := (hM.2.2.1 b hb).2
  exact lp_costOut hE _ _ _ _ (Nat.le_trans q1 q3) (Nat.le_trans q2 q4) (siU_rg (fun k hk => soG_rg (fun i hi => hM.2.2.2.2.1 _ (by have := (hM.2.2.1 a (by omega)).2; omega)) hk hM.2.2.2.2.2.2.1) _ (Nat.le_refl _)) (siU_rg (fun k hk => soG_rg (fun i hi => hM.2.2.2.2.1 _ (by have := (hM.2.2.1 b (by omega)).2; omega)) hk hM.2.2.2.2.2.2.1) _ (Nat.le_refl _)) hF hM 0 (Nat.zero_le _) _ ⟨by simp [upd], fun i j h1 h2 h3 => absurd h3 (by omega)⟩

theorem ct_costOf2 {g : GP} {I J : IM} {S : SH} (hE : Ex I J) (a b : Nat) (hF : Fx S) (hM : MIv I) (ha : a < 120) (hb : b < 120) : Z g 2 0 0 mX7_costOf 0 (enL mX7_costOf [.ref 35, .int (nI a), .int (nI b)]) [] J S (NQ (.int (cstM I a b)) I S) := by
  have h := ct_costOf (g := g) hE a b hF hM ha hb
  rw [cwF_of] at h
  exact h

theorem ct_soundsA2 {g : GP} {I J : IM} {S : SH} (hE : Ex I J) (j : Nat) (hF : Fx S) (hM : MIv I) (hj : j < 120) : Z g 1 0 0 mX7_soundsInto 0 (enL mX7_soundsInto [.ref 35, .int (nI j), .ref 53]) [] J S (NQ (.int (nI (sM I j).1)) I S) := by
  have h := ct_soundsIntoA (g := g) hE j hF hM hj
  rw [siU_1 (f1 := fun _ => 0)] at h
  exact h.conseq (fun v J' T q => ⟨q.1, by rw [q.2.1]; exact hE.up rfl, q.2.2⟩)

theorem ct_soundsB2 {g : GP} {I J : IM} {S : SH} (hE : Ex I J) (j : Nat) (hF : Fx S) (hM : MIv I) (hj : j < 120) : Z g 1 0 0 mX7_soundsInto 0 (enL mX7_soundsInto [.ref 35, .int (nI j), .ref 54]) [] J S (NQ (.int (nI (sM I j).1)) I S) := by
  have h := ct_soundsIntoB (g := g) hE j hF hM hj
  rw [siU_1 (f1 := fun _ => 0)] at h
  exact h.conseq (fun v J' T q => ⟨q.1, by rw [q.2.1]; exact hE.up rfl, q.2.2⟩)

set_option maxHeartbeats 4000000 in
set_option maxRecDepth 100000 in
theorem ct_wordsLike {g : GP} {I J : IM} {S : SH} (hE : Ex I J) (a b : Nat) (hF : Fx S) (hM : MIv I) (ha : a < 120) (hb : b < 120) : Z g 3 0 0 mX7_wordsLike 0 (enL mX7_wordsLike [.ref 35, .int (nI a), .int (nI b)]) [] J S (NQ (.int (wlM I a b)) I S) := by
  show Z g 3 0 0 mX7_wordsLike 0 [.ref 35, .int (nI a), .int (nI b), .retAddr 0, .retAddr 0, .retAddr 0, .retAddr 0, .retAddr 0] [] J S _
  have hsa : (sM I a).1 ≤ 40 := Nat.le_trans (siU_le _) (hM.2.2.1 a ha).2
  have hsb : (sM I b).1 ≤ 40 := Nat.le_trans (siU_le _) (hM.2.2.1 b hb).2
  refine Z.aload_n dX7_wordsLike_0 rfl ?_
  refine Z.iload_n dX7_wordsLike_1 rfl ?_
  refine Z.iload_n dX7_wordsLike_2 rfl ?_
  refine Z.callVg (M := mX7_wordsLike) (pc := 3) (st := []) (N := mX7_costOf) (n := 2) dX7_wordsLike_3 mlX7_126 mkX7_costOf imX7_costOf seX7_costOf (fx35 hF) cl7 rfl (d1 := 2) (by decide) (As := [.int (nI a), .int (nI b)]) rfl ⟨rfl, Nat.le_of_ble_eq_true rfl⟩ ⟨rfl, Nat.le_of_ble_eq_true rfl⟩ (ct_costOf2 hE a b hF hM (by omega) (by omega)) rfl (fun v_ J1 S_ h_ => ?_)
  obtain ⟨rfl, hE, rfl⟩ := h_
  refine Z.istore_n (L' := [.ref 35, .int (nI a), .int (nI b), .int (cstM I a b), .retAddr 0, .retAddr 0, .retAddr 0, .retAddr 0]) dX7_wordsLike_6 (Nat.le_of_ble_eq_true rfl) rfl ?_
  refine Z.aload_n dX7_wordsLike_7 rfl ?_
  refine Z.iload_n dX7_wordsLike_8 rfl ?_
  refine Z.aload_n dX7_wordsLike_9 rfl ?_
  refine Z.getR (r := 53) dX7_wordsLike_10 cl7 flX7_61 (by decide) (fx35 hF) rfl ?_
  refine Z.callVg (M := mX7_wordsLike) (pc := 13) (st := []) (N := mX7_soundsInto) (n := 2) dX7_wordsLike_13 mlX7_121 mkX7_soundsInto imX7_soundsInto seX7_soundsInto (fx35 hF) cl7 rfl (d1 := 1) (by decide) (As := [.int (nI a), .ref 53]) rfl ⟨rfl, Nat.le_of_ble_eq_true rfl⟩ ⟨rfl, Nat.le_of_ble_eq_true rfl⟩ (ct_soundsA2 hE a hF hM (by omega)) rfl (fun v_ J2 S_ h_ => ?_)
  obtain ⟨rfl, hE, rfl⟩ := h_
  refine Z.istore (L' := [.ref 35, .int (nI a), .int (nI b), .int (cstM I a b), .int (nI ((sM I a).1)), .retAddr 0, .retAddr 0, .retAddr 0]) dX7_wordsLike_16 (Nat.le_of_ble_eq_true rfl) rfl ?_
  refine Z.aload_n dX7_wordsLike_18 rfl ?_
  refine Z.iload_n dX7_wordsLike_19 rfl ?_
  refine Z.aload_n dX7_wordsLike_20 rfl ?_
  refine Z.getR (r := 54) dX7_wordsLike_21 cl7 flX7_64 (by decide) (fx35 hF) rfl ?_
  refine Z.callVg (M := mX7_wordsLike) (pc := 24) (st := []) (N := mX7_soundsInto) (n := 2) dX7_wordsLike_24 mlX7_121 mkX7_soundsInto imX7_soundsInto seX7_soundsInto (fx35 hF) cl7 rfl (d1 := 1) (by decide) (As := [.int (nI b), .ref 54]) rfl ⟨rfl, Nat.le_of_ble_eq_true rfl⟩ ⟨rfl, Nat.le_of_ble_eq_true rfl⟩ (ct_soundsB2 hE b hF hM (by omega)) rfl (fun v_ J3 S_ h_ => ?_)
  obtain ⟨rfl, hE, rfl⟩ := h_
  refine Z.istore (L' := [.ref 35, .int (nI a), .int (nI b), .int (cstM I a b), .int (nI ((sM I a).1)), .int (nI ((sM I b).1)), .retAddr 0, .retAddr 0]) dX7_wordsLike_27 (Nat.le_of_ble_eq_true rfl) rfl ?_
  refine Z.iload dX7_wordsLike_29 rfl ?_
  refine Z.iload dX7_wordsLike_31 rfl ?_
  refine Z.icmp_leN (a := (sM I a).1) (b := (sM I b).1) (by omega) (by omega) (tgt := 41) dX7_wordsLike_33 (by decide) (fun h1 => ?_) (fun h1 => ?_)
  · refine Z.iload dX7_wordsLike_41 rfl ?_
    refine Z.istore (L' := [.ref 35, .int (nI a), .int (nI b), .int (cstM I a b), .int (nI ((sM I a).1)), .int (nI ((sM I b).1)), .int (nI ((sM I b).1)), .retAddr 0]) dX7_wordsLike_43 (Nat.le_of_ble_eq_true rfl) rfl ?_
    refine Z.iload dX7_wordsLike_45 rfl ?_
    refine Z.if_neN (a := (sM I b).1) (by omega) (tgt := 54) dX7_wordsLike_47 (by decide) (fun h2 => ?_) (fun h2 => ?_)
    · refine Z.sipush (v := 1000) dX7_wordsLike_54 (by decide) ?_
      refine Z.bipush (v := 100) dX7_wordsLike_57 (by decide) ?_
      refine Z.iload_n dX7_wordsLike_59 rfl ?_
      refine Z.imul dX7_wordsLike_60 ?_
      refine Z.iload dX7_wordsLike_61 rfl ?_
      refine Z.idiv dX7_wordsLike_63 (nI_ne0 (by omega) (by omega)) ?_
      refine Z.isub dX7_wordsLike_64 ?_
      refine Z.istore (L' := [.ref 35, .int (nI a), .int (nI b), .int (cstM I a b), .int (nI ((sM I a).1)), .int (nI ((sM I b).1)), .int (nI ((sM I b).1)), .int (1000 - ((100 * (cstM I a b)) / (nI ((sM I b).1))))]) dX7_wordsLike_65 (Nat.le_of_ble_eq_true rfl) rfl ?_
      refine Z.iload dX7_wordsLike_67 rfl ?_
      refine Z.if_ge (tgt := 76) dX7_wordsLike_69 (by decide) (fun h3 => ?_) (fun h3 => ?_)
      · refine Z.iload dX7_wordsLike_76 rfl ?_
        exact Z.iret dX7_wordsLike_78 rfl ⟨by first | (have hm : mxN (sM I a).1 (sM I b).1 = (sM I a).1 := if_pos (by omega); simp only [wlM, wlF, hm]; simp [h1, h2, h3, Nat.ne_of_gt h2]; done) | (have hm : mxN (sM I a).1 (sM I b).1 = (sM I b).1 := if_neg (by omega); simp only [wlM, wlF, hm]; simp [h1, h2, h3, Nat.ne_of_gt h2]; done), hE, rfl⟩
      · refine Z.iconst (v := 0) dX7_wordsLike_72 (by decide) ?_
        refine Z.goto (tgt := 78) dX7_wordsLike_73 (by decide) ?_
        exact Z.iret dX7_wordsLike_78 rfl ⟨by first | (have hm : mxN (sM I a).1 (sM I b).1 = (sM I a).1 := if_pos (by omega); simp only [wlM, wlF, hm]; simp [h1, h2, h3, Nat.ne_of_gt h2]; done) | (have hm : mxN (sM I a).1 (sM I b).1 = (sM I b).1 := if_neg (by omega); simp only [wlM, wlF, hm]; simp [h1, h2, h3, Nat.ne_of_gt h2]; done), hE, rfl⟩
    · refine Z.sipush (v := 1000) dX7_wordsLike_50 (by decide) ?_
      exact Z.iret dX7_wordsLike_53 rfl ⟨by first | (have hm : mxN (sM I a).1 (sM I b).1 = (sM I a).1 := if_pos (by omega); simp only [wlM, wlF, hm]; simp [h1, h2]; done) | (have hm : mxN (sM I a).1 (sM I b).1 = (sM I b).1 := if_neg (by omega); simp only [wlM, wlF, hm]; simp [h1, h2]; done), hE, rfl⟩
  · refine Z.iload dX7_wordsLike_36 rfl ?_
    refine Z.goto (tgt := 43) dX7_wordsLike_38 (by decide) ?_
    refine Z.istore (L' := [.ref 35, .int (nI a), .int (nI b), .int (cstM I a b), .int (nI ((sM I a).1)), .int (nI ((sM I b).1)), .int (nI ((sM I a).1)), .retAddr 0]) dX7_wordsLike_43 (Nat.le_of_ble_eq_true rfl) rfl ?_
    refine Z.iload dX7_wordsLike_45 rfl ?_
    refine Z.if_neN (a := (sM I a).1) (by omega) (tgt := 54) dX7_wordsLike_47 (by decide) (fun h4 => ?_) (fun h4 => ?_)
    · refine Z.sipush (v := 1000) dX7_wordsLike_54 (by decide) ?_
      refine Z.bipush (v := 100) dX7_wordsLike_57 (by decide) ?_
      refine Z.iload_n dX7_wordsLike_59 rfl ?_
      refine Z.imul dX7_wordsLike_60 ?_
      refine Z.iload dX7_wordsLike_61 rfl ?_
      refine Z.idiv dX7_wordsLike_63 (nI_ne0 (by omega) (by omega)) ?_
      refine Z.isub dX7_wordsLike_64 ?_
      refine Z.istore (L' := [.ref 35, .int (nI a), .int (nI b), .int (cstM I a b), .int (nI ((sM I a).1)), .int (nI ((sM I b).1)), .int (nI ((sM I a).1)), .int (1000 - ((100 * (cstM I a b)) / (nI ((sM I a).1))))]) dX7_wordsLike_65 (Nat.le_of_ble_eq_true rfl) rfl ?_
      refine Z.iload dX7_wordsLike_67 rfl ?_
      refine Z.if_ge (tgt := 76) dX7_wordsLike_69 (by decide) (fun h5 => ?_) (fun h5 => ?_)
      · refine Z.iload dX7_wordsLike_76 rfl ?_
        exact Z.iret dX7_wordsLike_78 rfl ⟨by first | (have hm : mxN (sM I a).1 (sM I b).1 = (sM I a).1 := if_pos (by omega); simp only [wlM, wlF, hm]; simp [h1, h4, h5, Nat.ne_of_gt h4]; done) | (have hm : mxN (sM I a).1 (sM I b).1 = (sM I b).1 := if_neg (by omega); simp only [wlM, wlF, hm]; simp [h1, h4, h5, Nat.ne_of_gt h4]; done), hE, rfl⟩
      · refine Z.iconst (v := 0) dX7_wordsLike_72 (by decide) ?_
        refine Z.goto (tgt := 78) dX7_wordsLike_73 (by decide) ?_
        exact Z.iret dX7_wordsLike_78 rfl ⟨by first | (have hm : mxN (sM I a).1 (sM I b).1 = (sM I a).1 := if_pos (by omega); simp only [wlM, wlF, hm]; simp [h1, h4, h5, Nat.ne_of_gt h4]; done) | (have hm : mxN (sM I a).1 (sM I b).1 = (sM I b).1 := if_neg (by omega); simp only [wlM, wlF, hm]; simp [h1, h4, h5, Nat.ne_of_gt h4]; done), hE, rfl⟩
    · refine Z.sipush (v := 1000) dX7_wordsLike_50 (by decide) ?_
      exact Z.iret dX7_wordsLike_53 rfl ⟨by first | (have hm : mxN (sM I a).1 (sM I b).1 = (sM I a).1 := if_pos (by omega); simp only [wlM, wlF, hm]; simp [h1, h4]; done) | (have hm : mxN (sM I a).1 (sM I b).1 = (sM I b).1 := if_neg (by omega); simp only [wlM, wlF, hm]; simp [h1, h4]; done), hE, rfl⟩

set_option maxHeartbeats 4000000 in
set_option maxRecDepth 100000 in
theorem lp_codesLike {g : GP} {I J : IM} {S : SH} (hE : Ex I J) (a b : Nat) (hF : Fx S) (hM : MIv I) (ha : a < 120) (hb : b < 120) : ∀ i, i ≤ (I 47 a).toNatClampNeg → Z g 1 0 0 mX7_codesLike 8 [.ref 35, .int (nI a), .int (nI b), .int (nI (bothU (I 48) (12 * a) (hasCF (I 48) (12 * b) (I 47 b)) i)), .int (nI (12 * a + i))] [] J S (PQ (.int (clM I a b)) J S) := by
  refine upZ ((I 47 a).toNatClampNeg) (fun i hi ih => ?_)
  have hca := hM.2.2.2.1 a ha
  have hcb := hM.2.2.2.1 b hb
  have hca2 := hca.2
  have hcb2 := hcb.2
  have hbu : bothU (I 48) (12 * a) (hasCF (I 48) (12 * b) (I 47 b)) i ≤ i := bothU_le i
  refine Z.iload dX7_codesLike_8 rfl ?_
  refine Z.bipush (v := 12) dX7_codesLike_10 (by decide) ?_
  refine Z.iload_n dX7_codesLike_12 rfl ?_
  refine Z.imulN (a := 12) (b := a) dX7_codesLike_13 ?_
  refine Z.aload_n dX7_codesLike_14 rfl ?_
  refine Z.getR (r := 47) dX7_codesLike_15 cl7 flX7_43 (by decide) (fx35 hF) rfl ?_
  refine Z.iload_n dX7_codesLike_18 rfl ?_
  refine Z.ialdv (j := a) (v := nI ((I 47 a).toNatClampNeg)) dX7_codesLike_19 (fx47 hF) rfl (by omega) (by decide) ((hE.at 47 a rfl).trans hca.1) ?_
  refine Z.iaddN (a := 12 * a) (b := (I 47 a).toNatClampNeg) dX7_codesLike_20 ?_
  refine Z.icmp_geN (a := 12 * a + i) (b := (12 * a) + ((I 47 a).toNatClampNeg)) (by omega) (by omega) (tgt := 53) dX7_codesLike_21 (by decide) (fun h1 => ?_) (fun h1 => ?_)
  · refine Z.aload_n dX7_codesLike_53 rfl ?_
    refine Z.getR (r := 47) dX7_codesLike_54 cl7 flX7_43 (by decide) (fx35 hF) rfl ?_
    refine Z.iload_n dX7_codesLike_57 rfl ?_
    refine Z.ialdv (j := a) (v := nI ((I 47 a).toNatClampNeg)) dX7_codesLike_58 (fx47 hF) rfl (by omega) (by decide) ((hE.at 47 a rfl).trans hca.1) ?_
    refine Z.aload_n dX7_codesLike_59 rfl ?_
    refine Z.getR (r := 47) dX7_codesLike_60 cl7 flX7_43 (by decide) (fx35 hF) rfl ?_
    refine Z.iload_n dX7_codesLike_63 rfl ?_
    refine Z.ialdv (j := b) (v := nI ((I 47 b).toNatClampNeg)) dX7_codesLike_64 (fx47 hF) rfl (by omega) (by decide) ((hE.at 47 b rfl).trans hcb.1) ?_
    refine Z.icmp_leN (a := (I 47 a).toNatClampNeg) (b := (I 47 b).toNatClampNeg) (by omega) (by omega) (tgt := 77) dX7_codesLike_65 (by decide) (fun h2 => ?_) (fun h2 => ?_)
    · refine Z.aload_n dX7_codesLike_77 rfl ?_
      refine Z.getR (r := 47) dX7_codesLike_78 cl7 flX7_43 (by decide) (fx35 hF) rfl ?_
      refine Z.iload_n dX7_codesLike_81 rfl ?_
      refine Z.ialdv (j := b) (v := nI ((I 47 b).toNatClampNeg)) dX7_codesLike_82 (fx47 hF) rfl (by omega) (by decide) ((hE.at 47 b rfl).trans hcb.1) ?_
      refine Z.istore (L' := [.ref 35, .int (nI a), .int (nI b), .int (nI (bothU (I 48) (12 * a) (hasCF (I 48) (12 * b) (I 47 b)) i)), .int (nI ((I 47 b).toNatClampNeg))]) dX7_codesLike_83 (Nat.le_of_ble_eq_true rfl) rfl ?_
      refine Z.iload dX7_codesLike_85 rfl ?_
      refine Z.if_neN (a := (I 47 b).toNatClampNeg) (by omega) (tgt := 94) dX7_codesLike_87 (by decide) (fun h3 => ?_) (fun h3 => ?_)
      · refine Z.sipush (v := 1000) dX7_codesLike_94 (by decide) ?_
        refine Z.iload_n dX7_codesLike_97 rfl ?_
        refine Z.imulN (a := 1000) (b := bothU (I 48) (12 * a) (hasCF (I 48) (12 * b) (I 47 b)) i) dX7_codesLike_98 ?_
        refine Z.iload dX7_codesLike_99 rfl ?_
        refine Z.idiv dX7_codesLike_101 (nI_ne0 (by omega) (by omega)) ?_
        exact Z.iret dX7_codesLike_102 rfl ⟨by have hie : i = (I 47 a).toNatClampNeg := (by omega); subst hie; rw [clM]; first | (have hm : mxN (I 47 a).toNatClampNeg (I 47 b).toNatClampNeg = (I 47 a).toNatClampNeg := if_pos (by omega); simp only [clF, hm]; first | (rw [if_pos (by omega)]; done) | (rw [if_neg (by omega)])) | (have hm : mxN (I 47 a).toNatClampNeg (I 47 b).toNatClampNeg = (I 47 b).toNatClampNeg := if_neg (by omega); simp only [clF, hm]; first | (rw [if_pos (by omega)]; done) | (rw [if_neg (by omega)])), rfl, rfl⟩
      · refine Z.iconst (v := 0) dX7_codesLike_90 (by decide) ?_
        refine Z.goto (tgt := 102) dX7_codesLike_91 (by decide) ?_
        exact Z.iret dX7_codesLike_102 rfl ⟨by have hie : i = (I 47 a).toNatClampNeg := (by omega); subst hie; rw [clM]; first | (have hm : mxN (I 47 a).toNatClampNeg (I 47 b).toNatClampNeg = (I 47 a).toNatClampNeg := if_pos (by omega); simp only [clF, hm]; first | (rw [if_pos (by omega)]; done) | (rw [if_neg (by omega)])) | (have hm : mxN (I 47 a).toNatClampNeg (I 47 b).toNatClampNeg = (I 47 b).toNatClampNeg := if_neg (by omega); simp only [clF, hm]; first | (rw [if_pos (by omega)]; done) | (rw [if_neg (by omega)])), rfl, rfl⟩
    · refine Z.aload_n dX7_codesLike_68 rfl ?_
      refine Z.getR (r := 47) dX7_codesLike_69 cl7 flX7_43 (by decide) (fx35 hF) rfl ?_
      refine Z.iload_n dX7_codesLike_72 rfl ?_
      refine Z.ialdv (j := a) (v := nI ((I 47 a).toNatClampNeg)) dX7_codesLike_73 (fx47 hF) rfl (by omega) (by decide) ((hE.at 47 a rfl).trans hca.1) ?_
      refine Z.goto (tgt := 83) dX7_codesLike_74 (by decide) ?_
      refine Z.istore (L' := [.ref 35, .int (nI a), .int (nI b), .int (nI (bothU (I 48) (12 * a) (hasCF (I 48) (12 * b) (I 47 b)) i)), .int (nI ((I 47 a).toNatClampNeg))]) dX7_codesLike_83 (Nat.le_of_ble_eq_true rfl) rfl ?_
      refine Z.iload dX7_codesLike_85 rfl ?_
      refine Z.if_neN (a := (I 47 a).toNatClampNeg) (by omega) (tgt := 94) dX7_codesLike_87 (by decide) (fun h4 => ?_) (fun h4 => ?_)
      · refine Z.sipush (v := 1000) dX7_codesLike_94 (by decide) ?_
        refine Z.iload_n dX7_codesLike_97 rfl ?_
        refine Z.imulN (a := 1000) (b := bothU (I 48) (12 * a) (hasCF (I 48) (12 * b) (I 47 b)) i) dX7_codesLike_98 ?_
        refine Z.iload dX7_codesLike_99 rfl ?_
        refine Z.idiv dX7_codesLike_101 (nI_ne0 (by omega) (by omega)) ?_
        exact Z.iret dX7_codesLike_102 rfl ⟨by have hie : i = (I 47 a).toNatClampNeg := (by omega); subst hie; rw [clM]; first | (have hm : mxN (I 47 a).toNatClampNeg (I 47 b).toNatClampNeg = (I 47 a).toNatClampNeg := if_pos (by omega); simp only [clF, hm]; first | (rw [if_pos (by omega)]; done) | (rw [if_neg (by omega)])) | (have hm : mxN (I 47 a).toNatClampNeg (I 47 b).toNatClampNeg = (I 47 b).toNatClampNeg := if_neg (by omega); simp only [clF, hm]; first | (rw [if_pos (by omega)]; done) | (rw [if_neg (by omega)])), rfl, rfl⟩
      · refine Z.iconst (v := 0) dX7_codesLike_90 (by decide) ?_
        refine Z.goto (tgt := 102) dX7_codesLike_91 (by decide) ?_
        exact Z.iret dX7_codesLike_102 rfl ⟨by have hie : i = (I 47 a).toNatClampNeg := (by omega); subst hie; rw [clM]; first | (have hm : mxN (I 47 a).toNatClampNeg (I 47 b).toNatClampNeg = (I 47 a).toNatClampNeg := if_pos (by omega); simp only [clF, hm]; first | (rw [if_pos (by omega)]; done) | (rw [if_neg (by omega)])) | (have hm : mxN (I 47 a).toNatClampNeg (I 47 b).toNatClampNeg = (I 47 b).toNatClampNeg := if_neg (by omega); simp only [clF, hm]; first | (rw [if_pos (by omega)]; done) | (rw [if_neg (by omega)])), rfl, rfl⟩
  · refine Z.iload_n dX7_codesLike_24 rfl ?_
    refine Z.aload_n dX7_codesLike_25 rfl ?_
    refine Z.iload_n dX7_codesLike_26 rfl ?_
    refine Z.aload_n dX7_codesLike_27 rfl ?_
    refine Z.getR (r := 48) dX7_codesLike_28 cl7 flX7_46 (by decide) (fx35 hF) rfl ?_
    refine Z.iload dX7_codesLike_31 rfl ?_
    refine Z.ialdv (j := 12 * a + i) (v := I 48 (12 * a + i)) dX7_codesLike_33 (fx48 hF) rfl (by omega) (by decide) (hE.at 48 (12 * a + i) rfl) ?_
    refine Z.callVp (M := mX7_codesLike) (pc := 34) (st := [.int (nI (bothU (I 48) (12 * a) (hasCF (I 48) (12 * b) (I 47 b)) i))]) (N := mX7_hasCode) (n := 2) (r := .int (bI (hasCF (I 48) (12 * b) (I 47 b) (I 48 (12 * a + i))))) dX7_codesLike_34 mlX7_114 mkX7_hasCode imX7_hasCode seX7_hasCode (fx35 hF) cl7 rfl (d1 := 0) (by decide) (As := [.int (nI b), .int (I 48 (12 * a + i))]) rfl ⟨rfl, Nat.le_of_ble_eq_true rfl⟩ ⟨rfl, Nat.le_of_ble_eq_true rfl⟩ (ct_hasCode hE b (I 48 (12 * a + i)) hF hM (by omega)) rfl ?_
    refine Z.if_eqB (tgt := 44) dX7_codesLike_37 (by decide) (fun h5 => ?_) (fun h5 => ?_)
    · refine Z.iconst (v := 0) dX7_codesLike_44 (by decide) ?_
      refine Z.iaddN (a := bothU (I 48) (12 * a) (hasCF (I 48) (12 * b) (I 47 b)) i) (b := 0) dX7_codesLike_45 ?_
      refine Z.istore_n (L' := [.ref 35, .int (nI a), .int (nI b), .int (nI ((bothU (I 48) (12 * a) (hasCF (I 48) (12 * b) (I 47 b)) i) + 0)), .int (nI (12 * a + i))]) dX7_codesLike_46 (Nat.le_of_ble_eq_true rfl) rfl ?_
      refine Z.iinc (v := nI ((12 * a + i) + 1)) (L' := [.ref 35, .int (nI a), .int (nI b), .int (nI ((bothU (I 48) (12 * a) (hasCF (I 48) (12 * b) (I 47 b)) i) + 0)), .int (nI ((12 * a + i) + 1))]) dX7_codesLike_47 rfl (nI_1 _) rfl ?_
      refine Z.goto (tgt := 8) dX7_codesLike_50 (by decide) ?_
      have e := ih (by omega)
      rw [show nI (bothU (I 48) (12 * a) (hasCF (I 48) (12 * b) (I 47 b)) (i + 1)) = nI ((bothU (I 48) (12 * a) (hasCF (I 48) (12 * b) (I 47 b)) i) + 0) by simp [bothU, h1, h5]] at e
      exact e
    · refine Z.iconst (v := 1) dX7_codesLike_40 (by decide) ?_
      refine Z.goto (tgt := 45) dX7_codesLike_41 (by decide) ?_
      refine Z.iaddN (a := bothU (I 48) (12 * a) (hasCF (I 48) (12 * b) (I 47 b)) i) (b := 1) dX7_codesLike_45 ?_
      refine Z.istore_n (L' := [.ref 35, .int (nI a), .int (nI b), .int (nI ((bothU (I 48) (12 * a) (hasCF (I 48) (12 * b) (I 47 b)) i) + 1)), .int (nI (12 * a + i))]) dX7_codesLike_46 (Nat.le_of_ble_eq_true rfl) rfl ?_
      refine Z.iinc (v := nI ((12 * a + i) + 1)) (L' := [.ref 35, .int (nI a), .int (nI b), .int (nI ((bothU (I 48) (12 * a) (hasCF (I 48) (12 * b) (I 47 b)) i) + 1)), .int (nI ((12 * a + i) + 1))]) dX7_codesLike_47 rfl (nI_1 _) rfl ?_
      refine Z.goto (tgt := 8) dX7_codesLike_50 (by decide) ?_
      have e := ih (by omega)
      rw [show nI (bothU (I 48) (12 * a) (hasCF (I 48) (12 * b) (I 47 b)) (i + 1)) = nI ((bothU (I 48) (12 * a) (hasCF (I 48) (12 * b) (I 47 b)) i) + 1) by simp [bothU, h1, h5]] at e
      exact e

set_option maxHeartbeats 4000000 in
set_option maxRecDepth 100000 in
theorem ct_codesLike {g : GP} {I J : IM} {S : SH} (hE : Ex I J) (a b : Nat) (hF : Fx S) (hM : MIv I) (ha : a < 120) (hb : b < 120) : Z g 1 0 0 mX7_codesLike 0 (enL mX7_codesLike [.ref 35, .int (nI a), .int (nI b)]) [] J S (PQ (.int (clM I a b)) J S) := by
  show Z g 1 0 0 mX7_codesLike 0 [.ref 35, .int (nI a), .int (nI b), .retAddr 0, .retAddr 0] [] J S _
  refine Z.iconst (v := 0) dX7_codesLike_0 (by decide) ?_
  refine Z.istore_n (L' := [.ref 35, .int (nI a), .int (nI b), .int 0, .retAddr 0]) dX7_codesLike_1 (Nat.le_of_ble_eq_true rfl) rfl ?_
  refine Z.bipush (v := 12) dX7_codesLike_2 (by decide) ?_
  refine Z.iload_n dX7_codesLike_4 rfl ?_
  refine Z.imulN (a := 12) (b := a) dX7_codesLike_5 ?_
  refine Z.istore (L' := [.ref 35, .int (nI a), .int (nI b), .int 0, .int (nI (12 * a))]) dX7_codesLike_6 (Nat.le_of_ble_eq_true rfl) rfl ?_
  exact lp_codesLike hE a b hF hM ha hb 0 (Nat.zero_le _)

set_option maxHeartbeats 4000000 in
set_option maxRecDepth 100000 in
theorem ct_likeOf {g : GP} {I J : IM} {S : SH} (hE : Ex I J) (a b : Nat) (hF : Fx S) (hM : MIv I) (ha : a < 120) (hb : b < 120) : Z g 4 0 0 mX7_likeOf 0 (enL mX7_likeOf [.ref 35, .int (nI a), .int (nI b)]) [] J S (NQ (.int (lkM I a b)) I S) := by
  show Z g 4 0 0 mX7_likeOf 0 [.ref 35, .int (nI a), .int (nI b), .retAddr 0, .retAddr 0, .retAddr 0, .retAddr 0, .retAddr 0, .retAddr 0] [] J S _
  refine Z.aload_n dX7_likeOf_0 rfl ?_
  refine Z.getR (r := 43) dX7_likeOf_1 cl7 flX7_31 (by decide) (fx35 hF) rfl ?_
  refine Z.iload_n dX7_likeOf_4 rfl ?_
  refine Z.ialdv (j := a) (v := I 43 a) dX7_likeOf_5 (fx43 hF) rfl (by omega) (by decide) (hE.at 43 a rfl) ?_
  refine Z.iconst (v := 1) dX7_likeOf_6 (by decide) ?_
  refine Z.icmp_ne (tgt := 14) dX7_likeOf_7 (by decide) (fun h1 => ?_) (fun h1 => ?_)
  · refine Z.iconst (v := 0) dX7_likeOf_14 (by decide) ?_
    refine Z.istore_n (L' := [.ref 35, .int (nI a), .int (nI b), .int 0, .retAddr 0, .retAddr 0, .retAddr 0, .retAddr 0, .retAddr 0]) dX7_likeOf_15 (Nat.le_of_ble_eq_true rfl) rfl ?_
    refine Z.aload_n dX7_likeOf_16 rfl ?_
    refine Z.getR (r := 43) dX7_likeOf_17 cl7 flX7_31 (by decide) (fx35 hF) rfl ?_
    refine Z.iload_n dX7_likeOf_20 rfl ?_
    refine Z.ialdv (j := b) (v := I 43 b) dX7_likeOf_21 (fx43 hF) rfl (by omega) (by decide) (hE.at 43 b rfl) ?_
    refine Z.iconst (v := 1) dX7_likeOf_22 (by decide) ?_
    refine Z.icmp_ne (tgt := 30) dX7_likeOf_23 (by decide) (fun h2 => ?_) (fun h2 => ?_)
    · refine Z.iconst (v := 0) dX7_likeOf_30 (by decide) ?_
      refine Z.istore (L' := [.ref 35, .int (nI a), .int (nI b), .int 0, .int 0, .retAddr 0, .retAddr 0, .retAddr 0, .retAddr 0]) dX7_likeOf_31 (Nat.le_of_ble_eq_true rfl) rfl ?_
      refine Z.iload_n dX7_likeOf_33 rfl ?_
      refine Z.if_ne (tgt := 47) dX7_likeOf_34 (by decide) (fun h3 => absurd h3 (by decide)) (fun h3 => ?_)
      refine Z.aload_n dX7_likeOf_37 rfl ?_
      refine Z.getR (r := 43) dX7_likeOf_38 cl7 flX7_31 (by decide) (fx35 hF) rfl ?_
      refine Z.iload_n dX7_likeOf_41 rfl ?_
      refine Z.ialdv (j := a) (v := I 43 a) dX7_likeOf_42 (fx43 hF) rfl (by omega) (by decide) (hE.at 43 a rfl) ?_
      refine Z.iconst (v := 2) dX7_likeOf_43 (by decide) ?_
      refine Z.icmp_ne (tgt := 51) dX7_likeOf_44 (by decide) (fun h4 => ?_) (fun h4 => ?_)
      · refine Z.iconst (v := 0) dX7_likeOf_51 (by decide) ?_
        refine Z.istore (L' := [.ref 35, .int (nI a), .int (nI b), .int 0, .int 0, .int 0, .retAddr 0, .retAddr 0, .retAddr 0]) dX7_likeOf_52 (Nat.le_of_ble_eq_true rfl) rfl ?_
        refine Z.iload dX7_likeOf_54 rfl ?_
        refine Z.if_ne (tgt := 69) dX7_likeOf_56 (by decide) (fun h5 => absurd h5 (by decide)) (fun h5 => ?_)
        refine Z.aload_n dX7_likeOf_59 rfl ?_
        refine Z.getR (r := 43) dX7_likeOf_60 cl7 flX7_31 (by decide) (fx35 hF) rfl ?_
        refine Z.iload_n dX7_likeOf_63 rfl ?_
        refine Z.ialdv (j := b) (v := I 43 b) dX7_likeOf_64 (fx43 hF) rfl (by omega) (by decide) (hE.at 43 b rfl) ?_
        refine Z.iconst (v := 2) dX7_likeOf_65 (by decide) ?_
        refine Z.icmp_ne (tgt := 73) dX7_likeOf_66 (by decide) (fun h6 => ?_) (fun h6 => ?_)
        · refine Z.iconst (v := 0) dX7_likeOf_73 (by decide) ?_
          refine Z.istore (L' := [.ref 35, .int (nI a), .int (nI b), .int 0, .int 0, .int 0, .int 0, .retAddr 0, .retAddr 0]) dX7_likeOf_74 (Nat.le_of_ble_eq_true rfl) rfl ?_
          refine Z.iload_n dX7_likeOf_76 rfl ?_
          refine Z.if_ne (tgt := 85) dX7_likeOf_77 (by decide) (fun h7 => absurd h7 (by decide)) (fun h7 => ?_)
          refine Z.iload dX7_likeOf_80 rfl ?_
          refine Z.if_eq (tgt := 106) dX7_likeOf_82 (by decide) (fun h8 => ?_) (fun h8 => absurd h8 (by decide))
          refine Z.aload_n dX7_likeOf_106 rfl ?_
          refine Z.iload_n dX7_likeOf_107 rfl ?_
          refine Z.iload_n dX7_likeOf_108 rfl ?_
          refine Z.callVg (M := mX7_likeOf) (pc := 109) (st := []) (N := mX7_wordsLike) (n := 2) dX7_likeOf_109 mlX7_132 mkX7_wordsLike imX7_wordsLike seX7_wordsLike (fx35 hF) cl7 rfl (d1 := 3) (by decide) (As := [.int (nI a), .int (nI b)]) rfl ⟨rfl, Nat.le_of_ble_eq_true rfl⟩ ⟨rfl, Nat.le_of_ble_eq_true rfl⟩ (ct_wordsLike hE a b hF hM (by omega) (by omega)) rfl (fun v_ J1 S_ h_ => ?_)
          obtain ⟨rfl, hE, rfl⟩ := h_
          refine Z.istore (L' := [.ref 35, .int (nI a), .int (nI b), .int 0, .int 0, .int 0, .int 0, .int (wlM I a b), .retAddr 0]) dX7_likeOf_112 (Nat.le_of_ble_eq_true rfl) rfl ?_
          refine Z.iload dX7_likeOf_114 rfl ?_
          refine Z.if_eq (tgt := 133) dX7_likeOf_116 (by decide) (fun h9 => ?_) (fun h9 => absurd h9 (by decide))
          refine Z.iconst (v := 0) dX7_likeOf_133 (by decide) ?_
          refine Z.istore (L' := [.ref 35, .int (nI a), .int (nI b), .int 0, .int 0, .int 0, .int 0, .int (wlM I a b), .int 0]) dX7_likeOf_134 (Nat.le_of_ble_eq_true rfl) rfl ?_
          refine Z.iload dX7_likeOf_136 rfl ?_
          refine Z.iload dX7_likeOf_138 rfl ?_
          refine Z.icmp_le (tgt := 148) dX7_likeOf_140 (by decide) (fun h10 => ?_) (fun h10 => ?_)
          · refine Z.iload dX7_likeOf_148 rfl ?_
            exact Z.iret dX7_likeOf_150 rfl ⟨by simp [lkM, lkG, h1, h2, h4, h6, h10], hE, rfl⟩
          · refine Z.iload dX7_likeOf_143 rfl ?_
            refine Z.goto (tgt := 150) dX7_likeOf_145 (by decide) ?_
            exact Z.iret dX7_likeOf_150 rfl ⟨by simp [lkM, lkG, h1, h2, h4, h6, h10], hE, rfl⟩
        · refine Z.iconst (v := 1) dX7_likeOf_69 (by decide) ?_
          refine Z.goto (tgt := 74) dX7_likeOf_70 (by decide) ?_
          refine Z.istore (L' := [.ref 35, .int (nI a), .int (nI b), .int 0, .int 0, .int 0, .int 1, .retAddr 0, .retAddr 0]) dX7_likeOf_74 (Nat.le_of_ble_eq_true rfl) rfl ?_
          refine Z.iload_n dX7_likeOf_76 rfl ?_
          refine Z.if_ne (tgt := 85) dX7_likeOf_77 (by decide) (fun h11 => absurd h11 (by decide)) (fun h11 => ?_)
          refine Z.iload dX7_likeOf_80 rfl ?_
          refine Z.if_eq (tgt := 106) dX7_likeOf_82 (by decide) (fun h12 => ?_) (fun h12 => absurd h12 (by decide))
          refine Z.aload_n dX7_likeOf_106 rfl ?_
          refine Z.iload_n dX7_likeOf_107 rfl ?_
          refine Z.iload_n dX7_likeOf_108 rfl ?_
          refine Z.callVg (M := mX7_likeOf) (pc := 109) (st := []) (N := mX7_wordsLike) (n := 2) dX7_likeOf_109 mlX7_132 mkX7_wordsLike imX7_wordsLike seX7_wordsLike (fx35 hF) cl7 rfl (d1 := 3) (by decide) (As := [.int (nI a), .int (nI b)]) rfl ⟨rfl, Nat.le_of_ble_eq_true rfl⟩ ⟨rfl, Nat.le_of_ble_eq_true rfl⟩ (ct_wordsLike hE a b hF hM (by omega) (by omega)) rfl (fun v_ J2 S_ h_ => ?_)
          obtain ⟨rfl, hE, rfl⟩ := h_
          refine Z.istore (L' := [.ref 35, .int (nI a), .int (nI b), .int 0, .int 0, .int 0, .int 1, .int (wlM I a b), .retAddr 0]) dX7_likeOf_112 (Nat.le_of_ble_eq_true rfl) rfl ?_
          refine Z.iload dX7_likeOf_114 rfl ?_
          refine Z.if_eq (tgt := 133) dX7_likeOf_116 (by decide) (fun h13 => ?_) (fun h13 => absurd h13 (by decide))
          refine Z.iconst (v := 0) dX7_likeOf_133 (by decide) ?_
          refine Z.istore (L' := [.ref 35, .int (nI a), .int (nI b), .int 0, .int 0, .int 0, .int 1, .int (wlM I a b), .int 0]) dX7_likeOf_134 (Nat.le_of_ble_eq_true rfl) rfl ?_
          refine Z.iload dX7_likeOf_136 rfl ?_
          refine Z.iload dX7_likeOf_138 rfl ?_
          refine Z.icmp_le (tgt := 148) dX7_likeOf_140 (by decide) (fun h14 => ?_) (fun h14 => ?_)
          · refine Z.iload dX7_likeOf_148 rfl ?_
            exact Z.iret dX7_likeOf_150 rfl ⟨by simp [lkM, lkG, h1, h2, h4, h6, h14], hE, rfl⟩
          · refine Z.iload dX7_likeOf_143 rfl ?_
            refine Z.goto (tgt := 150) dX7_likeOf_145 (by decide) ?_
            exact Z.iret dX7_likeOf_150 rfl ⟨by simp [lkM, lkG, h1, h2, h4, h6, h14], hE, rfl⟩
      · refine Z.iconst (v := 1) dX7_likeOf_47 (by decide) ?_
        refine Z.goto (tgt := 52) dX7_likeOf_48 (by decide) ?_
        refine Z.istore (L' := [.ref 35, .int (nI a), .int (nI b), .int 0, .int 0, .int 1, .retAddr 0, .retAddr 0, .retAddr 0]) dX7_likeOf_52 (Nat.le_of_ble_eq_true rfl) rfl ?_
        refine Z.iload dX7_likeOf_54 rfl ?_
        refine Z.if_ne (tgt := 69) dX7_likeOf_56 (by decide) (fun h15 => absurd h15 (by decide)) (fun h15 => ?_)
        refine Z.aload_n dX7_likeOf_59 rfl ?_
        refine Z.getR (r := 43) dX7_likeOf_60 cl7 flX7_31 (by decide) (fx35 hF) rfl ?_
        refine Z.iload_n dX7_likeOf_63 rfl ?_
        refine Z.ialdv (j := b) (v := I 43 b) dX7_likeOf_64 (fx43 hF) rfl (by omega) (by decide) (hE.at 43 b rfl) ?_
        refine Z.iconst (v := 2) dX7_likeOf_65 (by decide) ?_
        refine Z.icmp_ne (tgt := 73) dX7_likeOf_66 (by decide) (fun h16 => ?_) (fun h16 => ?_)
        · refine Z.iconst (v := 0) dX7_likeOf_73 (by decide) ?_
          refine Z.istore (L' := [.ref 35, .int (nI a), .int (nI b), .int 0, .int 0, .int 1, .int 0, .retAddr 0, .retAddr 0]) dX7_likeOf_74 (Nat.le_of_ble_eq_true rfl) rfl ?_
          refine Z.iload_n dX7_likeOf_76 rfl ?_
          refine Z.if_ne (tgt := 85) dX7_likeOf_77 (by decide) (fun h17 => absurd h17 (by decide)) (fun h17 => ?_)
          refine Z.iload dX7_likeOf_80 rfl ?_
          refine Z.if_eq (tgt := 106) dX7_likeOf_82 (by decide) (fun h18 => ?_) (fun h18 => absurd h18 (by decide))
          refine Z.aload_n dX7_likeOf_106 rfl ?_
          refine Z.iload_n dX7_likeOf_107 rfl ?_
          refine Z.iload_n dX7_likeOf_108 rfl ?_
          refine Z.callVg (M := mX7_likeOf) (pc := 109) (st := []) (N := mX7_wordsLike) (n := 2) dX7_likeOf_109 mlX7_132 mkX7_wordsLike imX7_wordsLike seX7_wordsLike (fx35 hF) cl7 rfl (d1 := 3) (by decide) (As := [.int (nI a), .int (nI b)]) rfl ⟨rfl, Nat.le_of_ble_eq_true rfl⟩ ⟨rfl, Nat.le_of_ble_eq_true rfl⟩ (ct_wordsLike hE a b hF hM (by omega) (by omega)) rfl (fun v_ J3 S_ h_ => ?_)
          obtain ⟨rfl, hE, rfl⟩ := h_
          refine Z.istore (L' := [.ref 35, .int (nI a), .int (nI b), .int 0, .int 0, .int 1, .int 0, .int (wlM I a b), .retAddr 0]) dX7_likeOf_112 (Nat.le_of_ble_eq_true rfl) rfl ?_
          refine Z.iload dX7_likeOf_114 rfl ?_
          refine Z.if_eq (tgt := 133) dX7_likeOf_116 (by decide) (fun h19 => absurd h19 (by decide)) (fun h19 => ?_)
          refine Z.iload dX7_likeOf_119 rfl ?_
          refine Z.if_eq (tgt := 133) dX7_likeOf_121 (by decide) (fun h20 => ?_) (fun h20 => absurd h20 (by decide))
          refine Z.iconst (v := 0) dX7_likeOf_133 (by decide) ?_
          refine Z.istore (L' := [.ref 35, .int (nI a), .int (nI b), .int 0, .int 0, .int 1, .int 0, .int (wlM I a b), .int 0]) dX7_likeOf_134 (Nat.le_of_ble_eq_true rfl) rfl ?_
          refine Z.iload dX7_likeOf_136 rfl ?_
          refine Z.iload dX7_likeOf_138 rfl ?_
          refine Z.icmp_le (tgt := 148) dX7_likeOf_140 (by decide) (fun h21 => ?_) (fun h21 => ?_)
          · refine Z.iload dX7_likeOf_148 rfl ?_
            exact Z.iret dX7_likeOf_150 rfl ⟨by simp [lkM, lkG, h1, h2, h4, h16, h21], hE, rfl⟩
          · refine Z.iload dX7_likeOf_143 rfl ?_
            refine Z.goto (tgt := 150) dX7_likeOf_145 (by decide) ?_
            exact Z.iret dX7_likeOf_150 rfl ⟨by simp [lkM, lkG, h1, h2, h4, h16, h21], hE, rfl⟩
        · refine Z.iconst (v := 1) dX7_likeOf_69 (by decide) ?_
          refine Z.goto (tgt := 74) dX7_likeOf_70 (by decide) ?_
          refine Z.istore (L' := [.ref 35, .int (nI a), .int (nI b), .int 0, .int 0, .int 1, .int 1, .retAddr 0, .retAddr 0]) dX7_likeOf_74 (Nat.le_of_ble_eq_true rfl) rfl ?_
          refine Z.iload_n dX7_likeOf_76 rfl ?_
          refine Z.if_ne (tgt := 85) dX7_likeOf_77 (by decide) (fun h22 => absurd h22 (by decide)) (fun h22 => ?_)
          refine Z.iload dX7_likeOf_80 rfl ?_
          refine Z.if_eq (tgt := 106) dX7_likeOf_82 (by decide) (fun h23 => ?_) (fun h23 => absurd h23 (by decide))
          refine Z.aload_n dX7_likeOf_106 rfl ?_
          refine Z.iload_n dX7_likeOf_107 rfl ?_
          refine Z.iload_n dX7_likeOf_108 rfl ?_
          refine Z.callVg (M := mX7_likeOf) (pc := 109) (st := []) (N := mX7_wordsLike) (n := 2) dX7_likeOf_109 mlX7_132 mkX7_wordsLike imX7_wordsLike seX7_wordsLike (fx35 hF) cl7 rfl (d1 := 3) (by decide) (As := [.int (nI a), .int (nI b)]) rfl ⟨rfl, Nat.le_of_ble_eq_true rfl⟩ ⟨rfl, Nat.le_of_ble_eq_true rfl⟩ (ct_wordsLike hE a b hF hM (by omega) (by omega)) rfl (fun v_ J4 S_ h_ => ?_)
          obtain ⟨rfl, hE, rfl⟩ := h_
          refine Z.istore (L' := [.ref 35, .int (nI a), .int (nI b), .int 0, .int 0, .int 1, .int 1, .int (wlM I a b), .retAddr 0]) dX7_likeOf_112 (Nat.le_of_ble_eq_true rfl) rfl ?_
          refine Z.iload dX7_likeOf_114 rfl ?_
          refine Z.if_eq (tgt := 133) dX7_likeOf_116 (by decide) (fun h24 => absurd h24 (by decide)) (fun h24 => ?_)
          refine Z.iload dX7_likeOf_119 rfl ?_
          refine Z.if_eq (tgt := 133) dX7_likeOf_121 (by decide) (fun h25 => absurd h25 (by decide)) (fun h25 => ?_)
          refine Z.aload_n dX7_likeOf_124 rfl ?_
          refine Z.iload_n dX7_likeOf_125 rfl ?_
          refine Z.iload_n dX7_likeOf_126 rfl ?_
          refine Z.callVp (M := mX7_likeOf) (pc := 127) (st := []) (N := mX7_codesLike) (n := 2) (r := .int (clM I a b)) dX7_likeOf_127 mlX7_129 mkX7_codesLike imX7_codesLike seX7_codesLike (fx35 hF) cl7 rfl (d1 := 1) (by decide) (As := [.int (nI a), .int (nI b)]) rfl ⟨rfl, Nat.le_of_ble_eq_true rfl⟩ ⟨rfl, Nat.le_of_ble_eq_true rfl⟩ (ct_codesLike hE a b hF hM (by omega) (by omega)) rfl ?_
          refine Z.goto (tgt := 134) dX7_likeOf_130 (by decide) ?_
          refine Z.istore (L' := [.ref 35, .int (nI a), .int (nI b), .int 0, .int 0, .int 1, .int 1, .int (wlM I a b), .int (clM I a b)]) dX7_likeOf_134 (Nat.le_of_ble_eq_true rfl) rfl ?_
          refine Z.iload dX7_likeOf_136 rfl ?_
          refine Z.iload dX7_likeOf_138 rfl ?_
          refine Z.icmp_le (tgt := 148) dX7_likeOf_140 (by decide) (fun h26 => ?_) (fun h26 => ?_)
          · refine Z.iload dX7_likeOf_148 rfl ?_
            exact Z.iret dX7_likeOf_150 rfl ⟨by simp [lkM, lkG, h1, h2, h4, h16, h26], hE, rfl⟩
          · refine Z.iload dX7_likeOf_143 rfl ?_
            refine Z.goto (tgt := 150) dX7_likeOf_145 (by decide) ?_
            exact Z.iret dX7_likeOf_150 rfl ⟨by simp [lkM, lkG, h1, h2, h4, h16, h26], hE, rfl⟩
    · refine Z.iconst (v := 1) dX7_likeOf_26 (by decide) ?_
      refine Z.goto (tgt := 31) dX7_likeOf_27 (by decide) ?_
      refine Z.istore (L' := [.ref 35, .int (nI a), .int (nI b), .int 0, .int 1, .retAddr 0, .retAddr 0, .retAddr 0, .retAddr 0]) dX7_likeOf_31 (Nat.le_of_ble_eq_true rfl) rfl ?_
      refine Z.iload_n dX7_likeOf_33 rfl ?_
      refine Z.if_ne (tgt := 47) dX7_likeOf_34 (by decide) (fun h27 => absurd h27 (by decide)) (fun h27 => ?_)
      refine Z.aload_n dX7_likeOf_37 rfl ?_
      refine Z.getR (r := 43) dX7_likeOf_38 cl7 flX7_31 (by decide) (fx35 hF) rfl ?_
      refine Z.iload_n dX7_likeOf_41 rfl ?_
      refine Z.ialdv (j := a) (v := I 43 a) dX7_likeOf_42 (fx43 hF) rfl (by omega) (by decide) (hE.at 43 a rfl) ?_
      refine Z.iconst (v := 2) dX7_likeOf_43 (by decide) ?_
      refine Z.icmp_ne (tgt := 51) dX7_likeOf_44 (by decide) (fun h28 => ?_) (fun h28 => ?_)
      · refine Z.iconst (v := 0) dX7_likeOf_51 (by decide) ?_
        refine Z.istore (L' := [.ref 35, .int (nI a), .int (nI b), .int 0, .int 1, .int 0, .retAddr 0, .retAddr 0, .retAddr 0]) dX7_likeOf_52 (Nat.le_of_ble_eq_true rfl) rfl ?_
        refine Z.iload dX7_likeOf_54 rfl ?_
        refine Z.if_ne (tgt := 69) dX7_likeOf_56 (by decide) (fun h29 => ?_) (fun h29 => absurd h29 (by decide))
        refine Z.iconst (v := 1) dX7_likeOf_69 (by decide) ?_
        refine Z.goto (tgt := 74) dX7_likeOf_70 (by decide) ?_
        refine Z.istore (L' := [.ref 35, .int (nI a), .int (nI b), .int 0, .int 1, .int 0, .int 1, .retAddr 0, .retAddr 0]) dX7_likeOf_74 (Nat.le_of_ble_eq_true rfl) rfl ?_
        refine Z.iload_n dX7_likeOf_76 rfl ?_
        refine Z.if_ne (tgt := 85) dX7_likeOf_77 (by decide) (fun h30 => absurd h30 (by decide)) (fun h30 => ?_)
        refine Z.iload dX7_likeOf_80 rfl ?_
        refine Z.if_eq (tgt := 106) dX7_likeOf_82 (by decide) (fun h31 => absurd h31 (by decide)) (fun h31 => ?_)
        refine Z.iload dX7_likeOf_85 rfl ?_
        refine Z.if_eq (tgt := 104) dX7_likeOf_87 (by decide) (fun h32 => ?_) (fun h32 => absurd h32 (by decide))
        refine Z.iconst (v := 0) dX7_likeOf_104 (by decide) ?_
        exact Z.iret dX7_likeOf_105 rfl ⟨by simp [lkM, lkG, h1, h2, h28], hE, rfl⟩
      · refine Z.iconst (v := 1) dX7_likeOf_47 (by decide) ?_
        refine Z.goto (tgt := 52) dX7_likeOf_48 (by decide) ?_
        refine Z.istore (L' := [.ref 35, .int (nI a), .int (nI b), .int 0, .int 1, .int 1, .retAddr 0, .retAddr 0, .retAddr 0]) dX7_likeOf_52 (Nat.le_of_ble_eq_true rfl) rfl ?_
        refine Z.iload dX7_likeOf_54 rfl ?_
        refine Z.if_ne (tgt := 69) dX7_likeOf_56 (by decide) (fun h33 => ?_) (fun h33 => absurd h33 (by decide))
        refine Z.iconst (v := 1) dX7_likeOf_69 (by decide) ?_
        refine Z.goto (tgt := 74) dX7_likeOf_70 (by decide) ?_
        refine Z.istore (L' := [.ref 35, .int (nI a), .int (nI b), .int 0, .int 1, .int 1, .int 1, .retAddr 0, .retAddr 0]) dX7_likeOf_74 (Nat.le_of_ble_eq_true rfl) rfl ?_
        refine Z.iload_n dX7_likeOf_76 rfl ?_
        refine Z.if_ne (tgt := 85) dX7_likeOf_77 (by decide) (fun h34 => absurd h34 (by decide)) (fun h34 => ?_)
        refine Z.iload dX7_likeOf_80 rfl ?_
        refine Z.if_eq (tgt := 106) dX7_likeOf_82 (by decide) (fun h35 => absurd h35 (by decide)) (fun h35 => ?_)
        refine Z.iload dX7_likeOf_85 rfl ?_
        refine Z.if_eq (tgt := 104) dX7_likeOf_87 (by decide) (fun h36 => absurd h36 (by decide)) (fun h36 => ?_)
        refine Z.iload dX7_likeOf_90 rfl ?_
        refine Z.if_eq (tgt := 104) dX7_likeOf_92 (by decide) (fun h37 => absurd h37 (by decide)) (fun h37 => ?_)
        refine Z.aload_n dX7_likeOf_95 rfl ?_
        refine Z.iload_n dX7_likeOf_96 rfl ?_
        refine Z.iload_n dX7_likeOf_97 rfl ?_
        refine Z.callVp (M := mX7_likeOf) (pc := 98) (st := []) (N := mX7_codesLike) (n := 2) (r := .int (clM I a b)) dX7_likeOf_98 mlX7_129 mkX7_codesLike imX7_codesLike seX7_codesLike (fx35 hF) cl7 rfl (d1 := 1) (by decide) (As := [.int (nI a), .int (nI b)]) rfl ⟨rfl, Nat.le_of_ble_eq_true rfl⟩ ⟨rfl, Nat.le_of_ble_eq_true rfl⟩ (ct_codesLike hE a b hF hM (by omega) (by omega)) rfl ?_
        refine Z.goto (tgt := 105) dX7_likeOf_101 (by decide) ?_
        exact Z.iret dX7_likeOf_105 rfl ⟨by simp [lkM, lkG, h1, h2, h28], hE, rfl⟩
  · refine Z.iconst (v := 1) dX7_likeOf_10 (by decide) ?_
    refine Z.goto (tgt := 15) dX7_likeOf_11 (by decide) ?_
    refine Z.istore_n (L' := [.ref 35, .int (nI a), .int (nI b), .int 1, .retAddr 0, .retAddr 0, .retAddr 0, .retAddr 0, .retAddr 0]) dX7_likeOf_15 (Nat.le_of_ble_eq_true rfl) rfl ?_
    refine Z.aload_n dX7_likeOf_16 rfl ?_
    refine Z.getR (r := 43) dX7_likeOf_17 cl7 flX7_31 (by decide) (fx35 hF) rfl ?_
    refine Z.iload_n dX7_likeOf_20 rfl ?_
    refine Z.ialdv (j := b) (v := I 43 b) dX7_likeOf_21 (fx43 hF) rfl (by omega) (by decide) (hE.at 43 b rfl) ?_
    refine Z.iconst (v := 1) dX7_likeOf_22 (by decide) ?_
    refine Z.icmp_ne (tgt := 30) dX7_likeOf_23 (by decide) (fun h38 => ?_) (fun h38 => ?_)
    · refine Z.iconst (v := 0) dX7_likeOf_30 (by decide) ?_
      refine Z.istore (L' := [.ref 35, .int (nI a), .int (nI b), .int 1, .int 0, .retAddr 0, .retAddr 0, .retAddr 0, .retAddr 0]) dX7_likeOf_31 (Nat.le_of_ble_eq_true rfl) rfl ?_
      refine Z.iload_n dX7_likeOf_33 rfl ?_
      refine Z.if_ne (tgt := 47) dX7_likeOf_34 (by decide) (fun h39 => ?_) (fun h39 => absurd h39 (by decide))
      refine Z.iconst (v := 1) dX7_likeOf_47 (by decide) ?_
      refine Z.goto (tgt := 52) dX7_likeOf_48 (by decide) ?_
      refine Z.istore (L' := [.ref 35, .int (nI a), .int (nI b), .int 1, .int 0, .int 1, .retAddr 0, .retAddr 0, .retAddr 0]) dX7_likeOf_52 (Nat.le_of_ble_eq_true rfl) rfl ?_
      refine Z.iload dX7_likeOf_54 rfl ?_
      refine Z.if_ne (tgt := 69) dX7_likeOf_56 (by decide) (fun h40 => absurd h40 (by decide)) (fun h40 => ?_)
      refine Z.aload_n dX7_likeOf_59 rfl ?_
      refine Z.getR (r := 43) dX7_likeOf_60 cl7 flX7_31 (by decide) (fx35 hF) rfl ?_
      refine Z.iload_n dX7_likeOf_63 rfl ?_
      refine Z.ialdv (j := b) (v := I 43 b) dX7_likeOf_64 (fx43 hF) rfl (by omega) (by decide) (hE.at 43 b rfl) ?_
      refine Z.iconst (v := 2) dX7_likeOf_65 (by decide) ?_
      refine Z.icmp_ne (tgt := 73) dX7_likeOf_66 (by decide) (fun h41 => ?_) (fun h41 => ?_)
      · refine Z.iconst (v := 0) dX7_likeOf_73 (by decide) ?_
        refine Z.istore (L' := [.ref 35, .int (nI a), .int (nI b), .int 1, .int 0, .int 1, .int 0, .retAddr 0, .retAddr 0]) dX7_likeOf_74 (Nat.le_of_ble_eq_true rfl) rfl ?_
        refine Z.iload_n dX7_likeOf_76 rfl ?_
        refine Z.if_ne (tgt := 85) dX7_likeOf_77 (by decide) (fun h42 => ?_) (fun h42 => absurd h42 (by decide))
        refine Z.iload dX7_likeOf_85 rfl ?_
        refine Z.if_eq (tgt := 104) dX7_likeOf_87 (by decide) (fun h43 => absurd h43 (by decide)) (fun h43 => ?_)
        refine Z.iload dX7_likeOf_90 rfl ?_
        refine Z.if_eq (tgt := 104) dX7_likeOf_92 (by decide) (fun h44 => ?_) (fun h44 => absurd h44 (by decide))
        refine Z.iconst (v := 0) dX7_likeOf_104 (by decide) ?_
        exact Z.iret dX7_likeOf_105 rfl ⟨by simp [lkM, lkG, h1, h38, h41], hE, rfl⟩
      · refine Z.iconst (v := 1) dX7_likeOf_69 (by decide) ?_
        refine Z.goto (tgt := 74) dX7_likeOf_70 (by decide) ?_
        refine Z.istore (L' := [.ref 35, .int (nI a), .int (nI b), .int 1, .int 0, .int 1, .int 1, .retAddr 0, .retAddr 0]) dX7_likeOf_74 (Nat.le_of_ble_eq_true rfl) rfl ?_
        refine Z.iload_n dX7_likeOf_76 rfl ?_
        refine Z.if_ne (tgt := 85) dX7_likeOf_77 (by decide) (fun h45 => ?_) (fun h45 => absurd h45 (by decide))
        refine Z.iload dX7_likeOf_85 rfl ?_
        refine Z.if_eq (tgt := 104) dX7_likeOf_87 (by decide) (fun h46 => absurd h46 (by decide)) (fun h46 => ?_)
        refine Z.iload dX7_likeOf_90 rfl ?_
        refine Z.if_eq (tgt := 104) dX7_likeOf_92 (by decide) (fun h47 => absurd h47 (by decide)) (fun h47 => ?_)
        refine Z.aload_n dX7_likeOf_95 rfl ?_
        refine Z.iload_n dX7_likeOf_96 rfl ?_
        refine Z.iload_n dX7_likeOf_97 rfl ?_
        refine Z.callVp (M := mX7_likeOf) (pc := 98) (st := []) (N := mX7_codesLike) (n := 2) (r := .int (clM I a b)) dX7_likeOf_98 mlX7_129 mkX7_codesLike imX7_codesLike seX7_codesLike (fx35 hF) cl7 rfl (d1 := 1) (by decide) (As := [.int (nI a), .int (nI b)]) rfl ⟨rfl, Nat.le_of_ble_eq_true rfl⟩ ⟨rfl, Nat.le_of_ble_eq_true rfl⟩ (ct_codesLike hE a b hF hM (by omega) (by omega)) rfl ?_
        refine Z.goto (tgt := 105) dX7_likeOf_101 (by decide) ?_
        exact Z.iret dX7_likeOf_105 rfl ⟨by simp [lkM, lkG, h1, h38, h41], hE, rfl⟩
    · refine Z.iconst (v := 1) dX7_likeOf_26 (by decide) ?_
      refine Z.goto (tgt := 31) dX7_likeOf_27 (by decide) ?_
      refine Z.istore (L' := [.ref 35, .int (nI a), .int (nI b), .int 1, .int 1, .retAddr 0, .retAddr 0, .retAddr 0, .retAddr 0]) dX7_likeOf_31 (Nat.le_of_ble_eq_true rfl) rfl ?_
      refine Z.iload_n dX7_likeOf_33 rfl ?_
      refine Z.if_ne (tgt := 47) dX7_likeOf_34 (by decide) (fun h48 => ?_) (fun h48 => absurd h48 (by decide))
      refine Z.iconst (v := 1) dX7_likeOf_47 (by decide) ?_
      refine Z.goto (tgt := 52) dX7_likeOf_48 (by decide) ?_
      refine Z.istore (L' := [.ref 35, .int (nI a), .int (nI b), .int 1, .int 1, .int 1, .retAddr 0, .retAddr 0, .retAddr 0]) dX7_likeOf_52 (Nat.le_of_ble_eq_true rfl) rfl ?_
      refine Z.iload dX7_likeOf_54 rfl ?_
      refine Z.if_ne (tgt := 69) dX7_likeOf_56 (by decide) (fun h49 => ?_) (fun h49 => absurd h49 (by decide))
      refine Z.iconst (v := 1) dX7_likeOf_69 (by decide) ?_
      refine Z.goto (tgt := 74) dX7_likeOf_70 (by decide) ?_
      refine Z.istore (L' := [.ref 35, .int (nI a), .int (nI b), .int 1, .int 1, .int 1, .int 1, .retAddr 0, .retAddr 0]) dX7_likeOf_74 (Nat.le_of_ble_eq_true rfl) rfl ?_
      refine Z.iload_n dX7_likeOf_76 rfl ?_
      refine Z.if_ne (tgt := 85) dX7_likeOf_77 (by decide) (fun h50 => ?_) (fun h50 => absurd h50 (by decide))
      refine Z.iload dX7_likeOf_85 rfl ?_
      refine Z.if_eq (tgt := 104) dX7_likeOf_87 (by decide) (fun h51 => absurd h51 (by decide)) (fun h51 => ?_)
      refine Z.iload dX7_likeOf_90 rfl ?_
      refine Z.if_eq (tgt := 104) dX7_likeOf_92 (by decide) (fun h52 => absurd h52 (by decide)) (fun h52 => ?_)
      refine Z.aload_n dX7_likeOf_95 rfl ?_
      refine Z.iload_n dX7_likeOf_96 rfl ?_
      refine Z.iload_n dX7_likeOf_97 rfl ?_
      refine Z.callVp (M := mX7_likeOf) (pc := 98) (st := []) (N := mX7_codesLike) (n := 2) (r := .int (clM I a b)) dX7_likeOf_98 mlX7_129 mkX7_codesLike imX7_codesLike seX7_codesLike (fx35 hF) cl7 rfl (d1 := 1) (by decide) (As := [.int (nI a), .int (nI b)]) rfl ⟨rfl, Nat.le_of_ble_eq_true rfl⟩ ⟨rfl, Nat.le_of_ble_eq_true rfl⟩ (ct_codesLike hE a b hF hM (by omega) (by omega)) rfl ?_
      refine Z.goto (tgt := 105) dX7_likeOf_101 (by decide) ?_
      exact Z.iret dX7_likeOf_105 rfl ⟨by simp [lkM, lkG, h1, h38], hE, rfl⟩

set_option maxHeartbeats 4000000 in
set_option maxRecDepth 100000 in
theorem ct_isAlike {g : GP} {I J : IM} {S : SH} (hE : Ex I J) (a b : Nat) (hF : Fx S) (hM : MIv I) (ha : a < 120) (hb : b < 120) : Z g 5 0 0 mX7_isAlike 0 (enL mX7_isAlike [.ref 35, .int (nI a), .int (nI b)]) [] J S (NQ (.int (bI (alM I a b))) I S) := by
  show Z g 5 0 0 mX7_isAlike 0 [.ref 35, .int (nI a), .int (nI b)] [] J S _
  refine Z.aload_n dX7_isAlike_0 rfl ?_
  refine Z.iload_n dX7_isAlike_1 rfl ?_
  refine Z.iload_n dX7_isAlike_2 rfl ?_
  refine Z.callVg (M := mX7_isAlike) (pc := 3) (st := []) (N := mX7_likeOf) (n := 2) dX7_isAlike_3 mlX7_135 mkX7_likeOf imX7_likeOf seX7_likeOf (fx35 hF) cl7 rfl (d1 := 4) (by decide) (As := [.int (nI a), .int (nI b)]) rfl ⟨rfl, Nat.le_of_ble_eq_true rfl⟩ ⟨rfl, Nat.le_of_ble_eq_true rfl⟩ (ct_likeOf hE a b hF hM (by omega) (by omega)) rfl (fun v_ J1 S_ h_ => ?_)
  obtain ⟨rfl, hE, rfl⟩ := h_
  refine Z.aload_n dX7_isAlike_6 rfl ?_
  refine Z.getIv (v := I 35 8) dX7_isAlike_7 cl7 flX7_76 (by decide) (fx35 hF) (hE.at 35 8 rfl) ?_
  refine Z.icmp_lt (tgt := 17) dX7_isAlike_10 (by decide) (fun h1 => ?_) (fun h1 => ?_)
  · refine Z.iconst (v := 0) dX7_isAlike_17 (by decide) ?_
    exact Z.zret dX7_isAlike_18 rfl (by decide) ⟨by simp [alM, bI, h1], hE, rfl⟩
  · refine Z.iconst (v := 1) dX7_isAlike_13 (by decide) ?_
    refine Z.goto (tgt := 18) dX7_isAlike_14 (by decide) ?_
    exact Z.zret dX7_isAlike_18 rfl (by decide) ⟨by simp [alM, bI, h1], hE, rfl⟩

