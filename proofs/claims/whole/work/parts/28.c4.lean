/-- all but the rows of sounds and sums is as it was -/
def A6 (J J' : IM) : Prop := ∀ a, (a < 6 ∨ 8 < a) → J' a = J a
def N6 (r : Value) (J : IM) (S : SH) : ZQ := fun v J' T => v = some r ∧ A6 J J' ∧ T = S
theorem A6.ex {I J J' : IM} (h : A6 J J') (hE : Ex I J) : Ex I J' := fun a ha => by
  rw [h a, hE a ha]
  refine Decidable.byContradiction (fun z => ?_)
  have : a = 6 ∨ a = 7 ∨ a = 8 := by omega
  rcases this with q | q | q <;> (rw [q] at ha; revert ha; decide)
def Ro (D : Nat → Int32) (m : Nat) (T : Nat → Int32) : Prop := ∀ q, q ≤ m → T q = D q
theorem Ro_up {D : Nat → Int32} {m : Nat} {T : Nat → Int32} {v : Int32} (h : Ro D m T) (hv : D (m + 1) = v) : Ro D (m + 1) (upd T (m + 1) v) := fun q hq => by
  by_cases c : q = m + 1
  · rw [c, hv]; simp [upd]
  · simp only [upd, if_neg c]; exact h q (by omega)
def Fi (D : Nat → Nat → Int32) (nb i j : Nat) (T : Nat → Int32) : Prop := (∀ q, q ≤ j → T q = D (i + 1) q) ∧ ∀ q, j < q → q ≤ nb → T q = D i q
theorem Fi_up {D : Nat → Nat → Int32} {nb i j : Nat} {T : Nat → Int32} {v : Int32} (h : Fi D nb i j T) (hv : D (i + 1) (j + 1) = v) : Fi D nb i (j + 1) (upd T (j + 1) v) := by
  refine ⟨fun q hq => ?_, fun q h1 h2 => ?_⟩
  · by_cases c : q = j + 1
    · rw [c, hv]; simp [upd]
    · simp only [upd, if_neg c]; exact h.1 q (by omega)
  · simp only [upd, if_neg (show ¬ q = j + 1 by omega)]; exact h.2 q (by omega) h2
theorem Fi_0 {D : Nat → Nat → Int32} {nb i : Nat} {T : Nat → Int32} {v : Int32} (h : Ro (D i) nb T) (hv : D (i + 1) 0 = v) : Fi D nb i 0 (upd T 0 v) := by
  refine ⟨fun q hq => ?_, fun q h1 h2 => ?_⟩
  · have : q = 0 := by omega
    rw [this, hv]; simp [upd]
  · simp only [upd, if_neg (show ¬ q = 0 by omega)]; exact h q h2
theorem Fi_e {D : Nat → Nat → Int32} {nb i : Nat} {T : Nat → Int32} (h : Fi D nb i nb T) : Ro (D (i + 1)) nb T := h.1
theorem dmn_max (x : Int32) : dmn x 2147483647 = x := by
  unfold dmn
  split
  · rfl
  · rename_i h
    rw [Int32.lt_iff_toInt_lt] at h
    have e : (2147483647 : Int32).toInt = 2147483647 := by decide
    have := x.toInt_lt
    rw [e] at h
    exact Int32.toInt_inj.mp (by rw [e]; omega)
theorem dmn_comm (x y : Int32) : dmn x y = dmn y x := by
  unfold dmn
  by_cases h1 : x < y
  · have : ¬ y < x := by rw [Int32.lt_iff_toInt_lt] at *; omega
    rw [if_pos h1, if_neg this]
  · by_cases h2 : y < x
    · rw [if_neg h1, if_pos h2]
    · rw [if_neg h1, if_neg h2]
      rw [Int32.lt_iff_toInt_lt] at *
      exact Int32.toInt_inj.mp (by omega)
theorem mn_eq (x y : Int32) : (if y < x then y else x) = dmn x y := (dmn_comm x y).symm
theorem mx0 (x : Int32) : (if 0 < x then x else 0) = (if x < 0 then 0 else x) := by
  by_cases h1 : x < 0
  · have : ¬ 0 < x := by rw [Int32.lt_iff_toInt_lt] at *; omega
    rw [if_pos h1, if_neg this]
  · rw [if_neg h1]
    by_cases h2 : 0 < x
    · rw [if_pos h2]
    · rw [if_neg h2]
      rw [Int32.lt_iff_toInt_lt] at *
      exact Int32.toInt_inj.mp (by omega)
set_option maxHeartbeats 4000000 in
set_option maxRecDepth 100000 in
theorem lc_lsA {g : GP} {I J : IM} {S : SH} (hE : Ex I J) (fA fB : Nat → Int32) {na nb : Nat} (hna : na ≤ 40) (hnb : nb ≤ 40) (hA : ∀ i, i < na → rg (fA i) 65) (hB : ∀ j, j < nb → rg (fB j) 65) (h6 : ∀ i, i < na → J 6 i = fA i) (h7 : ∀ i, i < nb → J 7 i = fB i) (hF : Fx S) (hC : Cp I) (hM : MIv I) {Q : ZQ} (hk : ∀ T, Ro (DD fA fB (I 39) (I 38) 0) nb T → Z g 1 0 0 mX4_leastSum 46 [.ref 1, .int (nI na), .int (nI nb), .retAddr 0, .retAddr 0, .retAddr 0, .retAddr 0, .retAddr 0, .retAddr 0, .retAddr 0] [] (va_up J 8 T) S Q) : ∀ j, j ≤ nb → ∀ T, Ro (DD fA fB (I 39) (I 38) 0) j T → Z g 1 0 0 mX4_leastSum 9 [.ref 1, .int (nI na), .int (nI nb), .int (nI j), .retAddr 0, .retAddr 0, .retAddr 0, .retAddr 0, .retAddr 0, .retAddr 0] [] (va_up J 8 T) S Q := by
  refine upZ nb (fun j hj ih T hT => ?_)
  refine Z.iload_n dX4_leastSum_9 rfl ?_
  refine Z.iload_n dX4_leastSum_10 rfl ?_
  refine Z.icmp_geN (a := j) (b := nb) (by omega) (by omega) (tgt := 46) dX4_leastSum_11 (by decide) (fun h1 => ?_) (fun h1 => ?_)
  · refine Z.drop (i := 3) (L' := [.ref 1, .int (nI na), .int (nI nb), .retAddr 0, .retAddr 0, .retAddr 0, .retAddr 0, .retAddr 0, .retAddr 0, .retAddr 0]) rfl ?_
    exact hk T (by rw [show j = nb by omega] at hT; exact hT)
  · refine Z.aload_n dX4_leastSum_14 rfl ?_
    refine Z.getR (r := 8) dX4_leastSum_15 cl4 flX4_30 (by decide) (fx1 hF) rfl ?_
    refine Z.iload_n dX4_leastSum_18 rfl ?_
    refine Z.iconst (v := 1) dX4_leastSum_19 (by decide) ?_
    refine Z.iaddN (a := j) (b := 1) dX4_leastSum_20 ?_
    refine Z.aload_n dX4_leastSum_21 rfl ?_
    refine Z.getR (r := 8) dX4_leastSum_22 cl4 flX4_30 (by decide) (fx1 hF) rfl ?_
    refine Z.iload_n dX4_leastSum_25 rfl ?_
    refine Z.ialdv (j := j) (v := DD fA fB (I 39) (I 38) 0 j) dX4_leastSum_26 (fx8 hF) rfl (by omega) (by decide) (hT j (Nat.le_refl _)) ?_
    refine Z.aload_n dX4_leastSum_27 rfl ?_
    refine Z.getR (r := 4) dX4_leastSum_28 cl4 flX4_18 (by decide) (fx1 hF) rfl ?_
    refine Z.aload_n dX4_leastSum_31 rfl ?_
    refine Z.getR (r := 7) dX4_leastSum_32 cl4 flX4_27 (by decide) (fx1 hF) rfl ?_
    refine Z.iload_n dX4_leastSum_35 rfl ?_
    refine Z.ialdv (j := j) (v := nI ((fB j).toNatClampNeg)) dX4_leastSum_36 (fx7 hF) rfl (by omega) (by decide) ((h7 j (by omega)).trans (hB j (by omega)).1) ?_
    have hB1 := (hB j (by omega)).2
    refine Z.ialdv (j := (fB j).toNatClampNeg) (v := I 39 ((fB j).toNatClampNeg)) dX4_leastSum_37 (fx4 hF) rfl (by omega) (by decide) ((hE.at 4 ((fB j).toNatClampNeg) rfl).trans (congrFun (hC.c4) ((fB j).toNatClampNeg))) ?_
    refine Z.iadd dX4_leastSum_38 ?_
    refine Z.iast (j := j + 1) (x := (DD fA fB (I 39) (I 38) 0 j) + (I 39 ((fB j).toNatClampNeg))) dX4_leastSum_39 (fx8 hF) rfl (by omega) (by decide) ?_
    refine Z.eqI (bx_uu _ _ _ _) ?_
    refine Z.iinc (v := nI (j + 1)) (L' := [.ref 1, .int (nI na), .int (nI nb), .int (nI (j + 1)), .retAddr 0, .retAddr 0, .retAddr 0, .retAddr 0, .retAddr 0, .retAddr 0]) dX4_leastSum_40 rfl (nI_1 _) rfl ?_
    refine Z.goto (tgt := 9) dX4_leastSum_43 (by decide) ?_
    exact ih (by omega) _ (Ro_up hT (by rw [DD, dmn_max]))

set_option maxHeartbeats 4000000 in
set_option maxRecDepth 100000 in
theorem lc_lsI {g : GP} {I J : IM} {S : SH} (hE : Ex I J) (fA fB : Nat → Int32) {na nb : Nat} (hna : na ≤ 40) (hnb : nb ≤ 40) (hA : ∀ i, i < na → rg (fA i) 65) (hB : ∀ j, j < nb → rg (fB j) 65) (h6 : ∀ i, i < na → J 6 i = fA i) (h7 : ∀ i, i < nb → J 7 i = fB i) (hF : Fx S) (hC : Cp I) (hM : MIv I) {Q : ZQ} (i : Nat) (hi : i < na) (hk : ∀ T, Ro (DD fA fB (I 39) (I 38) (i + 1)) nb T → Z g 1 0 0 mX4_leastSum 196 [.ref 1, .int (nI na), .int (nI nb), .int (nI i), .retAddr 0, .retAddr 0, .retAddr 0, .retAddr 0, .retAddr 0, .retAddr 0] [] (va_up J 8 T) S Q) : ∀ j, j ≤ nb → ∀ T, Fi (DD fA fB (I 39) (I 38)) nb i j T → Z g 1 0 0 mX4_leastSum 88 [.ref 1, .int (nI na), .int (nI nb), .int (nI i), .int (nI ((fA i).toNatClampNeg)), .int (DD fA fB (I 39) (I 38) i j), .int (nI j), .retAddr 0, .retAddr 0, .retAddr 0] [] (va_up J 8 T) S Q := by
  refine upZ nb (fun j hj ih T hT => ?_)
  refine Z.iload dX4_leastSum_88 rfl ?_
  refine Z.iload_n dX4_leastSum_90 rfl ?_
  refine Z.icmp_geN (a := j) (b := nb) (by omega) (by omega) (tgt := 196) dX4_leastSum_91 (by decide) (fun h1 => ?_) (fun h1 => ?_)
  · refine Z.drop (i := 4) (L' := [.ref 1, .int (nI na), .int (nI nb), .int (nI i), .retAddr 0, .int (DD fA fB (I 39) (I 38) i j), .int (nI j), .retAddr 0, .retAddr 0, .retAddr 0]) rfl ?_
    refine Z.drop (i := 5) (L' := [.ref 1, .int (nI na), .int (nI nb), .int (nI i), .retAddr 0, .retAddr 0, .int (nI j), .retAddr 0, .retAddr 0, .retAddr 0]) rfl ?_
    refine Z.drop (i := 6) (L' := [.ref 1, .int (nI na), .int (nI nb), .int (nI i), .retAddr 0, .retAddr 0, .retAddr 0, .retAddr 0, .retAddr 0, .retAddr 0]) rfl ?_
    exact hk T (Fi_e (by rw [show j = nb by omega] at hT; exact hT))
  · have hB1 := (hB j (by omega)).2
    have hA1 := (hA i (by omega)).2
    refine Z.iload dX4_leastSum_94 rfl ?_
    refine Z.aload_n dX4_leastSum_96 rfl ?_
    refine Z.getR (r := 5) dX4_leastSum_97 cl4 flX4_21 (by decide) (fx1 hF) rfl ?_
    refine Z.iload dX4_leastSum_100 rfl ?_
    refine Z.bipush (v := 66) dX4_leastSum_102 (by decide) ?_
    refine Z.imulN (a := (fA i).toNatClampNeg) (b := 66) dX4_leastSum_104 ?_
    refine Z.aload_n dX4_leastSum_105 rfl ?_
    refine Z.getR (r := 7) dX4_leastSum_106 cl4 flX4_27 (by decide) (fx1 hF) rfl ?_
    refine Z.iload dX4_leastSum_109 rfl ?_
    refine Z.ialdv (j := j) (v := nI ((fB j).toNatClampNeg)) dX4_leastSum_111 (fx7 hF) rfl (by omega) (by decide) ((h7 j (by omega)).trans (hB j (by omega)).1) ?_
    refine Z.iaddN (a := ((fA i).toNatClampNeg) * 66) (b := (fB j).toNatClampNeg) dX4_leastSum_112 ?_
    refine Z.eqLs (L' := [.ref 1, .int (nI na), .int (nI nb), .int (nI i), .int (nI ((fA i).toNatClampNeg)), .int (DD fA fB (I 39) (I 38) i j), .int (nI j), .retAddr 0, .retAddr 0, .retAddr 0]) (st' := [.int (nI (66 * (fA i).toNatClampNeg + (fB j).toNatClampNeg)), .ref 5, .int (DD fA fB (I 39) (I 38) i j)]) rfl (by rw [show (fA i).toNatClampNeg * 66 + (fB j).toNatClampNeg = 66 * (fA i).toNatClampNeg + (fB j).toNatClampNeg by omega]) ?_
    refine Z.ialdv (j := 66 * (fA i).toNatClampNeg + (fB j).toNatClampNeg) (v := I 38 (66 * (fA i).toNatClampNeg + (fB j).toNatClampNeg)) dX4_leastSum_113 (fx5 hF) rfl (by omega) (by decide) ((hE.at 5 (66 * (fA i).toNatClampNeg + (fB j).toNatClampNeg) rfl).trans (congrFun (hC.c5) (66 * (fA i).toNatClampNeg + (fB j).toNatClampNeg))) ?_
    refine Z.iadd dX4_leastSum_114 ?_
    refine Z.istore (L' := [.ref 1, .int (nI na), .int (nI nb), .int (nI i), .int (nI ((fA i).toNatClampNeg)), .int (DD fA fB (I 39) (I 38) i j), .int (nI j), .int ((DD fA fB (I 39) (I 38) i j) + (I 38 (66 * (fA i).toNatClampNeg + (fB j).toNatClampNeg))), .retAddr 0, .retAddr 0]) dX4_leastSum_115 (Nat.le_of_ble_eq_true rfl) rfl ?_
    refine Z.aload_n dX4_leastSum_117 rfl ?_
    refine Z.getR (r := 8) dX4_leastSum_118 cl4 flX4_30 (by decide) (fx1 hF) rfl ?_
    refine Z.iload dX4_leastSum_121 rfl ?_
    refine Z.iconst (v := 1) dX4_leastSum_123 (by decide) ?_
    refine Z.iaddN (a := j) (b := 1) dX4_leastSum_124 ?_
    refine Z.ialdv (j := j + 1) (v := DD fA fB (I 39) (I 38) i (j + 1)) dX4_leastSum_125 (fx8 hF) rfl (by omega) (by decide) (hT.2 (j + 1) (by omega) (by omega)) ?_
    refine Z.aload_n dX4_leastSum_126 rfl ?_
    refine Z.getR (r := 4) dX4_leastSum_127 cl4 flX4_18 (by decide) (fx1 hF) rfl ?_
    refine Z.iload dX4_leastSum_130 rfl ?_
    refine Z.ialdv (j := (fA i).toNatClampNeg) (v := I 39 ((fA i).toNatClampNeg)) dX4_leastSum_132 (fx4 hF) rfl (by omega) (by decide) ((hE.at 4 ((fA i).toNatClampNeg) rfl).trans (congrFun (hC.c4) ((fA i).toNatClampNeg))) ?_
    refine Z.iadd dX4_leastSum_133 ?_
    refine Z.istore (L' := [.ref 1, .int (nI na), .int (nI nb), .int (nI i), .int (nI ((fA i).toNatClampNeg)), .int (DD fA fB (I 39) (I 38) i j), .int (nI j), .int ((DD fA fB (I 39) (I 38) i j) + (I 38 (66 * (fA i).toNatClampNeg + (fB j).toNatClampNeg))), .int ((DD fA fB (I 39) (I 38) i (j + 1)) + (I 39 ((fA i).toNatClampNeg))), .retAddr 0]) dX4_leastSum_134 (Nat.le_of_ble_eq_true rfl) rfl ?_
    refine Z.aload_n dX4_leastSum_136 rfl ?_
    refine Z.getR (r := 8) dX4_leastSum_137 cl4 flX4_30 (by decide) (fx1 hF) rfl ?_
    refine Z.iload dX4_leastSum_140 rfl ?_
    refine Z.ialdv (j := j) (v := DD fA fB (I 39) (I 38) (i + 1) j) dX4_leastSum_142 (fx8 hF) rfl (by omega) (by decide) (hT.1 j (Nat.le_refl _)) ?_
    refine Z.aload_n dX4_leastSum_143 rfl ?_
    refine Z.getR (r := 4) dX4_leastSum_144 cl4 flX4_18 (by decide) (fx1 hF) rfl ?_
    refine Z.aload_n dX4_leastSum_147 rfl ?_
    refine Z.getR (r := 7) dX4_leastSum_148 cl4 flX4_27 (by decide) (fx1 hF) rfl ?_
    refine Z.iload dX4_leastSum_151 rfl ?_
    refine Z.ialdv (j := j) (v := nI ((fB j).toNatClampNeg)) dX4_leastSum_153 (fx7 hF) rfl (by omega) (by decide) ((h7 j (by omega)).trans (hB j (by omega)).1) ?_
    refine Z.ialdv (j := (fB j).toNatClampNeg) (v := I 39 ((fB j).toNatClampNeg)) dX4_leastSum_154 (fx4 hF) rfl (by omega) (by decide) ((hE.at 4 ((fB j).toNatClampNeg) rfl).trans (congrFun (hC.c4) ((fB j).toNatClampNeg))) ?_
    refine Z.iadd dX4_leastSum_155 ?_
    refine Z.istore (L' := [.ref 1, .int (nI na), .int (nI nb), .int (nI i), .int (nI ((fA i).toNatClampNeg)), .int (DD fA fB (I 39) (I 38) i j), .int (nI j), .int ((DD fA fB (I 39) (I 38) i j) + (I 38 (66 * (fA i).toNatClampNeg + (fB j).toNatClampNeg))), .int ((DD fA fB (I 39) (I 38) i (j + 1)) + (I 39 ((fA i).toNatClampNeg))), .int ((DD fA fB (I 39) (I 38) (i + 1) j) + (I 39 ((fB j).toNatClampNeg)))]) dX4_leastSum_156 (Nat.le_of_ble_eq_true rfl) rfl ?_
    refine Z.aload_n dX4_leastSum_158 rfl ?_
    refine Z.getR (r := 8) dX4_leastSum_159 cl4 flX4_30 (by decide) (fx1 hF) rfl ?_
    refine Z.iload dX4_leastSum_162 rfl ?_
    refine Z.iconst (v := 1) dX4_leastSum_164 (by decide) ?_
    refine Z.iaddN (a := j) (b := 1) dX4_leastSum_165 ?_
    refine Z.ialdv (j := j + 1) (v := DD fA fB (I 39) (I 38) i (j + 1)) dX4_leastSum_166 (fx8 hF) rfl (by omega) (by decide) (hT.2 (j + 1) (by omega) (by omega)) ?_
    refine Z.istore (L' := [.ref 1, .int (nI na), .int (nI nb), .int (nI i), .int (nI ((fA i).toNatClampNeg)), .int (DD fA fB (I 39) (I 38) i (j + 1)), .int (nI j), .int ((DD fA fB (I 39) (I 38) i j) + (I 38 (66 * (fA i).toNatClampNeg + (fB j).toNatClampNeg))), .int ((DD fA fB (I 39) (I 38) i (j + 1)) + (I 39 ((fA i).toNatClampNeg))), .int ((DD fA fB (I 39) (I 38) (i + 1) j) + (I 39 ((fB j).toNatClampNeg)))]) dX4_leastSum_167 (Nat.le_of_ble_eq_true rfl) rfl ?_
    refine Z.aload_n dX4_leastSum_169 rfl ?_
    refine Z.getR (r := 8) dX4_leastSum_170 cl4 flX4_30 (by decide) (fx1 hF) rfl ?_
    refine Z.iload dX4_leastSum_173 rfl ?_
    refine Z.iconst (v := 1) dX4_leastSum_175 (by decide) ?_
    refine Z.iaddN (a := j) (b := 1) dX4_leastSum_176 ?_
    refine Z.iload dX4_leastSum_177 rfl ?_
    refine Z.iload dX4_leastSum_179 rfl ?_
    refine Z.iload dX4_leastSum_181 rfl ?_
    refine Z.mmin dX4_leastSum_183 mlX4_68 (by decide) ⟨rfl, Nat.le_of_ble_eq_true rfl⟩ ?_
    refine Z.mmin dX4_leastSum_186 mlX4_68 (by decide) ⟨rfl, Nat.le_of_ble_eq_true rfl⟩ ?_
    refine Z.iast (j := j + 1) (x := (if (if (DD fA fB (I 39) (I 38) (i + 1) j) + (I 39 ((fB j).toNatClampNeg)) < (DD fA fB (I 39) (I 38) i (j + 1)) + (I 39 ((fA i).toNatClampNeg)) then (DD fA fB (I 39) (I 38) (i + 1) j) + (I 39 ((fB j).toNatClampNeg)) else (DD fA fB (I 39) (I 38) i (j + 1)) + (I 39 ((fA i).toNatClampNeg))) < (DD fA fB (I 39) (I 38) i j) + (I 38 (66 * (fA i).toNatClampNeg + (fB j).toNatClampNeg)) then (if (DD fA fB (I 39) (I 38) (i + 1) j) + (I 39 ((fB j).toNatClampNeg)) < (DD fA fB (I 39) (I 38) i (j + 1)) + (I 39 ((fA i).toNatClampNeg)) then (DD fA fB (I 39) (I 38) (i + 1) j) + (I 39 ((fB j).toNatClampNeg)) else (DD fA fB (I 39) (I 38) i (j + 1)) + (I 39 ((fA i).toNatClampNeg))) else (DD fA fB (I 39) (I 38) i j) + (I 38 (66 * (fA i).toNatClampNeg + (fB j).toNatClampNeg)))) dX4_leastSum_189 (fx8 hF) rfl (by omega) (by decide) ?_
    refine Z.eqI (bx_uu _ _ _ _) ?_
    refine Z.iinc (v := nI (j + 1)) (L' := [.ref 1, .int (nI na), .int (nI nb), .int (nI i), .int (nI ((fA i).toNatClampNeg)), .int (DD fA fB (I 39) (I 38) i (j + 1)), .int (nI (j + 1)), .int ((DD fA fB (I 39) (I 38) i j) + (I 38 (66 * (fA i).toNatClampNeg + (fB j).toNatClampNeg))), .int ((DD fA fB (I 39) (I 38) i (j + 1)) + (I 39 ((fA i).toNatClampNeg))), .int ((DD fA fB (I 39) (I 38) (i + 1) j) + (I 39 ((fB j).toNatClampNeg)))]) dX4_leastSum_190 rfl (nI_1 _) rfl ?_
    refine Z.goto (tgt := 88) dX4_leastSum_193 (by decide) ?_
    refine Z.drop (i := 7) (L' := [.ref 1, .int (nI na), .int (nI nb), .int (nI i), .int (nI ((fA i).toNatClampNeg)), .int (DD fA fB (I 39) (I 38) i (j + 1)), .int (nI (j + 1)), .retAddr 0, .int ((DD fA fB (I 39) (I 38) i (j + 1)) + (I 39 ((fA i).toNatClampNeg))), .int ((DD fA fB (I 39) (I 38) (i + 1) j) + (I 39 ((fB j).toNatClampNeg)))]) rfl ?_
    refine Z.drop (i := 8) (L' := [.ref 1, .int (nI na), .int (nI nb), .int (nI i), .int (nI ((fA i).toNatClampNeg)), .int (DD fA fB (I 39) (I 38) i (j + 1)), .int (nI (j + 1)), .retAddr 0, .retAddr 0, .int ((DD fA fB (I 39) (I 38) (i + 1) j) + (I 39 ((fB j).toNatClampNeg)))]) rfl ?_
    refine Z.drop (i := 9) (L' := [.ref 1, .int (nI na), .int (nI nb), .int (nI i), .int (nI ((fA i).toNatClampNeg)), .int (DD fA fB (I 39) (I 38) i (j + 1)), .int (nI (j + 1)), .retAddr 0, .retAddr 0, .retAddr 0]) rfl ?_
    exact ih (by omega) _ (Fi_up hT (by rw [DD, mn_eq, mn_eq, dmn_comm (DD fA fB (I 39) (I 38) (i + 1) j + _)]))

set_option maxHeartbeats 4000000 in
set_option maxRecDepth 100000 in
theorem lc_lsO {g : GP} {I J : IM} {S : SH} (hE : Ex I J) (fA fB : Nat → Int32) {na nb : Nat} (hna : na ≤ 40) (hnb : nb ≤ 40) (hA : ∀ i, i < na → rg (fA i) 65) (hB : ∀ j, j < nb → rg (fB j) 65) (h6 : ∀ i, i < na → J 6 i = fA i) (h7 : ∀ i, i < nb → J 7 i = fB i) (hF : Fx S) (hC : Cp I) (hM : MIv I) : ∀ i, i ≤ na → ∀ T, Ro (DD fA fB (I 39) (I 38) i) nb T → Z g 1 0 0 mX4_leastSum 48 [.ref 1, .int (nI na), .int (nI nb), .int (nI i), .retAddr 0, .retAddr 0, .retAddr 0, .retAddr 0, .retAddr 0, .retAddr 0] [] (va_up J 8 T) S (XQ 8 (.int (DD fA fB (I 39) (I 38) na nb)) J S) := by
  refine upZ na (fun i hi ih T hT => ?_)
  refine Z.iload_n dX4_leastSum_48 rfl ?_
  refine Z.iload_n dX4_leastSum_49 rfl ?_
  refine Z.icmp_geN (a := i) (b := na) (by omega) (by omega) (tgt := 202) dX4_leastSum_50 (by decide) (fun h1 => ?_) (fun h1 => ?_)
  · refine Z.aload_n dX4_leastSum_202 rfl ?_
    refine Z.getR (r := 8) dX4_leastSum_203 cl4 flX4_30 (by decide) (fx1 hF) rfl ?_
    refine Z.iload_n dX4_leastSum_206 rfl ?_
    refine Z.ialdv (j := nb) (v := DD fA fB (I 39) (I 38) i nb) dX4_leastSum_207 (fx8 hF) rfl (by omega) (by decide) (hT nb (Nat.le_refl _)) ?_
    exact Z.iret dX4_leastSum_208 rfl ⟨by rw [show i = na by omega], T, rfl, rfl⟩
  · have hA1 := (hA i (by omega)).2
    refine Z.aload_n dX4_leastSum_53 rfl ?_
    refine Z.getR (r := 6) dX4_leastSum_54 cl4 flX4_24 (by decide) (fx1 hF) rfl ?_
    refine Z.iload_n dX4_leastSum_57 rfl ?_
    refine Z.ialdv (j := i) (v := nI ((fA i).toNatClampNeg)) dX4_leastSum_58 (fx6 hF) rfl (by omega) (by decide) ((h6 i (by omega)).trans (hA i (by omega)).1) ?_
    refine Z.istore (L' := [.ref 1, .int (nI na), .int (nI nb), .int (nI i), .int (nI ((fA i).toNatClampNeg)), .retAddr 0, .retAddr 0, .retAddr 0, .retAddr 0, .retAddr 0]) dX4_leastSum_59 (Nat.le_of_ble_eq_true rfl) rfl ?_
    refine Z.aload_n dX4_leastSum_61 rfl ?_
    refine Z.getR (r := 8) dX4_leastSum_62 cl4 flX4_30 (by decide) (fx1 hF) rfl ?_
    refine Z.iconst (v := 0) dX4_leastSum_65 (by decide) ?_
    refine Z.ialdv (j := 0) (v := DD fA fB (I 39) (I 38) i 0) dX4_leastSum_66 (fx8 hF) rfl (by decide) (by decide) (hT 0 (Nat.zero_le _)) ?_
    refine Z.istore (L' := [.ref 1, .int (nI na), .int (nI nb), .int (nI i), .int (nI ((fA i).toNatClampNeg)), .int (DD fA fB (I 39) (I 38) i 0), .retAddr 0, .retAddr 0, .retAddr 0, .retAddr 0]) dX4_leastSum_67 (Nat.le_of_ble_eq_true rfl) rfl ?_
    refine Z.aload_n dX4_leastSum_69 rfl ?_
    refine Z.getR (r := 8) dX4_leastSum_70 cl4 flX4_30 (by decide) (fx1 hF) rfl ?_
    refine Z.iconst (v := 0) dX4_leastSum_73 (by decide) ?_
    refine Z.dup2 dX4_leastSum_74 ?_
    refine Z.ialdv (j := 0) (v := DD fA fB (I 39) (I 38) i 0) dX4_leastSum_75 (fx8 hF) rfl (by decide) (by decide) (hT 0 (Nat.zero_le _)) ?_
    refine Z.aload_n dX4_leastSum_76 rfl ?_
    refine Z.getR (r := 4) dX4_leastSum_77 cl4 flX4_18 (by decide) (fx1 hF) rfl ?_
    refine Z.iload dX4_leastSum_80 rfl ?_
    refine Z.ialdv (j := (fA i).toNatClampNeg) (v := I 39 ((fA i).toNatClampNeg)) dX4_leastSum_82 (fx4 hF) rfl (by omega) (by decide) ((hE.at 4 ((fA i).toNatClampNeg) rfl).trans (congrFun (hC.c4) ((fA i).toNatClampNeg))) ?_
    refine Z.iadd dX4_leastSum_83 ?_
    refine Z.iast (j := 0) (x := (DD fA fB (I 39) (I 38) i 0) + (I 39 ((fA i).toNatClampNeg))) dX4_leastSum_84 (fx8 hF) rfl (by decide) (by decide) ?_
    refine Z.eqI (bx_uu _ _ _ _) ?_
    refine Z.iconst (v := 0) dX4_leastSum_85 (by decide) ?_
    refine Z.istore (L' := [.ref 1, .int (nI na), .int (nI nb), .int (nI i), .int (nI ((fA i).toNatClampNeg)), .int (DD fA fB (I 39) (I 38) i 0), .int 0, .retAddr 0, .retAddr 0, .retAddr 0]) dX4_leastSum_86 (Nat.le_of_ble_eq_true rfl) rfl ?_
    refine lc_lsI hE fA fB hna hnb hA hB h6 h7 hF hC hM i (by omega) (fun T2 hT2 => ?_) 0 (Nat.zero_le _) _ (Fi_0 hT (by rw [DD]))
    refine Z.iinc (v := nI (i + 1)) (L' := [.ref 1, .int (nI na), .int (nI nb), .int (nI (i + 1)), .retAddr 0, .retAddr 0, .retAddr 0, .retAddr 0, .retAddr 0, .retAddr 0]) dX4_leastSum_196 rfl (nI_1 _) rfl ?_
    refine Z.goto (tgt := 48) dX4_leastSum_199 (by decide) ?_
    exact ih (by omega) T2 hT2

set_option maxHeartbeats 4000000 in
set_option maxRecDepth 100000 in
theorem cc_leastSum {g : GP} {I J : IM} {S : SH} (hE : Ex I J) (fA fB : Nat → Int32) {na nb : Nat} (hna : na ≤ 40) (hnb : nb ≤ 40) (hA : ∀ i, i < na → rg (fA i) 65) (hB : ∀ j, j < nb → rg (fB j) 65) (h6 : ∀ i, i < na → J 6 i = fA i) (h7 : ∀ i, i < nb → J 7 i = fB i) (hF : Fx S) (hC : Cp I) (hM : MIv I) : Z g 1 0 0 mX4_leastSum 0 (enL mX4_leastSum [.ref 1, .int (nI na), .int (nI nb)]) [] J S (XQ 8 (.int (DD fA fB (I 39) (I 38) na nb)) J S) := by
  show Z g 1 0 0 mX4_leastSum 0 [.ref 1, .int (nI na), .int (nI nb), .retAddr 0, .retAddr 0, .retAddr 0, .retAddr 0, .retAddr 0, .retAddr 0, .retAddr 0] [] J S _
  refine Z.aload_n dX4_leastSum_0 rfl ?_
  refine Z.getR (r := 8) dX4_leastSum_1 cl4 flX4_30 (by decide) (fx1 hF) rfl ?_
  refine Z.iconst (v := 0) dX4_leastSum_4 (by decide) ?_
  refine Z.iconst (v := 0) dX4_leastSum_5 (by decide) ?_
  refine Z.iast (j := 0) (x := 0) dX4_leastSum_6 (fx8 hF) rfl (by decide) (by decide) ?_
  refine Z.iconst (v := 0) dX4_leastSum_7 (by decide) ?_
  refine Z.istore_n (L' := [.ref 1, .int (nI na), .int (nI nb), .int 0, .retAddr 0, .retAddr 0, .retAddr 0, .retAddr 0, .retAddr 0, .retAddr 0]) dX4_leastSum_8 (Nat.le_of_ble_eq_true rfl) rfl ?_
  refine lc_lsA hE fA fB hna hnb hA hB h6 h7 hF hC hM (fun T hT => ?_) 0 (Nat.zero_le _) _ (fun q hq => ?_)
  rotate_left
  · have : q = 0 := by omega
    rw [this, DD]; simp [upd]
  refine Z.iconst (v := 0) dX4_leastSum_46 (by decide) ?_
  refine Z.istore_n (L' := [.ref 1, .int (nI na), .int (nI nb), .int 0, .retAddr 0, .retAddr 0, .retAddr 0, .retAddr 0, .retAddr 0, .retAddr 0]) dX4_leastSum_47 (Nat.le_of_ble_eq_true rfl) rfl ?_
  exact lc_lsO hE fA fB hna hnb hA hB h6 h7 hF hC hM 0 (Nat.zero_le _) T hT

theorem cc_spA {g : GP} {I J : IM} {S : SH} (hE : Ex I J) (hF : Fx S) (hC : Cp I) (hM : MIv I) {j : Nat} (h_j : j < 120) (ho_j : Mo I S j) : Z g 1 0 0 mX4_spell 0 (enL mX4_spell [.ref 1, .ref (58 + 3 * j), .ref 6]) [] J S (GQ 6 (sM I j) J S) := by
  refine (cc_spellA (g := g) hE hF hC hM h_j ho_j).conseq (fun v J' T q => ?_)
  refine ⟨by rw [q.1, siU_1 (f1 := fun _ => 0)]; rfl, _, q.2.1, fun k hk => ?_, q.2.2⟩
  exact siU_2 (f1 := fun _ => 0) _ k (by rw [siU_1 (f1 := fun _ => 0)]; exact hk)

theorem cc_spB {g : GP} {I J : IM} {S : SH} (hE : Ex I J) (hF : Fx S) (hC : Cp I) (hM : MIv I) {j : Nat} (h_j : j < 120) (ho_j : Mo I S j) : Z g 1 0 0 mX4_spell 0 (enL mX4_spell [.ref 1, .ref (58 + 3 * j), .ref 7]) [] J S (GQ 7 (sM I j) J S) := by
  refine (cc_spellB (g := g) hE hF hC hM h_j ho_j).conseq (fun v J' T q => ?_)
  refine ⟨by rw [q.1, siU_1 (f1 := fun _ => 0)]; rfl, _, q.2.1, fun k hk => ?_, q.2.2⟩
  exact siU_2 (f1 := fun _ => 0) _ k (by rw [siU_1 (f1 := fun _ => 0)]; exact hk)

theorem sM_le {I : IM} {j : Nat} (hM : MIv I) (hj : j < 120) : (sM I j).1 ≤ 40 := Nat.le_trans (siU_le _) (hM.2.2.1 j hj).2
theorem sM_rg {I : IM} {j : Nat} (hM : MIv I) (hj : j < 120) : ∀ i, i < (sM I j).1 → rg ((sM I j).2 i) 65 := siU_rg (fun k hk => soG_rg (fun i hi => hM.2.2.2.2.1 _ (by have := (hM.2.2.1 j hj).2; omega)) hk hM.2.2.2.2.2.2.1) _ (Nat.le_refl _)
set_option maxHeartbeats 4000000 in
set_option maxRecDepth 100000 in
theorem cc_countOf {g : GP} {I J : IM} {S : SH} (hE : Ex I J)  (hF : Fx S) (hC : Cp I) (hM : MIv I) {j : Nat} (h_j : j < 120) (ho_j : Mo I S j) : Z g 2 0 0 mX4_countOf 0 (enL mX4_countOf [.ref 1, .ref (58 + 3 * j)]) [] J S (NQ (.int (nI (sM I j).1)) I S) := by
  show Z g 2 0 0 mX4_countOf 0 [.ref 1, .ref (58 + 3 * j)] [] J S _
  refine Z.aload_n dX4_countOf_0 rfl ?_
  refine Z.aload_n dX4_countOf_1 rfl ?_
  refine Z.aload_n dX4_countOf_2 rfl ?_
  refine Z.getR (r := 6) dX4_countOf_3 cl4 flX4_24 (by decide) (fx1 hF) rfl ?_
  refine Z.callVg (M := mX4_countOf) (pc := 6) (st := []) (N := mX4_spell) (n := 2) dX4_countOf_6 mlX4_39 mkX4_spell imX4_spell seX4_spell (fx1 hF) cl4 rfl (d1 := 1) (by decide) (As := [.ref (58 + 3 * j), .ref 6]) rfl ⟨rfl, Nat.le_of_ble_eq_true rfl⟩ ⟨rfl, Nat.le_of_ble_eq_true rfl⟩ (cc_spA hE hF hC hM h_j ho_j) rfl (fun v_ J1 S_ h_ => ?_)
  obtain ⟨rfl, fA_j, rfl, hfA_j, rfl⟩ := h_
  have hsA_j := sM_le hM h_j
  exact Z.iret dX4_countOf_9 rfl ⟨rfl, (hE.up (a := 6) rfl), rfl⟩

theorem cc_belowN {g : GP} {I J : IM} {S : SH} (hE : Ex I J) (v : Int32) (N : Nat) (hN : N < 2 ^ 31) : Z g 0 0 0 mX6_below 0 (enL mX6_below [.int v, .int (nI N)]) [] J S (PQ (.int (bI (inB v 0 (nI N - 1)))) J S) := by
  rw [← belB_in (x := nI N) (nI_m1i hN)]
  exact cc_below hE v (nI N)
set_option maxHeartbeats 4000000 in
set_option maxRecDepth 100000 in
theorem cc_at {g : GP} {I J : IM} {S : SH} (hE : Ex I J) (k : Int32) (hF : Fx S) (hC : Cp I) (hM : MIv I) {j : Nat} (h_j : j < 120) (ho_j : Mo I S j) : Z g 2 0 0 mX4_at 0 (enL mX4_at [.ref 1, .ref (58 + 3 * j), .int k]) [] J S (NQ (.int (if inB k 0 (nI (sM I j).1 - 1) = true then (sM I j).2 k.toNatClampNeg else -1)) I S) := by
  show Z g 2 0 0 mX4_at 0 [.ref 1, .ref (58 + 3 * j), .int k] [] J S _
  refine Z.iload_n dX4_at_0 rfl ?_
  refine Z.aload_n dX4_at_1 rfl ?_
  refine Z.aload_n dX4_at_2 rfl ?_
  refine Z.aload_n dX4_at_3 rfl ?_
  refine Z.getR (r := 6) dX4_at_4 cl4 flX4_24 (by decide) (fx1 hF) rfl ?_
  refine Z.callVg (M := mX4_at) (pc := 7) (st := [.int k]) (N := mX4_spell) (n := 2) dX4_at_7 mlX4_39 mkX4_spell imX4_spell seX4_spell (fx1 hF) cl4 rfl (d1 := 1) (by decide) (As := [.ref (58 + 3 * j), .ref 6]) rfl ⟨rfl, Nat.le_of_ble_eq_true rfl⟩ ⟨rfl, Nat.le_of_ble_eq_true rfl⟩ (cc_spA hE hF hC hM h_j ho_j) rfl (fun v_ J1 S_ h_ => ?_)
  obtain ⟨rfl, fA_j, rfl, hfA_j, rfl⟩ := h_
  have hsA_j := sM_le hM h_j
  refine Z.callSNp (M := mX4_at) (pc := 10) (st := []) (N := mX6_below) (n := 2) (r := .int (bI (inB k 0 (nI ((sM I j).1) - 1)))) dX4_at_10 (by decide) mkX6_below stX6_below (d1 := 0) (by decide) (As := [.int k, .int (nI ((sM I j).1))]) rfl ⟨rfl, Nat.le_of_ble_eq_true rfl⟩ ⟨rfl, Nat.le_of_ble_eq_true rfl⟩ (cc_belowN (hE.up (a := 6) rfl) k ((sM I j).1) (by omega)) rfl ?_
  refine Z.if_eqB (tgt := 25) dX4_at_13 (by decide) (fun h1 => ?_) (fun h1 => ?_)
  · refine Z.iconst (v := (-1)) dX4_at_25 (by decide) ?_
    exact Z.iret dX4_at_26 rfl ⟨by simp [h1], (hE.up (a := 6) rfl), rfl⟩
  · have e_k := (in1_rg (by omega) h1).1
    have l_k := (in1_rg (by omega) h1).2
    refine Z.eqLs (L' := [.ref 1, .ref (58 + 3 * j), .int (nI (k.toNatClampNeg))]) (st' := []) (by rw [← e_k]) (by first | rfl | rw [← e_k]) ?_
    refine Z.aload_n dX4_at_16 rfl ?_
    refine Z.getR (r := 6) dX4_at_17 cl4 flX4_24 (by decide) (fx1 hF) rfl ?_
    refine Z.iload_n dX4_at_20 rfl ?_
    refine Z.ialdv (j := k.toNatClampNeg) (v := (sM I j).2 (k.toNatClampNeg)) dX4_at_21 (fx6 hF) rfl (by omega) (by decide) (hfA_j (k.toNatClampNeg) (by omega)) ?_
    refine Z.goto (tgt := 26) dX4_at_22 (by decide) ?_
    exact Z.iret dX4_at_26 rfl ⟨by simp [h1], (hE.up (a := 6) rfl), rfl⟩

set_option maxHeartbeats 4000000 in
set_option maxRecDepth 100000 in
theorem cc_costOf {g : GP} {I J : IM} {S : SH} (hE : Ex I J)  (hF : Fx S) (hC : Cp I) (hM : MIv I) {a : Nat} (h_a : a < 120) (ho_a : Mo I S a) {b : Nat} (h_b : b < 120) (ho_b : Mo I S b) : Z g 2 0 0 mX4_costOf 0 (enL mX4_costOf [.ref 1, .ref (58 + 3 * a), .ref (58 + 3 * b)]) [] J S (N6 (.int (cstM I a b)) J S) := by
  show Z g 2 0 0 mX4_costOf 0 [.ref 1, .ref (58 + 3 * a), .ref (58 + 3 * b)] [] J S _
  refine Z.aload_n dX4_costOf_0 rfl ?_
  refine Z.aload_n dX4_costOf_1 rfl ?_
  refine Z.aload_n dX4_costOf_2 rfl ?_
  refine Z.aload_n dX4_costOf_3 rfl ?_
  refine Z.getR (r := 6) dX4_costOf_4 cl4 flX4_24 (by decide) (fx1 hF) rfl ?_
  refine Z.callVg (M := mX4_costOf) (pc := 7) (st := [.ref 1]) (N := mX4_spell) (n := 2) dX4_costOf_7 mlX4_39 mkX4_spell imX4_spell seX4_spell (fx1 hF) cl4 rfl (d1 := 1) (by decide) (As := [.ref (58 + 3 * a), .ref 6]) rfl ⟨rfl, Nat.le_of_ble_eq_true rfl⟩ ⟨rfl, Nat.le_of_ble_eq_true rfl⟩ (cc_spA hE hF hC hM h_a ho_a) rfl (fun v_ J1 S_ h_ => ?_)
  obtain ⟨rfl, fA_a, rfl, hfA_a, rfl⟩ := h_
  have hsA_a := sM_le hM h_a
  refine Z.aload_n dX4_costOf_10 rfl ?_
  refine Z.aload_n dX4_costOf_11 rfl ?_
  refine Z.aload_n dX4_costOf_12 rfl ?_
  refine Z.getR (r := 7) dX4_costOf_13 cl4 flX4_27 (by decide) (fx1 hF) rfl ?_
  refine Z.callVg (M := mX4_costOf) (pc := 16) (st := [.int (nI ((sM I a).1)), .ref 1]) (N := mX4_spell) (n := 2) dX4_costOf_16 mlX4_39 mkX4_spell imX4_spell seX4_spell (fx1 hF) cl4 rfl (d1 := 1) (by decide) (As := [.ref (58 + 3 * b), .ref 7]) rfl ⟨rfl, Nat.le_of_ble_eq_true rfl⟩ ⟨rfl, Nat.le_of_ble_eq_true rfl⟩ (cc_spB (hE.up (a := 6) rfl) hF hC hM h_b ho_b) rfl (fun v_ J2 S_ h_ => ?_)
  obtain ⟨rfl, fB_b, rfl, hfB_b, rfl⟩ := h_
  have hsB_b := sM_le hM h_b
  refine Z.callVg (M := mX4_costOf) (pc := 19) (st := []) (N := mX4_leastSum) (n := 2) dX4_costOf_19 mlX4_47 mkX4_leastSum imX4_leastSum seX4_leastSum (fx1 hF) cl4 rfl (d1 := 1) (by decide) (As := [.int (nI ((sM I a).1)), .int (nI ((sM I b).1))]) rfl ⟨rfl, Nat.le_of_ble_eq_true rfl⟩ ⟨rfl, Nat.le_of_ble_eq_true rfl⟩ (cc_leastSum ((hE.up (a := 6) rfl).up (a := 7) rfl) (sM I a).2 (sM I b).2 (by omega) (by omega) (sM_rg hM h_a) (sM_rg hM h_b) (fun k hk => hfA_a k hk) (fun k hk => hfB_b k hk) hF hC hM) rfl (fun v_ J3 S_ h_ => ?_)
  obtain ⟨rfl, f8, rfl, rfl⟩ := h_
  exact Z.iret dX4_costOf_22 rfl ⟨rfl, (fun a ha => by simp [va_up, show ¬ a = 6 by omega, show ¬ a = 7 by omega, show ¬ a = 8 by omega]), rfl⟩

set_option maxHeartbeats 4000000 in
set_option maxRecDepth 100000 in
theorem cc_likeOf4 {g : GP} {I J : IM} {S : SH} (hE : Ex I J)  (hF : Fx S) (hC : Cp I) (hM : MIv I) {a : Nat} (h_a : a < 120) (ho_a : Mo I S a) {b : Nat} (h_b : b < 120) (ho_b : Mo I S b) : Z g 2 0 0 mX4_likeOf 0 (enL mX4_likeOf [.ref 1, .ref (58 + 3 * a), .ref (58 + 3 * b)]) [] J S (N6 (.int (wlM I a b)) J S) := by
  show Z g 2 0 0 mX4_likeOf 0 [.ref 1, .ref (58 + 3 * a), .ref (58 + 3 * b), .retAddr 0, .retAddr 0, .retAddr 0] [] J S _
  refine Z.aload_n dX4_likeOf_0 rfl ?_
  refine Z.aload_n dX4_likeOf_1 rfl ?_
  refine Z.aload_n dX4_likeOf_2 rfl ?_
  refine Z.getR (r := 6) dX4_likeOf_3 cl4 flX4_24 (by decide) (fx1 hF) rfl ?_
  refine Z.callVg (M := mX4_likeOf) (pc := 6) (st := []) (N := mX4_spell) (n := 2) dX4_likeOf_6 mlX4_39 mkX4_spell imX4_spell seX4_spell (fx1 hF) cl4 rfl (d1 := 1) (by decide) (As := [.ref (58 + 3 * a), .ref 6]) rfl ⟨rfl, Nat.le_of_ble_eq_true rfl⟩ ⟨rfl, Nat.le_of_ble_eq_true rfl⟩ (cc_spA hE hF hC hM h_a ho_a) rfl (fun v_ J1 S_ h_ => ?_)
  obtain ⟨rfl, fA_a, rfl, hfA_a, rfl⟩ := h_
  have hsA_a := sM_le hM h_a
  refine Z.istore_n (L' := [.ref 1, .ref (58 + 3 * a), .ref (58 + 3 * b), .int (nI ((sM I a).1)), .retAddr 0, .retAddr 0]) dX4_likeOf_9 (Nat.le_of_ble_eq_true rfl) rfl ?_
  refine Z.aload_n dX4_likeOf_10 rfl ?_
  refine Z.aload_n dX4_likeOf_11 rfl ?_
  refine Z.aload_n dX4_likeOf_12 rfl ?_
  refine Z.getR (r := 7) dX4_likeOf_13 cl4 flX4_27 (by decide) (fx1 hF) rfl ?_
  refine Z.callVg (M := mX4_likeOf) (pc := 16) (st := []) (N := mX4_spell) (n := 2) dX4_likeOf_16 mlX4_39 mkX4_spell imX4_spell seX4_spell (fx1 hF) cl4 rfl (d1 := 1) (by decide) (As := [.ref (58 + 3 * b), .ref 7]) rfl ⟨rfl, Nat.le_of_ble_eq_true rfl⟩ ⟨rfl, Nat.le_of_ble_eq_true rfl⟩ (cc_spB (hE.up (a := 6) rfl) hF hC hM h_b ho_b) rfl (fun v_ J2 S_ h_ => ?_)
  obtain ⟨rfl, fB_b, rfl, hfB_b, rfl⟩ := h_
  have hsB_b := sM_le hM h_b
  refine Z.istore (L' := [.ref 1, .ref (58 + 3 * a), .ref (58 + 3 * b), .int (nI ((sM I a).1)), .int (nI ((sM I b).1)), .retAddr 0]) dX4_likeOf_19 (Nat.le_of_ble_eq_true rfl) rfl ?_
  refine Z.iload_n dX4_likeOf_21 rfl ?_
  refine Z.iload dX4_likeOf_22 rfl ?_
  have hmx : mxN (sM I a).1 (sM I b).1 ≤ 40 := by unfold mxN; split <;> omega
  refine Z.mmaxN (a := (sM I a).1) (b := (sM I b).1) (by omega) (by omega) dX4_likeOf_24 mlX4_51 (by decide) ⟨rfl, Nat.le_of_ble_eq_true rfl⟩ ?_
  refine Z.istore (L' := [.ref 1, .ref (58 + 3 * a), .ref (58 + 3 * b), .int (nI ((sM I a).1)), .int (nI ((sM I b).1)), .int (nI (mxN ((sM I a).1) ((sM I b).1)))]) dX4_likeOf_27 (Nat.le_of_ble_eq_true rfl) rfl ?_
  refine Z.iload dX4_likeOf_29 rfl ?_
  refine Z.if_neN (a := mxN ((sM I a).1) ((sM I b).1)) (by omega) (tgt := 38) dX4_likeOf_31 (by decide) (fun h1 => ?_) (fun h1 => ?_)
  · refine Z.iconst (v := 0) dX4_likeOf_38 (by decide) ?_
    refine Z.sipush (v := 1000) dX4_likeOf_39 (by decide) ?_
    refine Z.bipush (v := 100) dX4_likeOf_42 (by decide) ?_
    refine Z.aload_n dX4_likeOf_44 rfl ?_
    refine Z.iload_n dX4_likeOf_45 rfl ?_
    refine Z.iload dX4_likeOf_46 rfl ?_
    refine Z.callVg (M := mX4_likeOf) (pc := 48) (st := [.int 100, .int 1000, .int 0]) (N := mX4_leastSum) (n := 2) dX4_likeOf_48 mlX4_47 mkX4_leastSum imX4_leastSum seX4_leastSum (fx1 hF) cl4 rfl (d1 := 1) (by decide) (As := [.int (nI ((sM I a).1)), .int (nI ((sM I b).1))]) rfl ⟨rfl, Nat.le_of_ble_eq_true rfl⟩ ⟨rfl, Nat.le_of_ble_eq_true rfl⟩ (cc_leastSum ((hE.up (a := 6) rfl).up (a := 7) rfl) (sM I a).2 (sM I b).2 (by omega) (by omega) (sM_rg hM h_a) (sM_rg hM h_b) (fun k hk => hfA_a k hk) (fun k hk => hfB_b k hk) hF hC hM) rfl (fun v_ J3 S_ h_ => ?_)
    obtain ⟨rfl, f8, rfl, rfl⟩ := h_
    refine Z.imul dX4_likeOf_51 ?_
    refine Z.iload dX4_likeOf_52 rfl ?_
    refine Z.idiv dX4_likeOf_54 (nI_ne0 (by omega) (by omega)) ?_
    refine Z.isub dX4_likeOf_55 ?_
    refine Z.mmax dX4_likeOf_56 mlX4_51 (by decide) ⟨rfl, Nat.le_of_ble_eq_true rfl⟩ ?_
    exact Z.iret dX4_likeOf_59 rfl ⟨by rw [mx0, wlM, wlF, if_neg (show ¬ mxN (sM I a).1 (sM I b).1 = 0 by omega)]; rfl, (fun a ha => by simp [va_up, show ¬ a = 6 by omega, show ¬ a = 7 by omega, show ¬ a = 8 by omega]), rfl⟩
  · refine Z.sipush (v := 1000) dX4_likeOf_34 (by decide) ?_
    exact Z.iret dX4_likeOf_37 rfl ⟨by rw [wlM, wlF, if_pos (by omega)], (fun a ha => by simp [va_up, show ¬ a = 6 by omega, show ¬ a = 7 by omega]), rfl⟩

