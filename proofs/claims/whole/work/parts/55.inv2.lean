theorem INV_tr {I R : IM} {n nq : Nat} (hC : Cp I) (hn : Mp I n) (hq : Mq I nq) (hcq : Cq I nq) (hL : LG I n) (hR : RX I n) (f4 : R 0 4 = R 35 10) (f5 : R 0 5 = R 35 8) (f6 : R 0 6 = R 35 9) (e17 : R 35 17 = I 35 17) (e7 : R 35 7 = I 35 7) (hr : ∀ a, 0 < a → a < 43 → a ≠ 35 → R a = I a) (hr2 : ∀ a, 49 ≤ a → a ≤ 52 → R a = I a) : Cp R ∧ Mp R n ∧ Mq R nq ∧ Cq R nq ∧ LG R n ∧ RX R n := by
  have r15 := hr 15 (by decide) (by decide) (by decide)
  have r16 := hr 16 (by decide) (by decide) (by decide)
  have r17 := hr 17 (by decide) (by decide) (by decide)
  have r18 := hr 18 (by decide) (by decide) (by decide)
  have r14 := hr 14 (by decide) (by decide) (by decide)
  have r2 := hr 2 (by decide) (by decide) (by decide)
  have r3 := hr 3 (by decide) (by decide) (by decide)
  have r4 := hr 4 (by decide) (by decide) (by decide)
  have r5 := hr 5 (by decide) (by decide) (by decide)
  have r9 := hr 9 (by decide) (by decide) (by decide)
  have r10 := hr 10 (by decide) (by decide) (by decide)
  have r11 := hr 11 (by decide) (by decide) (by decide)
  have r12 := hr 12 (by decide) (by decide) (by decide)
  have r36 := hr 36 (by decide) (by decide) (by decide)
  have r37 := hr 37 (by decide) (by decide) (by decide)
  have r38 := hr 38 (by decide) (by decide) (by decide)
  have r39 := hr 39 (by decide) (by decide) (by decide)
  have r40 := hr 40 (by decide) (by decide) (by decide)
  have r41 := hr 41 (by decide) (by decide) (by decide)
  have r42 := hr 42 (by decide) (by decide) (by decide)
  have r49 := hr2 49 (by decide) (by decide)
  have r50 := hr2 50 (by decide) (by decide)
  have r51 := hr2 51 (by decide) (by decide)
  have r52 := hr2 52 (by decide) (by decide)
  refine ⟨⟨?_, ?_, ?_, ?_, ?_, f4, f5, f6, ?_, ?_, ?_, ?_, ?_, ?_⟩, ⟨e17.trans hn.1, hn.2⟩, ⟨e7.trans hq.1, hq.2⟩, ?_, LG_cg hn.2 (fun j _ => by rw [r49]) (fun j _ => by rw [r50]) (fun j _ => by rw [r51]) (fun j _ => by rw [r52]) hL, ?_⟩
  · rw [r15, r49]; exact hC.c15
  · rw [r16, r50]; exact hC.c16
  · rw [r17, r51]; exact hC.c17
  · rw [r18, r52]; exact hC.c18
  · rw [r14, e17]; exact hC.f14_4
  · rw [r2, r36]; exact hC.c2
  · rw [r3, r37]; exact hC.c3
  · rw [r4, r39]; exact hC.c4
  · rw [r5, r38]; exact hC.c5
  · rw [r9, e7]; exact hC.f9_3
  · rw [r12, r42]; exact hC.c12
  · unfold Cq
    rw [r10, r11, r40, r41]
    exact hcq
  · unfold RX
    rw [r49, r51]
    exact hR
theorem nI_rg {c hi : Nat} (h : c ≤ hi) (hh : hi < 2 ^ 31) : rg (nI c) hi := rg_nI h hh
section IW
variable {I : IM} {S : SH} {n nq mm : Nat}
/-! letter -/
theorem alN_lo {j : Nat} {l : Int32} {a : Nat} (ha : a < 58) : alN I I j l a = I a := by
  unfold alN
  rw [va_up_ne _ _ (by omega), va_up_ne _ _ (by omega)]
theorem ltK_al {j : Nat} {l' m l : Int32} : ltK (alN I I j l') n m l = ltK I n m l := by
  unfold ltK pM
  rw [alN_lo (a := 35) (by decide), alN_lo (a := 45) (by decide), alN_lo (a := 49) (by decide), alN_lo (a := 50) (by decide), alN_lo (a := 51) (by decide), alN_lo (a := 52) (by decide)]
theorem INV.letter {m l : Int32} (h : INV I S n nq mm) (hk : ltK I n m l = true) : INV (ltN (alN I I m.toNatClampNeg l) m l) S n nq mm := by
  obtain ⟨⟨hF, hC, hn, hq, hcq, hM, hm, hz⟩, ⟨hL, hR, hJ, hP⟩, hl, hZ⟩ := h
  obtain ⟨m43, m44, m45, m47, m46, m36, m37, m39, m38⟩ := hM
  unfold ltK at hk
  unfold ltN
  simp only [Bool.and_eq_true, Bool.not_eq_true', decide_eq_false_iff_not] at hk
  obtain ⟨h1, h2, h3, h4⟩ := hk
  obtain ⟨-, hj⟩ := mk_rg hm.1 hm.2 h1
  have hm2 := hm.2
  have hlr := inB_rg (hi := 25) h2 (by decide)
  generalize m.toNatClampNeg = j at *
  have hc := m45 j (by omega)
  have hc2 := hc.2
  generalize hcc : (I 45 j).toNatClampNeg = c at *
  have hKl : ∀ a, a < 58 → alN I I j l a = I a := fun a ha => alN_lo ha
  have hK0 : alN I I j l (58 + 3 * j) = upd (I (58 + 3 * j)) 4 (nI (c + 1)) := by unfold alN; rw [va_up_self, hcc]
  have hK1 : alN I I j l (58 + 3 * j + 1) = upd (I (58 + 3 * j + 1)) c l := by unfold alN; rw [va_up_ne _ _ (by omega), va_up_self, hcc]
  have hKo : ∀ a, 58 ≤ a → a ≠ 58 + 3 * j → a ≠ 58 + 3 * j + 1 → alN I I j l a = I a := fun a _ h1 h2 => by unfold alN; rw [va_up_ne _ _ h1, va_up_ne _ _ h2]
  have e2 : va_up (va_up (alN I I j l) 46 (upd (alN I I j l 46) (40 * j + (alN I I j l 45 j).toNatClampNeg) l)) 45 (upd (alN I I j l 45) j (nI ((alN I I j l 45 j).toNatClampNeg + 1))) = va_up (va_up (alN I I j l) 46 (upd (I 46) (40 * j + c) l)) 45 (upd (I 45) j (nI (c + 1))) := by rw [hKl 46 (by decide), hKl 45 (by decide), hcc]
  rw [e2]
  generalize alN I I j l = K at *
  have r45 : va_up (va_up K 46 (upd (I 46) (40 * j + c) l)) 45 (upd (I 45) j (nI (c + 1))) 45 = upd (I 45) j (nI (c + 1)) := rfl
  have r46 : va_up (va_up K 46 (upd (I 46) (40 * j + c) l)) 45 (upd (I 45) j (nI (c + 1))) 46 = upd (I 46) (40 * j + c) l := rfl
  have ro : ∀ a, a ≠ 45 → a ≠ 46 → va_up (va_up K 46 (upd (I 46) (40 * j + c) l)) 45 (upd (I 45) j (nI (c + 1))) a = K a := fun a h1 h2 => by rw [va_up_ne _ _ h1, va_up_ne _ _ h2]
  generalize va_up (va_up K 46 (upd (I 46) (40 * j + c) l)) 45 (upd (I 45) j (nI (c + 1))) = R at *
  have rl : ∀ a, a < 58 → a ≠ 45 → a ≠ 46 → R a = I a := fun a h h1 h2 => (ro a h1 h2).trans (hKl a h)
  have r0 := rl 0 (by decide) (by decide) (by decide)
  have r35 := rl 35 (by decide) (by decide) (by decide)
  have r43 := rl 43 (by decide) (by decide) (by decide)
  have r44 := rl 44 (by decide) (by decide) (by decide)
  have r47 := rl 47 (by decide) (by decide) (by decide)
  have r48 := rl 48 (by decide) (by decide) (by decide)
  have r36 := rl 36 (by decide) (by decide) (by decide)
  have r37 := rl 37 (by decide) (by decide) (by decide)
  have r38 := rl 38 (by decide) (by decide) (by decide)
  have r39 := rl 39 (by decide) (by decide) (by decide)
  have r49 := rl 49 (by decide) (by decide) (by decide)
  have r50 := rl 50 (by decide) (by decide) (by decide)
  obtain ⟨t1, t2, t3, t4, t5, t6⟩ := INV_tr (R := R) hC hn hq hcq hL hR (by rw [r0, r35]; exact hC.f0_4) (by rw [r0, r35]; exact hC.f0_5) (by rw [r0, r35]; exact hC.f0_6) (by rw [r35]) (by rw [r35]) (fun a _ h2 _ => rl a (by omega) (by omega) (by omega)) (fun a h1 h2 => rl a (by omega) (by omega) (by omega))
  refine ⟨⟨hF, t1, t2, t3, t4, ⟨?_, ?_, ?_, ?_, ?_, ?_, ?_, ?_, ?_⟩, ⟨by rw [r35]; exact hm.1, hm2⟩, ⟨hz.1, fun i hi => ?_⟩⟩, ⟨t5, t6, ?_, ?_⟩, hl, ?_, ?_⟩
  · rw [r43]; exact m43
  · rw [r44]; exact m44
  · rw [r45]; exact upd_rg m45 (rg_nI (by omega) (by decide))
  · rw [r47]; exact m47
  · rw [r46]; exact upd_rg m46 hlr
  · rw [r36]; exact m36
  · rw [r37]; exact m37
  · rw [r39]; exact m39
  · rw [r38]; exact m38
  · obtain ⟨h1, ⟨p0, p1, p4, p5, pl, pc⟩, h3⟩ := hz.2 i hi
    have cL : clL R i = clL I i := by unfold clL; rw [r43]
    refine ⟨by rw [cL]; exact h1, ?_, by rw [cL, r47]; exact h3⟩
    unfold Cm1
    have q2 : R (58 + 3 * i + 2) = I (58 + 3 * i + 2) := by rw [ro _ (by omega) (by omega), hKo _ (by omega) (by omega) (by omega)]
    rw [r43, r44, r45, r46, r47, r48, q2]
    by_cases z : i = j
    · subst z
      rw [ro (58 + 3 * i) (by omega) (by omega), ro (58 + 3 * i + 1) (by omega) (by omega), hK0, hK1]
      refine ⟨p0, p1, ?_, p5, fun q hq => ?_, pc⟩
      · rw [pk_us, pk_us]
      · rw [upd_cs, upd_cs]
        by_cases y : q = c
        · rw [if_pos y, if_pos (by omega)]
        · rw [if_neg y, if_neg (by omega)]
          exact pl q hq
    · have q0 : R (58 + 3 * i) = I (58 + 3 * i) := by rw [ro _ (by omega) (by omega), hKo _ (by omega) (by omega) (by omega)]
      have q1 : R (58 + 3 * i + 1) = I (58 + 3 * i + 1) := by rw [ro _ (by omega) (by omega), hKo _ (by omega) (by omega) (by omega)]
      rw [q0, q1]
      refine ⟨p0, p1, ?_, p5, fun q hq => ?_, pc⟩
      · rw [upd_cs, if_neg z]
        exact p4
      · rw [upd_cs, if_neg (by omega)]
        exact pl q hq
  · unfold KJ
    rw [r49, r50, r43]
    exact hJ
  · unfold PMm
    rw [r50]
    exact hP
  · intro q hq
    rw [r46, upd_cs, if_neg (by omega)]
    exact hZ.1 q hq
  · intro q hq
    rw [r48]
    exact hZ.2 q hq
/-! code -/
theorem acN_lo {j : Nat} {c : Int32} {a : Nat} (ha : a < 58) : acN I I j c a = I a := by
  unfold acN
  rw [va_up_ne _ _ (by omega), va_up_ne _ _ (by omega)]
theorem cdK_ac {j : Nat} {c' m c : Int32} : cdK (acN I I j c') n m c = cdK I n m c := by
  unfold cdK pM
  rw [acN_lo (a := 35) (by decide), acN_lo (a := 43) (by decide), acN_lo (a := 47) (by decide), acN_lo (a := 48) (by decide), acN_lo (a := 49) (by decide), acN_lo (a := 50) (by decide), acN_lo (a := 51) (by decide), acN_lo (a := 52) (by decide)]
theorem INV.code {m l : Int32} (h : INV I S n nq mm) (hk : cdK I n m l = true) : INV (cdN (acN I I m.toNatClampNeg l) m l) S n nq mm := by
  obtain ⟨⟨hF, hC, hn, hq, hcq, hM, hm, hz⟩, ⟨hL, hR, hJ, hP⟩, hl, hZ⟩ := h
  obtain ⟨m43, m44, m45, m47, m46, m36, m37, m39, m38⟩ := hM
  unfold cdK at hk
  unfold cdN
  simp only [Bool.and_eq_true, Bool.or_eq_true, Bool.not_eq_true', decide_eq_true_eq, decide_eq_false_iff_not] at hk
  obtain ⟨h1, h2, h3, h5, -, -⟩ := hk
  obtain ⟨-, hj⟩ := mk_rg hm.1 hm.2 h1
  have hm2 := hm.2
  generalize m.toNatClampNeg = j at *
  have hc := m47 j (by omega)
  have hc2 := hc.2
  have hcl : clL I j = 12 := by unfold clL; rw [if_pos h5]
  generalize hcc : (I 47 j).toNatClampNeg = c at *
  have hKl : ∀ a, a < 58 → acN I I j l a = I a := fun a ha => acN_lo ha
  have hK0 : acN I I j l (58 + 3 * j) = upd (I (58 + 3 * j)) 5 (nI (c + 1)) := by unfold acN; rw [va_up_self, hcc]
  have hK1 : acN I I j l (58 + 3 * j + 2) = upd (I (58 + 3 * j + 2)) c l := by unfold acN; rw [va_up_ne _ _ (by omega), va_up_self, hcc]
  have hKo : ∀ a, 58 ≤ a → a ≠ 58 + 3 * j → a ≠ 58 + 3 * j + 2 → acN I I j l a = I a := fun a _ h1 h2 => by unfold acN; rw [va_up_ne _ _ h1, va_up_ne _ _ h2]
  have e2 : va_up (va_up (acN I I j l) 48 (upd (acN I I j l 48) (12 * j + (acN I I j l 47 j).toNatClampNeg) l)) 47 (upd (acN I I j l 47) j (nI ((acN I I j l 47 j).toNatClampNeg + 1))) = va_up (va_up (acN I I j l) 48 (upd (I 48) (12 * j + c) l)) 47 (upd (I 47) j (nI (c + 1))) := by rw [hKl 48 (by decide), hKl 47 (by decide), hcc]
  rw [e2]
  generalize acN I I j l = K at *
  have r47 : va_up (va_up K 48 (upd (I 48) (12 * j + c) l)) 47 (upd (I 47) j (nI (c + 1))) 47 = upd (I 47) j (nI (c + 1)) := rfl
  have r48 : va_up (va_up K 48 (upd (I 48) (12 * j + c) l)) 47 (upd (I 47) j (nI (c + 1))) 48 = upd (I 48) (12 * j + c) l := rfl
  have ro : ∀ a, a ≠ 47 → a ≠ 48 → va_up (va_up K 48 (upd (I 48) (12 * j + c) l)) 47 (upd (I 47) j (nI (c + 1))) a = K a := fun a h1 h2 => by rw [va_up_ne _ _ h1, va_up_ne _ _ h2]
  generalize va_up (va_up K 48 (upd (I 48) (12 * j + c) l)) 47 (upd (I 47) j (nI (c + 1))) = R at *
  have rl : ∀ a, a < 58 → a ≠ 47 → a ≠ 48 → R a = I a := fun a h h1 h2 => (ro a h1 h2).trans (hKl a h)
  have r0 := rl 0 (by decide) (by decide) (by decide)
  have r35 := rl 35 (by decide) (by decide) (by decide)
  have r43 := rl 43 (by decide) (by decide) (by decide)
  have r44 := rl 44 (by decide) (by decide) (by decide)
  have r45 := rl 45 (by decide) (by decide) (by decide)
  have r46 := rl 46 (by decide) (by decide) (by decide)
  have r36 := rl 36 (by decide) (by decide) (by decide)
  have r37 := rl 37 (by decide) (by decide) (by decide)
  have r38 := rl 38 (by decide) (by decide) (by decide)
  have r39 := rl 39 (by decide) (by decide) (by decide)
  have r49 := rl 49 (by decide) (by decide) (by decide)
  have r50 := rl 50 (by decide) (by decide) (by decide)
  obtain ⟨t1, t2, t3, t4, t5, t6⟩ := INV_tr (R := R) hC hn hq hcq hL hR (by rw [r0, r35]; exact hC.f0_4) (by rw [r0, r35]; exact hC.f0_5) (by rw [r0, r35]; exact hC.f0_6) (by rw [r35]) (by rw [r35]) (fun a _ h2 _ => rl a (by omega) (by omega) (by omega)) (fun a h1 h2 => rl a (by omega) (by omega) (by omega))
  refine ⟨⟨hF, t1, t2, t3, t4, ⟨?_, ?_, ?_, ?_, ?_, ?_, ?_, ?_, ?_⟩, ⟨by rw [r35]; exact hm.1, hm2⟩, ⟨hz.1, fun i hi => ?_⟩⟩, ⟨t5, t6, ?_, ?_⟩, hl, ?_, ?_⟩
  · rw [r43]; exact m43
  · rw [r44]; exact m44
  · rw [r45]; exact m45
  · rw [r47]; exact upd_rg m47 (rg_nI (by omega) (by decide))
  · rw [r46]; exact m46
  · rw [r36]; exact m36
  · rw [r37]; exact m37
  · rw [r39]; exact m39
  · rw [r38]; exact m38
  · obtain ⟨h1, ⟨p0, p1, p4, p5, pl, pc⟩, h3⟩ := hz.2 i hi
    have cL : clL R i = clL I i := by unfold clL; rw [r43]
    have q2 : R (58 + 3 * i + 1) = I (58 + 3 * i + 1) := by rw [ro _ (by omega) (by omega), hKo _ (by omega) (by omega) (by omega)]
    by_cases z : i = j
    · subst z
      refine ⟨by rw [cL]; exact h1, ?_, by rw [cL, hcl, r47, pk_us, nI_clamp (by omega)]; omega⟩
      unfold Cm1
      rw [r43, r44, r45, r46, r47, r48, q2, ro (58 + 3 * i) (by omega) (by omega), ro (58 + 3 * i + 2) (by omega) (by omega), hK0, hK1]
      refine ⟨p0, p1, p4, ?_, pl, fun q hq => ?_⟩
      · rw [pk_us, pk_us]
      · rw [upd_cs, upd_cs]
        by_cases y : q = c
        · rw [if_pos y, if_pos (by omega)]
        · rw [if_neg y, if_neg (by omega)]
          exact pc q hq
    · refine ⟨by rw [cL]; exact h1, ?_, by rw [cL, r47, upd_cs, if_neg z]; exact h3⟩
      unfold Cm1
      have q0 : R (58 + 3 * i) = I (58 + 3 * i) := by rw [ro _ (by omega) (by omega), hKo _ (by omega) (by omega) (by omega)]
      have q1 : R (58 + 3 * i + 2) = I (58 + 3 * i + 2) := by rw [ro _ (by omega) (by omega), hKo _ (by omega) (by omega) (by omega)]
      rw [r43, r44, r45, r46, r47, r48, q2, q0, q1]
      refine ⟨p0, p1, p4, ?_, pl, fun q hq => ?_⟩
      · rw [upd_cs, if_neg z]
        exact p5
      · rw [upd_cs, if_neg (by omega)]
        exact pc q hq
  · unfold KJ
    rw [r49, r50, r43]
    exact hJ
  · unfold PMm
    rw [r50]
    exact hP
  · intro q hq
    rw [r46]
    exact hZ.1 q hq
  · intro q hq
    rw [r48, upd_cs, if_neg (by omega)]
    exact hZ.2 q hq
/-! mark -/
theorem sM2_lt {k : Int32} {mr : List (Option Nat)} {a : Nat} (hl : S.length = 58 + 3 * mm) (ha : a < 58 + 3 * mm) (h13 : a ≠ 13) : (sM2 S mm k mr)[a]? = S[a]? := by
  have hl1 : (S ++ [((1, 0, [none, none, none, none, none, none]) : SC)]).length = 58 + 3 * mm + 1 := by simp [hl]
  unfold sM2 sS
  rw [List.getElem?_set_ne (Ne.symm h13), s2_lt hl1 ha, List.getElem?_append_left (by omega)]
theorem sM2_l {k : Int32} {mr : List (Option Nat)} (hl : S.length = 58 + 3 * mm) : (sM2 S mm k mr).length = 58 + 3 * (mm + 1) := by
  have hl1 : (S ++ [((1, 0, [none, none, none, none, none, none]) : SC)]).length = 58 + 3 * mm + 1 := by simp [hl]
  unfold sM2 sS
  rw [List.length_set, s2_l hl1]
  omega
theorem sM2_13 {k : Int32} {mr : List (Option Nat)} (hl : S.length = 58 + 3 * mm) : (sM2 S mm k mr)[13]? = some (10, 120, mr.set mm (some (58 + 3 * mm))) := by
  have hl1 : (S ++ [((1, 0, [none, none, none, none, none, none]) : SC)]).length = 58 + 3 * mm + 1 := by simp [hl]
  unfold sM2
  rw [List.getElem?_set_self (by unfold sS; rw [s2_l hl1]; omega)]
theorem sM2_mk {k : Int32} {mr : List (Option Nat)} (hl : S.length = 58 + 3 * mm) : Mk (sM2 S mm k mr) (58 + 3 * mm) (if k = 1 ∨ k = 2 then 12 else 0) := by
  have hl1 : (S ++ [((1, 0, [none, none, none, none, none, none]) : SC)]).length = 58 + 3 * mm + 1 := by simp [hl]
  unfold sM2 sS
  refine ⟨?_, ?_, ?_⟩
  · rw [List.getElem?_set_ne (by omega), s2_x hl1]
    rfl
  · rw [List.getElem?_set_ne (by omega), s2_x1 hl1]
  · rw [List.getElem?_set_ne (by omega), s2_x2 hl1]
theorem mkN_lo {k p : Int32} {a : Nat} (h0 : a ≠ 0) (ha : a < 58 + 3 * mm) : mkN I mm k p a = I a := by
  unfold mkN
  rw [va_up_ne _ _ h0, va_up_ne _ _ (by omega), va_up_ne _ _ (by omega), va_up_ne _ _ (by omega), va_up_ne _ _ (by omega)]
theorem INV.mark {k p : Int32} {mr : List (Option Nat)} (h : INV I S n nq mm) (h13 : S[13]? = some (10, 120, mr)) (hml : mr.length = 120) (hmr : ∀ j, j < mm → mr[j]? = some (some (58 + 3 * j))) (hk : mrK mm k p = true) : INV (mrN (mkN I mm k p) mm k p) (sM2 S mm k mr) n nq (mm + 1) := by
  obtain ⟨⟨hF, hC, hn, hq, hcq, hM, hm, hz⟩, ⟨hL, hR, hJ, hP⟩, hl, hZ⟩ := h
  obtain ⟨m43, m44, m45, m47, m46, m36, m37, m39, m38⟩ := hM
  unfold mrK at hk
  simp only [Bool.and_eq_true, Bool.not_eq_true', decide_eq_false_iff_not] at hk
  obtain ⟨h1, h2, h3⟩ := hk
  have hm2 := hm.2
  have hkr := inB_rg (hi := 4) h1 (by decide)
  have hpr := inB_rg (hi := 99) h2 (by decide)
  have hKl : ∀ a, a ≠ 0 → a < 58 + 3 * mm → mkN I mm k p a = I a := fun a h0 ha => mkN_lo h0 ha
  have hK0 : mkN I mm k p 0 = upd (I 0) 4 (nI (mm + 1)) := by unfold mkN; rw [va_up_self]
  have hx0 : mkN I mm k p (58 + 3 * mm) = mkF k p := by unfold mkN; rw [va_up_ne _ _ (by omega), va_up_ne _ _ (by omega), va_up_self]
  have hx1 : mkN I mm k p (58 + 3 * mm + 1) = fun _ => 0 := by unfold mkN; rw [va_up_ne _ _ (by omega), va_up_ne _ _ (by omega), va_up_ne _ _ (by omega), va_up_self]
  have hx2 : mkN I mm k p (58 + 3 * mm + 2) = fun _ => 0 := by unfold mkN; rw [va_up_ne _ _ (by omega), va_up_self]
  have e2 : mrN (mkN I mm k p) mm k p = va_up (va_up (va_up (va_up (va_up (mkN I mm k p) 43 (upd (I 43) mm k)) 44 (upd (I 44) mm p)) 45 (upd (I 45) mm 0)) 47 (upd (I 47) mm 0)) 35 (upd (I 35) 10 (nI (mm + 1))) := by
    unfold mrN
    rw [hKl 43 (by decide) (by omega), hKl 44 (by decide) (by omega), hKl 45 (by decide) (by omega), hKl 47 (by decide) (by omega), hKl 35 (by decide) (by omega)]
  have r43 : mrN (mkN I mm k p) mm k p 43 = upd (I 43) mm k := by rw [e2]; rfl
  have r44 : mrN (mkN I mm k p) mm k p 44 = upd (I 44) mm p := by rw [e2]; rfl
  have r45 : mrN (mkN I mm k p) mm k p 45 = upd (I 45) mm 0 := by rw [e2]; rfl
  have r47 : mrN (mkN I mm k p) mm k p 47 = upd (I 47) mm 0 := by rw [e2]; rfl
  have r35 : mrN (mkN I mm k p) mm k p 35 = upd (I 35) 10 (nI (mm + 1)) := by rw [e2]; rfl
  have ro : ∀ a, a ≠ 43 → a ≠ 44 → a ≠ 45 → a ≠ 47 → a ≠ 35 → mrN (mkN I mm k p) mm k p a = mkN I mm k p a := fun a h1 h2 h3 h4 h5 => by rw [e2, va_up_ne _ _ h5, va_up_ne _ _ h4, va_up_ne _ _ h3, va_up_ne _ _ h2, va_up_ne _ _ h1]
  generalize mrN (mkN I mm k p) mm k p = R at *
  generalize mkN I mm k p = K at *
  have rl : ∀ a, a ≠ 0 → a < 58 + 3 * mm → a ≠ 43 → a ≠ 44 → a ≠ 45 → a ≠ 47 → a ≠ 35 → R a = I a := fun a h h1 h2 h3 h4 h5 h6 => (ro a h2 h3 h4 h5 h6).trans (hKl a h h1)
  have r0 : R 0 = upd (I 0) 4 (nI (mm + 1)) := (ro 0 (by decide) (by decide) (by decide) (by decide) (by decide)).trans hK0
  have r46 := rl 46 (by decide) (by omega) (by decide) (by decide) (by decide) (by decide) (by decide)
  have r48 := rl 48 (by decide) (by omega) (by decide) (by decide) (by decide) (by decide) (by decide)
  have r36 := rl 36 (by decide) (by omega) (by decide) (by decide) (by decide) (by decide) (by decide)
  have r37 := rl 37 (by decide) (by omega) (by decide) (by decide) (by decide) (by decide) (by decide)
  have r38 := rl 38 (by decide) (by omega) (by decide) (by decide) (by decide) (by decide) (by decide)
  have r39 := rl 39 (by decide) (by omega) (by decide) (by decide) (by decide) (by decide) (by decide)
  have r49 := rl 49 (by decide) (by omega) (by decide) (by decide) (by decide) (by decide) (by decide)
  have r50 := rl 50 (by decide) (by omega) (by decide) (by decide) (by decide) (by decide) (by decide)
  obtain ⟨t1, t2, t3, t4, t5, t6⟩ := INV_tr (R := R) hC hn hq hcq hL hR (by rw [r0, r35]; rfl) (by rw [r0, r35]; exact hC.f0_5) (by rw [r0, r35]; exact hC.f0_6) (by rw [r35]; rfl) (by rw [r35]; rfl) (fun a h1 h2 h3 => rl a (by omega) (by omega) (by omega) (by omega) (by omega) (by omega) h3) (fun a h1 h2 => rl a (by omega) (by omega) (by omega) (by omega) (by omega) (by omega) (by omega))
  refine ⟨⟨fun a h1 h2 => ?_, t1, t2, t3, t4, ⟨?_, ?_, ?_, ?_, ?_, ?_, ?_, ?_, ?_⟩, ⟨by rw [r35]; rfl, by omega⟩, ⟨⟨_, sM2_13 hl, by rw [List.length_set]; exact hml, fun j hj => ?_⟩, fun i hi => ?_⟩⟩, ⟨t5, t6, fun i hi => ?_, fun i hi => ?_⟩, sM2_l hl, fun q hq => ?_, fun q hq => ?_⟩
  · rw [sM2_lt hl (by omega) h2]
    exact hF a h1 h2
  · rw [r43]; exact upd_rg m43 hkr
  · rw [r44]; exact upd_rg m44 hpr
  · rw [r45]; exact upd_rg m45 (rg_0 _)
  · rw [r47]; exact upd_rg m47 (rg_0 _)
  · rw [r46]; exact m46
  · rw [r36]; exact m36
  · rw [r37]; exact m37
  · rw [r39]; exact m39
  · rw [r38]; exact m38
  · by_cases z : j = mm
    · subst z
      rw [List.getElem?_set_self (by omega)]
    · rw [List.getElem?_set_ne (Ne.symm z)]
      exact hmr j (by omega)
  · by_cases z : i = mm
    · subst z
      have cL : clL R i = if k = 1 ∨ k = 2 then 12 else 0 := by unfold clL; rw [r43, pk_us]
      refine ⟨by rw [cL]; exact sM2_mk hl, ?_, by rw [r47, pk_us]; exact Nat.zero_le _⟩
      unfold Cm1
      rw [r43, r44, r45, r46, r47, r48, ro (58 + 3 * i) (by omega) (by omega) (by omega) (by omega) (by omega), ro (58 + 3 * i + 1) (by omega) (by omega) (by omega) (by omega) (by omega), ro (58 + 3 * i + 2) (by omega) (by omega) (by omega) (by omega) (by omega), hx0, hx1, hx2, pk_us, pk_us, pk_us, pk_us]
      refine ⟨rfl, rfl, rfl, rfl, fun q hq => ?_, fun q hq => ?_⟩
      · exact (hZ.1 _ (by omega)).symm
      · exact (hZ.2 _ (by omega)).symm
    · obtain ⟨g1, ⟨p0, p1, p4, p5, pl, pc⟩, g3⟩ := hz.2 i (by omega)
      have cL : clL R i = clL I i := by unfold clL; rw [r43, upd_cs, if_neg z]
      refine ⟨?_, ?_, by rw [cL, r47, upd_cs, if_neg z]; exact g3⟩
      · rw [cL]
        unfold Mk at g1 ⊢
        rw [sM2_lt hl (by omega) (by omega), sM2_lt hl (by omega) (by omega), sM2_lt hl (by omega) (by omega)]
        exact g1
      · unfold Cm1
        rw [r43, r44, r45, r46, r47, r48, rl (58 + 3 * i) (by omega) (by omega) (by omega) (by omega) (by omega) (by omega) (by omega), rl (58 + 3 * i + 1) (by omega) (by omega) (by omega) (by omega) (by omega) (by omega) (by omega), rl (58 + 3 * i + 2) (by omega) (by omega) (by omega) (by omega) (by omega) (by omega) (by omega)]
        simp only [upd_cs, if_neg z]
        exact ⟨p0, p1, p4, p5, pl, pc⟩
  · rw [r49, r50, r43, upd_cs]
    intro q
    rw [if_neg (by have := (hP i hi).2; omega)]
    exact hJ i hi q
  · rw [r50]
    exact ⟨(hP i hi).1, by have := (hP i hi).2; omega⟩
  · rw [r46]
    exact hZ.1 q (by omega)
  · rw [r48]
    exact hZ.2 q (by omega)
end IW
