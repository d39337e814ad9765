/-- JOIN is of marks of groups alone -/
def KJ (I : IM) (n : Nat) : Prop := ∀ i, i < n → I 49 i = 8 → I 43 (I 50 i).toNatClampNeg = 3
theorem kj_of {I : IM} {n a : Nat} {pe t : Int32} (hJ : KJ I n) (hn4 : n ≤ 400) (ha : a < 2 ^ 31) (h : ¬ latF (pM I n) 8 (nI a) pe t < 0) : I 43 a = 3 := by
  have : ∃ j, j < n ∧ mt (pM I n) 8 (nI a) pe t j = true := Decidable.byContradiction (fun q => h (by
    have : latF (pM I n) 8 (nI a) pe t = -1 := latU_none (i := n) (fun j hj => by
      rcases Bool.eq_false_or_eq_true (mt (pM I n) 8 (nI a) pe t j) with z | z
      · exact absurd ⟨j, hj, z⟩ q
      · exact z)
    rw [this]; decide))
  obtain ⟨j, hj, e⟩ := this
  rw [mtM] at e
  simp only [Bool.and_eq_true, decide_eq_true_eq] at e
  have k := hJ j hj e.1
  rw [e.2.1, nI_clamp ha] at k
  exact k
theorem my_c {I : IM} {n nq a : Nat} {pe sg g_ c t : Int32} (hJ : KJ I n) (hn4 : n ≤ 400) (ha : a < 2 ^ 31) (hr : ¬ myR I n nq sg g_ c t a < 0) : (clO I n pe a t = 0 ∧ myC I n nq pe sg g_ c t a = 4) ∨ (clO I n pe a t = 1 ∧ myC I n nq pe sg g_ c t a = 1) ∨ (clO I n pe a t = 2 ∧ myC I n nq pe sg g_ c t a = 2) ∨ (clO I n pe a t = 3 ∧ myC I n nq pe sg g_ c t a = 3) := by
  unfold clO myC leF
  rw [if_neg hr]
  by_cases h1 : I 44 a = pe
  · rw [if_pos h1, if_pos h1]
    exact Or.inr (Or.inl ⟨rfl, rfl⟩)
  · rw [if_neg h1, if_neg h1]
    by_cases h2 : (!decide (latF (pM I n) 5 (nI a) pe t < 0)) = true
    · rw [if_pos h2, if_pos h2]
      exact Or.inr (Or.inr (Or.inl ⟨rfl, rfl⟩))
    · rw [if_neg h2, if_neg h2]
      by_cases h3 : latF (pM I n) 8 (nI a) pe t < 0
      · rw [if_neg (by rw [decide_eq_true h3]; decide), if_neg (fun z => z.2 h3)]
        exact Or.inl ⟨rfl, rfl⟩
      · rw [if_pos (by rw [decide_eq_false h3]; rfl), if_pos ⟨kj_of hJ hn4 ha h3, h3⟩]
        exact Or.inr (Or.inr (Or.inr ⟨rfl, rfl⟩))
/-- the best claim -/
def c3 (b1 b2 b3 : Bool) : Int32 := if b1 = true then 1 else if b2 = true then 2 else if b3 = true then 3 else 0
def clE (x : Int32 × Int32 × Bool × Bool × Bool) : Int32 := c3 x.2.2.1 x.2.2.2.1 x.2.2.2.2
theorem c3_1 : ∀ b1 b2 b3 : Bool, c3 true b2 b3 = if c3 b1 b2 b3 = 0 ∨ 1 < c3 b1 b2 b3 then 1 else c3 b1 b2 b3 := by decide
theorem c3_2 : ∀ b1 b2 b3 : Bool, c3 b1 true b3 = if c3 b1 b2 b3 = 0 ∨ 2 < c3 b1 b2 b3 then 2 else c3 b1 b2 b3 := by decide
theorem c3_3 : ∀ b1 b2 b3 : Bool, c3 b1 b2 true = if c3 b1 b2 b3 = 0 ∨ 3 < c3 b1 b2 b3 then 3 else c3 b1 b2 b3 := by decide
theorem cl_1 (x : Int32 × Int32 × Bool × Bool × Bool) : clE (x.1, x.2.1, true, x.2.2.2.1, x.2.2.2.2) = if clE x = 0 ∨ 1 < clE x then 1 else clE x := c3_1 _ _ _
theorem cl_2 (x : Int32 × Int32 × Bool × Bool × Bool) : clE (x.1, x.2.1, x.2.2.1, true, x.2.2.2.2) = if clE x = 0 ∨ 2 < clE x then 2 else clE x := c3_2 _ _ _
theorem cl_3 (x : Int32 × Int32 × Bool × Bool × Bool) : clE (x.1, x.2.1, x.2.2.1, x.2.2.2.1, true) = if clE x = 0 ∨ 3 < clE x then 3 else clE x := c3_3 _ _ _
theorem ma_1 {c : Nat → Nat} {r : Nat → Int32} : ∀ {a : Nat}, a ≤ 400 → ((maU c r a).1 = -1 ↔ (maU c r a).1 < 0)
  | 0, _ => ⟨fun _ => by unfold maU; decide, fun _ => by unfold maU; rfl⟩
  | a + 1, h => by
    unfold maU
    split
    · exact ma_1 (by omega)
    · split
      · exact ma_1 (by omega)
      · split
        · exact ma_1 (by omega)
        · split
          · exact ⟨fun e => absurd e (nI_nm1 (by omega)), fun e => absurd e (nI_pos (by omega))⟩
          · exact ma_1 (by omega)
theorem maE_c {x : Int32 × Int32 × Bool × Bool × Bool} (h : x.1 < 0) : maE x = clE x := by
  unfold maE clE c3
  rw [if_neg (fun z => z h)]
theorem maE_b {x : Int32 × Int32 × Bool × Bool × Bool} (h : ¬ x.1 < 0) : maE x = 10 + x.1 := by
  unfold maE
  rw [if_pos h]
set_option maxHeartbeats 4000000 in
set_option maxRecDepth 100000 in
theorem lc_may {g : GP} {I : IM} {S : SH} (pe sg g_ c t : Int32) (hF : Fx S) (hC : Cp I) {n : Nat} (hn : Mp I n) {nq : Nat} (hq : Mq I nq) (hcq : Cq I nq) (hM : MIv I) {mm : Nat} (hm : Mm I mm) (hz : Mz I S mm) (hL : LG I n) (hR : RX I n) (hJ : KJ I n) (hss : sg.toNatClampNeg < mm) (hc : ¬ c = -1) (hpe : ¬ pe = -1) (hok : myB I pe sg g_ c t = true) : ∀ a, a ≤ mm → ∀ J, Ex I J → ∀ e8, ((maU (myC I n nq pe sg g_ c t) (myR I n nq sg g_ c t) a).1 = -1 ∨ e8 = (maU (myC I n nq pe sg g_ c t) (myR I n nq sg g_ c t) a).2.1) → Z g 6 0 0 mX6_may 59 [.ref 0, .int pe, .int (nI (sg.toNatClampNeg)), .int g_, .int c, .int t, .int (clE (maU (myC I n nq pe sg g_ c t) (myR I n nq sg g_ c t) a)), .int ((maU (myC I n nq pe sg g_ c t) (myR I n nq sg g_ c t) a).1), .int e8, .int (nI a), .retAddr 0, .retAddr 0] [] J S (NQ (.int (myM I n nq mm pe sg g_ c t)) I S) := by
  have hn2 := hn.2
  have hq2 := hq.2
  have hm2 := hm.2
  have hD := hL.1
  have hso := hL.2.1
  refine upZ mm (fun a hi ih J hE e8 he => ?_)
  refine Z.iload dX6_may_59 rfl ?_
  refine Z.aload_n dX6_may_61 rfl ?_
  refine Z.getIv (v := nI mm) dX6_may_62 cl6 flX6_36 (by decide) (fx0 hF) (((hE.at 0 4 rfl).trans hC.f0_4).trans hm.1) ?_
  refine Z.icmp_geN (a := a) (b := mm) (by omega) (by omega) (tgt := 179) dX6_may_65 (by decide) (fun h1 => ?_) (fun h1 => ?_)
  · refine Z.iload dX6_may_179 rfl ?_
    refine Z.iconst (v := (-1)) dX6_may_181 (by decide) ?_
    refine Z.icmp_ne (tgt := 190) dX6_may_182 (by decide) (fun h2 => ?_) (fun h2 => ?_)
    · refine Z.bipush (v := 10) dX6_may_190 (by decide) ?_
      refine Z.iload dX6_may_192 rfl ?_
      refine Z.iadd dX6_may_194 ?_
      exact Z.iret dX6_may_195 rfl ⟨by have hie : a = mm := (by omega); subst hie; have hf1 := ma_1 (c := (myC I n nq pe sg g_ c t)) (r := (myR I n nq sg g_ c t)) (a := a) (by omega); rw [myM, if_pos hok, maE_b (fun z => h2 (hf1.mpr z))], hE, rfl⟩
    · refine Z.iload dX6_may_185 rfl ?_
      refine Z.goto (tgt := 195) dX6_may_187 (by decide) ?_
      exact Z.iret dX6_may_195 rfl ⟨by have hie : a = mm := (by omega); subst hie; have hf1 := ma_1 (c := (myC I n nq pe sg g_ c t)) (r := (myR I n nq sg g_ c t)) (a := a) (by omega); rw [myM, if_pos hok, maE_c (hf1.mp h2)], hE, rfl⟩
  · refine Z.aload_n dX6_may_68 rfl ?_
    refine Z.getR (r := 19) dX6_may_69 cl6 flX6_49 (by decide) (fx0 hF) rfl ?_
    refine Z.aload_n dX6_may_72 rfl ?_
    refine Z.getR (r := 14) dX6_may_73 cl6 flX6_32 (by decide) (fx0 hF) rfl ?_
    refine Z.iload dX6_may_76 rfl ?_
    refine Z.iload dX6_may_78 rfl ?_
    refine Z.iload dX6_may_80 rfl ?_
    refine Z.callVg (M := mX6_may) (pc := 82) (st := []) (N := mX5_read) (n := 4) dX6_may_82 mlX6_118 mkX5_read imX5_read seX5_read (fx19 hF) cl5 rfl (d1 := 3) (by decide) (As := [.ref 14, .int (nI a), .int c, .int t]) rfl ⟨rfl, Nat.le_of_ble_eq_true rfl⟩ ⟨rfl, Nat.le_of_ble_eq_true rfl⟩ (cv_read19 hE (nI a) c t hF hC hn hL) rfl (fun v_ J1 S_ h_ => ?_)
    obtain ⟨rfl, hw3, ⟨K19_3, hA19_3, hB19_3⟩, rfl⟩ := h_
    have hE := AW19.ex hw3 hE
    have hK19_3 := hA19_3.2.2.2.2.2.2.2.2.2
    refine Z.aload_n dX6_may_85 rfl ?_
    refine Z.iload_n dX6_may_86 rfl ?_
    refine Z.callVp (M := mX6_may) (pc := 87) (st := []) (N := mX6_earliestNear) (n := 1) (r := .int (nrF I n nq (nI a) g_ c t)) dX6_may_87 mlX6_225 mkX6_earliestNear imX6_earliestNear seX6_earliestNear (fx0 hF) cl6 rfl (d1 := 4) (by decide) (As := [.int g_]) rfl ⟨rfl, Nat.le_of_ble_eq_true rfl⟩ ⟨rfl, Nat.le_of_ble_eq_true rfl⟩ (cc_earliestNear hE g_ hF hC hn hq hcq hM hm hz hL hA19_3 hB19_3 hc) rfl ?_
    refine Z.istore (L' := [.ref 0, .int pe, .int (nI (sg.toNatClampNeg)), .int g_, .int c, .int t, .int (clE (maU (myC I n nq pe sg g_ c t) (myR I n nq sg g_ c t) a)), .int ((maU (myC I n nq pe sg g_ c t) (myR I n nq sg g_ c t) a).1), .int e8, .int (nI a), .int (nrF I n nq (nI a) g_ c t), .retAddr 0]) dX6_may_90 (Nat.le_of_ble_eq_true rfl) rfl ?_
    refine Z.iload dX6_may_92 rfl ?_
    refine Z.iconst (v := (-1)) dX6_may_94 (by decide) ?_
    refine Z.icmp_eq (tgt := 173) dX6_may_95 (by decide) (fun h4 => ?_) (fun h4 => ?_)
    · refine Z.iinc (v := nI (a + 1)) (L' := [.ref 0, .int pe, .int (nI (sg.toNatClampNeg)), .int g_, .int c, .int t, .int (clE (maU (myC I n nq pe sg g_ c t) (myR I n nq sg g_ c t) a)), .int ((maU (myC I n nq pe sg g_ c t) (myR I n nq sg g_ c t) a).1), .int e8, .int (nI (a + 1)), .int (nrF I n nq (nI a) g_ c t), .retAddr 0]) dX6_may_173 rfl (nI_1 _) rfl ?_
      refine Z.goto (tgt := 59) dX6_may_176 (by decide) ?_
      refine Z.drop (i := 10) (L' := [.ref 0, .int pe, .int (nI (sg.toNatClampNeg)), .int g_, .int c, .int t, .int (clE (maU (myC I n nq pe sg g_ c t) (myR I n nq sg g_ c t) a)), .int ((maU (myC I n nq pe sg g_ c t) (myR I n nq sg g_ c t) a).1), .int e8, .int (nI (a + 1)), .retAddr 0, .retAddr 0]) rfl ?_
      have hf1 := ma_1 (c := (myC I n nq pe sg g_ c t)) (r := (myR I n nq sg g_ c t)) (a := a) (by omega)
      have hz0 : (myR I n nq sg g_ c t) a < 0 := by unfold myR; split; (exact (nr_ng hD hn2).mp h4); decide
      have hmc : (myC I n nq pe sg g_ c t) a = 0 := if_pos hz0
      have hs : (maU (myC I n nq pe sg g_ c t) (myR I n nq sg g_ c t) (a + 1)) = (maU (myC I n nq pe sg g_ c t) (myR I n nq sg g_ c t) a) := by show (if _ then _ else _) = _; rw [hmc]; rfl
      have e := ih (by omega) J1 hE e8 (by rw [hs]; exact he)
      rw [hs] at e
      exact e
    · refine Z.iload dX6_may_98 rfl ?_
      refine Z.iload_n dX6_may_100 rfl ?_
      refine Z.icmp_eqN (a := a) (b := sg.toNatClampNeg) (by omega) (by omega) (tgt := 117) dX6_may_101 (by decide) (fun h5 => ?_) (fun h5 => ?_)
      · refine Z.aload_n dX6_may_117 rfl ?_
        refine Z.iload_n dX6_may_118 rfl ?_
        refine Z.iload dX6_may_119 rfl ?_
        refine Z.iload dX6_may_121 rfl ?_
        refine Z.callVp (M := mX6_may) (pc := 123) (st := []) (N := mX6_claimOf) (n := 3) (r := .int (clO I n pe a t)) dX6_may_123 mlX6_231 mkX6_claimOf imX6_claimOf seX6_claimOf (fx0 hF) cl6 rfl (d1 := 2) (by decide) (As := [.int pe, .int (nI a), .int t]) rfl ⟨rfl, Nat.le_of_ble_eq_true rfl⟩ ⟨rfl, Nat.le_of_ble_eq_true rfl⟩ (cc_claimOf hE pe a t hF hC hn hq hcq hM hm hz hL (by omega) hpe) rfl ?_
        have hmr : (myR I n nq sg g_ c t) a = nrF I n nq (nI a) g_ c t := if_pos (Or.inl h5)
        have hmn : ¬ (myR I n nq sg g_ c t) a < 0 := by rw [hmr]; exact fun z => h4 ((nr_ng hD hn2).mpr z)
        rcases my_c (pe := pe) hJ hn2 (by omega) hmn with ⟨hv, hmc⟩ | ⟨hv, hmc⟩ | ⟨hv, hmc⟩ | ⟨hv, hmc⟩
        · refine Z.eqLs (L' := [.ref 0, .int pe, .int (nI (sg.toNatClampNeg)), .int g_, .int c, .int t, .int (clE (maU (myC I n nq pe sg g_ c t) (myR I n nq sg g_ c t) a)), .int ((maU (myC I n nq pe sg g_ c t) (myR I n nq sg g_ c t) a).1), .int e8, .int (nI a), .int (nrF I n nq (nI a) g_ c t), .retAddr 0]) (st' := [.int 0]) rfl (by rw [hv]) ?_
          refine Z.istore (L' := [.ref 0, .int pe, .int (nI (sg.toNatClampNeg)), .int g_, .int c, .int t, .int (clE (maU (myC I n nq pe sg g_ c t) (myR I n nq sg g_ c t) a)), .int ((maU (myC I n nq pe sg g_ c t) (myR I n nq sg g_ c t) a).1), .int e8, .int (nI a), .int (nrF I n nq (nI a) g_ c t), .int 0]) dX6_may_126 (Nat.le_of_ble_eq_true rfl) rfl ?_
          refine Z.iload dX6_may_128 rfl ?_
          refine Z.if_ne (tgt := 157) dX6_may_130 (by decide) (fun h6 => absurd h6 (by decide)) (fun h6 => ?_)
          refine Z.iload dX6_may_133 rfl ?_
          refine Z.iconst (v := (-1)) dX6_may_135 (by decide) ?_
          refine Z.icmp_eq (tgt := 146) dX6_may_136 (by decide) (fun h7 => ?_) (fun h7 => ?_)
          · refine Z.iload dX6_may_146 rfl ?_
            refine Z.istore (L' := [.ref 0, .int pe, .int (nI (sg.toNatClampNeg)), .int g_, .int c, .int t, .int (clE (maU (myC I n nq pe sg g_ c t) (myR I n nq sg g_ c t) a)), .int (nI a), .int e8, .int (nI a), .int (nrF I n nq (nI a) g_ c t), .int 0]) dX6_may_148 (Nat.le_of_ble_eq_true rfl) rfl ?_
            refine Z.iload dX6_may_150 rfl ?_
            refine Z.istore (L' := [.ref 0, .int pe, .int (nI (sg.toNatClampNeg)), .int g_, .int c, .int t, .int (clE (maU (myC I n nq pe sg g_ c t) (myR I n nq sg g_ c t) a)), .int (nI a), .int (nrF I n nq (nI a) g_ c t), .int (nI a), .int (nrF I n nq (nI a) g_ c t), .int 0]) dX6_may_152 (Nat.le_of_ble_eq_true rfl) rfl ?_
            refine Z.goto (tgt := 173) dX6_may_154 (by decide) ?_
            refine Z.iinc (v := nI (a + 1)) (L' := [.ref 0, .int pe, .int (nI (sg.toNatClampNeg)), .int g_, .int c, .int t, .int (clE (maU (myC I n nq pe sg g_ c t) (myR I n nq sg g_ c t) a)), .int (nI a), .int (nrF I n nq (nI a) g_ c t), .int (nI (a + 1)), .int (nrF I n nq (nI a) g_ c t), .int 0]) dX6_may_173 rfl (nI_1 _) rfl ?_
            refine Z.goto (tgt := 59) dX6_may_176 (by decide) ?_
            refine Z.drop (i := 10) (L' := [.ref 0, .int pe, .int (nI (sg.toNatClampNeg)), .int g_, .int c, .int t, .int (clE (maU (myC I n nq pe sg g_ c t) (myR I n nq sg g_ c t) a)), .int (nI a), .int (nrF I n nq (nI a) g_ c t), .int (nI (a + 1)), .retAddr 0, .int 0]) rfl ?_
            refine Z.drop (i := 11) (L' := [.ref 0, .int pe, .int (nI (sg.toNatClampNeg)), .int g_, .int c, .int t, .int (clE (maU (myC I n nq pe sg g_ c t) (myR I n nq sg g_ c t) a)), .int (nI a), .int (nrF I n nq (nI a) g_ c t), .int (nI (a + 1)), .retAddr 0, .retAddr 0]) rfl ?_
            have hf1 := ma_1 (c := (myC I n nq pe sg g_ c t)) (r := (myR I n nq sg g_ c t)) (a := a) (by omega)
            have hs : (maU (myC I n nq pe sg g_ c t) (myR I n nq sg g_ c t) (a + 1)) = (nI a, nrF I n nq (nI a) g_ c t, (maU (myC I n nq pe sg g_ c t) (myR I n nq sg g_ c t) a).2.2.1, (maU (myC I n nq pe sg g_ c t) (myR I n nq sg g_ c t) a).2.2.2.1, (maU (myC I n nq pe sg g_ c t) (myR I n nq sg g_ c t) a).2.2.2.2) := by show (if _ then _ else _) = _; rw [if_neg (by rw [hmc]; decide), if_neg (by rw [hmc]; decide), if_neg (by rw [hmc]; decide), if_pos ⟨hmc, Or.inl (hf1.mp h7)⟩, hmr]
            have e := ih (by omega) J1 hE (nrF I n nq (nI a) g_ c t) (Or.inr (by rw [hs]))
            rw [hs] at e
            exact e
          · refine Z.iload dX6_may_139 rfl ?_
            refine Z.iload dX6_may_141 rfl ?_
            refine Z.icmp_ge (tgt := 173) dX6_may_143 (by decide) (fun h8 => ?_) (fun h8 => ?_)
            · refine Z.iinc (v := nI (a + 1)) (L' := [.ref 0, .int pe, .int (nI (sg.toNatClampNeg)), .int g_, .int c, .int t, .int (clE (maU (myC I n nq pe sg g_ c t) (myR I n nq sg g_ c t) a)), .int ((maU (myC I n nq pe sg g_ c t) (myR I n nq sg g_ c t) a).1), .int e8, .int (nI (a + 1)), .int (nrF I n nq (nI a) g_ c t), .int 0]) dX6_may_173 rfl (nI_1 _) rfl ?_
              refine Z.goto (tgt := 59) dX6_may_176 (by decide) ?_
              refine Z.drop (i := 10) (L' := [.ref 0, .int pe, .int (nI (sg.toNatClampNeg)), .int g_, .int c, .int t, .int (clE (maU (myC I n nq pe sg g_ c t) (myR I n nq sg g_ c t) a)), .int ((maU (myC I n nq pe sg g_ c t) (myR I n nq sg g_ c t) a).1), .int e8, .int (nI (a + 1)), .retAddr 0, .int 0]) rfl ?_
              refine Z.drop (i := 11) (L' := [.ref 0, .int pe, .int (nI (sg.toNatClampNeg)), .int g_, .int c, .int t, .int (clE (maU (myC I n nq pe sg g_ c t) (myR I n nq sg g_ c t) a)), .int ((maU (myC I n nq pe sg g_ c t) (myR I n nq sg g_ c t) a).1), .int e8, .int (nI (a + 1)), .retAddr 0, .retAddr 0]) rfl ?_
              have hf1 := ma_1 (c := (myC I n nq pe sg g_ c t)) (r := (myR I n nq sg g_ c t)) (a := a) (by omega)
              have hs : (maU (myC I n nq pe sg g_ c t) (myR I n nq sg g_ c t) (a + 1)) = (maU (myC I n nq pe sg g_ c t) (myR I n nq sg g_ c t) a) := by show (if _ then _ else _) = _; rw [if_neg (by rw [hmc]; decide), if_neg (by rw [hmc]; decide), if_neg (by rw [hmc]; decide), if_neg (fun z => z.2.elim (fun y => h7 (hf1.mpr y)) (fun y => h8 (by rw [he.resolve_left h7, ← hmr]; exact y)))]
              have e := ih (by omega) J1 hE e8 (by rw [hs]; exact he)
              rw [hs] at e
              exact e
            · refine Z.iload dX6_may_146 rfl ?_
              refine Z.istore (L' := [.ref 0, .int pe, .int (nI (sg.toNatClampNeg)), .int g_, .int c, .int t, .int (clE (maU (myC I n nq pe sg g_ c t) (myR I n nq sg g_ c t) a)), .int (nI a), .int e8, .int (nI a), .int (nrF I n nq (nI a) g_ c t), .int 0]) dX6_may_148 (Nat.le_of_ble_eq_true rfl) rfl ?_
              refine Z.iload dX6_may_150 rfl ?_
              refine Z.istore (L' := [.ref 0, .int pe, .int (nI (sg.toNatClampNeg)), .int g_, .int c, .int t, .int (clE (maU (myC I n nq pe sg g_ c t) (myR I n nq sg g_ c t) a)), .int (nI a), .int (nrF I n nq (nI a) g_ c t), .int (nI a), .int (nrF I n nq (nI a) g_ c t), .int 0]) dX6_may_152 (Nat.le_of_ble_eq_true rfl) rfl ?_
              refine Z.goto (tgt := 173) dX6_may_154 (by decide) ?_
              refine Z.iinc (v := nI (a + 1)) (L' := [.ref 0, .int pe, .int (nI (sg.toNatClampNeg)), .int g_, .int c, .int t, .int (clE (maU (myC I n nq pe sg g_ c t) (myR I n nq sg g_ c t) a)), .int (nI a), .int (nrF I n nq (nI a) g_ c t), .int (nI (a + 1)), .int (nrF I n nq (nI a) g_ c t), .int 0]) dX6_may_173 rfl (nI_1 _) rfl ?_
              refine Z.goto (tgt := 59) dX6_may_176 (by decide) ?_
              refine Z.drop (i := 10) (L' := [.ref 0, .int pe, .int (nI (sg.toNatClampNeg)), .int g_, .int c, .int t, .int (clE (maU (myC I n nq pe sg g_ c t) (myR I n nq sg g_ c t) a)), .int (nI a), .int (nrF I n nq (nI a) g_ c t), .int (nI (a + 1)), .retAddr 0, .int 0]) rfl ?_
              refine Z.drop (i := 11) (L' := [.ref 0, .int pe, .int (nI (sg.toNatClampNeg)), .int g_, .int c, .int t, .int (clE (maU (myC I n nq pe sg g_ c t) (myR I n nq sg g_ c t) a)), .int (nI a), .int (nrF I n nq (nI a) g_ c t), .int (nI (a + 1)), .retAddr 0, .retAddr 0]) rfl ?_
              have hf1 := ma_1 (c := (myC I n nq pe sg g_ c t)) (r := (myR I n nq sg g_ c t)) (a := a) (by omega)
              have hs : (maU (myC I n nq pe sg g_ c t) (myR I n nq sg g_ c t) (a + 1)) = (nI a, nrF I n nq (nI a) g_ c t, (maU (myC I n nq pe sg g_ c t) (myR I n nq sg g_ c t) a).2.2.1, (maU (myC I n nq pe sg g_ c t) (myR I n nq sg g_ c t) a).2.2.2.1, (maU (myC I n nq pe sg g_ c t) (myR I n nq sg g_ c t) a).2.2.2.2) := by show (if _ then _ else _) = _; rw [if_neg (by rw [hmc]; decide), if_neg (by rw [hmc]; decide), if_neg (by rw [hmc]; decide), if_pos ⟨hmc, Or.inr (by rw [hmr, ← he.resolve_left h7]; exact h8)⟩, hmr]
              have e := ih (by omega) J1 hE (nrF I n nq (nI a) g_ c t) (Or.inr (by rw [hs]))
              rw [hs] at e
              exact e
        · refine Z.eqLs (L' := [.ref 0, .int pe, .int (nI (sg.toNatClampNeg)), .int g_, .int c, .int t, .int (clE (maU (myC I n nq pe sg g_ c t) (myR I n nq sg g_ c t) a)), .int ((maU (myC I n nq pe sg g_ c t) (myR I n nq sg g_ c t) a).1), .int e8, .int (nI a), .int (nrF I n nq (nI a) g_ c t), .retAddr 0]) (st' := [.int 1]) rfl (by rw [hv]) ?_
          refine Z.istore (L' := [.ref 0, .int pe, .int (nI (sg.toNatClampNeg)), .int g_, .int c, .int t, .int (clE (maU (myC I n nq pe sg g_ c t) (myR I n nq sg g_ c t) a)), .int ((maU (myC I n nq pe sg g_ c t) (myR I n nq sg g_ c t) a).1), .int e8, .int (nI a), .int (nrF I n nq (nI a) g_ c t), .int 1]) dX6_may_126 (Nat.le_of_ble_eq_true rfl) rfl ?_
          refine Z.iload dX6_may_128 rfl ?_
          refine Z.if_ne (tgt := 157) dX6_may_130 (by decide) (fun h9 => ?_) (fun h9 => absurd h9 (by decide))
          refine Z.iload dX6_may_157 rfl ?_
          refine Z.if_eq (tgt := 169) dX6_may_159 (by decide) (fun h10 => ?_) (fun h10 => ?_)
          · refine Z.iload dX6_may_169 rfl ?_
            refine Z.istore (L' := [.ref 0, .int pe, .int (nI (sg.toNatClampNeg)), .int g_, .int c, .int t, .int 1, .int ((maU (myC I n nq pe sg g_ c t) (myR I n nq sg g_ c t) a).1), .int e8, .int (nI a), .int (nrF I n nq (nI a) g_ c t), .int 1]) dX6_may_171 (Nat.le_of_ble_eq_true rfl) rfl ?_
            refine Z.iinc (v := nI (a + 1)) (L' := [.ref 0, .int pe, .int (nI (sg.toNatClampNeg)), .int g_, .int c, .int t, .int 1, .int ((maU (myC I n nq pe sg g_ c t) (myR I n nq sg g_ c t) a).1), .int e8, .int (nI (a + 1)), .int (nrF I n nq (nI a) g_ c t), .int 1]) dX6_may_173 rfl (nI_1 _) rfl ?_
            refine Z.goto (tgt := 59) dX6_may_176 (by decide) ?_
            refine Z.drop (i := 10) (L' := [.ref 0, .int pe, .int (nI (sg.toNatClampNeg)), .int g_, .int c, .int t, .int 1, .int ((maU (myC I n nq pe sg g_ c t) (myR I n nq sg g_ c t) a).1), .int e8, .int (nI (a + 1)), .retAddr 0, .int 1]) rfl ?_
            refine Z.drop (i := 11) (L' := [.ref 0, .int pe, .int (nI (sg.toNatClampNeg)), .int g_, .int c, .int t, .int 1, .int ((maU (myC I n nq pe sg g_ c t) (myR I n nq sg g_ c t) a).1), .int e8, .int (nI (a + 1)), .retAddr 0, .retAddr 0]) rfl ?_
            have hf1 := ma_1 (c := (myC I n nq pe sg g_ c t)) (r := (myR I n nq sg g_ c t)) (a := a) (by omega)
            have hs : (maU (myC I n nq pe sg g_ c t) (myR I n nq sg g_ c t) (a + 1)) = ((maU (myC I n nq pe sg g_ c t) (myR I n nq sg g_ c t) a).1, (maU (myC I n nq pe sg g_ c t) (myR I n nq sg g_ c t) a).2.1, true, (maU (myC I n nq pe sg g_ c t) (myR I n nq sg g_ c t) a).2.2.2.1, (maU (myC I n nq pe sg g_ c t) (myR I n nq sg g_ c t) a).2.2.2.2) := by show (if _ then _ else _) = _; rw [if_pos hmc]
            have hce : clE (maU (myC I n nq pe sg g_ c t) (myR I n nq sg g_ c t) (a + 1)) = 1 := by rw [hs, cl_1, if_pos (Or.inl h10)]
            have e := ih (by omega) J1 hE e8 (by rw [hs]; exact he)
            rw [hce, hs] at e
            exact e
          · refine Z.iload dX6_may_162 rfl ?_
            refine Z.iload dX6_may_164 rfl ?_
            refine Z.icmp_ge (tgt := 173) dX6_may_166 (by decide) (fun h11 => ?_) (fun h11 => ?_)
            · refine Z.iinc (v := nI (a + 1)) (L' := [.ref 0, .int pe, .int (nI (sg.toNatClampNeg)), .int g_, .int c, .int t, .int (clE (maU (myC I n nq pe sg g_ c t) (myR I n nq sg g_ c t) a)), .int ((maU (myC I n nq pe sg g_ c t) (myR I n nq sg g_ c t) a).1), .int e8, .int (nI (a + 1)), .int (nrF I n nq (nI a) g_ c t), .int 1]) dX6_may_173 rfl (nI_1 _) rfl ?_
              refine Z.goto (tgt := 59) dX6_may_176 (by decide) ?_
              refine Z.drop (i := 10) (L' := [.ref 0, .int pe, .int (nI (sg.toNatClampNeg)), .int g_, .int c, .int t, .int (clE (maU (myC I n nq pe sg g_ c t) (myR I n nq sg g_ c t) a)), .int ((maU (myC I n nq pe sg g_ c t) (myR I n nq sg g_ c t) a).1), .int e8, .int (nI (a + 1)), .retAddr 0, .int 1]) rfl ?_
              refine Z.drop (i := 11) (L' := [.ref 0, .int pe, .int (nI (sg.toNatClampNeg)), .int g_, .int c, .int t, .int (clE (maU (myC I n nq pe sg g_ c t) (myR I n nq sg g_ c t) a)), .int ((maU (myC I n nq pe sg g_ c t) (myR I n nq sg g_ c t) a).1), .int e8, .int (nI (a + 1)), .retAddr 0, .retAddr 0]) rfl ?_
              have hf1 := ma_1 (c := (myC I n nq pe sg g_ c t)) (r := (myR I n nq sg g_ c t)) (a := a) (by omega)
              have hs : (maU (myC I n nq pe sg g_ c t) (myR I n nq sg g_ c t) (a + 1)) = ((maU (myC I n nq pe sg g_ c t) (myR I n nq sg g_ c t) a).1, (maU (myC I n nq pe sg g_ c t) (myR I n nq sg g_ c t) a).2.1, true, (maU (myC I n nq pe sg g_ c t) (myR I n nq sg g_ c t) a).2.2.2.1, (maU (myC I n nq pe sg g_ c t) (myR I n nq sg g_ c t) a).2.2.2.2) := by show (if _ then _ else _) = _; rw [if_pos hmc]
              have hce : clE (maU (myC I n nq pe sg g_ c t) (myR I n nq sg g_ c t) (a + 1)) = clE (maU (myC I n nq pe sg g_ c t) (myR I n nq sg g_ c t) a) := by rw [hs, cl_1, if_neg (fun z => z.elim h10 h11)]
              have e := ih (by omega) J1 hE e8 (by rw [hs]; exact he)
              rw [hce, hs] at e
              exact e
            · refine Z.iload dX6_may_169 rfl ?_
              refine Z.istore (L' := [.ref 0, .int pe, .int (nI (sg.toNatClampNeg)), .int g_, .int c, .int t, .int 1, .int ((maU (myC I n nq pe sg g_ c t) (myR I n nq sg g_ c t) a).1), .int e8, .int (nI a), .int (nrF I n nq (nI a) g_ c t), .int 1]) dX6_may_171 (Nat.le_of_ble_eq_true rfl) rfl ?_
              refine Z.iinc (v := nI (a + 1)) (L' := [.ref 0, .int pe, .int (nI (sg.toNatClampNeg)), .int g_, .int c, .int t, .int 1, .int ((maU (myC I n nq pe sg g_ c t) (myR I n nq sg g_ c t) a).1), .int e8, .int (nI (a + 1)), .int (nrF I n nq (nI a) g_ c t), .int 1]) dX6_may_173 rfl (nI_1 _) rfl ?_
              refine Z.goto (tgt := 59) dX6_may_176 (by decide) ?_
              refine Z.drop (i := 10) (L' := [.ref 0, .int pe, .int (nI (sg.toNatClampNeg)), .int g_, .int c, .int t, .int 1, .int ((maU (myC I n nq pe sg g_ c t) (myR I n nq sg g_ c t) a).1), .int e8, .int (nI (a + 1)), .retAddr 0, .int 1]) rfl ?_
              refine Z.drop (i := 11) (L' := [.ref 0, .int pe, .int (nI (sg.toNatClampNeg)), .int g_, .int c, .int t, .int 1, .int ((maU (myC I n nq pe sg g_ c t) (myR I n nq sg g_ c t) a).1), .int e8, .int (nI (a + 1)), .retAddr 0, .retAddr 0]) rfl ?_
              have hf1 := ma_1 (c := (myC I n nq pe sg g_ c t)) (r := (myR I n nq sg g_ c t)) (a := a) (by omega)
              have hs : (maU (myC I n nq pe sg g_ c t) (myR I n nq sg g_ c t) (a + 1)) = ((maU (myC I n nq pe sg g_ c t) (myR I n nq sg g_ c t) a).1, (maU (myC I n nq pe sg g_ c t) (myR I n nq sg g_ c t) a).2.1, true, (maU (myC I n nq pe sg g_ c t) (myR I n nq sg g_ c t) a).2.2.2.1, (maU (myC I n nq pe sg g_ c t) (myR I n nq sg g_ c t) a).2.2.2.2) := by show (if _ then _ else _) = _; rw [if_pos hmc]
              have hce : clE (maU (myC I n nq pe sg g_ c t) (myR I n nq sg g_ c t) (a + 1)) = 1 := by rw [hs, cl_1, if_pos (Or.inr h11)]
              have e := ih (by omega) J1 hE e8 (by rw [hs]; exact he)
              rw [hce, hs] at e
              exact e
        · refine Z.eqLs (L' := [.ref 0, .int pe, .int (nI (sg.toNatClampNeg)), .int g_, .int c, .int t, .int (clE (maU (myC I n nq pe sg g_ c t) (myR I n nq sg g_ c t) a)), .int ((maU (myC I n nq pe sg g_ c t) (myR I n nq sg g_ c t) a).1), .int e8, .int (nI a), .int (nrF I n nq (nI a) g_ c t), .retAddr 0]) (st' := [.int 2]) rfl (by rw [hv]) ?_
          refine Z.istore (L' := [.ref 0, .int pe, .int (nI (sg.toNatClampNeg)), .int g_, .int c, .int t, .int (clE (maU (myC I n nq pe sg g_ c t) (myR I n nq sg g_ c t) a)), .int ((maU (myC I n nq pe sg g_ c t) (myR I n nq sg g_ c t) a).1), .int e8, .int (nI a), .int (nrF I n nq (nI a) g_ c t), .int 2]) dX6_may_126 (Nat.le_of_ble_eq_true rfl) rfl ?_
          refine Z.iload dX6_may_128 rfl ?_
          refine Z.if_ne (tgt := 157) dX6_may_130 (by decide) (fun h12 => ?_) (fun h12 => absurd h12 (by decide))
          refine Z.iload dX6_may_157 rfl ?_
          refine Z.if_eq (tgt := 169) dX6_may_159 (by decide) (fun h13 => ?_) (fun h13 => ?_)
          · refine Z.iload dX6_may_169 rfl ?_
            refine Z.istore (L' := [.ref 0, .int pe, .int (nI (sg.toNatClampNeg)), .int g_, .int c, .int t, .int 2, .int ((maU (myC I n nq pe sg g_ c t) (myR I n nq sg g_ c t) a).1), .int e8, .int (nI a), .int (nrF I n nq (nI a) g_ c t), .int 2]) dX6_may_171 (Nat.le_of_ble_eq_true rfl) rfl ?_
            refine Z.iinc (v := nI (a + 1)) (L' := [.ref 0, .int pe, .int (nI (sg.toNatClampNeg)), .int g_, .int c, .int t, .int 2, .int ((maU (myC I n nq pe sg g_ c t) (myR I n nq sg g_ c t) a).1), .int e8, .int (nI (a + 1)), .int (nrF I n nq (nI a) g_ c t), .int 2]) dX6_may_173 rfl (nI_1 _) rfl ?_
            refine Z.goto (tgt := 59) dX6_may_176 (by decide) ?_
            refine Z.drop (i := 10) (L' := [.ref 0, .int pe, .int (nI (sg.toNatClampNeg)), .int g_, .int c, .int t, .int 2, .int ((maU (myC I n nq pe sg g_ c t) (myR I n nq sg g_ c t) a).1), .int e8, .int (nI (a + 1)), .retAddr 0, .int 2]) rfl ?_
            refine Z.drop (i := 11) (L' := [.ref 0, .int pe, .int (nI (sg.toNatClampNeg)), .int g_, .int c, .int t, .int 2, .int ((maU (myC I n nq pe sg g_ c t) (myR I n nq sg g_ c t) a).1), .int e8, .int (nI (a + 1)), .retAddr 0, .retAddr 0]) rfl ?_
            have hf1 := ma_1 (c := (myC I n nq pe sg g_ c t)) (r := (myR I n nq sg g_ c t)) (a := a) (by omega)
            have hs : (maU (myC I n nq pe sg g_ c t) (myR I n nq sg g_ c t) (a + 1)) = ((maU (myC I n nq pe sg g_ c t) (myR I n nq sg g_ c t) a).1, (maU (myC I n nq pe sg g_ c t) (myR I n nq sg g_ c t) a).2.1, (maU (myC I n nq pe sg g_ c t) (myR I n nq sg g_ c t) a).2.2.1, true, (maU (myC I n nq pe sg g_ c t) (myR I n nq sg g_ c t) a).2.2.2.2) := by show (if _ then _ else _) = _; rw [if_neg (by rw [hmc]; decide), if_pos hmc]
            have hce : clE (maU (myC I n nq pe sg g_ c t) (myR I n nq sg g_ c t) (a + 1)) = 2 := by rw [hs, cl_2, if_pos (Or.inl h13)]
            have e := ih (by omega) J1 hE e8 (by rw [hs]; exact he)
            rw [hce, hs] at e
            exact e
          · refine Z.iload dX6_may_162 rfl ?_
            refine Z.iload dX6_may_164 rfl ?_
            refine Z.icmp_ge (tgt := 173) dX6_may_166 (by decide) (fun h14 => ?_) (fun h14 => ?_)
            · refine Z.iinc (v := nI (a + 1)) (L' := [.ref 0, .int pe, .int (nI (sg.toNatClampNeg)), .int g_, .int c, .int t, .int (clE (maU (myC I n nq pe sg g_ c t) (myR I n nq sg g_ c t) a)), .int ((maU (myC I n nq pe sg g_ c t) (myR I n nq sg g_ c t) a).1), .int e8, .int (nI (a + 1)), .int (nrF I n nq (nI a) g_ c t), .int 2]) dX6_may_173 rfl (nI_1 _) rfl ?_
              refine Z.goto (tgt := 59) dX6_may_176 (by decide) ?_
              refine Z.drop (i := 10) (L' := [.ref 0, .int pe, .int (nI (sg.toNatClampNeg)), .int g_, .int c, .int t, .int (clE (maU (myC I n nq pe sg g_ c t) (myR I n nq sg g_ c t) a)), .int ((maU (myC I n nq pe sg g_ c t) (myR I n nq sg g_ c t) a).1), .int e8, .int (nI (a + 1)), .retAddr 0, .int 2]) rfl ?_
              refine Z.drop (i := 11) (L' := [.ref 0, .int pe, .int (nI (sg.toNatClampNeg)), .int g_, .int c, .int t, .int (clE (maU (myC I n nq pe sg g_ c t) (myR I n nq sg g_ c t) a)), .int ((maU (myC I n nq pe sg g_ c t) (myR I n nq sg g_ c t) a).1), .int e8, .int (nI (a + 1)), .retAddr 0, .retAddr 0]) rfl ?_
              have hf1 := ma_1 (c := (myC I n nq pe sg g_ c t)) (r := (myR I n nq sg g_ c t)) (a := a) (by omega)
              have hs : (maU (myC I n nq pe sg g_ c t) (myR I n nq sg g_ c t) (a + 1)) = ((maU (myC I n nq pe sg g_ c t) (myR I n nq sg g_ c t) a).1, (maU (myC I n nq pe sg g_ c t) (myR I n nq sg g_ c t) a).2.1, (maU (myC I n nq pe sg g_ c t) (myR I n nq sg g_ c t) a).2.2.1, true, (maU (myC I n nq pe sg g_ c t) (myR I n nq sg g_ c t) a).2.2.2.2) := by show (if _ then _ else _) = _; rw [if_neg (by rw [hmc]; decide), if_pos hmc]
              have hce : clE (maU (myC I n nq pe sg g_ c t) (myR I n nq sg g_ c t) (a + 1)) = clE (maU (myC I n nq pe sg g_ c t) (myR I n nq sg g_ c t) a) := by rw [hs, cl_2, if_neg (fun z => z.elim h13 h14)]
              have e := ih (by omega) J1 hE e8 (by rw [hs]; exact he)
              rw [hce, hs] at e
              exact e
            · refine Z.iload dX6_may_169 rfl ?_
              refine Z.istore (L' := [.ref 0, .int pe, .int (nI (sg.toNatClampNeg)), .int g_, .int c, .int t, .int 2, .int ((maU (myC I n nq pe sg g_ c t) (myR I n nq sg g_ c t) a).1), .int e8, .int (nI a), .int (nrF I n nq (nI a) g_ c t), .int 2]) dX6_may_171 (Nat.le_of_ble_eq_true rfl) rfl ?_
              refine Z.iinc (v := nI (a + 1)) (L' := [.ref 0, .int pe, .int (nI (sg.toNatClampNeg)), .int g_, .int c, .int t, .int 2, .int ((maU (myC I n nq pe sg g_ c t) (myR I n nq sg g_ c t) a).1), .int e8, .int (nI (a + 1)), .int (nrF I n nq (nI a) g_ c t), .int 2]) dX6_may_173 rfl (nI_1 _) rfl ?_
              refine Z.goto (tgt := 59) dX6_may_176 (by decide) ?_
              refine Z.drop (i := 10) (L' := [.ref 0, .int pe, .int (nI (sg.toNatClampNeg)), .int g_, .int c, .int t, .int 2, .int ((maU (myC I n nq pe sg g_ c t) (myR I n nq sg g_ c t) a).1), .int e8, .int (nI (a + 1)), .retAddr 0, .int 2]) rfl ?_
              refine Z.drop (i := 11) (L' := [.ref 0, .int pe, .int (nI (sg.toNatClampNeg)), .int g_, .int c, .int t, .int 2, .int ((maU (myC I n nq pe sg g_ c t) (myR I n nq sg g_ c t) a).1), .int e8, .int (nI (a + 1)), .retAddr 0, .retAddr 0]) rfl ?_
              have hf1 := ma_1 (c := (myC I n nq pe sg g_ c t)) (r := (myR I n nq sg g_ c t)) (a := a) (by omega)
              have hs : (maU (myC I n nq pe sg g_ c t) (myR I n nq sg g_ c t) (a + 1)) = ((maU (myC I n nq pe sg g_ c t) (myR I n nq sg g_ c t) a).1, (maU (myC I n nq pe sg g_ c t) (myR I n nq sg g_ c t) a).2.1, (maU (myC I n nq pe sg g_ c t) (myR I n nq sg g_ c t) a).2.2.1, true, (maU (myC I n nq pe sg g_ c t) (myR I n nq sg g_ c t) a).2.2.2.2) := by show (if _ then _ else _) = _; rw [if_neg (by rw [hmc]; decide), if_pos hmc]
              have hce : clE (maU (myC I n nq pe sg g_ c t) (myR I n nq sg g_ c t) (a + 1)) = 2 := by rw [hs, cl_2, if_pos (Or.inr h14)]
              have e := ih (by omega) J1 hE e8 (by rw [hs]; exact he)
              rw [hce, hs] at e
              exact e
        · refine Z.eqLs (L' := [.ref 0, .int pe, .int (nI (sg.toNatClampNeg)), .int g_, .int c, .int t, .int (clE (maU (myC I n nq pe sg g_ c t) (myR I n nq sg g_ c t) a)), .int ((maU (myC I n nq pe sg g_ c t) (myR I n nq sg g_ c t) a).1), .int e8, .int (nI a), .int (nrF I n nq (nI a) g_ c t), .retAddr 0]) (st' := [.int 3]) rfl (by rw [hv]) ?_
          refine Z.istore (L' := [.ref 0, .int pe, .int (nI (sg.toNatClampNeg)), .int g_, .int c, .int t, .int (clE (maU (myC I n nq pe sg g_ c t) (myR I n nq sg g_ c t) a)), .int ((maU (myC I n nq pe sg g_ c t) (myR I n nq sg g_ c t) a).1), .int e8, .int (nI a), .int (nrF I n nq (nI a) g_ c t), .int 3]) dX6_may_126 (Nat.le_of_ble_eq_true rfl) rfl ?_
          refine Z.iload dX6_may_128 rfl ?_
          refine Z.if_ne (tgt := 157) dX6_may_130 (by decide) (fun h15 => ?_) (fun h15 => absurd h15 (by decide))
          refine Z.iload dX6_may_157 rfl ?_
          refine Z.if_eq (tgt := 169) dX6_may_159 (by decide) (fun h16 => ?_) (fun h16 => ?_)
          · refine Z.iload dX6_may_169 rfl ?_
            refine Z.istore (L' := [.ref 0, .int pe, .int (nI (sg.toNatClampNeg)), .int g_, .int c, .int t, .int 3, .int ((maU (myC I n nq pe sg g_ c t) (myR I n nq sg g_ c t) a).1), .int e8, .int (nI a), .int (nrF I n nq (nI a) g_ c t), .int 3]) dX6_may_171 (Nat.le_of_ble_eq_true rfl) rfl ?_
            refine Z.iinc (v := nI (a + 1)) (L' := [.ref 0, .int pe, .int (nI (sg.toNatClampNeg)), .int g_, .int c, .int t, .int 3, .int ((maU (myC I n nq pe sg g_ c t) (myR I n nq sg g_ c t) a).1), .int e8, .int (nI (a + 1)), .int (nrF I n nq (nI a) g_ c t), .int 3]) dX6_may_173 rfl (nI_1 _) rfl ?_
            refine Z.goto (tgt := 59) dX6_may_176 (by decide) ?_
            refine Z.drop (i := 10) (L' := [.ref 0, .int pe, .int (nI (sg.toNatClampNeg)), .int g_, .int c, .int t, .int 3, .int ((maU (myC I n nq pe sg g_ c t) (myR I n nq sg g_ c t) a).1), .int e8, .int (nI (a + 1)), .retAddr 0, .int 3]) rfl ?_
            refine Z.drop (i := 11) (L' := [.ref 0, .int pe, .int (nI (sg.toNatClampNeg)), .int g_, .int c, .int t, .int 3, .int ((maU (myC I n nq pe sg g_ c t) (myR I n nq sg g_ c t) a).1), .int e8, .int (nI (a + 1)), .retAddr 0, .retAddr 0]) rfl ?_
            have hf1 := ma_1 (c := (myC I n nq pe sg g_ c t)) (r := (myR I n nq sg g_ c t)) (a := a) (by omega)
            have hs : (maU (myC I n nq pe sg g_ c t) (myR I n nq sg g_ c t) (a + 1)) = ((maU (myC I n nq pe sg g_ c t) (myR I n nq sg g_ c t) a).1, (maU (myC I n nq pe sg g_ c t) (myR I n nq sg g_ c t) a).2.1, (maU (myC I n nq pe sg g_ c t) (myR I n nq sg g_ c t) a).2.2.1, (maU (myC I n nq pe sg g_ c t) (myR I n nq sg g_ c t) a).2.2.2.1, true) := by show (if _ then _ else _) = _; rw [if_neg (by rw [hmc]; decide), if_neg (by rw [hmc]; decide), if_pos hmc]
            have hce : clE (maU (myC I n nq pe sg g_ c t) (myR I n nq sg g_ c t) (a + 1)) = 3 := by rw [hs, cl_3, if_pos (Or.inl h16)]
            have e := ih (by omega) J1 hE e8 (by rw [hs]; exact he)
            rw [hce, hs] at e
            exact e
          · refine Z.iload dX6_may_162 rfl ?_
            refine Z.iload dX6_may_164 rfl ?_
            refine Z.icmp_ge (tgt := 173) dX6_may_166 (by decide) (fun h17 => ?_) (fun h17 => ?_)
            · refine Z.iinc (v := nI (a + 1)) (L' := [.ref 0, .int pe, .int (nI (sg.toNatClampNeg)), .int g_, .int c, .int t, .int (clE (maU (myC I n nq pe sg g_ c t) (myR I n nq sg g_ c t) a)), .int ((maU (myC I n nq pe sg g_ c t) (myR I n nq sg g_ c t) a).1), .int e8, .int (nI (a + 1)), .int (nrF I n nq (nI a) g_ c t), .int 3]) dX6_may_173 rfl (nI_1 _) rfl ?_
              refine Z.goto (tgt := 59) dX6_may_176 (by decide) ?_
              refine Z.drop (i := 10) (L' := [.ref 0, .int pe, .int (nI (sg.toNatClampNeg)), .int g_, .int c, .int t, .int (clE (maU (myC I n nq pe sg g_ c t) (myR I n nq sg g_ c t) a)), .int ((maU (myC I n nq pe sg g_ c t) (myR I n nq sg g_ c t) a).1), .int e8, .int (nI (a + 1)), .retAddr 0, .int 3]) rfl ?_
              refine Z.drop (i := 11) (L' := [.ref 0, .int pe, .int (nI (sg.toNatClampNeg)), .int g_, .int c, .int t, .int (clE (maU (myC I n nq pe sg g_ c t) (myR I n nq sg g_ c t) a)), .int ((maU (myC I n nq pe sg g_ c t) (myR I n nq sg g_ c t) a).1), .int e8, .int (nI (a + 1)), .retAddr 0, .retAddr 0]) rfl ?_
              have hf1 := ma_1 (c := (myC I n nq pe sg g_ c t)) (r := (myR I n nq sg g_ c t)) (a := a) (by omega)
              have hs : (maU (myC I n nq pe sg g_ c t) (myR I n nq sg g_ c t) (a + 1)) = ((maU (myC I n nq pe sg g_ c t) (myR I n nq sg g_ c t) a).1, (maU (myC I n nq pe sg g_ c t) (myR I n nq sg g_ c t) a).2.1, (maU (myC I n nq pe sg g_ c t) (myR I n nq sg g_ c t) a).2.2.1, (maU (myC I n nq pe sg g_ c t) (myR I n nq sg g_ c t) a).2.2.2.1, true) := by show (if _ then _ else _) = _; rw [if_neg (by rw [hmc]; decide), if_neg (by rw [hmc]; decide), if_pos hmc]
              have hce : clE (maU (myC I n nq pe sg g_ c t) (myR I n nq sg g_ c t) (a + 1)) = clE (maU (myC I n nq pe sg g_ c t) (myR I n nq sg g_ c t) a) := by rw [hs, cl_3, if_neg (fun z => z.elim h16 h17)]
              have e := ih (by omega) J1 hE e8 (by rw [hs]; exact he)
              rw [hce, hs] at e
              exact e
            · refine Z.iload dX6_may_169 rfl ?_
              refine Z.istore (L' := [.ref 0, .int pe, .int (nI (sg.toNatClampNeg)), .int g_, .int c, .int t, .int 3, .int ((maU (myC I n nq pe sg g_ c t) (myR I n nq sg g_ c t) a).1), .int e8, .int (nI a), .int (nrF I n nq (nI a) g_ c t), .int 3]) dX6_may_171 (Nat.le_of_ble_eq_true rfl) rfl ?_
              refine Z.iinc (v := nI (a + 1)) (L' := [.ref 0, .int pe, .int (nI (sg.toNatClampNeg)), .int g_, .int c, .int t, .int 3, .int ((maU (myC I n nq pe sg g_ c t) (myR I n nq sg g_ c t) a).1), .int e8, .int (nI (a + 1)), .int (nrF I n nq (nI a) g_ c t), .int 3]) dX6_may_173 rfl (nI_1 _) rfl ?_
              refine Z.goto (tgt := 59) dX6_may_176 (by decide) ?_
              refine Z.drop (i := 10) (L' := [.ref 0, .int pe, .int (nI (sg.toNatClampNeg)), .int g_, .int c, .int t, .int 3, .int ((maU (myC I n nq pe sg g_ c t) (myR I n nq sg g_ c t) a).1), .int e8, .int (nI (a + 1)), .retAddr 0, .int 3]) rfl ?_
              refine Z.drop (i := 11) (L' := [.ref 0, .int pe, .int (nI (sg.toNatClampNeg)), .int g_, .int c, .int t, .int 3, .int ((maU (myC I n nq pe sg g_ c t) (myR I n nq sg g_ c t) a).1), .int e8, .int (nI (a + 1)), .retAddr 0, .retAddr 0]) rfl ?_
              have hf1 := ma_1 (c := (myC I n nq pe sg g_ c t)) (r := (myR I n nq sg g_ c t)) (a := a) (by omega)
              have hs : (maU (myC I n nq pe sg g_ c t) (myR I n nq sg g_ c t) (a + 1)) = ((maU (myC I n nq pe sg g_ c t) (myR I n nq sg g_ c t) a).1, (maU (myC I n nq pe sg g_ c t) (myR I n nq sg g_ c t) a).2.1, (maU (myC I n nq pe sg g_ c t) (myR I n nq sg g_ c t) a).2.2.1, (maU (myC I n nq pe sg g_ c t) (myR I n nq sg g_ c t) a).2.2.2.1, true) := by show (if _ then _ else _) = _; rw [if_neg (by rw [hmc]; decide), if_neg (by rw [hmc]; decide), if_pos hmc]
              have hce : clE (maU (myC I n nq pe sg g_ c t) (myR I n nq sg g_ c t) (a + 1)) = 3 := by rw [hs, cl_3, if_pos (Or.inr h17)]
              have e := ih (by omega) J1 hE e8 (by rw [hs]; exact he)
              rw [hce, hs] at e
              exact e
      · refine Z.aload_n dX6_may_104 rfl ?_
        refine Z.iload dX6_may_105 rfl ?_
        refine Z.iload_n dX6_may_107 rfl ?_
        refine Z.callVg (M := mX6_may) (pc := 108) (st := []) (N := mX6_areAlike) (n := 2) dX6_may_108 mlX6_228 mkX6_areAlike imX6_areAlike seX6_areAlike (fx0 hF) cl6 rfl (d1 := 4) (by decide) (As := [.int (nI a), .int (nI (sg.toNatClampNeg))]) rfl ⟨rfl, Nat.le_of_ble_eq_true rfl⟩ ⟨rfl, Nat.le_of_ble_eq_true rfl⟩ (cc_areAlikeN hE a sg.toNatClampNeg hF hC hn hq hcq hM hm hz (by omega) (by omega)) rfl (fun v_ J2 S_ h_ => ?_)
        obtain ⟨rfl, hw6, rfl⟩ := h_
        have hE := hw6.ex hE
        have hA19_18 : VA I n (nI a) c t (J2 19) K19_3 := by rw [hw6 19 (by omega)]; exact hA19_3
        have hB19_18 : VB I n (nI a) t (J2 20) (J2 21) (J2 22) (J2 23) K19_3 := by rw [hw6 20 (by omega), hw6 21 (by omega), hw6 22 (by omega), hw6 23 (by omega)]; exact hB19_3
        refine Z.if_neB (tgt := 117) dX6_may_111 (by decide) (fun h19 => ?_) (fun h19 => ?_)
        · refine Z.aload_n dX6_may_117 rfl ?_
          refine Z.iload_n dX6_may_118 rfl ?_
          refine Z.iload dX6_may_119 rfl ?_
          refine Z.iload dX6_may_121 rfl ?_
          refine Z.callVp (M := mX6_may) (pc := 123) (st := []) (N := mX6_claimOf) (n := 3) (r := .int (clO I n pe a t)) dX6_may_123 mlX6_231 mkX6_claimOf imX6_claimOf seX6_claimOf (fx0 hF) cl6 rfl (d1 := 2) (by decide) (As := [.int pe, .int (nI a), .int t]) rfl ⟨rfl, Nat.le_of_ble_eq_true rfl⟩ ⟨rfl, Nat.le_of_ble_eq_true rfl⟩ (cc_claimOf hE pe a t hF hC hn hq hcq hM hm hz hL (by omega) hpe) rfl ?_
          have hmr : (myR I n nq sg g_ c t) a = nrF I n nq (nI a) g_ c t := if_pos (Or.inr h19)
          have hmn : ¬ (myR I n nq sg g_ c t) a < 0 := by rw [hmr]; exact fun z => h4 ((nr_ng hD hn2).mpr z)
          rcases my_c (pe := pe) hJ hn2 (by omega) hmn with ⟨hv, hmc⟩ | ⟨hv, hmc⟩ | ⟨hv, hmc⟩ | ⟨hv, hmc⟩
          · refine Z.eqLs (L' := [.ref 0, .int pe, .int (nI (sg.toNatClampNeg)), .int g_, .int c, .int t, .int (clE (maU (myC I n nq pe sg g_ c t) (myR I n nq sg g_ c t) a)), .int ((maU (myC I n nq pe sg g_ c t) (myR I n nq sg g_ c t) a).1), .int e8, .int (nI a), .int (nrF I n nq (nI a) g_ c t), .retAddr 0]) (st' := [.int 0]) rfl (by rw [hv]) ?_
            refine Z.istore (L' := [.ref 0, .int pe, .int (nI (sg.toNatClampNeg)), .int g_, .int c, .int t, .int (clE (maU (myC I n nq pe sg g_ c t) (myR I n nq sg g_ c t) a)), .int ((maU (myC I n nq pe sg g_ c t) (myR I n nq sg g_ c t) a).1), .int e8, .int (nI a), .int (nrF I n nq (nI a) g_ c t), .int 0]) dX6_may_126 (Nat.le_of_ble_eq_true rfl) rfl ?_
            refine Z.iload dX6_may_128 rfl ?_
            refine Z.if_ne (tgt := 157) dX6_may_130 (by decide) (fun h20 => absurd h20 (by decide)) (fun h20 => ?_)
            refine Z.iload dX6_may_133 rfl ?_
            refine Z.iconst (v := (-1)) dX6_may_135 (by decide) ?_
            refine Z.icmp_eq (tgt := 146) dX6_may_136 (by decide) (fun h21 => ?_) (fun h21 => ?_)
            · refine Z.iload dX6_may_146 rfl ?_
              refine Z.istore (L' := [.ref 0, .int pe, .int (nI (sg.toNatClampNeg)), .int g_, .int c, .int t, .int (clE (maU (myC I n nq pe sg g_ c t) (myR I n nq sg g_ c t) a)), .int (nI a), .int e8, .int (nI a), .int (nrF I n nq (nI a) g_ c t), .int 0]) dX6_may_148 (Nat.le_of_ble_eq_true rfl) rfl ?_
              refine Z.iload dX6_may_150 rfl ?_
              refine Z.istore (L' := [.ref 0, .int pe, .int (nI (sg.toNatClampNeg)), .int g_, .int c, .int t, .int (clE (maU (myC I n nq pe sg g_ c t) (myR I n nq sg g_ c t) a)), .int (nI a), .int (nrF I n nq (nI a) g_ c t), .int (nI a), .int (nrF I n nq (nI a) g_ c t), .int 0]) dX6_may_152 (Nat.le_of_ble_eq_true rfl) rfl ?_
              refine Z.goto (tgt := 173) dX6_may_154 (by decide) ?_
              refine Z.iinc (v := nI (a + 1)) (L' := [.ref 0, .int pe, .int (nI (sg.toNatClampNeg)), .int g_, .int c, .int t, .int (clE (maU (myC I n nq pe sg g_ c t) (myR I n nq sg g_ c t) a)), .int (nI a), .int (nrF I n nq (nI a) g_ c t), .int (nI (a + 1)), .int (nrF I n nq (nI a) g_ c t), .int 0]) dX6_may_173 rfl (nI_1 _) rfl ?_
              refine Z.goto (tgt := 59) dX6_may_176 (by decide) ?_
              refine Z.drop (i := 10) (L' := [.ref 0, .int pe, .int (nI (sg.toNatClampNeg)), .int g_, .int c, .int t, .int (clE (maU (myC I n nq pe sg g_ c t) (myR I n nq sg g_ c t) a)), .int (nI a), .int (nrF I n nq (nI a) g_ c t), .int (nI (a + 1)), .retAddr 0, .int 0]) rfl ?_
              refine Z.drop (i := 11) (L' := [.ref 0, .int pe, .int (nI (sg.toNatClampNeg)), .int g_, .int c, .int t, .int (clE (maU (myC I n nq pe sg g_ c t) (myR I n nq sg g_ c t) a)), .int (nI a), .int (nrF I n nq (nI a) g_ c t), .int (nI (a + 1)), .retAddr 0, .retAddr 0]) rfl ?_
              have hf1 := ma_1 (c := (myC I n nq pe sg g_ c t)) (r := (myR I n nq sg g_ c t)) (a := a) (by omega)
              have hs : (maU (myC I n nq pe sg g_ c t) (myR I n nq sg g_ c t) (a + 1)) = (nI a, nrF I n nq (nI a) g_ c t, (maU (myC I n nq pe sg g_ c t) (myR I n nq sg g_ c t) a).2.2.1, (maU (myC I n nq pe sg g_ c t) (myR I n nq sg g_ c t) a).2.2.2.1, (maU (myC I n nq pe sg g_ c t) (myR I n nq sg g_ c t) a).2.2.2.2) := by show (if _ then _ else _) = _; rw [if_neg (by rw [hmc]; decide), if_neg (by rw [hmc]; decide), if_neg (by rw [hmc]; decide), if_pos ⟨hmc, Or.inl (hf1.mp h21)⟩, hmr]
              have e := ih (by omega) J2 hE (nrF I n nq (nI a) g_ c t) (Or.inr (by rw [hs]))
              rw [hs] at e
              exact e
            · refine Z.iload dX6_may_139 rfl ?_
              refine Z.iload dX6_may_141 rfl ?_
              refine Z.icmp_ge (tgt := 173) dX6_may_143 (by decide) (fun h22 => ?_) (fun h22 => ?_)
              · refine Z.iinc (v := nI (a + 1)) (L' := [.ref 0, .int pe, .int (nI (sg.toNatClampNeg)), .int g_, .int c, .int t, .int (clE (maU (myC I n nq pe sg g_ c t) (myR I n nq sg g_ c t) a)), .int ((maU (myC I n nq pe sg g_ c t) (myR I n nq sg g_ c t) a).1), .int e8, .int (nI (a + 1)), .int (nrF I n nq (nI a) g_ c t), .int 0]) dX6_may_173 rfl (nI_1 _) rfl ?_
                refine Z.goto (tgt := 59) dX6_may_176 (by decide) ?_
                refine Z.drop (i := 10) (L' := [.ref 0, .int pe, .int (nI (sg.toNatClampNeg)), .int g_, .int c, .int t, .int (clE (maU (myC I n nq pe sg g_ c t) (myR I n nq sg g_ c t) a)), .int ((maU (myC I n nq pe sg g_ c t) (myR I n nq sg g_ c t) a).1), .int e8, .int (nI (a + 1)), .retAddr 0, .int 0]) rfl ?_
                refine Z.drop (i := 11) (L' := [.ref 0, .int pe, .int (nI (sg.toNatClampNeg)), .int g_, .int c, .int t, .int (clE (maU (myC I n nq pe sg g_ c t) (myR I n nq sg g_ c t) a)), .int ((maU (myC I n nq pe sg g_ c t) (myR I n nq sg g_ c t) a).1), .int e8, .int (nI (a + 1)), .retAddr 0, .retAddr 0]) rfl ?_
                have hf1 := ma_1 (c := (myC I n nq pe sg g_ c t)) (r := (myR I n nq sg g_ c t)) (a := a) (by omega)
                have hs : (maU (myC I n nq pe sg g_ c t) (myR I n nq sg g_ c t) (a + 1)) = (maU (myC I n nq pe sg g_ c t) (myR I n nq sg g_ c t) a) := by show (if _ then _ else _) = _; rw [if_neg (by rw [hmc]; decide), if_neg (by rw [hmc]; decide), if_neg (by rw [hmc]; decide), if_neg (fun z => z.2.elim (fun y => h21 (hf1.mpr y)) (fun y => h22 (by rw [he.resolve_left h21, ← hmr]; exact y)))]
                have e := ih (by omega) J2 hE e8 (by rw [hs]; exact he)
                rw [hs] at e
                exact e
              · refine Z.iload dX6_may_146 rfl ?_
                refine Z.istore (L' := [.ref 0, .int pe, .int (nI (sg.toNatClampNeg)), .int g_, .int c, .int t, .int (clE (maU (myC I n nq pe sg g_ c t) (myR I n nq sg g_ c t) a)), .int (nI a), .int e8, .int (nI a), .int (nrF I n nq (nI a) g_ c t), .int 0]) dX6_may_148 (Nat.le_of_ble_eq_true rfl) rfl ?_
                refine Z.iload dX6_may_150 rfl ?_
                refine Z.istore (L' := [.ref 0, .int pe, .int (nI (sg.toNatClampNeg)), .int g_, .int c, .int t, .int (clE (maU (myC I n nq pe sg g_ c t) (myR I n nq sg g_ c t) a)), .int (nI a), .int (nrF I n nq (nI a) g_ c t), .int (nI a), .int (nrF I n nq (nI a) g_ c t), .int 0]) dX6_may_152 (Nat.le_of_ble_eq_true rfl) rfl ?_
                refine Z.goto (tgt := 173) dX6_may_154 (by decide) ?_
                refine Z.iinc (v := nI (a + 1)) (L' := [.ref 0, .int pe, .int (nI (sg.toNatClampNeg)), .int g_, .int c, .int t, .int (clE (maU (myC I n nq pe sg g_ c t) (myR I n nq sg g_ c t) a)), .int (nI a), .int (nrF I n nq (nI a) g_ c t), .int (nI (a + 1)), .int (nrF I n nq (nI a) g_ c t), .int 0]) dX6_may_173 rfl (nI_1 _) rfl ?_
                refine Z.goto (tgt := 59) dX6_may_176 (by decide) ?_
                refine Z.drop (i := 10) (L' := [.ref 0, .int pe, .int (nI (sg.toNatClampNeg)), .int g_, .int c, .int t, .int (clE (maU (myC I n nq pe sg g_ c t) (myR I n nq sg g_ c t) a)), .int (nI a), .int (nrF I n nq (nI a) g_ c t), .int (nI (a + 1)), .retAddr 0, .int 0]) rfl ?_
                refine Z.drop (i := 11) (L' := [.ref 0, .int pe, .int (nI (sg.toNatClampNeg)), .int g_, .int c, .int t, .int (clE (maU (myC I n nq pe sg g_ c t) (myR I n nq sg g_ c t) a)), .int (nI a), .int (nrF I n nq (nI a) g_ c t), .int (nI (a + 1)), .retAddr 0, .retAddr 0]) rfl ?_
                have hf1 := ma_1 (c := (myC I n nq pe sg g_ c t)) (r := (myR I n nq sg g_ c t)) (a := a) (by omega)
                have hs : (maU (myC I n nq pe sg g_ c t) (myR I n nq sg g_ c t) (a + 1)) = (nI a, nrF I n nq (nI a) g_ c t, (maU (myC I n nq pe sg g_ c t) (myR I n nq sg g_ c t) a).2.2.1, (maU (myC I n nq pe sg g_ c t) (myR I n nq sg g_ c t) a).2.2.2.1, (maU (myC I n nq pe sg g_ c t) (myR I n nq sg g_ c t) a).2.2.2.2) := by show (if _ then _ else _) = _; rw [if_neg (by rw [hmc]; decide), if_neg (by rw [hmc]; decide), if_neg (by rw [hmc]; decide), if_pos ⟨hmc, Or.inr (by rw [hmr, ← he.resolve_left h21]; exact h22)⟩, hmr]
                have e := ih (by omega) J2 hE (nrF I n nq (nI a) g_ c t) (Or.inr (by rw [hs]))
                rw [hs] at e
                exact e
          · refine Z.eqLs (L' := [.ref 0, .int pe, .int (nI (sg.toNatClampNeg)), .int g_, .int c, .int t, .int (clE (maU (myC I n nq pe sg g_ c t) (myR I n nq sg g_ c t) a)), .int ((maU (myC I n nq pe sg g_ c t) (myR I n nq sg g_ c t) a).1), .int e8, .int (nI a), .int (nrF I n nq (nI a) g_ c t), .retAddr 0]) (st' := [.int 1]) rfl (by rw [hv]) ?_
            refine Z.istore (L' := [.ref 0, .int pe, .int (nI (sg.toNatClampNeg)), .int g_, .int c, .int t, .int (clE (maU (myC I n nq pe sg g_ c t) (myR I n nq sg g_ c t) a)), .int ((maU (myC I n nq pe sg g_ c t) (myR I n nq sg g_ c t) a).1), .int e8, .int (nI a), .int (nrF I n nq (nI a) g_ c t), .int 1]) dX6_may_126 (Nat.le_of_ble_eq_true rfl) rfl ?_
            refine Z.iload dX6_may_128 rfl ?_
            refine Z.if_ne (tgt := 157) dX6_may_130 (by decide) (fun h23 => ?_) (fun h23 => absurd h23 (by decide))
            refine Z.iload dX6_may_157 rfl ?_
            refine Z.if_eq (tgt := 169) dX6_may_159 (by decide) (fun h24 => ?_) (fun h24 => ?_)
            · refine Z.iload dX6_may_169 rfl ?_
              refine Z.istore (L' := [.ref 0, .int pe, .int (nI (sg.toNatClampNeg)), .int g_, .int c, .int t, .int 1, .int ((maU (myC I n nq pe sg g_ c t) (myR I n nq sg g_ c t) a).1), .int e8, .int (nI a), .int (nrF I n nq (nI a) g_ c t), .int 1]) dX6_may_171 (Nat.le_of_ble_eq_true rfl) rfl ?_
              refine Z.iinc (v := nI (a + 1)) (L' := [.ref 0, .int pe, .int (nI (sg.toNatClampNeg)), .int g_, .int c, .int t, .int 1, .int ((maU (myC I n nq pe sg g_ c t) (myR I n nq sg g_ c t) a).1), .int e8, .int (nI (a + 1)), .int (nrF I n nq (nI a) g_ c t), .int 1]) dX6_may_173 rfl (nI_1 _) rfl ?_
              refine Z.goto (tgt := 59) dX6_may_176 (by decide) ?_
              refine Z.drop (i := 10) (L' := [.ref 0, .int pe, .int (nI (sg.toNatClampNeg)), .int g_, .int c, .int t, .int 1, .int ((maU (myC I n nq pe sg g_ c t) (myR I n nq sg g_ c t) a).1), .int e8, .int (nI (a + 1)), .retAddr 0, .int 1]) rfl ?_
              refine Z.drop (i := 11) (L' := [.ref 0, .int pe, .int (nI (sg.toNatClampNeg)), .int g_, .int c, .int t, .int 1, .int ((maU (myC I n nq pe sg g_ c t) (myR I n nq sg g_ c t) a).1), .int e8, .int (nI (a + 1)), .retAddr 0, .retAddr 0]) rfl ?_
              have hf1 := ma_1 (c := (myC I n nq pe sg g_ c t)) (r := (myR I n nq sg g_ c t)) (a := a) (by omega)
              have hs : (maU (myC I n nq pe sg g_ c t) (myR I n nq sg g_ c t) (a + 1)) = ((maU (myC I n nq pe sg g_ c t) (myR I n nq sg g_ c t) a).1, (maU (myC I n nq pe sg g_ c t) (myR I n nq sg g_ c t) a).2.1, true, (maU (myC I n nq pe sg g_ c t) (myR I n nq sg g_ c t) a).2.2.2.1, (maU (myC I n nq pe sg g_ c t) (myR I n nq sg g_ c t) a).2.2.2.2) := by show (if _ then _ else _) = _; rw [if_pos hmc]
              have hce : clE (maU (myC I n nq pe sg g_ c t) (myR I n nq sg g_ c t) (a + 1)) = 1 := by rw [hs, cl_1, if_pos (Or.inl h24)]
              have e := ih (by omega) J2 hE e8 (by rw [hs]; exact he)
              rw [hce, hs] at e
              exact e
            · refine Z.iload dX6_may_162 rfl ?_
              refine Z.iload dX6_may_164 rfl ?_
              refine Z.icmp_ge (tgt := 173) dX6_may_166 (by decide) (fun h25 => ?_) (fun h25 => ?_)
              · refine Z.iinc (v := nI (a + 1)) (L' := [.ref 0, .int pe, .int (nI (sg.toNatClampNeg)), .int g_, .int c, .int t, .int (clE (maU (myC I n nq pe sg g_ c t) (myR I n nq sg g_ c t) a)), .int ((maU (myC I n nq pe sg g_ c t) (myR I n nq sg g_ c t) a).1), .int e8, .int (nI (a + 1)), .int (nrF I n nq (nI a) g_ c t), .int 1]) dX6_may_173 rfl (nI_1 _) rfl ?_
                refine Z.goto (tgt := 59) dX6_may_176 (by decide) ?_
                refine Z.drop (i := 10) (L' := [.ref 0, .int pe, .int (nI (sg.toNatClampNeg)), .int g_, .int c, .int t, .int (clE (maU (myC I n nq pe sg g_ c t) (myR I n nq sg g_ c t) a)), .int ((maU (myC I n nq pe sg g_ c t) (myR I n nq sg g_ c t) a).1), .int e8, .int (nI (a + 1)), .retAddr 0, .int 1]) rfl ?_
                refine Z.drop (i := 11) (L' := [.ref 0, .int pe, .int (nI (sg.toNatClampNeg)), .int g_, .int c, .int t, .int (clE (maU (myC I n nq pe sg g_ c t) (myR I n nq sg g_ c t) a)), .int ((maU (myC I n nq pe sg g_ c t) (myR I n nq sg g_ c t) a).1), .int e8, .int (nI (a + 1)), .retAddr 0, .retAddr 0]) rfl ?_
                have hf1 := ma_1 (c := (myC I n nq pe sg g_ c t)) (r := (myR I n nq sg g_ c t)) (a := a) (by omega)
                have hs : (maU (myC I n nq pe sg g_ c t) (myR I n nq sg g_ c t) (a + 1)) = ((maU (myC I n nq pe sg g_ c t) (myR I n nq sg g_ c t) a).1, (maU (myC I n nq pe sg g_ c t) (myR I n nq sg g_ c t) a).2.1, true, (maU (myC I n nq pe sg g_ c t) (myR I n nq sg g_ c t) a).2.2.2.1, (maU (myC I n nq pe sg g_ c t) (myR I n nq sg g_ c t) a).2.2.2.2) := by show (if _ then _ else _) = _; rw [if_pos hmc]
                have hce : clE (maU (myC I n nq pe sg g_ c t) (myR I n nq sg g_ c t) (a + 1)) = clE (maU (myC I n nq pe sg g_ c t) (myR I n nq sg g_ c t) a) := by rw [hs, cl_1, if_neg (fun z => z.elim h24 h25)]
                have e := ih (by omega) J2 hE e8 (by rw [hs]; exact he)
                rw [hce, hs] at e
                exact e
              · refine Z.iload dX6_may_169 rfl ?_
                refine Z.istore (L' := [.ref 0, .int pe, .int (nI (sg.toNatClampNeg)), .int g_, .int c, .int t, .int 1, .int ((maU (myC I n nq pe sg g_ c t) (myR I n nq sg g_ c t) a).1), .int e8, .int (nI a), .int (nrF I n nq (nI a) g_ c t), .int 1]) dX6_may_171 (Nat.le_of_ble_eq_true rfl) rfl ?_
                refine Z.iinc (v := nI (a + 1)) (L' := [.ref 0, .int pe, .int (nI (sg.toNatClampNeg)), .int g_, .int c, .int t, .int 1, .int ((maU (myC I n nq pe sg g_ c t) (myR I n nq sg g_ c t) a).1), .int e8, .int (nI (a + 1)), .int (nrF I n nq (nI a) g_ c t), .int 1]) dX6_may_173 rfl (nI_1 _) rfl ?_
                refine Z.goto (tgt := 59) dX6_may_176 (by decide) ?_
                refine Z.drop (i := 10) (L' := [.ref 0, .int pe, .int (nI (sg.toNatClampNeg)), .int g_, .int c, .int t, .int 1, .int ((maU (myC I n nq pe sg g_ c t) (myR I n nq sg g_ c t) a).1), .int e8, .int (nI (a + 1)), .retAddr 0, .int 1]) rfl ?_
                refine Z.drop (i := 11) (L' := [.ref 0, .int pe, .int (nI (sg.toNatClampNeg)), .int g_, .int c, .int t, .int 1, .int ((maU (myC I n nq pe sg g_ c t) (myR I n nq sg g_ c t) a).1), .int e8, .int (nI (a + 1)), .retAddr 0, .retAddr 0]) rfl ?_
                have hf1 := ma_1 (c := (myC I n nq pe sg g_ c t)) (r := (myR I n nq sg g_ c t)) (a := a) (by omega)
                have hs : (maU (myC I n nq pe sg g_ c t) (myR I n nq sg g_ c t) (a + 1)) = ((maU (myC I n nq pe sg g_ c t) (myR I n nq sg g_ c t) a).1, (maU (myC I n nq pe sg g_ c t) (myR I n nq sg g_ c t) a).2.1, true, (maU (myC I n nq pe sg g_ c t) (myR I n nq sg g_ c t) a).2.2.2.1, (maU (myC I n nq pe sg g_ c t) (myR I n nq sg g_ c t) a).2.2.2.2) := by show (if _ then _ else _) = _; rw [if_pos hmc]
                have hce : clE (maU (myC I n nq pe sg g_ c t) (myR I n nq sg g_ c t) (a + 1)) = 1 := by rw [hs, cl_1, if_pos (Or.inr h25)]
                have e := ih (by omega) J2 hE e8 (by rw [hs]; exact he)
                rw [hce, hs] at e
                exact e
          · refine Z.eqLs (L' := [.ref 0, .int pe, .int (nI (sg.toNatClampNeg)), .int g_, .int c, .int t, .int (clE (maU (myC I n nq pe sg g_ c t) (myR I n nq sg g_ c t) a)), .int ((maU (myC I n nq pe sg g_ c t) (myR I n nq sg g_ c t) a).1), .int e8, .int (nI a), .int (nrF I n nq (nI a) g_ c t), .retAddr 0]) (st' := [.int 2]) rfl (by rw [hv]) ?_
            refine Z.istore (L' := [.ref 0, .int pe, .int (nI (sg.toNatClampNeg)), .int g_, .int c, .int t, .int (clE (maU (myC I n nq pe sg g_ c t) (myR I n nq sg g_ c t) a)), .int ((maU (myC I n nq pe sg g_ c t) (myR I n nq sg g_ c t) a).1), .int e8, .int (nI a), .int (nrF I n nq (nI a) g_ c t), .int 2]) dX6_may_126 (Nat.le_of_ble_eq_true rfl) rfl ?_
            refine Z.iload dX6_may_128 rfl ?_
            refine Z.if_ne (tgt := 157) dX6_may_130 (by decide) (fun h26 => ?_) (fun h26 => absurd h26 (by decide))
            refine Z.iload dX6_may_157 rfl ?_
            refine Z.if_eq (tgt := 169) dX6_may_159 (by decide) (fun h27 => ?_) (fun h27 => ?_)
            · refine Z.iload dX6_may_169 rfl ?_
              refine Z.istore (L' := [.ref 0, .int pe, .int (nI (sg.toNatClampNeg)), .int g_, .int c, .int t, .int 2, .int ((maU (myC I n nq pe sg g_ c t) (myR I n nq sg g_ c t) a).1), .int e8, .int (nI a), .int (nrF I n nq (nI a) g_ c t), .int 2]) dX6_may_171 (Nat.le_of_ble_eq_true rfl) rfl ?_
              refine Z.iinc (v := nI (a + 1)) (L' := [.ref 0, .int pe, .int (nI (sg.toNatClampNeg)), .int g_, .int c, .int t, .int 2, .int ((maU (myC I n nq pe sg g_ c t) (myR I n nq sg g_ c t) a).1), .int e8, .int (nI (a + 1)), .int (nrF I n nq (nI a) g_ c t), .int 2]) dX6_may_173 rfl (nI_1 _) rfl ?_
              refine Z.goto (tgt := 59) dX6_may_176 (by decide) ?_
              refine Z.drop (i := 10) (L' := [.ref 0, .int pe, .int (nI (sg.toNatClampNeg)), .int g_, .int c, .int t, .int 2, .int ((maU (myC I n nq pe sg g_ c t) (myR I n nq sg g_ c t) a).1), .int e8, .int (nI (a + 1)), .retAddr 0, .int 2]) rfl ?_
              refine Z.drop (i := 11) (L' := [.ref 0, .int pe, .int (nI (sg.toNatClampNeg)), .int g_, .int c, .int t, .int 2, .int ((maU (myC I n nq pe sg g_ c t) (myR I n nq sg g_ c t) a).1), .int e8, .int (nI (a + 1)), .retAddr 0, .retAddr 0]) rfl ?_
              have hf1 := ma_1 (c := (myC I n nq pe sg g_ c t)) (r := (myR I n nq sg g_ c t)) (a := a) (by omega)
              have hs : (maU (myC I n nq pe sg g_ c t) (myR I n nq sg g_ c t) (a + 1)) = ((maU (myC I n nq pe sg g_ c t) (myR I n nq sg g_ c t) a).1, (maU (myC I n nq pe sg g_ c t) (myR I n nq sg g_ c t) a).2.1, (maU (myC I n nq pe sg g_ c t) (myR I n nq sg g_ c t) a).2.2.1, true, (maU (myC I n nq pe sg g_ c t) (myR I n nq sg g_ c t) a).2.2.2.2) := by show (if _ then _ else _) = _; rw [if_neg (by rw [hmc]; decide), if_pos hmc]
              have hce : clE (maU (myC I n nq pe sg g_ c t) (myR I n nq sg g_ c t) (a + 1)) = 2 := by rw [hs, cl_2, if_pos (Or.inl h27)]
              have e := ih (by omega) J2 hE e8 (by rw [hs]; exact he)
              rw [hce, hs] at e
              exact e
            · refine Z.iload dX6_may_162 rfl ?_
              refine Z.iload dX6_may_164 rfl ?_
              refine Z.icmp_ge (tgt := 173) dX6_may_166 (by decide) (fun h28 => ?_) (fun h28 => ?_)
              · refine Z.iinc (v := nI (a + 1)) (L' := [.ref 0, .int pe, .int (nI (sg.toNatClampNeg)), .int g_, .int c, .int t, .int (clE (maU (myC I n nq pe sg g_ c t) (myR I n nq sg g_ c t) a)), .int ((maU (myC I n nq pe sg g_ c t) (myR I n nq sg g_ c t) a).1), .int e8, .int (nI (a + 1)), .int (nrF I n nq (nI a) g_ c t), .int 2]) dX6_may_173 rfl (nI_1 _) rfl ?_
                refine Z.goto (tgt := 59) dX6_may_176 (by decide) ?_
                refine Z.drop (i := 10) (L' := [.ref 0, .int pe, .int (nI (sg.toNatClampNeg)), .int g_, .int c, .int t, .int (clE (maU (myC I n nq pe sg g_ c t) (myR I n nq sg g_ c t) a)), .int ((maU (myC I n nq pe sg g_ c t) (myR I n nq sg g_ c t) a).1), .int e8, .int (nI (a + 1)), .retAddr 0, .int 2]) rfl ?_
                refine Z.drop (i := 11) (L' := [.ref 0, .int pe, .int (nI (sg.toNatClampNeg)), .int g_, .int c, .int t, .int (clE (maU (myC I n nq pe sg g_ c t) (myR I n nq sg g_ c t) a)), .int ((maU (myC I n nq pe sg g_ c t) (myR I n nq sg g_ c t) a).1), .int e8, .int (nI (a + 1)), .retAddr 0, .retAddr 0]) rfl ?_
                have hf1 := ma_1 (c := (myC I n nq pe sg g_ c t)) (r := (myR I n nq sg g_ c t)) (a := a) (by omega)
                have hs : (maU (myC I n nq pe sg g_ c t) (myR I n nq sg g_ c t) (a + 1)) = ((maU (myC I n nq pe sg g_ c t) (myR I n nq sg g_ c t) a).1, (maU (myC I n nq pe sg g_ c t) (myR I n nq sg g_ c t) a).2.1, (maU (myC I n nq pe sg g_ c t) (myR I n nq sg g_ c t) a).2.2.1, true, (maU (myC I n nq pe sg g_ c t) (myR I n nq sg g_ c t) a).2.2.2.2) := by show (if _ then _ else _) = _; rw [if_neg (by rw [hmc]; decide), if_pos hmc]
                have hce : clE (maU (myC I n nq pe sg g_ c t) (myR I n nq sg g_ c t) (a + 1)) = clE (maU (myC I n nq pe sg g_ c t) (myR I n nq sg g_ c t) a) := by rw [hs, cl_2, if_neg (fun z => z.elim h27 h28)]
                have e := ih (by omega) J2 hE e8 (by rw [hs]; exact he)
                rw [hce, hs] at e
                exact e
              · refine Z.iload dX6_may_169 rfl ?_
                refine Z.istore (L' := [.ref 0, .int pe, .int (nI (sg.toNatClampNeg)), .int g_, .int c, .int t, .int 2, .int ((maU (myC I n nq pe sg g_ c t) (myR I n nq sg g_ c t) a).1), .int e8, .int (nI a), .int (nrF I n nq (nI a) g_ c t), .int 2]) dX6_may_171 (Nat.le_of_ble_eq_true rfl) rfl ?_
                refine Z.iinc (v := nI (a + 1)) (L' := [.ref 0, .int pe, .int (nI (sg.toNatClampNeg)), .int g_, .int c, .int t, .int 2, .int ((maU (myC I n nq pe sg g_ c t) (myR I n nq sg g_ c t) a).1), .int e8, .int (nI (a + 1)), .int (nrF I n nq (nI a) g_ c t), .int 2]) dX6_may_173 rfl (nI_1 _) rfl ?_
                refine Z.goto (tgt := 59) dX6_may_176 (by decide) ?_
                refine Z.drop (i := 10) (L' := [.ref 0, .int pe, .int (nI (sg.toNatClampNeg)), .int g_, .int c, .int t, .int 2, .int ((maU (myC I n nq pe sg g_ c t) (myR I n nq sg g_ c t) a).1), .int e8, .int (nI (a + 1)), .retAddr 0, .int 2]) rfl ?_
                refine Z.drop (i := 11) (L' := [.ref 0, .int pe, .int (nI (sg.toNatClampNeg)), .int g_, .int c, .int t, .int 2, .int ((maU (myC I n nq pe sg g_ c t) (myR I n nq sg g_ c t) a).1), .int e8, .int (nI (a + 1)), .retAddr 0, .retAddr 0]) rfl ?_
                have hf1 := ma_1 (c := (myC I n nq pe sg g_ c t)) (r := (myR I n nq sg g_ c t)) (a := a) (by omega)
                have hs : (maU (myC I n nq pe sg g_ c t) (myR I n nq sg g_ c t) (a + 1)) = ((maU (myC I n nq pe sg g_ c t) (myR I n nq sg g_ c t) a).1, (maU (myC I n nq pe sg g_ c t) (myR I n nq sg g_ c t) a).2.1, (maU (myC I n nq pe sg g_ c t) (myR I n nq sg g_ c t) a).2.2.1, true, (maU (myC I n nq pe sg g_ c t) (myR I n nq sg g_ c t) a).2.2.2.2) := by show (if _ then _ else _) = _; rw [if_neg (by rw [hmc]; decide), if_pos hmc]
                have hce : clE (maU (myC I n nq pe sg g_ c t) (myR I n nq sg g_ c t) (a + 1)) = 2 := by rw [hs, cl_2, if_pos (Or.inr h28)]
                have e := ih (by omega) J2 hE e8 (by rw [hs]; exact he)
                rw [hce, hs] at e
                exact e
          · refine Z.eqLs (L' := [.ref 0, .int pe, .int (nI (sg.toNatClampNeg)), .int g_, .int c, .int t, .int (clE (maU (myC I n nq pe sg g_ c t) (myR I n nq sg g_ c t) a)), .int ((maU (myC I n nq pe sg g_ c t) (myR I n nq sg g_ c t) a).1), .int e8, .int (nI a), .int (nrF I n nq (nI a) g_ c t), .retAddr 0]) (st' := [.int 3]) rfl (by rw [hv]) ?_
            refine Z.istore (L' := [.ref 0, .int pe, .int (nI (sg.toNatClampNeg)), .int g_, .int c, .int t, .int (clE (maU (myC I n nq pe sg g_ c t) (myR I n nq sg g_ c t) a)), .int ((maU (myC I n nq pe sg g_ c t) (myR I n nq sg g_ c t) a).1), .int e8, .int (nI a), .int (nrF I n nq (nI a) g_ c t), .int 3]) dX6_may_126 (Nat.le_of_ble_eq_true rfl) rfl ?_
            refine Z.iload dX6_may_128 rfl ?_
            refine Z.if_ne (tgt := 157) dX6_may_130 (by decide) (fun h29 => ?_) (fun h29 => absurd h29 (by decide))
            refine Z.iload dX6_may_157 rfl ?_
            refine Z.if_eq (tgt := 169) dX6_may_159 (by decide) (fun h30 => ?_) (fun h30 => ?_)
            · refine Z.iload dX6_may_169 rfl ?_
              refine Z.istore (L' := [.ref 0, .int pe, .int (nI (sg.toNatClampNeg)), .int g_, .int c, .int t, .int 3, .int ((maU (myC I n nq pe sg g_ c t) (myR I n nq sg g_ c t) a).1), .int e8, .int (nI a), .int (nrF I n nq (nI a) g_ c t), .int 3]) dX6_may_171 (Nat.le_of_ble_eq_true rfl) rfl ?_
              refine Z.iinc (v := nI (a + 1)) (L' := [.ref 0, .int pe, .int (nI (sg.toNatClampNeg)), .int g_, .int c, .int t, .int 3, .int ((maU (myC I n nq pe sg g_ c t) (myR I n nq sg g_ c t) a).1), .int e8, .int (nI (a + 1)), .int (nrF I n nq (nI a) g_ c t), .int 3]) dX6_may_173 rfl (nI_1 _) rfl ?_
              refine Z.goto (tgt := 59) dX6_may_176 (by decide) ?_
              refine Z.drop (i := 10) (L' := [.ref 0, .int pe, .int (nI (sg.toNatClampNeg)), .int g_, .int c, .int t, .int 3, .int ((maU (myC I n nq pe sg g_ c t) (myR I n nq sg g_ c t) a).1), .int e8, .int (nI (a + 1)), .retAddr 0, .int 3]) rfl ?_
              refine Z.drop (i := 11) (L' := [.ref 0, .int pe, .int (nI (sg.toNatClampNeg)), .int g_, .int c, .int t, .int 3, .int ((maU (myC I n nq pe sg g_ c t) (myR I n nq sg g_ c t) a).1), .int e8, .int (nI (a + 1)), .retAddr 0, .retAddr 0]) rfl ?_
              have hf1 := ma_1 (c := (myC I n nq pe sg g_ c t)) (r := (myR I n nq sg g_ c t)) (a := a) (by omega)
              have hs : (maU (myC I n nq pe sg g_ c t) (myR I n nq sg g_ c t) (a + 1)) = ((maU (myC I n nq pe sg g_ c t) (myR I n nq sg g_ c t) a).1, (maU (myC I n nq pe sg g_ c t) (myR I n nq sg g_ c t) a).2.1, (maU (myC I n nq pe sg g_ c t) (myR I n nq sg g_ c t) a).2.2.1, (maU (myC I n nq pe sg g_ c t) (myR I n nq sg g_ c t) a).2.2.2.1, true) := by show (if _ then _ else _) = _; rw [if_neg (by rw [hmc]; decide), if_neg (by rw [hmc]; decide), if_pos hmc]
              have hce : clE (maU (myC I n nq pe sg g_ c t) (myR I n nq sg g_ c t) (a + 1)) = 3 := by rw [hs, cl_3, if_pos (Or.inl h30)]
              have e := ih (by omega) J2 hE e8 (by rw [hs]; exact he)
              rw [hce, hs] at e
              exact e
            · refine Z.iload dX6_may_162 rfl ?_
              refine Z.iload dX6_may_164 rfl ?_
              refine Z.icmp_ge (tgt := 173) dX6_may_166 (by decide) (fun h31 => ?_) (fun h31 => ?_)
              · refine Z.iinc (v := nI (a + 1)) (L' := [.ref 0, .int pe, .int (nI (sg.toNatClampNeg)), .int g_, .int c, .int t, .int (clE (maU (myC I n nq pe sg g_ c t) (myR I n nq sg g_ c t) a)), .int ((maU (myC I n nq pe sg g_ c t) (myR I n nq sg g_ c t) a).1), .int e8, .int (nI (a + 1)), .int (nrF I n nq (nI a) g_ c t), .int 3]) dX6_may_173 rfl (nI_1 _) rfl ?_
                refine Z.goto (tgt := 59) dX6_may_176 (by decide) ?_
                refine Z.drop (i := 10) (L' := [.ref 0, .int pe, .int (nI (sg.toNatClampNeg)), .int g_, .int c, .int t, .int (clE (maU (myC I n nq pe sg g_ c t) (myR I n nq sg g_ c t) a)), .int ((maU (myC I n nq pe sg g_ c t) (myR I n nq sg g_ c t) a).1), .int e8, .int (nI (a + 1)), .retAddr 0, .int 3]) rfl ?_
                refine Z.drop (i := 11) (L' := [.ref 0, .int pe, .int (nI (sg.toNatClampNeg)), .int g_, .int c, .int t, .int (clE (maU (myC I n nq pe sg g_ c t) (myR I n nq sg g_ c t) a)), .int ((maU (myC I n nq pe sg g_ c t) (myR I n nq sg g_ c t) a).1), .int e8, .int (nI (a + 1)), .retAddr 0, .retAddr 0]) rfl ?_
                have hf1 := ma_1 (c := (myC I n nq pe sg g_ c t)) (r := (myR I n nq sg g_ c t)) (a := a) (by omega)
                have hs : (maU (myC I n nq pe sg g_ c t) (myR I n nq sg g_ c t) (a + 1)) = ((maU (myC I n nq pe sg g_ c t) (myR I n nq sg g_ c t) a).1, (maU (myC I n nq pe sg g_ c t) (myR I n nq sg g_ c t) a).2.1, (maU (myC I n nq pe sg g_ c t) (myR I n nq sg g_ c t) a).2.2.1, (maU (myC I n nq pe sg g_ c t) (myR I n nq sg g_ c t) a).2.2.2.1, true) := by show (if _ then _ else _) = _; rw [if_neg (by rw [hmc]; decide), if_neg (by rw [hmc]; decide), if_pos hmc]
                have hce : clE (maU (myC I n nq pe sg g_ c t) (myR I n nq sg g_ c t) (a + 1)) = clE (maU (myC I n nq pe sg g_ c t) (myR I n nq sg g_ c t) a) := by rw [hs, cl_3, if_neg (fun z => z.elim h30 h31)]
                have e := ih (by omega) J2 hE e8 (by rw [hs]; exact he)
                rw [hce, hs] at e
                exact e
              · refine Z.iload dX6_may_169 rfl ?_
                refine Z.istore (L' := [.ref 0, .int pe, .int (nI (sg.toNatClampNeg)), .int g_, .int c, .int t, .int 3, .int ((maU (myC I n nq pe sg g_ c t) (myR I n nq sg g_ c t) a).1), .int e8, .int (nI a), .int (nrF I n nq (nI a) g_ c t), .int 3]) dX6_may_171 (Nat.le_of_ble_eq_true rfl) rfl ?_
                refine Z.iinc (v := nI (a + 1)) (L' := [.ref 0, .int pe, .int (nI (sg.toNatClampNeg)), .int g_, .int c, .int t, .int 3, .int ((maU (myC I n nq pe sg g_ c t) (myR I n nq sg g_ c t) a).1), .int e8, .int (nI (a + 1)), .int (nrF I n nq (nI a) g_ c t), .int 3]) dX6_may_173 rfl (nI_1 _) rfl ?_
                refine Z.goto (tgt := 59) dX6_may_176 (by decide) ?_
                refine Z.drop (i := 10) (L' := [.ref 0, .int pe, .int (nI (sg.toNatClampNeg)), .int g_, .int c, .int t, .int 3, .int ((maU (myC I n nq pe sg g_ c t) (myR I n nq sg g_ c t) a).1), .int e8, .int (nI (a + 1)), .retAddr 0, .int 3]) rfl ?_
                refine Z.drop (i := 11) (L' := [.ref 0, .int pe, .int (nI (sg.toNatClampNeg)), .int g_, .int c, .int t, .int 3, .int ((maU (myC I n nq pe sg g_ c t) (myR I n nq sg g_ c t) a).1), .int e8, .int (nI (a + 1)), .retAddr 0, .retAddr 0]) rfl ?_
                have hf1 := ma_1 (c := (myC I n nq pe sg g_ c t)) (r := (myR I n nq sg g_ c t)) (a := a) (by omega)
                have hs : (maU (myC I n nq pe sg g_ c t) (myR I n nq sg g_ c t) (a + 1)) = ((maU (myC I n nq pe sg g_ c t) (myR I n nq sg g_ c t) a).1, (maU (myC I n nq pe sg g_ c t) (myR I n nq sg g_ c t) a).2.1, (maU (myC I n nq pe sg g_ c t) (myR I n nq sg g_ c t) a).2.2.1, (maU (myC I n nq pe sg g_ c t) (myR I n nq sg g_ c t) a).2.2.2.1, true) := by show (if _ then _ else _) = _; rw [if_neg (by rw [hmc]; decide), if_neg (by rw [hmc]; decide), if_pos hmc]
                have hce : clE (maU (myC I n nq pe sg g_ c t) (myR I n nq sg g_ c t) (a + 1)) = 3 := by rw [hs, cl_3, if_pos (Or.inr h31)]
                have e := ih (by omega) J2 hE e8 (by rw [hs]; exact he)
                rw [hce, hs] at e
                exact e
        · refine Z.goto (tgt := 173) dX6_may_114 (by decide) ?_
          refine Z.iinc (v := nI (a + 1)) (L' := [.ref 0, .int pe, .int (nI (sg.toNatClampNeg)), .int g_, .int c, .int t, .int (clE (maU (myC I n nq pe sg g_ c t) (myR I n nq sg g_ c t) a)), .int ((maU (myC I n nq pe sg g_ c t) (myR I n nq sg g_ c t) a).1), .int e8, .int (nI (a + 1)), .int (nrF I n nq (nI a) g_ c t), .retAddr 0]) dX6_may_173 rfl (nI_1 _) rfl ?_
          refine Z.goto (tgt := 59) dX6_may_176 (by decide) ?_
          refine Z.drop (i := 10) (L' := [.ref 0, .int pe, .int (nI (sg.toNatClampNeg)), .int g_, .int c, .int t, .int (clE (maU (myC I n nq pe sg g_ c t) (myR I n nq sg g_ c t) a)), .int ((maU (myC I n nq pe sg g_ c t) (myR I n nq sg g_ c t) a).1), .int e8, .int (nI (a + 1)), .retAddr 0, .retAddr 0]) rfl ?_
          have hf1 := ma_1 (c := (myC I n nq pe sg g_ c t)) (r := (myR I n nq sg g_ c t)) (a := a) (by omega)
          have hz0 : (myR I n nq sg g_ c t) a < 0 := by unfold myR; rw [if_neg (by rintro (z | z); exact absurd z (by assumption); rw [h19] at z; cases z)]; decide
          have hmc : (myC I n nq pe sg g_ c t) a = 0 := if_pos hz0
          have hs : (maU (myC I n nq pe sg g_ c t) (myR I n nq sg g_ c t) (a + 1)) = (maU (myC I n nq pe sg g_ c t) (myR I n nq sg g_ c t) a) := by show (if _ then _ else _) = _; rw [hmc]; rfl
          have e := ih (by omega) J2 hE e8 (by rw [hs]; exact he)
          rw [hs] at e
          exact e

set_option maxHeartbeats 4000000 in
set_option maxRecDepth 100000 in
theorem cb_may {g : GP} {I J : IM} {S : SH} (hE : Ex I J) (pe sg g_ c t : Int32) (hF : Fx S) (hC : Cp I) {n : Nat} (hn : Mp I n) {nq : Nat} (hq : Mq I nq) (hcq : Cq I nq) (hM : MIv I) {mm : Nat} (hm : Mm I mm) (hz : Mz I S mm) (hL : LG I n) (hR : RX I n) (hJ : KJ I n) : Z g 6 0 0 mX6_may 0 (enL mX6_may [.ref 0, .int pe, .int sg, .int g_, .int c, .int t]) [] J S (NQ (.int (myM I n nq mm pe sg g_ c t)) I S) := by
  show Z g 6 0 0 mX6_may 0 [.ref 0, .int pe, .int sg, .int g_, .int c, .int t, .retAddr 0, .retAddr 0, .retAddr 0, .retAddr 0, .retAddr 0, .retAddr 0] [] J S _
  have hn2 := hn.2
  have hq2 := hq.2
  have hm2 := hm.2
  have hD := hL.1
  have hso := hL.2.1
  refine Z.iload_n dX6_may_0 rfl ?_
  refine Z.bipush (v := 100) dX6_may_1 (by decide) ?_
  refine Z.callSp (M := mX6_may) (pc := 3) (st := []) (N := mX6_below) (n := 2) (r := .int (bI (inB pe 0 99))) dX6_may_3 mlX6_66 mkX6_below stX6_below (d1 := 0) (by decide) (As := [.int pe, .int 100]) rfl ⟨rfl, Nat.le_of_ble_eq_true rfl⟩ ⟨rfl, Nat.le_of_ble_eq_true rfl⟩ (cc_below100 hE pe) rfl ?_
  refine Z.if_eqB (tgt := 45) dX6_may_6 (by decide) (fun h1 => ?_) (fun h1 => ?_)
  · refine Z.iconst (v := (-1)) dX6_may_45 (by decide) ?_
    exact Z.iret dX6_may_46 rfl ⟨by simp [myM, myB, h1], hE, rfl⟩
  · refine Z.aload_n dX6_may_9 rfl ?_
    refine Z.iload_n dX6_may_10 rfl ?_
    rcases Bool.eq_false_or_eq_true (inB sg 0 (I 35 10 - 1)) with h2 | h2
    · have l_sg : sg.toNatClampNeg < mm := (mk_rg hm.1 hm.2 h2).2
      have h_sg : sg.toNatClampNeg < 120 := by omega
      have ho_sg := hz.2 _ l_sg
      have hl_sg := hM.2.2.1 _ h_sg
      have hc_sg := hM.2.2.2.1 _ h_sg
      have hl2_sg := hl_sg.2
      have hc2_sg := hc_sg.2
      have hcl_sg := ho_sg.2.2
      have h12_sg := clL_le (I := I) (j := sg.toNatClampNeg)
      refine Z.callVp (M := mX6_may) (pc := 11) (st := []) (N := mX6_markAt) (n := 1) (r := .ref (58 + 3 * sg.toNatClampNeg)) dX6_may_11 mlX6_94 mkX6_markAt imX6_markAt seX6_markAt (fx0 hF) cl6 rfl (d1 := 1) (by decide) (As := [.int sg]) rfl ⟨rfl, Nat.le_of_ble_eq_true rfl⟩ ⟨rfl, Nat.le_of_ble_eq_true rfl⟩ (cc_markAtT hE sg hF hC hm hz h2) rfl ?_
      refine Z.ifnull dX6_may_14 ?_
      refine Z.iload_n dX6_may_17 rfl ?_
      refine Z.sipush (v := 360) dX6_may_18 (by decide) ?_
      refine Z.callSp (M := mX6_may) (pc := 21) (st := []) (N := mX6_below) (n := 2) (r := .int (bI (inB g_ 0 359))) dX6_may_21 mlX6_66 mkX6_below stX6_below (d1 := 0) (by decide) (As := [.int g_, .int 360]) rfl ⟨rfl, Nat.le_of_ble_eq_true rfl⟩ ⟨rfl, Nat.le_of_ble_eq_true rfl⟩ (cc_below360 hE g_) rfl ?_
      refine Z.if_eqB (tgt := 45) dX6_may_24 (by decide) (fun h3 => ?_) (fun h3 => ?_)
      · refine Z.iconst (v := (-1)) dX6_may_45 (by decide) ?_
        exact Z.iret dX6_may_46 rfl ⟨by simp [myM, myB, h1, h2, h3], hE, rfl⟩
      · refine Z.iload dX6_may_27 rfl ?_
        refine Z.bipush (v := 16) dX6_may_29 (by decide) ?_
        refine Z.callSp (M := mX6_may) (pc := 31) (st := []) (N := mX6_below) (n := 2) (r := .int (bI (inB c 0 15))) dX6_may_31 mlX6_66 mkX6_below stX6_below (d1 := 0) (by decide) (As := [.int c, .int 16]) rfl ⟨rfl, Nat.le_of_ble_eq_true rfl⟩ ⟨rfl, Nat.le_of_ble_eq_true rfl⟩ (cc_below16 hE c) rfl ?_
        refine Z.if_eqB (tgt := 45) dX6_may_34 (by decide) (fun h4 => ?_) (fun h4 => ?_)
        · refine Z.iconst (v := (-1)) dX6_may_45 (by decide) ?_
          exact Z.iret dX6_may_46 rfl ⟨by simp [myM, myB, h1, h2, h3, h4], hE, rfl⟩
        · refine Z.iload dX6_may_37 rfl ?_
          refine Z.callSp (M := mX6_may) (pc := 39) (st := []) (N := mX6_isDay) (n := 1) (r := .int (bI (inB t 0 60000))) dX6_may_39 mlX6_112 mkX6_isDay stX6_isDay (d1 := 0) (by decide) (As := [.int t]) rfl ⟨rfl, Nat.le_of_ble_eq_true rfl⟩ ⟨rfl, Nat.le_of_ble_eq_true rfl⟩ (cc_isDay hE t) rfl ?_
          refine Z.if_neB (tgt := 47) dX6_may_42 (by decide) (fun h5 => ?_) (fun h5 => ?_)
          · have e_sg := (mk_rg hm.1 hm.2 h2).1
            refine Z.eqLs (L' := [.ref 0, .int pe, .int (nI (sg.toNatClampNeg)), .int g_, .int c, .int t, .retAddr 0, .retAddr 0, .retAddr 0, .retAddr 0, .retAddr 0, .retAddr 0]) (st' := []) (by rw [← e_sg]) (by first | rfl | rw [← e_sg]) ?_
            refine Z.iconst (v := 0) dX6_may_47 (by decide) ?_
            refine Z.istore (L' := [.ref 0, .int pe, .int (nI (sg.toNatClampNeg)), .int g_, .int c, .int t, .int 0, .retAddr 0, .retAddr 0, .retAddr 0, .retAddr 0, .retAddr 0]) dX6_may_48 (Nat.le_of_ble_eq_true rfl) rfl ?_
            refine Z.iconst (v := (-1)) dX6_may_50 (by decide) ?_
            refine Z.istore (L' := [.ref 0, .int pe, .int (nI (sg.toNatClampNeg)), .int g_, .int c, .int t, .int 0, .int ((-1)), .retAddr 0, .retAddr 0, .retAddr 0, .retAddr 0]) dX6_may_51 (Nat.le_of_ble_eq_true rfl) rfl ?_
            refine Z.iconst (v := (-1)) dX6_may_53 (by decide) ?_
            refine Z.istore (L' := [.ref 0, .int pe, .int (nI (sg.toNatClampNeg)), .int g_, .int c, .int t, .int 0, .int ((-1)), .int ((-1)), .retAddr 0, .retAddr 0, .retAddr 0]) dX6_may_54 (Nat.le_of_ble_eq_true rfl) rfl ?_
            refine Z.iconst (v := 0) dX6_may_56 (by decide) ?_
            refine Z.istore (L' := [.ref 0, .int pe, .int (nI (sg.toNatClampNeg)), .int g_, .int c, .int t, .int 0, .int ((-1)), .int ((-1)), .int 0, .retAddr 0, .retAddr 0]) dX6_may_57 (Nat.le_of_ble_eq_true rfl) rfl ?_
            exact lc_may pe sg g_ c t hF hC hn hq hcq hM hm hz hL hR hJ l_sg (in_nm h4) (in_nm h1) (by simp [myB, h1, h2, h3, h4, h5]) 0 (Nat.zero_le _) _ hE _ (Or.inl rfl)
          · refine Z.iconst (v := (-1)) dX6_may_45 (by decide) ?_
            exact Z.iret dX6_may_46 rfl ⟨by simp [myM, myB, h1, h2, h3, h4, h5], hE, rfl⟩
    · refine Z.callVp (M := mX6_may) (pc := 11) (st := []) (N := mX6_markAt) (n := 1) (r := .null) dX6_may_11 mlX6_94 mkX6_markAt imX6_markAt seX6_markAt (fx0 hF) cl6 rfl (d1 := 1) (by decide) (As := [.int sg]) rfl ⟨rfl, Nat.le_of_ble_eq_true rfl⟩ ⟨rfl, Nat.le_of_ble_eq_true rfl⟩ (cc_markAtF hE sg hF hC hm hz h2) rfl ?_
      refine Z.ifnullN (tgt := 45) dX6_may_14 (by decide) ?_
      refine Z.iconst (v := (-1)) dX6_may_45 (by decide) ?_
      exact Z.iret dX6_may_46 rfl ⟨by simp [myM, myB, h1, h2], hE, rfl⟩

