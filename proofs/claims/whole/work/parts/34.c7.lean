def FQ (K : Nat) (G : Nat → Int32) (g_ : Int32) (J : IM) (S : SH) : ZQ := fun r J' T => (∃ k, r = some (.int k) ∧ ((k = -1 ∧ ∀ q, q < K → ¬ G q = g_) ∨ ∃ q, q < K ∧ k = nI q ∧ G q = g_)) ∧ J = J' ∧ S = T
theorem bI_a1 (b : Bool) : bI b &&& 1 = bI b := by cases b <;> decide
/-- all but the view at v is as it was -/
def AW (v : Nat) (J J' : IM) : Prop := ∀ a, (a < v ∨ v + 4 < a) → J' a = J a
theorem AW.tr {v : Nat} {J J' J2 : IM} (h : AW v J J') (h2 : AW v J' J2) : AW v J J2 := fun a ha => (h2 a ha).trans (h a ha)
def VW19 (I : IM) (i : Nat) (m c t : Int32) (J : IM) : Prop := ∃ K, VA I i m c t (J 19) K ∧ VB I i m t (J 20) (J 21) (J 22) (J 23) K
def RQ19 (I J : IM) (S : SH) (i : Nat) (m c t : Int32) : ZQ := fun r J' T => r = none ∧ AW 19 J J' ∧ VW19 I i m c t J' ∧ T = S
theorem AW19.ex {I J J' : IM} (h : AW 19 J J') (hE : Ex I J) : Ex I J' := fun a ha => by
  rw [h a, hE a ha]
  refine Decidable.byContradiction (fun z => ?_)
  have : a = 19 ∨ a = 20 ∨ a = 21 ∨ a = 22 ∨ a = 23 := by omega
  rcases this with q | q | q | q | q <;> (rw [q] at ha; revert ha; decide)
def VW24 (I : IM) (i : Nat) (m c t : Int32) (J : IM) : Prop := ∃ K, VA I i m c t (J 24) K ∧ VB I i m t (J 25) (J 26) (J 27) (J 28) K
def RQ24 (I J : IM) (S : SH) (i : Nat) (m c t : Int32) : ZQ := fun r J' T => r = none ∧ AW 24 J J' ∧ VW24 I i m c t J' ∧ T = S
theorem AW24.ex {I J J' : IM} (h : AW 24 J J') (hE : Ex I J) : Ex I J' := fun a ha => by
  rw [h a, hE a ha]
  refine Decidable.byContradiction (fun z => ?_)
  have : a = 24 ∨ a = 25 ∨ a = 26 ∨ a = 27 ∨ a = 28 := by omega
  rcases this with q | q | q | q | q <;> (rw [q] at ha; revert ha; decide)
def VW29 (I : IM) (i : Nat) (m c t : Int32) (J : IM) : Prop := ∃ K, VA I i m c t (J 29) K ∧ VB I i m t (J 30) (J 31) (J 32) (J 33) K
def RQ29 (I J : IM) (S : SH) (i : Nat) (m c t : Int32) : ZQ := fun r J' T => r = none ∧ AW 29 J J' ∧ VW29 I i m c t J' ∧ T = S
theorem AW29.ex {I J J' : IM} (h : AW 29 J J') (hE : Ex I J) : Ex I J' := fun a ha => by
  rw [h a, hE a ha]
  refine Decidable.byContradiction (fun z => ?_)
  have : a = 29 ∨ a = 30 ∨ a = 31 ∨ a = 32 ∨ a = 33 := by omega
  rcases this with q | q | q | q | q <;> (rw [q] at ha; revert ha; decide)
set_option maxHeartbeats 4000000 in
set_option maxRecDepth 100000 in
theorem lv_find19 {g : GP} {I J : IM} {S : SH} (hE : Ex I J) (g_ : Int32) (hF : Fx S) {K : Nat} (h8 : J 19 8 = nI K) (hK : K ≤ 20) : ∀ q, q ≤ K → (∀ k, k < q → ¬ J 20 k = g_) → Z g 0 0 0 mX5_find 2 [.ref 19, .int g_, .int (nI q)] [] J S (FQ K (J 20) g_ J S) := by
  refine upZ K (fun q hi ih hno => ?_)
  refine Z.iload_n dX5_find_2 rfl ?_
  refine Z.aload_n dX5_find_3 rfl ?_
  refine Z.getIv (v := nI K) dX5_find_4 cl5 flX5_68 (by decide) (fx19 hF) h8 ?_
  refine Z.icmp_geN (a := q) (b := K) (by omega) (by omega) (tgt := 28) dX5_find_7 (by decide) (fun h1 => ?_) (fun h1 => ?_)
  · refine Z.iconst (v := (-1)) dX5_find_28 (by decide) ?_
    exact Z.iret dX5_find_29 rfl ⟨⟨_, rfl, Or.inl ⟨rfl, fun k hk => hno k (by omega)⟩⟩, rfl, rfl⟩
  · refine Z.aload_n dX5_find_10 rfl ?_
    refine Z.getR (r := 20) dX5_find_11 cl5 flX5_11 (by decide) (fx19 hF) rfl ?_
    refine Z.iload_n dX5_find_14 rfl ?_
    refine Z.ialdv (j := q) (v := J 20 q) dX5_find_15 (fx20 hF) rfl (by omega) (by decide) rfl ?_
    refine Z.iload_n dX5_find_16 rfl ?_
    refine Z.icmp_ne (tgt := 22) dX5_find_17 (by decide) (fun h2 => ?_) (fun h2 => ?_)
    · refine Z.iinc (v := nI (q + 1)) (L' := [.ref 19, .int g_, .int (nI (q + 1))]) dX5_find_22 rfl (nI_1 _) rfl ?_
      refine Z.goto (tgt := 2) dX5_find_25 (by decide) ?_
      exact ih (by omega) (fun k hk => by by_cases z : k = q; exact z ▸ h2; exact hno k (by omega))
    · refine Z.iload_n dX5_find_20 rfl ?_
      exact Z.iret dX5_find_21 rfl ⟨⟨_, rfl, Or.inr ⟨q, by omega, rfl, h2⟩⟩, rfl, rfl⟩

set_option maxHeartbeats 4000000 in
set_option maxRecDepth 100000 in
theorem cv_find19 {g : GP} {I J : IM} {S : SH} (hE : Ex I J) (g_ : Int32) (hF : Fx S) {K : Nat} (h8 : J 19 8 = nI K) (hK : K ≤ 20) : Z g 0 0 0 mX5_find 0 (enL mX5_find [.ref 19, .int g_]) [] J S (FQ K (J 20) g_ J S) := by
  show Z g 0 0 0 mX5_find 0 [.ref 19, .int g_, .retAddr 0] [] J S _
  refine Z.iconst (v := 0) dX5_find_0 (by decide) ?_
  refine Z.istore_n (L' := [.ref 19, .int g_, .int 0]) dX5_find_1 (Nat.le_of_ble_eq_true rfl) rfl ?_
  exact lv_find19 hE g_ hF h8 hK 0 (Nat.zero_le _) (fun k hk => absurd hk (Nat.not_lt_zero _))

set_option maxHeartbeats 4000000 in
set_option maxRecDepth 100000 in
theorem lv_find24 {g : GP} {I J : IM} {S : SH} (hE : Ex I J) (g_ : Int32) (hF : Fx S) {K : Nat} (h8 : J 24 8 = nI K) (hK : K ≤ 20) : ∀ q, q ≤ K → (∀ k, k < q → ¬ J 25 k = g_) → Z g 0 0 0 mX5_find 2 [.ref 24, .int g_, .int (nI q)] [] J S (FQ K (J 25) g_ J S) := by
  refine upZ K (fun q hi ih hno => ?_)
  refine Z.iload_n dX5_find_2 rfl ?_
  refine Z.aload_n dX5_find_3 rfl ?_
  refine Z.getIv (v := nI K) dX5_find_4 cl5 flX5_68 (by decide) (fx24 hF) h8 ?_
  refine Z.icmp_geN (a := q) (b := K) (by omega) (by omega) (tgt := 28) dX5_find_7 (by decide) (fun h1 => ?_) (fun h1 => ?_)
  · refine Z.iconst (v := (-1)) dX5_find_28 (by decide) ?_
    exact Z.iret dX5_find_29 rfl ⟨⟨_, rfl, Or.inl ⟨rfl, fun k hk => hno k (by omega)⟩⟩, rfl, rfl⟩
  · refine Z.aload_n dX5_find_10 rfl ?_
    refine Z.getR (r := 25) dX5_find_11 cl5 flX5_11 (by decide) (fx24 hF) rfl ?_
    refine Z.iload_n dX5_find_14 rfl ?_
    refine Z.ialdv (j := q) (v := J 25 q) dX5_find_15 (fx25 hF) rfl (by omega) (by decide) rfl ?_
    refine Z.iload_n dX5_find_16 rfl ?_
    refine Z.icmp_ne (tgt := 22) dX5_find_17 (by decide) (fun h2 => ?_) (fun h2 => ?_)
    · refine Z.iinc (v := nI (q + 1)) (L' := [.ref 24, .int g_, .int (nI (q + 1))]) dX5_find_22 rfl (nI_1 _) rfl ?_
      refine Z.goto (tgt := 2) dX5_find_25 (by decide) ?_
      exact ih (by omega) (fun k hk => by by_cases z : k = q; exact z ▸ h2; exact hno k (by omega))
    · refine Z.iload_n dX5_find_20 rfl ?_
      exact Z.iret dX5_find_21 rfl ⟨⟨_, rfl, Or.inr ⟨q, by omega, rfl, h2⟩⟩, rfl, rfl⟩

set_option maxHeartbeats 4000000 in
set_option maxRecDepth 100000 in
theorem cv_find24 {g : GP} {I J : IM} {S : SH} (hE : Ex I J) (g_ : Int32) (hF : Fx S) {K : Nat} (h8 : J 24 8 = nI K) (hK : K ≤ 20) : Z g 0 0 0 mX5_find 0 (enL mX5_find [.ref 24, .int g_]) [] J S (FQ K (J 25) g_ J S) := by
  show Z g 0 0 0 mX5_find 0 [.ref 24, .int g_, .retAddr 0] [] J S _
  refine Z.iconst (v := 0) dX5_find_0 (by decide) ?_
  refine Z.istore_n (L' := [.ref 24, .int g_, .int 0]) dX5_find_1 (Nat.le_of_ble_eq_true rfl) rfl ?_
  exact lv_find24 hE g_ hF h8 hK 0 (Nat.zero_le _) (fun k hk => absurd hk (Nat.not_lt_zero _))

set_option maxHeartbeats 4000000 in
set_option maxRecDepth 100000 in
theorem lv_find29 {g : GP} {I J : IM} {S : SH} (hE : Ex I J) (g_ : Int32) (hF : Fx S) {K : Nat} (h8 : J 29 8 = nI K) (hK : K ≤ 20) : ∀ q, q ≤ K → (∀ k, k < q → ¬ J 30 k = g_) → Z g 0 0 0 mX5_find 2 [.ref 29, .int g_, .int (nI q)] [] J S (FQ K (J 30) g_ J S) := by
  refine upZ K (fun q hi ih hno => ?_)
  refine Z.iload_n dX5_find_2 rfl ?_
  refine Z.aload_n dX5_find_3 rfl ?_
  refine Z.getIv (v := nI K) dX5_find_4 cl5 flX5_68 (by decide) (fx29 hF) h8 ?_
  refine Z.icmp_geN (a := q) (b := K) (by omega) (by omega) (tgt := 28) dX5_find_7 (by decide) (fun h1 => ?_) (fun h1 => ?_)
  · refine Z.iconst (v := (-1)) dX5_find_28 (by decide) ?_
    exact Z.iret dX5_find_29 rfl ⟨⟨_, rfl, Or.inl ⟨rfl, fun k hk => hno k (by omega)⟩⟩, rfl, rfl⟩
  · refine Z.aload_n dX5_find_10 rfl ?_
    refine Z.getR (r := 30) dX5_find_11 cl5 flX5_11 (by decide) (fx29 hF) rfl ?_
    refine Z.iload_n dX5_find_14 rfl ?_
    refine Z.ialdv (j := q) (v := J 30 q) dX5_find_15 (fx30 hF) rfl (by omega) (by decide) rfl ?_
    refine Z.iload_n dX5_find_16 rfl ?_
    refine Z.icmp_ne (tgt := 22) dX5_find_17 (by decide) (fun h2 => ?_) (fun h2 => ?_)
    · refine Z.iinc (v := nI (q + 1)) (L' := [.ref 29, .int g_, .int (nI (q + 1))]) dX5_find_22 rfl (nI_1 _) rfl ?_
      refine Z.goto (tgt := 2) dX5_find_25 (by decide) ?_
      exact ih (by omega) (fun k hk => by by_cases z : k = q; exact z ▸ h2; exact hno k (by omega))
    · refine Z.iload_n dX5_find_20 rfl ?_
      exact Z.iret dX5_find_21 rfl ⟨⟨_, rfl, Or.inr ⟨q, by omega, rfl, h2⟩⟩, rfl, rfl⟩

set_option maxHeartbeats 4000000 in
set_option maxRecDepth 100000 in
theorem cv_find29 {g : GP} {I J : IM} {S : SH} (hE : Ex I J) (g_ : Int32) (hF : Fx S) {K : Nat} (h8 : J 29 8 = nI K) (hK : K ≤ 20) : Z g 0 0 0 mX5_find 0 (enL mX5_find [.ref 29, .int g_]) [] J S (FQ K (J 30) g_ J S) := by
  show Z g 0 0 0 mX5_find 0 [.ref 29, .int g_, .retAddr 0] [] J S _
  refine Z.iconst (v := 0) dX5_find_0 (by decide) ?_
  refine Z.istore_n (L' := [.ref 29, .int g_, .int 0]) dX5_find_1 (Nat.le_of_ble_eq_true rfl) rfl ?_
  exact lv_find29 hE g_ hF h8 hK 0 (Nat.zero_le _) (fun k hk => absurd hk (Nat.not_lt_zero _))

set_option maxHeartbeats 4000000 in
set_option maxRecDepth 100000 in
theorem cv_readGoods19 {g : GP} {I J : IM} {S : SH} (hE : Ex I J)  {i n K : Nat} {m c t : Int32} (hF : Fx S) (hin : i < n) (hn4 : n ≤ 400) (hD : Dn I n) (hso : So I n) (hpw : PW I i) (hm : I 50 i = m) (hd : ¬ t < I 52 i) (hk : I 49 i = 0) (hA : VA I i m c t (J 19) K) (hB : VB I i m t (J 20) (J 21) (J 22) (J 23) K) : Z g 1 0 0 mX5_readGoods 0 (enL mX5_readGoods [.ref 19, .int (I 51 i), .int (I 52 i)]) [] J S (RQ19 I J S (i + 1) m c t) := by
  show Z g 1 0 0 mX5_readGoods 0 [.ref 19, .int (I 51 i), .int (I 52 i), .retAddr 0] [] J S _
  have hi4 : i ≤ 400 := by omega
  have hK := hA.2.2.2.2.2.2.2.2.2
  have hcn1 := cntU_le (p := pM I i) (k := 1) (m := m) (t := t) i
  have hcn2 := cntU_le (p := pM I i) (k := 2) (m := m) (t := t) i
  have h0 := hD i hin
  have hso2 : So I (i + 1) := fun a b h1 h2 => hso a b h1 (by omega)
  refine Z.aload_n dX5_readGoods_0 rfl ?_
  refine Z.iconst (v := 1) dX5_readGoods_1 (by decide) ?_
  refine Z.putI (x := 1) dX5_readGoods_2 cl5 flX5_106 (by decide) ⟨by decide, by decide⟩ (fx19 hF) ?_
  refine Z.aload_n dX5_readGoods_5 rfl ?_
  refine Z.iload_n dX5_readGoods_6 rfl ?_
  refine Z.callVg (M := mX5_readGoods) (pc := 7) (st := []) (N := mX5_find) (n := 1) dX5_readGoods_7 mlX5_69 mkX5_find imX5_find seX5_find (fx19 hF) cl5 rfl (d1 := 0) (by decide) (As := [.int (I 51 i)]) rfl ⟨rfl, Nat.le_of_ble_eq_true rfl⟩ ⟨rfl, Nat.le_of_ble_eq_true rfl⟩ (cv_find19 (J := (va_up J 19 (upd (J 19) 7 (1)))) (hE.up (a := 19) rfl) (I 51 i) hF (hA.2.2.2.2.2.2.2.2.1) (hA.2.2.2.2.2.2.2.2.2)) rfl (fun v_ J1 S_ h_ => ?_)
  obtain ⟨⟨k_, rfl, hk_⟩, rfl, rfl⟩ := h_
  rcases hk_ with ⟨rfl, hno1⟩ | ⟨q1, hq1, rfl, hg1⟩
  · refine Z.istore_n (L' := [.ref 19, .int (I 51 i), .int (I 52 i), .int ((-1))]) dX5_readGoods_10 (Nat.le_of_ble_eq_true rfl) rfl ?_
    refine Z.iload_n dX5_readGoods_11 rfl ?_
    refine Z.iconst (v := (-1)) dX5_readGoods_12 (by decide) ?_
    refine Z.icmp_ne (tgt := 55) dX5_readGoods_13 (by decide) (fun h2 => absurd h2 (by decide)) (fun h2 => ?_)
    have hroom : K < 20 := VB_room hin hn4 hD hso hm hd (hm ▸ hpw.1 hk) hB
    refine Z.aload_n dX5_readGoods_16 rfl ?_
    refine Z.getIv (v := nI K) dX5_readGoods_17 cl5 flX5_68 (by decide) (fx19 hF) hA.2.2.2.2.2.2.2.2.1 ?_
    refine Z.bipush (v := 20) dX5_readGoods_20 (by decide) ?_
    refine Z.icmp_ltN (a := K) (b := 20) (by omega) (by decide) (tgt := 26) dX5_readGoods_22 (by decide) (fun h3 => ?_) (fun h3 => ?_)
    · refine Z.aload_n dX5_readGoods_26 rfl ?_
      refine Z.getIv (v := nI K) dX5_readGoods_27 cl5 flX5_68 (by decide) (fx19 hF) hA.2.2.2.2.2.2.2.2.1 ?_
      refine Z.istore_n (L' := [.ref 19, .int (I 51 i), .int (I 52 i), .int (nI K)]) dX5_readGoods_30 (Nat.le_of_ble_eq_true rfl) rfl ?_
      refine Z.aload_n dX5_readGoods_31 rfl ?_
      refine Z.dupR dX5_readGoods_32 ?_
      refine Z.getIv (v := nI K) dX5_readGoods_33 cl5 flX5_68 (by decide) (fx19 hF) hA.2.2.2.2.2.2.2.2.1 ?_
      refine Z.iconst (v := 1) dX5_readGoods_36 (by decide) ?_
      refine Z.iaddN (a := K) (b := 1) dX5_readGoods_37 ?_
      refine Z.putI (x := nI (K + 1)) dX5_readGoods_38 cl5 flX5_68 (by decide) ⟨rfl, rfl⟩ (fx19 hF) ?_
      refine Z.eqI (bx_uu _ _ _ _) ?_
      refine Z.aload_n dX5_readGoods_41 rfl ?_
      refine Z.getR (r := 20) dX5_readGoods_42 cl5 flX5_11 (by decide) (fx19 hF) rfl ?_
      refine Z.iload_n dX5_readGoods_45 rfl ?_
      refine Z.iload_n dX5_readGoods_46 rfl ?_
      refine Z.iast (j := K) (x := I 51 i) dX5_readGoods_47 (fx20 hF) rfl (by omega) (by decide) ?_
      refine Z.aload_n dX5_readGoods_48 rfl ?_
      refine Z.getR (r := 22) dX5_readGoods_49 cl5 flX5_18 (by decide) (fx19 hF) rfl ?_
      refine Z.iload_n dX5_readGoods_52 rfl ?_
      refine Z.iconst (v := (-1)) dX5_readGoods_53 (by decide) ?_
      refine Z.iast (j := K) (x := (-1)) dX5_readGoods_54 (fx22 hF) rfl (by omega) (by decide) ?_
      refine Z.aload_n dX5_readGoods_55 rfl ?_
      refine Z.getR (r := 21) dX5_readGoods_56 cl5 flX5_15 (by decide) (fx19 hF) rfl ?_
      refine Z.iload_n dX5_readGoods_59 rfl ?_
      refine Z.iload_n dX5_readGoods_60 rfl ?_
      refine Z.iast (j := K) (x := I 52 i) dX5_readGoods_61 (fx21 hF) rfl (by omega) (by decide) ?_
      refine Z.aload_n dX5_readGoods_62 rfl ?_
      refine Z.getR (r := 23) dX5_readGoods_63 cl5 flX5_21 (by decide) (fx19 hF) rfl ?_
      refine Z.iload_n dX5_readGoods_66 rfl ?_
      refine Z.iconst (v := 0) dX5_readGoods_67 (by decide) ?_
      refine Z.zast (j := K) (x := 0) dX5_readGoods_68 (fx23 hF) rfl (by omega) (by decide) ?_
      exact Z.vret dX5_readGoods_69 rfl ⟨rfl, (fun a ha => by simp [va_up, show ¬ a = 19 by omega, show ¬ a = 20 by omega, show ¬ a = 22 by omega, show ¬ a = 21 by omega, show ¬ a = 23 by omega]), ⟨K + 1, (VA_step hin hn4 hD hso hpw hm hd hA rfl (by rw [hk, if_neg (fun z => absurd z.1 (by decide))] <;> rfl) (by rw [hk, if_neg (fun z => absurd z.1 (by decide))] <;> rfl) (by rw [hk, if_neg (by decide)] <;> rfl) (by rw [hk, if_neg (by decide)] <;> rfl) (by rw [hk, if_neg (by decide)] <;> rfl) (by rw [hk, if_neg (by decide)] <;> rfl) (by rw [hk, if_pos (by decide)] <;> rfl) rfl (by omega)), (VB_gnew hi4 hso2 hm hd hk hpw.2.2.2 h0 hno1 hB)⟩, rfl⟩
    · exact Z.vret dX5_readGoods_25 rfl (False.elim (by omega))
  · refine Z.istore_n (L' := [.ref 19, .int (I 51 i), .int (I 52 i), .int (nI q1)]) dX5_readGoods_10 (Nat.le_of_ble_eq_true rfl) rfl ?_
    refine Z.iload_n dX5_readGoods_11 rfl ?_
    refine Z.iconst (v := (-1)) dX5_readGoods_12 (by decide) ?_
    refine Z.icmp_ne (tgt := 55) dX5_readGoods_13 (by decide) (fun h4 => ?_) (fun h4 => absurd h4 (nI_nm1 (by omega)))
    refine Z.aload_n dX5_readGoods_55 rfl ?_
    refine Z.getR (r := 21) dX5_readGoods_56 cl5 flX5_15 (by decide) (fx19 hF) rfl ?_
    refine Z.iload_n dX5_readGoods_59 rfl ?_
    refine Z.iload_n dX5_readGoods_60 rfl ?_
    refine Z.iast (j := q1) (x := I 52 i) dX5_readGoods_61 (fx21 hF) rfl (by omega) (by decide) ?_
    refine Z.aload_n dX5_readGoods_62 rfl ?_
    refine Z.getR (r := 23) dX5_readGoods_63 cl5 flX5_21 (by decide) (fx19 hF) rfl ?_
    refine Z.iload_n dX5_readGoods_66 rfl ?_
    refine Z.iconst (v := 0) dX5_readGoods_67 (by decide) ?_
    refine Z.zast (j := q1) (x := 0) dX5_readGoods_68 (fx23 hF) rfl (by omega) (by decide) ?_
    exact Z.vret dX5_readGoods_69 rfl ⟨rfl, (fun a ha => by simp [va_up, show ¬ a = 19 by omega, show ¬ a = 21 by omega, show ¬ a = 23 by omega]), ⟨K, (VA_step hin hn4 hD hso hpw hm hd hA rfl (by rw [hk, if_neg (fun z => absurd z.1 (by decide))] <;> rfl) (by rw [hk, if_neg (fun z => absurd z.1 (by decide))] <;> rfl) (by rw [hk, if_neg (by decide)] <;> rfl) (by rw [hk, if_neg (by decide)] <;> rfl) (by rw [hk, if_neg (by decide)] <;> rfl) (by rw [hk, if_neg (by decide)] <;> rfl) (by rw [hk, if_pos (by decide)] <;> rfl) (hA.2.2.2.2.2.2.2.2.1) (by omega)), (VB_gold hi4 hso2 hm hd hk hpw.2.2.2 h0 hq1 hg1 hB)⟩, rfl⟩

set_option maxHeartbeats 4000000 in
set_option maxRecDepth 100000 in
theorem cv_readGive19 {g : GP} {I J : IM} {S : SH} (hE : Ex I J)  {i n K : Nat} {m c t : Int32} (hF : Fx S) (hin : i < n) (hn4 : n ≤ 400) (hD : Dn I n) (hso : So I n) (hpw : PW I i) (hm : I 50 i = m) (hd : ¬ t < I 52 i) (hk : I 49 i = 3) (hA : VA I i m c t (J 19) K) (hB : VB I i m t (J 20) (J 21) (J 22) (J 23) K) : Z g 1 0 0 mX5_readGive 0 (enL mX5_readGive [.ref 19, .int (I 51 i), .int (I 52 i)]) [] J S (RQ19 I J S (i + 1) m c t) := by
  show Z g 1 0 0 mX5_readGive 0 [.ref 19, .int (I 51 i), .int (I 52 i), .retAddr 0] [] J S _
  have hi4 : i ≤ 400 := by omega
  have hK := hA.2.2.2.2.2.2.2.2.2
  have hcn1 := cntU_le (p := pM I i) (k := 1) (m := m) (t := t) i
  have hcn2 := cntU_le (p := pM I i) (k := 2) (m := m) (t := t) i
  have hkp : latF (pM I i) 3 m (I 51 i) t < latF (pM I i) 0 m (I 51 i) t := by have e := hpw.2.2.1 (by first | exact Or.inl hk | exact Or.inr hk); rw [hm] at e; rw [lat_dt (fun j hj => hso j i (by omega) hin) hd, lat_dt (fun j hj => hso j i (by omega) hin) hd]; exact e
  have hB_no : ¬ (∀ q, q < K → ¬ J 20 q = I 51 i) := fun z => by have e := VB_none hB hpw.2.2.2 z; have w := keep_no (fun a b => hD a (by omega)) hi4 e; rw [decide_eq_true hkp] at w; cases w
  refine Z.aload_n dX5_readGive_0 rfl ?_
  refine Z.iload_n dX5_readGive_1 rfl ?_
  refine Z.callVg (M := mX5_readGive) (pc := 2) (st := []) (N := mX5_find) (n := 1) dX5_readGive_2 mlX5_69 mkX5_find imX5_find seX5_find (fx19 hF) cl5 rfl (d1 := 0) (by decide) (As := [.int (I 51 i)]) rfl ⟨rfl, Nat.le_of_ble_eq_true rfl⟩ ⟨rfl, Nat.le_of_ble_eq_true rfl⟩ (cv_find19 (J := J) hE (I 51 i) hF (hA.2.2.2.2.2.2.2.2.1) (hA.2.2.2.2.2.2.2.2.2)) rfl (fun v_ J1 S_ h_ => ?_)
  obtain ⟨⟨k_, rfl, hk_⟩, rfl, rfl⟩ := h_
  rcases hk_ with ⟨rfl, hno1⟩ | ⟨q1, hq1, rfl, hg1⟩
  · refine Z.istore_n (L' := [.ref 19, .int (I 51 i), .int (I 52 i), .int ((-1))]) dX5_readGive_5 (Nat.le_of_ble_eq_true rfl) rfl ?_
    refine Z.iload_n dX5_readGive_6 rfl ?_
    refine Z.iconst (v := (-1)) dX5_readGive_7 (by decide) ?_
    refine Z.icmp_ne (tgt := 12) dX5_readGive_8 (by decide) (fun h2 => absurd h2 (by decide)) (fun h2 => ?_)
    exact Z.vret dX5_readGive_11 rfl (False.elim (hB_no hno1))
  · refine Z.istore_n (L' := [.ref 19, .int (I 51 i), .int (I 52 i), .int (nI q1)]) dX5_readGive_5 (Nat.le_of_ble_eq_true rfl) rfl ?_
    refine Z.iload_n dX5_readGive_6 rfl ?_
    refine Z.iconst (v := (-1)) dX5_readGive_7 (by decide) ?_
    refine Z.icmp_ne (tgt := 12) dX5_readGive_8 (by decide) (fun h3 => ?_) (fun h3 => absurd h3 (nI_nm1 (by omega)))
    refine Z.iload_n dX5_readGive_12 rfl ?_
    refine Z.aload_n dX5_readGive_13 rfl ?_
    refine Z.getIv (v := t) dX5_readGive_14 cl5 flX5_61 (by decide) (fx19 hF) hA.1 ?_
    refine Z.icmp_ne (tgt := 28) dX5_readGive_17 (by decide) (fun h4 => ?_) (fun h4 => ?_)
    · refine Z.aload_n dX5_readGive_28 rfl ?_
      refine Z.dupR dX5_readGive_29 ?_
      refine Z.getIv (v := nI K) dX5_readGive_30 cl5 flX5_68 (by decide) (fx19 hF) hA.2.2.2.2.2.2.2.2.1 ?_
      refine Z.iconst (v := 1) dX5_readGive_33 (by decide) ?_
      refine Z.isubN (a := K) (b := 1) (by omega) dX5_readGive_34 ?_
      refine Z.putI (x := nI (K - 1)) dX5_readGive_35 cl5 flX5_68 (by decide) ⟨rfl, rfl⟩ (fx19 hF) ?_
      refine Z.aload_n dX5_readGive_38 rfl ?_
      refine Z.getR (r := 20) dX5_readGive_39 cl5 flX5_11 (by decide) (fx19 hF) rfl ?_
      refine Z.iload_n dX5_readGive_42 rfl ?_
      refine Z.aload_n dX5_readGive_43 rfl ?_
      refine Z.getR (r := 20) dX5_readGive_44 cl5 flX5_11 (by decide) (fx19 hF) rfl ?_
      refine Z.aload_n dX5_readGive_47 rfl ?_
      refine Z.getIv (v := nI (K - 1)) dX5_readGive_48 cl5 flX5_68 (by decide) (fx19 hF) rfl ?_
      refine Z.ialdv (j := K - 1) (v := J 20 (K - 1)) dX5_readGive_51 (fx20 hF) rfl (by omega) (by decide) rfl ?_
      refine Z.iast (j := q1) (x := J 20 (K - 1)) dX5_readGive_52 (fx20 hF) rfl (by omega) (by decide) ?_
      refine Z.aload_n dX5_readGive_53 rfl ?_
      refine Z.getR (r := 21) dX5_readGive_54 cl5 flX5_15 (by decide) (fx19 hF) rfl ?_
      refine Z.iload_n dX5_readGive_57 rfl ?_
      refine Z.aload_n dX5_readGive_58 rfl ?_
      refine Z.getR (r := 21) dX5_readGive_59 cl5 flX5_15 (by decide) (fx19 hF) rfl ?_
      refine Z.aload_n dX5_readGive_62 rfl ?_
      refine Z.getIv (v := nI (K - 1)) dX5_readGive_63 cl5 flX5_68 (by decide) (fx19 hF) rfl ?_
      refine Z.ialdv (j := K - 1) (v := J 21 (K - 1)) dX5_readGive_66 (fx21 hF) rfl (by omega) (by decide) rfl ?_
      refine Z.iast (j := q1) (x := J 21 (K - 1)) dX5_readGive_67 (fx21 hF) rfl (by omega) (by decide) ?_
      refine Z.aload_n dX5_readGive_68 rfl ?_
      refine Z.getR (r := 22) dX5_readGive_69 cl5 flX5_18 (by decide) (fx19 hF) rfl ?_
      refine Z.iload_n dX5_readGive_72 rfl ?_
      refine Z.aload_n dX5_readGive_73 rfl ?_
      refine Z.getR (r := 22) dX5_readGive_74 cl5 flX5_18 (by decide) (fx19 hF) rfl ?_
      refine Z.aload_n dX5_readGive_77 rfl ?_
      refine Z.getIv (v := nI (K - 1)) dX5_readGive_78 cl5 flX5_68 (by decide) (fx19 hF) rfl ?_
      refine Z.ialdv (j := K - 1) (v := J 22 (K - 1)) dX5_readGive_81 (fx22 hF) rfl (by omega) (by decide) rfl ?_
      refine Z.iast (j := q1) (x := J 22 (K - 1)) dX5_readGive_82 (fx22 hF) rfl (by omega) (by decide) ?_
      refine Z.aload_n dX5_readGive_83 rfl ?_
      refine Z.getR (r := 23) dX5_readGive_84 cl5 flX5_21 (by decide) (fx19 hF) rfl ?_
      refine Z.iload_n dX5_readGive_87 rfl ?_
      refine Z.aload_n dX5_readGive_88 rfl ?_
      refine Z.getR (r := 23) dX5_readGive_89 cl5 flX5_21 (by decide) (fx19 hF) rfl ?_
      refine Z.aload_n dX5_readGive_92 rfl ?_
      refine Z.getIv (v := nI (K - 1)) dX5_readGive_93 cl5 flX5_68 (by decide) (fx19 hF) rfl ?_
      refine Z.zaldv (j := K - 1) (v := J 23 (K - 1)) dX5_readGive_96 (fx23 hF) rfl (by omega) (by decide) rfl ?_
      refine Z.zast (j := q1) (x := J 23 (K - 1)) dX5_readGive_97 (fx23 hF) rfl (by omega) (by decide) ?_
      exact Z.vret dX5_readGive_98 rfl ⟨rfl, (fun a ha => by simp [va_up, show ¬ a = 19 by omega, show ¬ a = 20 by omega, show ¬ a = 21 by omega, show ¬ a = 22 by omega, show ¬ a = 23 by omega]), ⟨K - 1, (VA_step hin hn4 hD hso hpw hm hd hA rfl (by rw [hk, if_neg (fun z => absurd z.1 (by decide))] <;> rfl) (by rw [hk, if_neg (fun z => absurd z.1 (by decide))] <;> rfl) (by rw [hk, if_neg (by decide)] <;> rfl) (by rw [hk, if_neg (by decide)] <;> rfl) (by rw [hk, if_neg (by decide)] <;> rfl) (by rw [hk, if_neg (by decide)] <;> rfl) (by rw [hk, if_neg (by decide)] <;> rfl) rfl (by omega)), (by have e := VB_grm hi4 hm hd h4 hk hq1 hg1 hB; rw [show upd (J 23) q1 (J 23 (K - 1)) = upd (J 23) q1 (J 23 (K - 1) &&& 1) by rw [(hB.1 (K - 1) (by omega)).2.2.2.2, bI_a1]] at e; exact e)⟩, rfl⟩
    · refine Z.aload_n dX5_readGive_20 rfl ?_
      refine Z.getR (r := 23) dX5_readGive_21 cl5 flX5_21 (by decide) (fx19 hF) rfl ?_
      refine Z.iload_n dX5_readGive_24 rfl ?_
      refine Z.iconst (v := 1) dX5_readGive_25 (by decide) ?_
      refine Z.zast (j := q1) (x := 1) dX5_readGive_26 (fx23 hF) rfl (by omega) (by decide) ?_
      exact Z.vret dX5_readGive_27 rfl ⟨rfl, (fun a ha => by simp [va_up, show ¬ a = 23 by omega]), ⟨K, (VA_step hin hn4 hD hso hpw hm hd hA rfl (by rw [hk, if_neg (fun z => absurd z.1 (by decide))] <;> rfl) (by rw [hk, if_neg (fun z => absurd z.1 (by decide))] <;> rfl) (by rw [hk, if_neg (by decide)] <;> rfl) (by rw [hk, if_neg (by decide)] <;> rfl) (by rw [hk, if_neg (by decide)] <;> rfl) (by rw [hk, if_neg (by decide)] <;> rfl) (by rw [hk, if_neg (by decide)] <;> rfl) (hA.2.2.2.2.2.2.2.2.1) (by omega)), (VB_gday hi4 hm h4 hk hkp hq1 hg1 hB)⟩, rfl⟩

set_option maxHeartbeats 4000000 in
set_option maxRecDepth 100000 in
theorem cv_readUse19 {g : GP} {I J : IM} {S : SH} (hE : Ex I J)  {i n K : Nat} {m c t : Int32} (hF : Fx S) (hin : i < n) (hn4 : n ≤ 400) (hD : Dn I n) (hso : So I n) (hpw : PW I i) (hm : I 50 i = m) (hd : ¬ t < I 52 i) (hk : I 49 i = 6) (hA : VA I i m c t (J 19) K) (hB : VB I i m t (J 20) (J 21) (J 22) (J 23) K) : Z g 1 0 0 mX5_readUse 0 (enL mX5_readUse [.ref 19, .int (I 51 i), .int (I 52 i)]) [] J S (RQ19 I J S (i + 1) m c t) := by
  show Z g 1 0 0 mX5_readUse 0 [.ref 19, .int (I 51 i), .int (I 52 i), .retAddr 0] [] J S _
  have hi4 : i ≤ 400 := by omega
  have hK := hA.2.2.2.2.2.2.2.2.2
  have hcn1 := cntU_le (p := pM I i) (k := 1) (m := m) (t := t) i
  have hcn2 := cntU_le (p := pM I i) (k := 2) (m := m) (t := t) i
  have hkp : latF (pM I i) 3 m (I 51 i) t < latF (pM I i) 0 m (I 51 i) t := by have e := hpw.2.2.1 (by first | exact Or.inl hk | exact Or.inr hk); rw [hm] at e; rw [lat_dt (fun j hj => hso j i (by omega) hin) hd, lat_dt (fun j hj => hso j i (by omega) hin) hd]; exact e
  have hB_no : ¬ (∀ q, q < K → ¬ J 20 q = I 51 i) := fun z => by have e := VB_none hB hpw.2.2.2 z; have w := keep_no (fun a b => hD a (by omega)) hi4 e; rw [decide_eq_true hkp] at w; cases w
  refine Z.aload_n dX5_readUse_0 rfl ?_
  refine Z.iload_n dX5_readUse_1 rfl ?_
  refine Z.callVg (M := mX5_readUse) (pc := 2) (st := []) (N := mX5_find) (n := 1) dX5_readUse_2 mlX5_69 mkX5_find imX5_find seX5_find (fx19 hF) cl5 rfl (d1 := 0) (by decide) (As := [.int (I 51 i)]) rfl ⟨rfl, Nat.le_of_ble_eq_true rfl⟩ ⟨rfl, Nat.le_of_ble_eq_true rfl⟩ (cv_find19 (J := J) hE (I 51 i) hF (hA.2.2.2.2.2.2.2.2.1) (hA.2.2.2.2.2.2.2.2.2)) rfl (fun v_ J1 S_ h_ => ?_)
  obtain ⟨⟨k_, rfl, hk_⟩, rfl, rfl⟩ := h_
  rcases hk_ with ⟨rfl, hno1⟩ | ⟨q1, hq1, rfl, hg1⟩
  · refine Z.istore_n (L' := [.ref 19, .int (I 51 i), .int (I 52 i), .int ((-1))]) dX5_readUse_5 (Nat.le_of_ble_eq_true rfl) rfl ?_
    refine Z.iload_n dX5_readUse_6 rfl ?_
    refine Z.iconst (v := (-1)) dX5_readUse_7 (by decide) ?_
    refine Z.icmp_eq (tgt := 18) dX5_readUse_8 (by decide) (fun h2 => ?_) (fun h2 => absurd h2 (by decide))
    exact Z.vret dX5_readUse_18 rfl (False.elim (hB_no hno1))
  · refine Z.istore_n (L' := [.ref 19, .int (I 51 i), .int (I 52 i), .int (nI q1)]) dX5_readUse_5 (Nat.le_of_ble_eq_true rfl) rfl ?_
    refine Z.iload_n dX5_readUse_6 rfl ?_
    refine Z.iconst (v := (-1)) dX5_readUse_7 (by decide) ?_
    refine Z.icmp_eq (tgt := 18) dX5_readUse_8 (by decide) (fun h3 => absurd h3 (nI_nm1 (by omega))) (fun h3 => ?_)
    refine Z.aload_n dX5_readUse_11 rfl ?_
    refine Z.getR (r := 22) dX5_readUse_12 cl5 flX5_18 (by decide) (fx19 hF) rfl ?_
    refine Z.iload_n dX5_readUse_15 rfl ?_
    refine Z.iload_n dX5_readUse_16 rfl ?_
    refine Z.iast (j := q1) (x := I 52 i) dX5_readUse_17 (fx22 hF) rfl (by omega) (by decide) ?_
    exact Z.vret dX5_readUse_18 rfl ⟨rfl, (fun a ha => by simp [va_up, show ¬ a = 22 by omega]), ⟨K, (VA_step hin hn4 hD hso hpw hm hd hA rfl (by rw [hk, if_neg (fun z => absurd z.1 (by decide))] <;> rfl) (by rw [hk, if_neg (fun z => absurd z.1 (by decide))] <;> rfl) (by rw [hk, if_neg (by decide)] <;> rfl) (by rw [hk, if_neg (by decide)] <;> rfl) (by rw [hk, if_neg (by decide)] <;> rfl) (by rw [hk, if_neg (by decide)] <;> rfl) (by rw [hk, if_neg (by decide)] <;> rfl) (hA.2.2.2.2.2.2.2.2.1) (by omega)), (VB_use hi4 hm hd hk hq1 hg1 hB)⟩, rfl⟩

set_option maxHeartbeats 4000000 in
set_option maxRecDepth 100000 in
theorem cv_readEnter19 {g : GP} {I J : IM} {S : SH} (hE : Ex I J)  {i n K : Nat} {m c t : Int32} (hF : Fx S) (hin : i < n) (hn4 : n ≤ 400) (hD : Dn I n) (hso : So I n) (hpw : PW I i) (hm : I 50 i = m) (hd : ¬ t < I 52 i) (hk : I 49 i = 1) (hA : VA I i m c t (J 19) K) (hB : VB I i m t (J 20) (J 21) (J 22) (J 23) K) : Z g 0 0 0 mX5_readEnter 0 (enL mX5_readEnter [.ref 19, .int (I 51 i), .int (I 52 i), .int c]) [] J S (RQ19 I J S (i + 1) m c t) := by
  show Z g 0 0 0 mX5_readEnter 0 [.ref 19, .int (I 51 i), .int (I 52 i), .int c] [] J S _
  have hi4 : i ≤ 400 := by omega
  have hK := hA.2.2.2.2.2.2.2.2.2
  have hcn1 := cntU_le (p := pM I i) (k := 1) (m := m) (t := t) i
  have hcn2 := cntU_le (p := pM I i) (k := 2) (m := m) (t := t) i
  refine Z.aload_n dX5_readEnter_0 rfl ?_
  refine Z.dupR dX5_readEnter_1 ?_
  refine Z.getIv (v := nI (cntF (pM I i) 1 m t)) dX5_readEnter_2 cl5 flX5_100 (by decide) (fx19 hF) hA.2.2.2.1 ?_
  refine Z.iconst (v := 1) dX5_readEnter_5 (by decide) ?_
  refine Z.iaddN (a := cntF (pM I i) 1 m t) (b := 1) dX5_readEnter_6 ?_
  refine Z.putI (x := nI ((cntF (pM I i) 1 m t) + 1)) dX5_readEnter_7 cl5 flX5_100 (by decide) ⟨rfl, rfl⟩ (fx19 hF) ?_
  refine Z.aload_n dX5_readEnter_10 rfl ?_
  refine Z.getIv (v := J 19 1) dX5_readEnter_11 cl5 flX5_51 (by decide) (fx19 hF) rfl ?_
  refine Z.iconst (v := (-1)) dX5_readEnter_14 (by decide) ?_
  refine Z.icmp_ne (tgt := 23) dX5_readEnter_15 (by decide) (fun h1 => ?_) (fun h1 => ?_)
  · refine Z.iload_n dX5_readEnter_23 rfl ?_
    refine Z.iload_n dX5_readEnter_24 rfl ?_
    refine Z.icmp_ne (tgt := 33) dX5_readEnter_25 (by decide) (fun h2 => ?_) (fun h2 => ?_)
    · exact Z.vret dX5_readEnter_33 rfl ⟨rfl, (fun a ha => by simp [va_up, show ¬ a = 19 by omega]), ⟨K, (VA_step hin hn4 hD hso hpw hm hd hA rfl (by rw [if_neg (fun z => h1 z.2)]; rfl) (by rw [if_neg (fun z => h2 z.2)]; rfl) (by rw [hk, if_pos (by decide)] <;> rfl) (by rw [hk, if_neg (by decide)] <;> rfl) (by rw [hk, if_neg (by decide)] <;> rfl) (by rw [hk, if_neg (by decide)] <;> rfl) (by rw [hk, if_neg (by decide)] <;> rfl) (hA.2.2.2.2.2.2.2.2.1) (by omega)), (VB_oth hm hd (by rw [hk]; decide) (by rw [hk]; decide) (by rw [hk]; decide) hB)⟩, rfl⟩
    · refine Z.aload_n dX5_readEnter_28 rfl ?_
      refine Z.iload_n dX5_readEnter_29 rfl ?_
      refine Z.putI (x := I 52 i) dX5_readEnter_30 cl5 flX5_77 (by decide) ⟨rfl, rfl⟩ (fx19 hF) ?_
      refine Z.eqI (bx_uu _ _ _ _) ?_
      exact Z.vret dX5_readEnter_33 rfl ⟨rfl, (fun a ha => by simp [va_up, show ¬ a = 19 by omega]), ⟨K, (VA_step hin hn4 hD hso hpw hm hd hA rfl (by rw [if_neg (fun z => h1 z.2)]; rfl) (by rw [if_pos ⟨hk, h2⟩]; rfl) (by rw [hk, if_pos (by decide)] <;> rfl) (by rw [hk, if_neg (by decide)] <;> rfl) (by rw [hk, if_neg (by decide)] <;> rfl) (by rw [hk, if_neg (by decide)] <;> rfl) (by rw [hk, if_neg (by decide)] <;> rfl) (hA.2.2.2.2.2.2.2.2.1) (by omega)), (VB_oth hm hd (by rw [hk]; decide) (by rw [hk]; decide) (by rw [hk]; decide) hB)⟩, rfl⟩
  · refine Z.aload_n dX5_readEnter_18 rfl ?_
    refine Z.iload_n dX5_readEnter_19 rfl ?_
    refine Z.putI (x := I 52 i) dX5_readEnter_20 cl5 flX5_51 (by decide) ⟨rfl, rfl⟩ (fx19 hF) ?_
    refine Z.eqI (bx_uu _ _ _ _) ?_
    refine Z.iload_n dX5_readEnter_23 rfl ?_
    refine Z.iload_n dX5_readEnter_24 rfl ?_
    refine Z.icmp_ne (tgt := 33) dX5_readEnter_25 (by decide) (fun h3 => ?_) (fun h3 => ?_)
    · exact Z.vret dX5_readEnter_33 rfl ⟨rfl, (fun a ha => by simp [va_up, show ¬ a = 19 by omega]), ⟨K, (VA_step hin hn4 hD hso hpw hm hd hA rfl (by rw [if_pos ⟨hk, h1⟩]; rfl) (by rw [if_neg (fun z => h3 z.2)]; rfl) (by rw [hk, if_pos (by decide)] <;> rfl) (by rw [hk, if_neg (by decide)] <;> rfl) (by rw [hk, if_neg (by decide)] <;> rfl) (by rw [hk, if_neg (by decide)] <;> rfl) (by rw [hk, if_neg (by decide)] <;> rfl) (hA.2.2.2.2.2.2.2.2.1) (by omega)), (VB_oth hm hd (by rw [hk]; decide) (by rw [hk]; decide) (by rw [hk]; decide) hB)⟩, rfl⟩
    · refine Z.aload_n dX5_readEnter_28 rfl ?_
      refine Z.iload_n dX5_readEnter_29 rfl ?_
      refine Z.putI (x := I 52 i) dX5_readEnter_30 cl5 flX5_77 (by decide) ⟨rfl, rfl⟩ (fx19 hF) ?_
      refine Z.eqI (bx_uu _ _ _ _) ?_
      exact Z.vret dX5_readEnter_33 rfl ⟨rfl, (fun a ha => by simp [va_up, show ¬ a = 19 by omega]), ⟨K, (VA_step hin hn4 hD hso hpw hm hd hA rfl (by rw [if_pos ⟨hk, h1⟩]; rfl) (by rw [if_pos ⟨hk, h3⟩]; rfl) (by rw [hk, if_pos (by decide)] <;> rfl) (by rw [hk, if_neg (by decide)] <;> rfl) (by rw [hk, if_neg (by decide)] <;> rfl) (by rw [hk, if_neg (by decide)] <;> rfl) (by rw [hk, if_neg (by decide)] <;> rfl) (hA.2.2.2.2.2.2.2.2.1) (by omega)), (VB_oth hm hd (by rw [hk]; decide) (by rw [hk]; decide) (by rw [hk]; decide) hB)⟩, rfl⟩

set_option maxHeartbeats 4000000 in
set_option maxRecDepth 100000 in
theorem cv_readGoods24 {g : GP} {I J : IM} {S : SH} (hE : Ex I J)  {i n K : Nat} {m c t : Int32} (hF : Fx S) (hin : i < n) (hn4 : n ≤ 400) (hD : Dn I n) (hso : So I n) (hpw : PW I i) (hm : I 50 i = m) (hd : ¬ t < I 52 i) (hk : I 49 i = 0) (hA : VA I i m c t (J 24) K) (hB : VB I i m t (J 25) (J 26) (J 27) (J 28) K) : Z g 1 0 0 mX5_readGoods 0 (enL mX5_readGoods [.ref 24, .int (I 51 i), .int (I 52 i)]) [] J S (RQ24 I J S (i + 1) m c t) := by
  show Z g 1 0 0 mX5_readGoods 0 [.ref 24, .int (I 51 i), .int (I 52 i), .retAddr 0] [] J S _
  have hi4 : i ≤ 400 := by omega
  have hK := hA.2.2.2.2.2.2.2.2.2
  have hcn1 := cntU_le (p := pM I i) (k := 1) (m := m) (t := t) i
  have hcn2 := cntU_le (p := pM I i) (k := 2) (m := m) (t := t) i
  have h0 := hD i hin
  have hso2 : So I (i + 1) := fun a b h1 h2 => hso a b h1 (by omega)
  refine Z.aload_n dX5_readGoods_0 rfl ?_
  refine Z.iconst (v := 1) dX5_readGoods_1 (by decide) ?_
  refine Z.putI (x := 1) dX5_readGoods_2 cl5 flX5_106 (by decide) ⟨by decide, by decide⟩ (fx24 hF) ?_
  refine Z.aload_n dX5_readGoods_5 rfl ?_
  refine Z.iload_n dX5_readGoods_6 rfl ?_
  refine Z.callVg (M := mX5_readGoods) (pc := 7) (st := []) (N := mX5_find) (n := 1) dX5_readGoods_7 mlX5_69 mkX5_find imX5_find seX5_find (fx24 hF) cl5 rfl (d1 := 0) (by decide) (As := [.int (I 51 i)]) rfl ⟨rfl, Nat.le_of_ble_eq_true rfl⟩ ⟨rfl, Nat.le_of_ble_eq_true rfl⟩ (cv_find24 (J := (va_up J 24 (upd (J 24) 7 (1)))) (hE.up (a := 24) rfl) (I 51 i) hF (hA.2.2.2.2.2.2.2.2.1) (hA.2.2.2.2.2.2.2.2.2)) rfl (fun v_ J1 S_ h_ => ?_)
  obtain ⟨⟨k_, rfl, hk_⟩, rfl, rfl⟩ := h_
  rcases hk_ with ⟨rfl, hno1⟩ | ⟨q1, hq1, rfl, hg1⟩
  · refine Z.istore_n (L' := [.ref 24, .int (I 51 i), .int (I 52 i), .int ((-1))]) dX5_readGoods_10 (Nat.le_of_ble_eq_true rfl) rfl ?_
    refine Z.iload_n dX5_readGoods_11 rfl ?_
    refine Z.iconst (v := (-1)) dX5_readGoods_12 (by decide) ?_
    refine Z.icmp_ne (tgt := 55) dX5_readGoods_13 (by decide) (fun h2 => absurd h2 (by decide)) (fun h2 => ?_)
    have hroom : K < 20 := VB_room hin hn4 hD hso hm hd (hm ▸ hpw.1 hk) hB
    refine Z.aload_n dX5_readGoods_16 rfl ?_
    refine Z.getIv (v := nI K) dX5_readGoods_17 cl5 flX5_68 (by decide) (fx24 hF) hA.2.2.2.2.2.2.2.2.1 ?_
    refine Z.bipush (v := 20) dX5_readGoods_20 (by decide) ?_
    refine Z.icmp_ltN (a := K) (b := 20) (by omega) (by decide) (tgt := 26) dX5_readGoods_22 (by decide) (fun h3 => ?_) (fun h3 => ?_)
    · refine Z.aload_n dX5_readGoods_26 rfl ?_
      refine Z.getIv (v := nI K) dX5_readGoods_27 cl5 flX5_68 (by decide) (fx24 hF) hA.2.2.2.2.2.2.2.2.1 ?_
      refine Z.istore_n (L' := [.ref 24, .int (I 51 i), .int (I 52 i), .int (nI K)]) dX5_readGoods_30 (Nat.le_of_ble_eq_true rfl) rfl ?_
      refine Z.aload_n dX5_readGoods_31 rfl ?_
      refine Z.dupR dX5_readGoods_32 ?_
      refine Z.getIv (v := nI K) dX5_readGoods_33 cl5 flX5_68 (by decide) (fx24 hF) hA.2.2.2.2.2.2.2.2.1 ?_
      refine Z.iconst (v := 1) dX5_readGoods_36 (by decide) ?_
      refine Z.iaddN (a := K) (b := 1) dX5_readGoods_37 ?_
      refine Z.putI (x := nI (K + 1)) dX5_readGoods_38 cl5 flX5_68 (by decide) ⟨rfl, rfl⟩ (fx24 hF) ?_
      refine Z.eqI (bx_uu _ _ _ _) ?_
      refine Z.aload_n dX5_readGoods_41 rfl ?_
      refine Z.getR (r := 25) dX5_readGoods_42 cl5 flX5_11 (by decide) (fx24 hF) rfl ?_
      refine Z.iload_n dX5_readGoods_45 rfl ?_
      refine Z.iload_n dX5_readGoods_46 rfl ?_
      refine Z.iast (j := K) (x := I 51 i) dX5_readGoods_47 (fx25 hF) rfl (by omega) (by decide) ?_
      refine Z.aload_n dX5_readGoods_48 rfl ?_
      refine Z.getR (r := 27) dX5_readGoods_49 cl5 flX5_18 (by decide) (fx24 hF) rfl ?_
      refine Z.iload_n dX5_readGoods_52 rfl ?_
      refine Z.iconst (v := (-1)) dX5_readGoods_53 (by decide) ?_
      refine Z.iast (j := K) (x := (-1)) dX5_readGoods_54 (fx27 hF) rfl (by omega) (by decide) ?_
      refine Z.aload_n dX5_readGoods_55 rfl ?_
      refine Z.getR (r := 26) dX5_readGoods_56 cl5 flX5_15 (by decide) (fx24 hF) rfl ?_
      refine Z.iload_n dX5_readGoods_59 rfl ?_
      refine Z.iload_n dX5_readGoods_60 rfl ?_
      refine Z.iast (j := K) (x := I 52 i) dX5_readGoods_61 (fx26 hF) rfl (by omega) (by decide) ?_
      refine Z.aload_n dX5_readGoods_62 rfl ?_
      refine Z.getR (r := 28) dX5_readGoods_63 cl5 flX5_21 (by decide) (fx24 hF) rfl ?_
      refine Z.iload_n dX5_readGoods_66 rfl ?_
      refine Z.iconst (v := 0) dX5_readGoods_67 (by decide) ?_
      refine Z.zast (j := K) (x := 0) dX5_readGoods_68 (fx28 hF) rfl (by omega) (by decide) ?_
      exact Z.vret dX5_readGoods_69 rfl ⟨rfl, (fun a ha => by simp [va_up, show ¬ a = 24 by omega, show ¬ a = 25 by omega, show ¬ a = 27 by omega, show ¬ a = 26 by omega, show ¬ a = 28 by omega]), ⟨K + 1, (VA_step hin hn4 hD hso hpw hm hd hA rfl (by rw [hk, if_neg (fun z => absurd z.1 (by decide))] <;> rfl) (by rw [hk, if_neg (fun z => absurd z.1 (by decide))] <;> rfl) (by rw [hk, if_neg (by decide)] <;> rfl) (by rw [hk, if_neg (by decide)] <;> rfl) (by rw [hk, if_neg (by decide)] <;> rfl) (by rw [hk, if_neg (by decide)] <;> rfl) (by rw [hk, if_pos (by decide)] <;> rfl) rfl (by omega)), (VB_gnew hi4 hso2 hm hd hk hpw.2.2.2 h0 hno1 hB)⟩, rfl⟩
    · exact Z.vret dX5_readGoods_25 rfl (False.elim (by omega))
  · refine Z.istore_n (L' := [.ref 24, .int (I 51 i), .int (I 52 i), .int (nI q1)]) dX5_readGoods_10 (Nat.le_of_ble_eq_true rfl) rfl ?_
    refine Z.iload_n dX5_readGoods_11 rfl ?_
    refine Z.iconst (v := (-1)) dX5_readGoods_12 (by decide) ?_
    refine Z.icmp_ne (tgt := 55) dX5_readGoods_13 (by decide) (fun h4 => ?_) (fun h4 => absurd h4 (nI_nm1 (by omega)))
    refine Z.aload_n dX5_readGoods_55 rfl ?_
    refine Z.getR (r := 26) dX5_readGoods_56 cl5 flX5_15 (by decide) (fx24 hF) rfl ?_
    refine Z.iload_n dX5_readGoods_59 rfl ?_
    refine Z.iload_n dX5_readGoods_60 rfl ?_
    refine Z.iast (j := q1) (x := I 52 i) dX5_readGoods_61 (fx26 hF) rfl (by omega) (by decide) ?_
    refine Z.aload_n dX5_readGoods_62 rfl ?_
    refine Z.getR (r := 28) dX5_readGoods_63 cl5 flX5_21 (by decide) (fx24 hF) rfl ?_
    refine Z.iload_n dX5_readGoods_66 rfl ?_
    refine Z.iconst (v := 0) dX5_readGoods_67 (by decide) ?_
    refine Z.zast (j := q1) (x := 0) dX5_readGoods_68 (fx28 hF) rfl (by omega) (by decide) ?_
    exact Z.vret dX5_readGoods_69 rfl ⟨rfl, (fun a ha => by simp [va_up, show ¬ a = 24 by omega, show ¬ a = 26 by omega, show ¬ a = 28 by omega]), ⟨K, (VA_step hin hn4 hD hso hpw hm hd hA rfl (by rw [hk, if_neg (fun z => absurd z.1 (by decide))] <;> rfl) (by rw [hk, if_neg (fun z => absurd z.1 (by decide))] <;> rfl) (by rw [hk, if_neg (by decide)] <;> rfl) (by rw [hk, if_neg (by decide)] <;> rfl) (by rw [hk, if_neg (by decide)] <;> rfl) (by rw [hk, if_neg (by decide)] <;> rfl) (by rw [hk, if_pos (by decide)] <;> rfl) (hA.2.2.2.2.2.2.2.2.1) (by omega)), (VB_gold hi4 hso2 hm hd hk hpw.2.2.2 h0 hq1 hg1 hB)⟩, rfl⟩

set_option maxHeartbeats 4000000 in
set_option maxRecDepth 100000 in
theorem cv_readGive24 {g : GP} {I J : IM} {S : SH} (hE : Ex I J)  {i n K : Nat} {m c t : Int32} (hF : Fx S) (hin : i < n) (hn4 : n ≤ 400) (hD : Dn I n) (hso : So I n) (hpw : PW I i) (hm : I 50 i = m) (hd : ¬ t < I 52 i) (hk : I 49 i = 3) (hA : VA I i m c t (J 24) K) (hB : VB I i m t (J 25) (J 26) (J 27) (J 28) K) : Z g 1 0 0 mX5_readGive 0 (enL mX5_readGive [.ref 24, .int (I 51 i), .int (I 52 i)]) [] J S (RQ24 I J S (i + 1) m c t) := by
  show Z g 1 0 0 mX5_readGive 0 [.ref 24, .int (I 51 i), .int (I 52 i), .retAddr 0] [] J S _
  have hi4 : i ≤ 400 := by omega
  have hK := hA.2.2.2.2.2.2.2.2.2
  have hcn1 := cntU_le (p := pM I i) (k := 1) (m := m) (t := t) i
  have hcn2 := cntU_le (p := pM I i) (k := 2) (m := m) (t := t) i
  have hkp : latF (pM I i) 3 m (I 51 i) t < latF (pM I i) 0 m (I 51 i) t := by have e := hpw.2.2.1 (by first | exact Or.inl hk | exact Or.inr hk); rw [hm] at e; rw [lat_dt (fun j hj => hso j i (by omega) hin) hd, lat_dt (fun j hj => hso j i (by omega) hin) hd]; exact e
  have hB_no : ¬ (∀ q, q < K → ¬ J 25 q = I 51 i) := fun z => by have e := VB_none hB hpw.2.2.2 z; have w := keep_no (fun a b => hD a (by omega)) hi4 e; rw [decide_eq_true hkp] at w; cases w
  refine Z.aload_n dX5_readGive_0 rfl ?_
  refine Z.iload_n dX5_readGive_1 rfl ?_
  refine Z.callVg (M := mX5_readGive) (pc := 2) (st := []) (N := mX5_find) (n := 1) dX5_readGive_2 mlX5_69 mkX5_find imX5_find seX5_find (fx24 hF) cl5 rfl (d1 := 0) (by decide) (As := [.int (I 51 i)]) rfl ⟨rfl, Nat.le_of_ble_eq_true rfl⟩ ⟨rfl, Nat.le_of_ble_eq_true rfl⟩ (cv_find24 (J := J) hE (I 51 i) hF (hA.2.2.2.2.2.2.2.2.1) (hA.2.2.2.2.2.2.2.2.2)) rfl (fun v_ J1 S_ h_ => ?_)
  obtain ⟨⟨k_, rfl, hk_⟩, rfl, rfl⟩ := h_
  rcases hk_ with ⟨rfl, hno1⟩ | ⟨q1, hq1, rfl, hg1⟩
  · refine Z.istore_n (L' := [.ref 24, .int (I 51 i), .int (I 52 i), .int ((-1))]) dX5_readGive_5 (Nat.le_of_ble_eq_true rfl) rfl ?_
    refine Z.iload_n dX5_readGive_6 rfl ?_
    refine Z.iconst (v := (-1)) dX5_readGive_7 (by decide) ?_
    refine Z.icmp_ne (tgt := 12) dX5_readGive_8 (by decide) (fun h2 => absurd h2 (by decide)) (fun h2 => ?_)
    exact Z.vret dX5_readGive_11 rfl (False.elim (hB_no hno1))
  · refine Z.istore_n (L' := [.ref 24, .int (I 51 i), .int (I 52 i), .int (nI q1)]) dX5_readGive_5 (Nat.le_of_ble_eq_true rfl) rfl ?_
    refine Z.iload_n dX5_readGive_6 rfl ?_
    refine Z.iconst (v := (-1)) dX5_readGive_7 (by decide) ?_
    refine Z.icmp_ne (tgt := 12) dX5_readGive_8 (by decide) (fun h3 => ?_) (fun h3 => absurd h3 (nI_nm1 (by omega)))
    refine Z.iload_n dX5_readGive_12 rfl ?_
    refine Z.aload_n dX5_readGive_13 rfl ?_
    refine Z.getIv (v := t) dX5_readGive_14 cl5 flX5_61 (by decide) (fx24 hF) hA.1 ?_
    refine Z.icmp_ne (tgt := 28) dX5_readGive_17 (by decide) (fun h4 => ?_) (fun h4 => ?_)
    · refine Z.aload_n dX5_readGive_28 rfl ?_
      refine Z.dupR dX5_readGive_29 ?_
      refine Z.getIv (v := nI K) dX5_readGive_30 cl5 flX5_68 (by decide) (fx24 hF) hA.2.2.2.2.2.2.2.2.1 ?_
      refine Z.iconst (v := 1) dX5_readGive_33 (by decide) ?_
      refine Z.isubN (a := K) (b := 1) (by omega) dX5_readGive_34 ?_
      refine Z.putI (x := nI (K - 1)) dX5_readGive_35 cl5 flX5_68 (by decide) ⟨rfl, rfl⟩ (fx24 hF) ?_
      refine Z.aload_n dX5_readGive_38 rfl ?_
      refine Z.getR (r := 25) dX5_readGive_39 cl5 flX5_11 (by decide) (fx24 hF) rfl ?_
      refine Z.iload_n dX5_readGive_42 rfl ?_
      refine Z.aload_n dX5_readGive_43 rfl ?_
      refine Z.getR (r := 25) dX5_readGive_44 cl5 flX5_11 (by decide) (fx24 hF) rfl ?_
      refine Z.aload_n dX5_readGive_47 rfl ?_
      refine Z.getIv (v := nI (K - 1)) dX5_readGive_48 cl5 flX5_68 (by decide) (fx24 hF) rfl ?_
      refine Z.ialdv (j := K - 1) (v := J 25 (K - 1)) dX5_readGive_51 (fx25 hF) rfl (by omega) (by decide) rfl ?_
      refine Z.iast (j := q1) (x := J 25 (K - 1)) dX5_readGive_52 (fx25 hF) rfl (by omega) (by decide) ?_
      refine Z.aload_n dX5_readGive_53 rfl ?_
      refine Z.getR (r := 26) dX5_readGive_54 cl5 flX5_15 (by decide) (fx24 hF) rfl ?_
      refine Z.iload_n dX5_readGive_57 rfl ?_
      refine Z.aload_n dX5_readGive_58 rfl ?_
      refine Z.getR (r := 26) dX5_readGive_59 cl5 flX5_15 (by decide) (fx24 hF) rfl ?_
      refine Z.aload_n dX5_readGive_62 rfl ?_
      refine Z.getIv (v := nI (K - 1)) dX5_readGive_63 cl5 flX5_68 (by decide) (fx24 hF) rfl ?_
      refine Z.ialdv (j := K - 1) (v := J 26 (K - 1)) dX5_readGive_66 (fx26 hF) rfl (by omega) (by decide) rfl ?_
      refine Z.iast (j := q1) (x := J 26 (K - 1)) dX5_readGive_67 (fx26 hF) rfl (by omega) (by decide) ?_
      refine Z.aload_n dX5_readGive_68 rfl ?_
      refine Z.getR (r := 27) dX5_readGive_69 cl5 flX5_18 (by decide) (fx24 hF) rfl ?_
      refine Z.iload_n dX5_readGive_72 rfl ?_
      refine Z.aload_n dX5_readGive_73 rfl ?_
      refine Z.getR (r := 27) dX5_readGive_74 cl5 flX5_18 (by decide) (fx24 hF) rfl ?_
      refine Z.aload_n dX5_readGive_77 rfl ?_
      refine Z.getIv (v := nI (K - 1)) dX5_readGive_78 cl5 flX5_68 (by decide) (fx24 hF) rfl ?_
      refine Z.ialdv (j := K - 1) (v := J 27 (K - 1)) dX5_readGive_81 (fx27 hF) rfl (by omega) (by decide) rfl ?_
      refine Z.iast (j := q1) (x := J 27 (K - 1)) dX5_readGive_82 (fx27 hF) rfl (by omega) (by decide) ?_
      refine Z.aload_n dX5_readGive_83 rfl ?_
      refine Z.getR (r := 28) dX5_readGive_84 cl5 flX5_21 (by decide) (fx24 hF) rfl ?_
      refine Z.iload_n dX5_readGive_87 rfl ?_
      refine Z.aload_n dX5_readGive_88 rfl ?_
      refine Z.getR (r := 28) dX5_readGive_89 cl5 flX5_21 (by decide) (fx24 hF) rfl ?_
      refine Z.aload_n dX5_readGive_92 rfl ?_
      refine Z.getIv (v := nI (K - 1)) dX5_readGive_93 cl5 flX5_68 (by decide) (fx24 hF) rfl ?_
      refine Z.zaldv (j := K - 1) (v := J 28 (K - 1)) dX5_readGive_96 (fx28 hF) rfl (by omega) (by decide) rfl ?_
      refine Z.zast (j := q1) (x := J 28 (K - 1)) dX5_readGive_97 (fx28 hF) rfl (by omega) (by decide) ?_
      exact Z.vret dX5_readGive_98 rfl ⟨rfl, (fun a ha => by simp [va_up, show ¬ a = 24 by omega, show ¬ a = 25 by omega, show ¬ a = 26 by omega, show ¬ a = 27 by omega, show ¬ a = 28 by omega]), ⟨K - 1, (VA_step hin hn4 hD hso hpw hm hd hA rfl (by rw [hk, if_neg (fun z => absurd z.1 (by decide))] <;> rfl) (by rw [hk, if_neg (fun z => absurd z.1 (by decide))] <;> rfl) (by rw [hk, if_neg (by decide)] <;> rfl) (by rw [hk, if_neg (by decide)] <;> rfl) (by rw [hk, if_neg (by decide)] <;> rfl) (by rw [hk, if_neg (by decide)] <;> rfl) (by rw [hk, if_neg (by decide)] <;> rfl) rfl (by omega)), (by have e := VB_grm hi4 hm hd h4 hk hq1 hg1 hB; rw [show upd (J 28) q1 (J 28 (K - 1)) = upd (J 28) q1 (J 28 (K - 1) &&& 1) by rw [(hB.1 (K - 1) (by omega)).2.2.2.2, bI_a1]] at e; exact e)⟩, rfl⟩
    · refine Z.aload_n dX5_readGive_20 rfl ?_
      refine Z.getR (r := 28) dX5_readGive_21 cl5 flX5_21 (by decide) (fx24 hF) rfl ?_
      refine Z.iload_n dX5_readGive_24 rfl ?_
      refine Z.iconst (v := 1) dX5_readGive_25 (by decide) ?_
      refine Z.zast (j := q1) (x := 1) dX5_readGive_26 (fx28 hF) rfl (by omega) (by decide) ?_
      exact Z.vret dX5_readGive_27 rfl ⟨rfl, (fun a ha => by simp [va_up, show ¬ a = 28 by omega]), ⟨K, (VA_step hin hn4 hD hso hpw hm hd hA rfl (by rw [hk, if_neg (fun z => absurd z.1 (by decide))] <;> rfl) (by rw [hk, if_neg (fun z => absurd z.1 (by decide))] <;> rfl) (by rw [hk, if_neg (by decide)] <;> rfl) (by rw [hk, if_neg (by decide)] <;> rfl) (by rw [hk, if_neg (by decide)] <;> rfl) (by rw [hk, if_neg (by decide)] <;> rfl) (by rw [hk, if_neg (by decide)] <;> rfl) (hA.2.2.2.2.2.2.2.2.1) (by omega)), (VB_gday hi4 hm h4 hk hkp hq1 hg1 hB)⟩, rfl⟩

set_option maxHeartbeats 4000000 in
set_option maxRecDepth 100000 in
theorem cv_readUse24 {g : GP} {I J : IM} {S : SH} (hE : Ex I J)  {i n K : Nat} {m c t : Int32} (hF : Fx S) (hin : i < n) (hn4 : n ≤ 400) (hD : Dn I n) (hso : So I n) (hpw : PW I i) (hm : I 50 i = m) (hd : ¬ t < I 52 i) (hk : I 49 i = 6) (hA : VA I i m c t (J 24) K) (hB : VB I i m t (J 25) (J 26) (J 27) (J 28) K) : Z g 1 0 0 mX5_readUse 0 (enL mX5_readUse [.ref 24, .int (I 51 i), .int (I 52 i)]) [] J S (RQ24 I J S (i + 1) m c t) := by
  show Z g 1 0 0 mX5_readUse 0 [.ref 24, .int (I 51 i), .int (I 52 i), .retAddr 0] [] J S _
  have hi4 : i ≤ 400 := by omega
  have hK := hA.2.2.2.2.2.2.2.2.2
  have hcn1 := cntU_le (p := pM I i) (k := 1) (m := m) (t := t) i
  have hcn2 := cntU_le (p := pM I i) (k := 2) (m := m) (t := t) i
  have hkp : latF (pM I i) 3 m (I 51 i) t < latF (pM I i) 0 m (I 51 i) t := by have e := hpw.2.2.1 (by first | exact Or.inl hk | exact Or.inr hk); rw [hm] at e; rw [lat_dt (fun j hj => hso j i (by omega) hin) hd, lat_dt (fun j hj => hso j i (by omega) hin) hd]; exact e
  have hB_no : ¬ (∀ q, q < K → ¬ J 25 q = I 51 i) := fun z => by have e := VB_none hB hpw.2.2.2 z; have w := keep_no (fun a b => hD a (by omega)) hi4 e; rw [decide_eq_true hkp] at w; cases w
  refine Z.aload_n dX5_readUse_0 rfl ?_
  refine Z.iload_n dX5_readUse_1 rfl ?_
  refine Z.callVg (M := mX5_readUse) (pc := 2) (st := []) (N := mX5_find) (n := 1) dX5_readUse_2 mlX5_69 mkX5_find imX5_find seX5_find (fx24 hF) cl5 rfl (d1 := 0) (by decide) (As := [.int (I 51 i)]) rfl ⟨rfl, Nat.le_of_ble_eq_true rfl⟩ ⟨rfl, Nat.le_of_ble_eq_true rfl⟩ (cv_find24 (J := J) hE (I 51 i) hF (hA.2.2.2.2.2.2.2.2.1) (hA.2.2.2.2.2.2.2.2.2)) rfl (fun v_ J1 S_ h_ => ?_)
  obtain ⟨⟨k_, rfl, hk_⟩, rfl, rfl⟩ := h_
  rcases hk_ with ⟨rfl, hno1⟩ | ⟨q1, hq1, rfl, hg1⟩
  · refine Z.istore_n (L' := [.ref 24, .int (I 51 i), .int (I 52 i), .int ((-1))]) dX5_readUse_5 (Nat.le_of_ble_eq_true rfl) rfl ?_
    refine Z.iload_n dX5_readUse_6 rfl ?_
    refine Z.iconst (v := (-1)) dX5_readUse_7 (by decide) ?_
    refine Z.icmp_eq (tgt := 18) dX5_readUse_8 (by decide) (fun h2 => ?_) (fun h2 => absurd h2 (by decide))
    exact Z.vret dX5_readUse_18 rfl (False.elim (hB_no hno1))
  · refine Z.istore_n (L' := [.ref 24, .int (I 51 i), .int (I 52 i), .int (nI q1)]) dX5_readUse_5 (Nat.le_of_ble_eq_true rfl) rfl ?_
    refine Z.iload_n dX5_readUse_6 rfl ?_
    refine Z.iconst (v := (-1)) dX5_readUse_7 (by decide) ?_
    refine Z.icmp_eq (tgt := 18) dX5_readUse_8 (by decide) (fun h3 => absurd h3 (nI_nm1 (by omega))) (fun h3 => ?_)
    refine Z.aload_n dX5_readUse_11 rfl ?_
    refine Z.getR (r := 27) dX5_readUse_12 cl5 flX5_18 (by decide) (fx24 hF) rfl ?_
    refine Z.iload_n dX5_readUse_15 rfl ?_
    refine Z.iload_n dX5_readUse_16 rfl ?_
    refine Z.iast (j := q1) (x := I 52 i) dX5_readUse_17 (fx27 hF) rfl (by omega) (by decide) ?_
    exact Z.vret dX5_readUse_18 rfl ⟨rfl, (fun a ha => by simp [va_up, show ¬ a = 27 by omega]), ⟨K, (VA_step hin hn4 hD hso hpw hm hd hA rfl (by rw [hk, if_neg (fun z => absurd z.1 (by decide))] <;> rfl) (by rw [hk, if_neg (fun z => absurd z.1 (by decide))] <;> rfl) (by rw [hk, if_neg (by decide)] <;> rfl) (by rw [hk, if_neg (by decide)] <;> rfl) (by rw [hk, if_neg (by decide)] <;> rfl) (by rw [hk, if_neg (by decide)] <;> rfl) (by rw [hk, if_neg (by decide)] <;> rfl) (hA.2.2.2.2.2.2.2.2.1) (by omega)), (VB_use hi4 hm hd hk hq1 hg1 hB)⟩, rfl⟩

set_option maxHeartbeats 4000000 in
set_option maxRecDepth 100000 in
theorem cv_readEnter24 {g : GP} {I J : IM} {S : SH} (hE : Ex I J)  {i n K : Nat} {m c t : Int32} (hF : Fx S) (hin : i < n) (hn4 : n ≤ 400) (hD : Dn I n) (hso : So I n) (hpw : PW I i) (hm : I 50 i = m) (hd : ¬ t < I 52 i) (hk : I 49 i = 1) (hA : VA I i m c t (J 24) K) (hB : VB I i m t (J 25) (J 26) (J 27) (J 28) K) : Z g 0 0 0 mX5_readEnter 0 (enL mX5_readEnter [.ref 24, .int (I 51 i), .int (I 52 i), .int c]) [] J S (RQ24 I J S (i + 1) m c t) := by
  show Z g 0 0 0 mX5_readEnter 0 [.ref 24, .int (I 51 i), .int (I 52 i), .int c] [] J S _
  have hi4 : i ≤ 400 := by omega
  have hK := hA.2.2.2.2.2.2.2.2.2
  have hcn1 := cntU_le (p := pM I i) (k := 1) (m := m) (t := t) i
  have hcn2 := cntU_le (p := pM I i) (k := 2) (m := m) (t := t) i
  refine Z.aload_n dX5_readEnter_0 rfl ?_
  refine Z.dupR dX5_readEnter_1 ?_
  refine Z.getIv (v := nI (cntF (pM I i) 1 m t)) dX5_readEnter_2 cl5 flX5_100 (by decide) (fx24 hF) hA.2.2.2.1 ?_
  refine Z.iconst (v := 1) dX5_readEnter_5 (by decide) ?_
  refine Z.iaddN (a := cntF (pM I i) 1 m t) (b := 1) dX5_readEnter_6 ?_
  refine Z.putI (x := nI ((cntF (pM I i) 1 m t) + 1)) dX5_readEnter_7 cl5 flX5_100 (by decide) ⟨rfl, rfl⟩ (fx24 hF) ?_
  refine Z.aload_n dX5_readEnter_10 rfl ?_
  refine Z.getIv (v := J 24 1) dX5_readEnter_11 cl5 flX5_51 (by decide) (fx24 hF) rfl ?_
  refine Z.iconst (v := (-1)) dX5_readEnter_14 (by decide) ?_
  refine Z.icmp_ne (tgt := 23) dX5_readEnter_15 (by decide) (fun h1 => ?_) (fun h1 => ?_)
  · refine Z.iload_n dX5_readEnter_23 rfl ?_
    refine Z.iload_n dX5_readEnter_24 rfl ?_
    refine Z.icmp_ne (tgt := 33) dX5_readEnter_25 (by decide) (fun h2 => ?_) (fun h2 => ?_)
    · exact Z.vret dX5_readEnter_33 rfl ⟨rfl, (fun a ha => by simp [va_up, show ¬ a = 24 by omega]), ⟨K, (VA_step hin hn4 hD hso hpw hm hd hA rfl (by rw [if_neg (fun z => h1 z.2)]; rfl) (by rw [if_neg (fun z => h2 z.2)]; rfl) (by rw [hk, if_pos (by decide)] <;> rfl) (by rw [hk, if_neg (by decide)] <;> rfl) (by rw [hk, if_neg (by decide)] <;> rfl) (by rw [hk, if_neg (by decide)] <;> rfl) (by rw [hk, if_neg (by decide)] <;> rfl) (hA.2.2.2.2.2.2.2.2.1) (by omega)), (VB_oth hm hd (by rw [hk]; decide) (by rw [hk]; decide) (by rw [hk]; decide) hB)⟩, rfl⟩
    · refine Z.aload_n dX5_readEnter_28 rfl ?_
      refine Z.iload_n dX5_readEnter_29 rfl ?_
      refine Z.putI (x := I 52 i) dX5_readEnter_30 cl5 flX5_77 (by decide) ⟨rfl, rfl⟩ (fx24 hF) ?_
      refine Z.eqI (bx_uu _ _ _ _) ?_
      exact Z.vret dX5_readEnter_33 rfl ⟨rfl, (fun a ha => by simp [va_up, show ¬ a = 24 by omega]), ⟨K, (VA_step hin hn4 hD hso hpw hm hd hA rfl (by rw [if_neg (fun z => h1 z.2)]; rfl) (by rw [if_pos ⟨hk, h2⟩]; rfl) (by rw [hk, if_pos (by decide)] <;> rfl) (by rw [hk, if_neg (by decide)] <;> rfl) (by rw [hk, if_neg (by decide)] <;> rfl) (by rw [hk, if_neg (by decide)] <;> rfl) (by rw [hk, if_neg (by decide)] <;> rfl) (hA.2.2.2.2.2.2.2.2.1) (by omega)), (VB_oth hm hd (by rw [hk]; decide) (by rw [hk]; decide) (by rw [hk]; decide) hB)⟩, rfl⟩
  · refine Z.aload_n dX5_readEnter_18 rfl ?_
    refine Z.iload_n dX5_readEnter_19 rfl ?_
    refine Z.putI (x := I 52 i) dX5_readEnter_20 cl5 flX5_51 (by decide) ⟨rfl, rfl⟩ (fx24 hF) ?_
    refine Z.eqI (bx_uu _ _ _ _) ?_
    refine Z.iload_n dX5_readEnter_23 rfl ?_
    refine Z.iload_n dX5_readEnter_24 rfl ?_
    refine Z.icmp_ne (tgt := 33) dX5_readEnter_25 (by decide) (fun h3 => ?_) (fun h3 => ?_)
    · exact Z.vret dX5_readEnter_33 rfl ⟨rfl, (fun a ha => by simp [va_up, show ¬ a = 24 by omega]), ⟨K, (VA_step hin hn4 hD hso hpw hm hd hA rfl (by rw [if_pos ⟨hk, h1⟩]; rfl) (by rw [if_neg (fun z => h3 z.2)]; rfl) (by rw [hk, if_pos (by decide)] <;> rfl) (by rw [hk, if_neg (by decide)] <;> rfl) (by rw [hk, if_neg (by decide)] <;> rfl) (by rw [hk, if_neg (by decide)] <;> rfl) (by rw [hk, if_neg (by decide)] <;> rfl) (hA.2.2.2.2.2.2.2.2.1) (by omega)), (VB_oth hm hd (by rw [hk]; decide) (by rw [hk]; decide) (by rw [hk]; decide) hB)⟩, rfl⟩
    · refine Z.aload_n dX5_readEnter_28 rfl ?_
      refine Z.iload_n dX5_readEnter_29 rfl ?_
      refine Z.putI (x := I 52 i) dX5_readEnter_30 cl5 flX5_77 (by decide) ⟨rfl, rfl⟩ (fx24 hF) ?_
      refine Z.eqI (bx_uu _ _ _ _) ?_
      exact Z.vret dX5_readEnter_33 rfl ⟨rfl, (fun a ha => by simp [va_up, show ¬ a = 24 by omega]), ⟨K, (VA_step hin hn4 hD hso hpw hm hd hA rfl (by rw [if_pos ⟨hk, h1⟩]; rfl) (by rw [if_pos ⟨hk, h3⟩]; rfl) (by rw [hk, if_pos (by decide)] <;> rfl) (by rw [hk, if_neg (by decide)] <;> rfl) (by rw [hk, if_neg (by decide)] <;> rfl) (by rw [hk, if_neg (by decide)] <;> rfl) (by rw [hk, if_neg (by decide)] <;> rfl) (hA.2.2.2.2.2.2.2.2.1) (by omega)), (VB_oth hm hd (by rw [hk]; decide) (by rw [hk]; decide) (by rw [hk]; decide) hB)⟩, rfl⟩

set_option maxHeartbeats 4000000 in
set_option maxRecDepth 100000 in
theorem cv_readGoods29 {g : GP} {I J : IM} {S : SH} (hE : Ex I J)  {i n K : Nat} {m c t : Int32} (hF : Fx S) (hin : i < n) (hn4 : n ≤ 400) (hD : Dn I n) (hso : So I n) (hpw : PW I i) (hm : I 50 i = m) (hd : ¬ t < I 52 i) (hk : I 49 i = 0) (hA : VA I i m c t (J 29) K) (hB : VB I i m t (J 30) (J 31) (J 32) (J 33) K) : Z g 1 0 0 mX5_readGoods 0 (enL mX5_readGoods [.ref 29, .int (I 51 i), .int (I 52 i)]) [] J S (RQ29 I J S (i + 1) m c t) := by
  show Z g 1 0 0 mX5_readGoods 0 [.ref 29, .int (I 51 i), .int (I 52 i), .retAddr 0] [] J S _
  have hi4 : i ≤ 400 := by omega
  have hK := hA.2.2.2.2.2.2.2.2.2
  have hcn1 := cntU_le (p := pM I i) (k := 1) (m := m) (t := t) i
  have hcn2 := cntU_le (p := pM I i) (k := 2) (m := m) (t := t) i
  have h0 := hD i hin
  have hso2 : So I (i + 1) := fun a b h1 h2 => hso a b h1 (by omega)
  refine Z.aload_n dX5_readGoods_0 rfl ?_
  refine Z.iconst (v := 1) dX5_readGoods_1 (by decide) ?_
  refine Z.putI (x := 1) dX5_readGoods_2 cl5 flX5_106 (by decide) ⟨by decide, by decide⟩ (fx29 hF) ?_
  refine Z.aload_n dX5_readGoods_5 rfl ?_
  refine Z.iload_n dX5_readGoods_6 rfl ?_
  refine Z.callVg (M := mX5_readGoods) (pc := 7) (st := []) (N := mX5_find) (n := 1) dX5_readGoods_7 mlX5_69 mkX5_find imX5_find seX5_find (fx29 hF) cl5 rfl (d1 := 0) (by decide) (As := [.int (I 51 i)]) rfl ⟨rfl, Nat.le_of_ble_eq_true rfl⟩ ⟨rfl, Nat.le_of_ble_eq_true rfl⟩ (cv_find29 (J := (va_up J 29 (upd (J 29) 7 (1)))) (hE.up (a := 29) rfl) (I 51 i) hF (hA.2.2.2.2.2.2.2.2.1) (hA.2.2.2.2.2.2.2.2.2)) rfl (fun v_ J1 S_ h_ => ?_)
  obtain ⟨⟨k_, rfl, hk_⟩, rfl, rfl⟩ := h_
  rcases hk_ with ⟨rfl, hno1⟩ | ⟨q1, hq1, rfl, hg1⟩
  · refine Z.istore_n (L' := [.ref 29, .int (I 51 i), .int (I 52 i), .int ((-1))]) dX5_readGoods_10 (Nat.le_of_ble_eq_true rfl) rfl ?_
    refine Z.iload_n dX5_readGoods_11 rfl ?_
    refine Z.iconst (v := (-1)) dX5_readGoods_12 (by decide) ?_
    refine Z.icmp_ne (tgt := 55) dX5_readGoods_13 (by decide) (fun h2 => absurd h2 (by decide)) (fun h2 => ?_)
    have hroom : K < 20 := VB_room hin hn4 hD hso hm hd (hm ▸ hpw.1 hk) hB
    refine Z.aload_n dX5_readGoods_16 rfl ?_
    refine Z.getIv (v := nI K) dX5_readGoods_17 cl5 flX5_68 (by decide) (fx29 hF) hA.2.2.2.2.2.2.2.2.1 ?_
    refine Z.bipush (v := 20) dX5_readGoods_20 (by decide) ?_
    refine Z.icmp_ltN (a := K) (b := 20) (by omega) (by decide) (tgt := 26) dX5_readGoods_22 (by decide) (fun h3 => ?_) (fun h3 => ?_)
    · refine Z.aload_n dX5_readGoods_26 rfl ?_
      refine Z.getIv (v := nI K) dX5_readGoods_27 cl5 flX5_68 (by decide) (fx29 hF) hA.2.2.2.2.2.2.2.2.1 ?_
      refine Z.istore_n (L' := [.ref 29, .int (I 51 i), .int (I 52 i), .int (nI K)]) dX5_readGoods_30 (Nat.le_of_ble_eq_true rfl) rfl ?_
      refine Z.aload_n dX5_readGoods_31 rfl ?_
      refine Z.dupR dX5_readGoods_32 ?_
      refine Z.getIv (v := nI K) dX5_readGoods_33 cl5 flX5_68 (by decide) (fx29 hF) hA.2.2.2.2.2.2.2.2.1 ?_
      refine Z.iconst (v := 1) dX5_readGoods_36 (by decide) ?_
      refine Z.iaddN (a := K) (b := 1) dX5_readGoods_37 ?_
      refine Z.putI (x := nI (K + 1)) dX5_readGoods_38 cl5 flX5_68 (by decide) ⟨rfl, rfl⟩ (fx29 hF) ?_
      refine Z.eqI (bx_uu _ _ _ _) ?_
      refine Z.aload_n dX5_readGoods_41 rfl ?_
      refine Z.getR (r := 30) dX5_readGoods_42 cl5 flX5_11 (by decide) (fx29 hF) rfl ?_
      refine Z.iload_n dX5_readGoods_45 rfl ?_
      refine Z.iload_n dX5_readGoods_46 rfl ?_
      refine Z.iast (j := K) (x := I 51 i) dX5_readGoods_47 (fx30 hF) rfl (by omega) (by decide) ?_
      refine Z.aload_n dX5_readGoods_48 rfl ?_
      refine Z.getR (r := 32) dX5_readGoods_49 cl5 flX5_18 (by decide) (fx29 hF) rfl ?_
      refine Z.iload_n dX5_readGoods_52 rfl ?_
      refine Z.iconst (v := (-1)) dX5_readGoods_53 (by decide) ?_
      refine Z.iast (j := K) (x := (-1)) dX5_readGoods_54 (fx32 hF) rfl (by omega) (by decide) ?_
      refine Z.aload_n dX5_readGoods_55 rfl ?_
      refine Z.getR (r := 31) dX5_readGoods_56 cl5 flX5_15 (by decide) (fx29 hF) rfl ?_
      refine Z.iload_n dX5_readGoods_59 rfl ?_
      refine Z.iload_n dX5_readGoods_60 rfl ?_
      refine Z.iast (j := K) (x := I 52 i) dX5_readGoods_61 (fx31 hF) rfl (by omega) (by decide) ?_
      refine Z.aload_n dX5_readGoods_62 rfl ?_
      refine Z.getR (r := 33) dX5_readGoods_63 cl5 flX5_21 (by decide) (fx29 hF) rfl ?_
      refine Z.iload_n dX5_readGoods_66 rfl ?_
      refine Z.iconst (v := 0) dX5_readGoods_67 (by decide) ?_
      refine Z.zast (j := K) (x := 0) dX5_readGoods_68 (fx33 hF) rfl (by omega) (by decide) ?_
      exact Z.vret dX5_readGoods_69 rfl ⟨rfl, (fun a ha => by simp [va_up, show ¬ a = 29 by omega, show ¬ a = 30 by omega, show ¬ a = 32 by omega, show ¬ a = 31 by omega, show ¬ a = 33 by omega]), ⟨K + 1, (VA_step hin hn4 hD hso hpw hm hd hA rfl (by rw [hk, if_neg (fun z => absurd z.1 (by decide))] <;> rfl) (by rw [hk, if_neg (fun z => absurd z.1 (by decide))] <;> rfl) (by rw [hk, if_neg (by decide)] <;> rfl) (by rw [hk, if_neg (by decide)] <;> rfl) (by rw [hk, if_neg (by decide)] <;> rfl) (by rw [hk, if_neg (by decide)] <;> rfl) (by rw [hk, if_pos (by decide)] <;> rfl) rfl (by omega)), (VB_gnew hi4 hso2 hm hd hk hpw.2.2.2 h0 hno1 hB)⟩, rfl⟩
    · exact Z.vret dX5_readGoods_25 rfl (False.elim (by omega))
  · refine Z.istore_n (L' := [.ref 29, .int (I 51 i), .int (I 52 i), .int (nI q1)]) dX5_readGoods_10 (Nat.le_of_ble_eq_true rfl) rfl ?_
    refine Z.iload_n dX5_readGoods_11 rfl ?_
    refine Z.iconst (v := (-1)) dX5_readGoods_12 (by decide) ?_
    refine Z.icmp_ne (tgt := 55) dX5_readGoods_13 (by decide) (fun h4 => ?_) (fun h4 => absurd h4 (nI_nm1 (by omega)))
    refine Z.aload_n dX5_readGoods_55 rfl ?_
    refine Z.getR (r := 31) dX5_readGoods_56 cl5 flX5_15 (by decide) (fx29 hF) rfl ?_
    refine Z.iload_n dX5_readGoods_59 rfl ?_
    refine Z.iload_n dX5_readGoods_60 rfl ?_
    refine Z.iast (j := q1) (x := I 52 i) dX5_readGoods_61 (fx31 hF) rfl (by omega) (by decide) ?_
    refine Z.aload_n dX5_readGoods_62 rfl ?_
    refine Z.getR (r := 33) dX5_readGoods_63 cl5 flX5_21 (by decide) (fx29 hF) rfl ?_
    refine Z.iload_n dX5_readGoods_66 rfl ?_
    refine Z.iconst (v := 0) dX5_readGoods_67 (by decide) ?_
    refine Z.zast (j := q1) (x := 0) dX5_readGoods_68 (fx33 hF) rfl (by omega) (by decide) ?_
    exact Z.vret dX5_readGoods_69 rfl ⟨rfl, (fun a ha => by simp [va_up, show ¬ a = 29 by omega, show ¬ a = 31 by omega, show ¬ a = 33 by omega]), ⟨K, (VA_step hin hn4 hD hso hpw hm hd hA rfl (by rw [hk, if_neg (fun z => absurd z.1 (by decide))] <;> rfl) (by rw [hk, if_neg (fun z => absurd z.1 (by decide))] <;> rfl) (by rw [hk, if_neg (by decide)] <;> rfl) (by rw [hk, if_neg (by decide)] <;> rfl) (by rw [hk, if_neg (by decide)] <;> rfl) (by rw [hk, if_neg (by decide)] <;> rfl) (by rw [hk, if_pos (by decide)] <;> rfl) (hA.2.2.2.2.2.2.2.2.1) (by omega)), (VB_gold hi4 hso2 hm hd hk hpw.2.2.2 h0 hq1 hg1 hB)⟩, rfl⟩

set_option maxHeartbeats 4000000 in
set_option maxRecDepth 100000 in
theorem cv_readGive29 {g : GP} {I J : IM} {S : SH} (hE : Ex I J)  {i n K : Nat} {m c t : Int32} (hF : Fx S) (hin : i < n) (hn4 : n ≤ 400) (hD : Dn I n) (hso : So I n) (hpw : PW I i) (hm : I 50 i = m) (hd : ¬ t < I 52 i) (hk : I 49 i = 3) (hA : VA I i m c t (J 29) K) (hB : VB I i m t (J 30) (J 31) (J 32) (J 33) K) : Z g 1 0 0 mX5_readGive 0 (enL mX5_readGive [.ref 29, .int (I 51 i), .int (I 52 i)]) [] J S (RQ29 I J S (i + 1) m c t) := by
  show Z g 1 0 0 mX5_readGive 0 [.ref 29, .int (I 51 i), .int (I 52 i), .retAddr 0] [] J S _
  have hi4 : i ≤ 400 := by omega
  have hK := hA.2.2.2.2.2.2.2.2.2
  have hcn1 := cntU_le (p := pM I i) (k := 1) (m := m) (t := t) i
  have hcn2 := cntU_le (p := pM I i) (k := 2) (m := m) (t := t) i
  have hkp : latF (pM I i) 3 m (I 51 i) t < latF (pM I i) 0 m (I 51 i) t := by have e := hpw.2.2.1 (by first | exact Or.inl hk | exact Or.inr hk); rw [hm] at e; rw [lat_dt (fun j hj => hso j i (by omega) hin) hd, lat_dt (fun j hj => hso j i (by omega) hin) hd]; exact e
  have hB_no : ¬ (∀ q, q < K → ¬ J 30 q = I 51 i) := fun z => by have e := VB_none hB hpw.2.2.2 z; have w := keep_no (fun a b => hD a (by omega)) hi4 e; rw [decide_eq_true hkp] at w; cases w
  refine Z.aload_n dX5_readGive_0 rfl ?_
  refine Z.iload_n dX5_readGive_1 rfl ?_
  refine Z.callVg (M := mX5_readGive) (pc := 2) (st := []) (N := mX5_find) (n := 1) dX5_readGive_2 mlX5_69 mkX5_find imX5_find seX5_find (fx29 hF) cl5 rfl (d1 := 0) (by decide) (As := [.int (I 51 i)]) rfl ⟨rfl, Nat.le_of_ble_eq_true rfl⟩ ⟨rfl, Nat.le_of_ble_eq_true rfl⟩ (cv_find29 (J := J) hE (I 51 i) hF (hA.2.2.2.2.2.2.2.2.1) (hA.2.2.2.2.2.2.2.2.2)) rfl (fun v_ J1 S_ h_ => ?_)
  obtain ⟨⟨k_, rfl, hk_⟩, rfl, rfl⟩ := h_
  rcases hk_ with ⟨rfl, hno1⟩ | ⟨q1, hq1, rfl, hg1⟩
  · refine Z.istore_n (L' := [.ref 29, .int (I 51 i), .int (I 52 i), .int ((-1))]) dX5_readGive_5 (Nat.le_of_ble_eq_true rfl) rfl ?_
    refine Z.iload_n dX5_readGive_6 rfl ?_
    refine Z.iconst (v := (-1)) dX5_readGive_7 (by decide) ?_
    refine Z.icmp_ne (tgt := 12) dX5_readGive_8 (by decide) (fun h2 => absurd h2 (by decide)) (fun h2 => ?_)
    exact Z.vret dX5_readGive_11 rfl (False.elim (hB_no hno1))
  · refine Z.istore_n (L' := [.ref 29, .int (I 51 i), .int (I 52 i), .int (nI q1)]) dX5_readGive_5 (Nat.le_of_ble_eq_true rfl) rfl ?_
    refine Z.iload_n dX5_readGive_6 rfl ?_
    refine Z.iconst (v := (-1)) dX5_readGive_7 (by decide) ?_
    refine Z.icmp_ne (tgt := 12) dX5_readGive_8 (by decide) (fun h3 => ?_) (fun h3 => absurd h3 (nI_nm1 (by omega)))
    refine Z.iload_n dX5_readGive_12 rfl ?_
    refine Z.aload_n dX5_readGive_13 rfl ?_
    refine Z.getIv (v := t) dX5_readGive_14 cl5 flX5_61 (by decide) (fx29 hF) hA.1 ?_
    refine Z.icmp_ne (tgt := 28) dX5_readGive_17 (by decide) (fun h4 => ?_) (fun h4 => ?_)
    · refine Z.aload_n dX5_readGive_28 rfl ?_
      refine Z.dupR dX5_readGive_29 ?_
      refine Z.getIv (v := nI K) dX5_readGive_30 cl5 flX5_68 (by decide) (fx29 hF) hA.2.2.2.2.2.2.2.2.1 ?_
      refine Z.iconst (v := 1) dX5_readGive_33 (by decide) ?_
      refine Z.isubN (a := K) (b := 1) (by omega) dX5_readGive_34 ?_
      refine Z.putI (x := nI (K - 1)) dX5_readGive_35 cl5 flX5_68 (by decide) ⟨rfl, rfl⟩ (fx29 hF) ?_
      refine Z.aload_n dX5_readGive_38 rfl ?_
      refine Z.getR (r := 30) dX5_readGive_39 cl5 flX5_11 (by decide) (fx29 hF) rfl ?_
      refine Z.iload_n dX5_readGive_42 rfl ?_
      refine Z.aload_n dX5_readGive_43 rfl ?_
      refine Z.getR (r := 30) dX5_readGive_44 cl5 flX5_11 (by decide) (fx29 hF) rfl ?_
      refine Z.aload_n dX5_readGive_47 rfl ?_
      refine Z.getIv (v := nI (K - 1)) dX5_readGive_48 cl5 flX5_68 (by decide) (fx29 hF) rfl ?_
      refine Z.ialdv (j := K - 1) (v := J 30 (K - 1)) dX5_readGive_51 (fx30 hF) rfl (by omega) (by decide) rfl ?_
      refine Z.iast (j := q1) (x := J 30 (K - 1)) dX5_readGive_52 (fx30 hF) rfl (by omega) (by decide) ?_
      refine Z.aload_n dX5_readGive_53 rfl ?_
      refine Z.getR (r := 31) dX5_readGive_54 cl5 flX5_15 (by decide) (fx29 hF) rfl ?_
      refine Z.iload_n dX5_readGive_57 rfl ?_
      refine Z.aload_n dX5_readGive_58 rfl ?_
      refine Z.getR (r := 31) dX5_readGive_59 cl5 flX5_15 (by decide) (fx29 hF) rfl ?_
      refine Z.aload_n dX5_readGive_62 rfl ?_
      refine Z.getIv (v := nI (K - 1)) dX5_readGive_63 cl5 flX5_68 (by decide) (fx29 hF) rfl ?_
      refine Z.ialdv (j := K - 1) (v := J 31 (K - 1)) dX5_readGive_66 (fx31 hF) rfl (by omega) (by decide) rfl ?_
      refine Z.iast (j := q1) (x := J 31 (K - 1)) dX5_readGive_67 (fx31 hF) rfl (by omega) (by decide) ?_
      refine Z.aload_n dX5_readGive_68 rfl ?_
      refine Z.getR (r := 32) dX5_readGive_69 cl5 flX5_18 (by decide) (fx29 hF) rfl ?_
      refine Z.iload_n dX5_readGive_72 rfl ?_
      refine Z.aload_n dX5_readGive_73 rfl ?_
      refine Z.getR (r := 32) dX5_readGive_74 cl5 flX5_18 (by decide) (fx29 hF) rfl ?_
      refine Z.aload_n dX5_readGive_77 rfl ?_
      refine Z.getIv (v := nI (K - 1)) dX5_readGive_78 cl5 flX5_68 (by decide) (fx29 hF) rfl ?_
      refine Z.ialdv (j := K - 1) (v := J 32 (K - 1)) dX5_readGive_81 (fx32 hF) rfl (by omega) (by decide) rfl ?_
      refine Z.iast (j := q1) (x := J 32 (K - 1)) dX5_readGive_82 (fx32 hF) rfl (by omega) (by decide) ?_
      refine Z.aload_n dX5_readGive_83 rfl ?_
      refine Z.getR (r := 33) dX5_readGive_84 cl5 flX5_21 (by decide) (fx29 hF) rfl ?_
      refine Z.iload_n dX5_readGive_87 rfl ?_
      refine Z.aload_n dX5_readGive_88 rfl ?_
      refine Z.getR (r := 33) dX5_readGive_89 cl5 flX5_21 (by decide) (fx29 hF) rfl ?_
      refine Z.aload_n dX5_readGive_92 rfl ?_
      refine Z.getIv (v := nI (K - 1)) dX5_readGive_93 cl5 flX5_68 (by decide) (fx29 hF) rfl ?_
      refine Z.zaldv (j := K - 1) (v := J 33 (K - 1)) dX5_readGive_96 (fx33 hF) rfl (by omega) (by decide) rfl ?_
      refine Z.zast (j := q1) (x := J 33 (K - 1)) dX5_readGive_97 (fx33 hF) rfl (by omega) (by decide) ?_
      exact Z.vret dX5_readGive_98 rfl ⟨rfl, (fun a ha => by simp [va_up, show ¬ a = 29 by omega, show ¬ a = 30 by omega, show ¬ a = 31 by omega, show ¬ a = 32 by omega, show ¬ a = 33 by omega]), ⟨K - 1, (VA_step hin hn4 hD hso hpw hm hd hA rfl (by rw [hk, if_neg (fun z => absurd z.1 (by decide))] <;> rfl) (by rw [hk, if_neg (fun z => absurd z.1 (by decide))] <;> rfl) (by rw [hk, if_neg (by decide)] <;> rfl) (by rw [hk, if_neg (by decide)] <;> rfl) (by rw [hk, if_neg (by decide)] <;> rfl) (by rw [hk, if_neg (by decide)] <;> rfl) (by rw [hk, if_neg (by decide)] <;> rfl) rfl (by omega)), (by have e := VB_grm hi4 hm hd h4 hk hq1 hg1 hB; rw [show upd (J 33) q1 (J 33 (K - 1)) = upd (J 33) q1 (J 33 (K - 1) &&& 1) by rw [(hB.1 (K - 1) (by omega)).2.2.2.2, bI_a1]] at e; exact e)⟩, rfl⟩
    · refine Z.aload_n dX5_readGive_20 rfl ?_
      refine Z.getR (r := 33) dX5_readGive_21 cl5 flX5_21 (by decide) (fx29 hF) rfl ?_
      refine Z.iload_n dX5_readGive_24 rfl ?_
      refine Z.iconst (v := 1) dX5_readGive_25 (by decide) ?_
      refine Z.zast (j := q1) (x := 1) dX5_readGive_26 (fx33 hF) rfl (by omega) (by decide) ?_
      exact Z.vret dX5_readGive_27 rfl ⟨rfl, (fun a ha => by simp [va_up, show ¬ a = 33 by omega]), ⟨K, (VA_step hin hn4 hD hso hpw hm hd hA rfl (by rw [hk, if_neg (fun z => absurd z.1 (by decide))] <;> rfl) (by rw [hk, if_neg (fun z => absurd z.1 (by decide))] <;> rfl) (by rw [hk, if_neg (by decide)] <;> rfl) (by rw [hk, if_neg (by decide)] <;> rfl) (by rw [hk, if_neg (by decide)] <;> rfl) (by rw [hk, if_neg (by decide)] <;> rfl) (by rw [hk, if_neg (by decide)] <;> rfl) (hA.2.2.2.2.2.2.2.2.1) (by omega)), (VB_gday hi4 hm h4 hk hkp hq1 hg1 hB)⟩, rfl⟩

set_option maxHeartbeats 4000000 in
set_option maxRecDepth 100000 in
theorem cv_readUse29 {g : GP} {I J : IM} {S : SH} (hE : Ex I J)  {i n K : Nat} {m c t : Int32} (hF : Fx S) (hin : i < n) (hn4 : n ≤ 400) (hD : Dn I n) (hso : So I n) (hpw : PW I i) (hm : I 50 i = m) (hd : ¬ t < I 52 i) (hk : I 49 i = 6) (hA : VA I i m c t (J 29) K) (hB : VB I i m t (J 30) (J 31) (J 32) (J 33) K) : Z g 1 0 0 mX5_readUse 0 (enL mX5_readUse [.ref 29, .int (I 51 i), .int (I 52 i)]) [] J S (RQ29 I J S (i + 1) m c t) := by
  show Z g 1 0 0 mX5_readUse 0 [.ref 29, .int (I 51 i), .int (I 52 i), .retAddr 0] [] J S _
  have hi4 : i ≤ 400 := by omega
  have hK := hA.2.2.2.2.2.2.2.2.2
  have hcn1 := cntU_le (p := pM I i) (k := 1) (m := m) (t := t) i
  have hcn2 := cntU_le (p := pM I i) (k := 2) (m := m) (t := t) i
  have hkp : latF (pM I i) 3 m (I 51 i) t < latF (pM I i) 0 m (I 51 i) t := by have e := hpw.2.2.1 (by first | exact Or.inl hk | exact Or.inr hk); rw [hm] at e; rw [lat_dt (fun j hj => hso j i (by omega) hin) hd, lat_dt (fun j hj => hso j i (by omega) hin) hd]; exact e
  have hB_no : ¬ (∀ q, q < K → ¬ J 30 q = I 51 i) := fun z => by have e := VB_none hB hpw.2.2.2 z; have w := keep_no (fun a b => hD a (by omega)) hi4 e; rw [decide_eq_true hkp] at w; cases w
  refine Z.aload_n dX5_readUse_0 rfl ?_
  refine Z.iload_n dX5_readUse_1 rfl ?_
  refine Z.callVg (M := mX5_readUse) (pc := 2) (st := []) (N := mX5_find) (n := 1) dX5_readUse_2 mlX5_69 mkX5_find imX5_find seX5_find (fx29 hF) cl5 rfl (d1 := 0) (by decide) (As := [.int (I 51 i)]) rfl ⟨rfl, Nat.le_of_ble_eq_true rfl⟩ ⟨rfl, Nat.le_of_ble_eq_true rfl⟩ (cv_find29 (J := J) hE (I 51 i) hF (hA.2.2.2.2.2.2.2.2.1) (hA.2.2.2.2.2.2.2.2.2)) rfl (fun v_ J1 S_ h_ => ?_)
  obtain ⟨⟨k_, rfl, hk_⟩, rfl, rfl⟩ := h_
  rcases hk_ with ⟨rfl, hno1⟩ | ⟨q1, hq1, rfl, hg1⟩
  · refine Z.istore_n (L' := [.ref 29, .int (I 51 i), .int (I 52 i), .int ((-1))]) dX5_readUse_5 (Nat.le_of_ble_eq_true rfl) rfl ?_
    refine Z.iload_n dX5_readUse_6 rfl ?_
    refine Z.iconst (v := (-1)) dX5_readUse_7 (by decide) ?_
    refine Z.icmp_eq (tgt := 18) dX5_readUse_8 (by decide) (fun h2 => ?_) (fun h2 => absurd h2 (by decide))
    exact Z.vret dX5_readUse_18 rfl (False.elim (hB_no hno1))
  · refine Z.istore_n (L' := [.ref 29, .int (I 51 i), .int (I 52 i), .int (nI q1)]) dX5_readUse_5 (Nat.le_of_ble_eq_true rfl) rfl ?_
    refine Z.iload_n dX5_readUse_6 rfl ?_
    refine Z.iconst (v := (-1)) dX5_readUse_7 (by decide) ?_
    refine Z.icmp_eq (tgt := 18) dX5_readUse_8 (by decide) (fun h3 => absurd h3 (nI_nm1 (by omega))) (fun h3 => ?_)
    refine Z.aload_n dX5_readUse_11 rfl ?_
    refine Z.getR (r := 32) dX5_readUse_12 cl5 flX5_18 (by decide) (fx29 hF) rfl ?_
    refine Z.iload_n dX5_readUse_15 rfl ?_
    refine Z.iload_n dX5_readUse_16 rfl ?_
    refine Z.iast (j := q1) (x := I 52 i) dX5_readUse_17 (fx32 hF) rfl (by omega) (by decide) ?_
    exact Z.vret dX5_readUse_18 rfl ⟨rfl, (fun a ha => by simp [va_up, show ¬ a = 32 by omega]), ⟨K, (VA_step hin hn4 hD hso hpw hm hd hA rfl (by rw [hk, if_neg (fun z => absurd z.1 (by decide))] <;> rfl) (by rw [hk, if_neg (fun z => absurd z.1 (by decide))] <;> rfl) (by rw [hk, if_neg (by decide)] <;> rfl) (by rw [hk, if_neg (by decide)] <;> rfl) (by rw [hk, if_neg (by decide)] <;> rfl) (by rw [hk, if_neg (by decide)] <;> rfl) (by rw [hk, if_neg (by decide)] <;> rfl) (hA.2.2.2.2.2.2.2.2.1) (by omega)), (VB_use hi4 hm hd hk hq1 hg1 hB)⟩, rfl⟩

set_option maxHeartbeats 4000000 in
set_option maxRecDepth 100000 in
theorem cv_readEnter29 {g : GP} {I J : IM} {S : SH} (hE : Ex I J)  {i n K : Nat} {m c t : Int32} (hF : Fx S) (hin : i < n) (hn4 : n ≤ 400) (hD : Dn I n) (hso : So I n) (hpw : PW I i) (hm : I 50 i = m) (hd : ¬ t < I 52 i) (hk : I 49 i = 1) (hA : VA I i m c t (J 29) K) (hB : VB I i m t (J 30) (J 31) (J 32) (J 33) K) : Z g 0 0 0 mX5_readEnter 0 (enL mX5_readEnter [.ref 29, .int (I 51 i), .int (I 52 i), .int c]) [] J S (RQ29 I J S (i + 1) m c t) := by
  show Z g 0 0 0 mX5_readEnter 0 [.ref 29, .int (I 51 i), .int (I 52 i), .int c] [] J S _
  have hi4 : i ≤ 400 := by omega
  have hK := hA.2.2.2.2.2.2.2.2.2
  have hcn1 := cntU_le (p := pM I i) (k := 1) (m := m) (t := t) i
  have hcn2 := cntU_le (p := pM I i) (k := 2) (m := m) (t := t) i
  refine Z.aload_n dX5_readEnter_0 rfl ?_
  refine Z.dupR dX5_readEnter_1 ?_
  refine Z.getIv (v := nI (cntF (pM I i) 1 m t)) dX5_readEnter_2 cl5 flX5_100 (by decide) (fx29 hF) hA.2.2.2.1 ?_
  refine Z.iconst (v := 1) dX5_readEnter_5 (by decide) ?_
  refine Z.iaddN (a := cntF (pM I i) 1 m t) (b := 1) dX5_readEnter_6 ?_
  refine Z.putI (x := nI ((cntF (pM I i) 1 m t) + 1)) dX5_readEnter_7 cl5 flX5_100 (by decide) ⟨rfl, rfl⟩ (fx29 hF) ?_
  refine Z.aload_n dX5_readEnter_10 rfl ?_
  refine Z.getIv (v := J 29 1) dX5_readEnter_11 cl5 flX5_51 (by decide) (fx29 hF) rfl ?_
  refine Z.iconst (v := (-1)) dX5_readEnter_14 (by decide) ?_
  refine Z.icmp_ne (tgt := 23) dX5_readEnter_15 (by decide) (fun h1 => ?_) (fun h1 => ?_)
  · refine Z.iload_n dX5_readEnter_23 rfl ?_
    refine Z.iload_n dX5_readEnter_24 rfl ?_
    refine Z.icmp_ne (tgt := 33) dX5_readEnter_25 (by decide) (fun h2 => ?_) (fun h2 => ?_)
    · exact Z.vret dX5_readEnter_33 rfl ⟨rfl, (fun a ha => by simp [va_up, show ¬ a = 29 by omega]), ⟨K, (VA_step hin hn4 hD hso hpw hm hd hA rfl (by rw [if_neg (fun z => h1 z.2)]; rfl) (by rw [if_neg (fun z => h2 z.2)]; rfl) (by rw [hk, if_pos (by decide)] <;> rfl) (by rw [hk, if_neg (by decide)] <;> rfl) (by rw [hk, if_neg (by decide)] <;> rfl) (by rw [hk, if_neg (by decide)] <;> rfl) (by rw [hk, if_neg (by decide)] <;> rfl) (hA.2.2.2.2.2.2.2.2.1) (by omega)), (VB_oth hm hd (by rw [hk]; decide) (by rw [hk]; decide) (by rw [hk]; decide) hB)⟩, rfl⟩
    · refine Z.aload_n dX5_readEnter_28 rfl ?_
      refine Z.iload_n dX5_readEnter_29 rfl ?_
      refine Z.putI (x := I 52 i) dX5_readEnter_30 cl5 flX5_77 (by decide) ⟨rfl, rfl⟩ (fx29 hF) ?_
      refine Z.eqI (bx_uu _ _ _ _) ?_
      exact Z.vret dX5_readEnter_33 rfl ⟨rfl, (fun a ha => by simp [va_up, show ¬ a = 29 by omega]), ⟨K, (VA_step hin hn4 hD hso hpw hm hd hA rfl (by rw [if_neg (fun z => h1 z.2)]; rfl) (by rw [if_pos ⟨hk, h2⟩]; rfl) (by rw [hk, if_pos (by decide)] <;> rfl) (by rw [hk, if_neg (by decide)] <;> rfl) (by rw [hk, if_neg (by decide)] <;> rfl) (by rw [hk, if_neg (by decide)] <;> rfl) (by rw [hk, if_neg (by decide)] <;> rfl) (hA.2.2.2.2.2.2.2.2.1) (by omega)), (VB_oth hm hd (by rw [hk]; decide) (by rw [hk]; decide) (by rw [hk]; decide) hB)⟩, rfl⟩
  · refine Z.aload_n dX5_readEnter_18 rfl ?_
    refine Z.iload_n dX5_readEnter_19 rfl ?_
    refine Z.putI (x := I 52 i) dX5_readEnter_20 cl5 flX5_51 (by decide) ⟨rfl, rfl⟩ (fx29 hF) ?_
    refine Z.eqI (bx_uu _ _ _ _) ?_
    refine Z.iload_n dX5_readEnter_23 rfl ?_
    refine Z.iload_n dX5_readEnter_24 rfl ?_
    refine Z.icmp_ne (tgt := 33) dX5_readEnter_25 (by decide) (fun h3 => ?_) (fun h3 => ?_)
    · exact Z.vret dX5_readEnter_33 rfl ⟨rfl, (fun a ha => by simp [va_up, show ¬ a = 29 by omega]), ⟨K, (VA_step hin hn4 hD hso hpw hm hd hA rfl (by rw [if_pos ⟨hk, h1⟩]; rfl) (by rw [if_neg (fun z => h3 z.2)]; rfl) (by rw [hk, if_pos (by decide)] <;> rfl) (by rw [hk, if_neg (by decide)] <;> rfl) (by rw [hk, if_neg (by decide)] <;> rfl) (by rw [hk, if_neg (by decide)] <;> rfl) (by rw [hk, if_neg (by decide)] <;> rfl) (hA.2.2.2.2.2.2.2.2.1) (by omega)), (VB_oth hm hd (by rw [hk]; decide) (by rw [hk]; decide) (by rw [hk]; decide) hB)⟩, rfl⟩
    · refine Z.aload_n dX5_readEnter_28 rfl ?_
      refine Z.iload_n dX5_readEnter_29 rfl ?_
      refine Z.putI (x := I 52 i) dX5_readEnter_30 cl5 flX5_77 (by decide) ⟨rfl, rfl⟩ (fx29 hF) ?_
      refine Z.eqI (bx_uu _ _ _ _) ?_
      exact Z.vret dX5_readEnter_33 rfl ⟨rfl, (fun a ha => by simp [va_up, show ¬ a = 29 by omega]), ⟨K, (VA_step hin hn4 hD hso hpw hm hd hA rfl (by rw [if_pos ⟨hk, h1⟩]; rfl) (by rw [if_pos ⟨hk, h3⟩]; rfl) (by rw [hk, if_pos (by decide)] <;> rfl) (by rw [hk, if_neg (by decide)] <;> rfl) (by rw [hk, if_neg (by decide)] <;> rfl) (by rw [hk, if_neg (by decide)] <;> rfl) (by rw [hk, if_neg (by decide)] <;> rfl) (hA.2.2.2.2.2.2.2.2.1) (by omega)), (VB_oth hm hd (by rw [hk]; decide) (by rw [hk]; decide) (by rw [hk]; decide) hB)⟩, rfl⟩

