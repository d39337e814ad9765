/-! the start -/
theorem c0U_at {f : Nat → Int32} {a : Nat} : ∀ (b : Nat) (q : Nat), c0U f a b q = if 66 * a ≤ q ∧ q < 66 * a + b then (if a + 66 * a = q then 0 else 10) else f q
  | 0, q => by
    rw [if_neg (by omega)]
    rfl
  | b + 1, q => by
    rw [c0U_s, upd_cs, c0U_at b q]
    by_cases z : q = 66 * a + b
    · rw [if_pos z, if_pos (show 66 * a ≤ q ∧ q < 66 * a + (b + 1) by omega)]
      by_cases y : a = b
      · rw [if_pos y, if_pos (by omega)]
      · rw [if_neg y, if_neg (by omega)]
    · rw [if_neg z]
      by_cases y : 66 * a ≤ q ∧ q < 66 * a + b
      · rw [if_pos y, if_pos (show 66 * a ≤ q ∧ q < 66 * a + (b + 1) by omega)]
      · rw [if_neg y, if_neg (by omega)]
theorem c1U_at {f : Nat → Int32} : ∀ (a : Nat), a ≤ 66 → ∀ q, c1U f a q = if q < 66 * a then (if q % 67 = 0 then 0 else 10) else f q
  | 0, _, q => by
    rw [if_neg (by omega)]
    rfl
  | a + 1, ha, q => by
    rw [show c1U f (a + 1) = c0U (c1U f a) a 66 from rfl, c0U_at, c1U_at a (by omega) q]
    by_cases y : 66 * a ≤ q ∧ q < 66 * a + 66
    · rw [if_pos y, if_pos (show q < 66 * (a + 1) by omega)]
      by_cases z : a + 66 * a = q
      · rw [if_pos z, if_pos (show q % 67 = 0 by omega)]
      · rw [if_neg z, if_neg (show ¬ q % 67 = 0 by omega)]
    · rw [if_neg y]
      by_cases z : q < 66 * a
      · rw [if_pos z, if_pos (show q < 66 * (a + 1) by omega)]
      · rw [if_neg z, if_neg (show ¬ q < 66 * (a + 1) by omega)]
theorem dgU_at {f : Nat → Int32} : ∀ (i q : Nat), dgU f i q = if q % 67 = 0 ∧ q < 67 * i then 0 else f q
  | 0, q => by
    rw [if_neg (by omega)]
    rfl
  | i + 1, q => by
    rw [show dgU f (i + 1) = upd (dgU f i) (66 * i + i) 0 from rfl, upd_cs, dgU_at i q]
    by_cases z : q = 66 * i + i
    · rw [if_pos z, if_pos (by omega)]
    · rw [if_neg z]
      by_cases y : q % 67 = 0 ∧ q < 67 * i
      · rw [if_pos y, if_pos (by omega)]
      · rw [if_neg y, if_neg (by omega)]
theorem chg_eq : dgU (flU (fun _ => 0) 10 4356) 66 = c1U (fun _ => 0) 66 := by
  funext q
  rw [dgU_at, c1U_at 66 (Nat.le_refl _)]
  simp only [flU]
  by_cases z : q < 4356
  · rw [if_pos z, if_pos (show q < 66 * 66 from z)]
    by_cases y : q % 67 = 0
    · rw [if_pos y, if_pos ⟨y, by omega⟩]
    · rw [if_neg y, if_neg (fun c => y c.1)]
  · rw [if_neg z, if_neg (show ¬ q < 66 * 66 from z)]
    split <;> rfl
theorem c1U_rg (i : Nat) (hi : i < 4356) : rg (c1U (fun _ => 0) 66 i) 100 := by
  rw [c1U_at 66 (Nat.le_refl _), if_pos (show i < 66 * 66 from hi)]
  split
  · exact rg_0 _
  · exact rg_nI (a := 10) (by decide) (by decide)
def w6 (J : IM) : IM := (va_up (va_up (va_up (va_up (va_up (va_up (va_up (va_up (va_up (va_up (va_up (va_up (va_up (va_up (va_up (va_up (va_up (va_up (va_up (va_up (va_up (va_up (va_up (va_up (va_up (va_up (va_up (va_up (va_up (va_up (va_up (va_up (va_up (va_up (va_up J 1 (fun _ => 0)) 3 (fun _ => 0)) 6 (fun _ => 0)) 7 (fun _ => 0)) 8 (fun _ => 0)) 2 (flU ((fun _ => 0)) (-1) 26)) 4 (flU ((fun _ => 0)) 10 66)) 5 (dgU (flU ((fun _ => 0)) 10 4356) 66)) 10 (fun _ => 0)) 11 (fun _ => 0)) 12 (fun _ => 0)) 9 (upd (fun _ => 0) 3 (0))) 13 (fun _ => 0)) 15 (fun _ => 0)) 16 (fun _ => 0)) 17 (fun _ => 0)) 18 (fun _ => 0)) 14 (upd (fun _ => 0) 4 (0))) 0 (upd ((upd ((upd (J 0) 4 (0))) 5 (700))) 6 (500))) 19 (fun _ => 0)) 20 (fun _ => 0)) 21 (fun _ => 0)) 22 (fun _ => 0)) 23 (fun _ => 0)) 24 (fun _ => 0)) 25 (fun _ => 0)) 26 (fun _ => 0)) 27 (fun _ => 0)) 28 (fun _ => 0)) 29 (fun _ => 0)) 30 (fun _ => 0)) 31 (fun _ => 0)) 32 (fun _ => 0)) 33 (fun _ => 0)) 34 (fun _ => 0))
def w7 (J : IM) : IM := (va_up (va_up (va_up (va_up (va_up (va_up (va_up (va_up (va_up (va_up (va_up (va_up (va_up (va_up (va_up (va_up (va_up (va_up (va_up (va_up (va_up (va_up J 36 (fun _ => 0)) 37 (fun _ => 0)) 38 (fun _ => 0)) 39 (fun _ => 0)) 40 (fun _ => 0)) 41 (fun _ => 0)) 42 (fun _ => 0)) 43 (fun _ => 0)) 44 (fun _ => 0)) 45 (fun _ => 0)) 46 (fun _ => 0)) 47 (fun _ => 0)) 48 (fun _ => 0)) 49 (fun _ => 0)) 50 (fun _ => 0)) 51 (fun _ => 0)) 52 (fun _ => 0)) 53 (fun _ => 0)) 54 (fun _ => 0)) 55 (fun _ => 0)) 56 (fun _ => 0)) 57 (fun _ => 0))
def st0 (J : IM) : IM := x7N (w7 (va_up (w6 (va_up J 0 (fun _ => 0))) 35 (fun _ => 0)))
theorem INV_0 (J : IM) : INV (st0 J) sh58 0 0 0 := by
  have nlt : ∀ {i : Nat}, i < 0 → False := fun h => Nat.not_lt_zero _ h
  refine ⟨⟨fx58, ⟨rfl, rfl, rfl, rfl, rfl, rfl, rfl, rfl, rfl, rfl, rfl, chg_eq, rfl, rfl⟩, ⟨rfl, Nat.zero_le _⟩, ⟨rfl, Nat.zero_le _⟩, ⟨fun k hk => (nlt hk).elim, fun i j hi => (nlt hi).elim⟩, ⟨fun _ _ => rg_0 _, fun _ _ => rg_0 _, fun _ _ => rg_0 _, fun _ _ => rg_0 _, fun _ _ => rg_0 _, fun i hi => Or.inl (if_pos hi), fun _ _ => rg_0 _, fun i hi => ?_, c1U_rg⟩, ⟨rfl, Nat.zero_le _⟩, ⟨⟨List.replicate 120 none, rfl, List.length_replicate, fun j hj => (nlt hj).elim⟩, fun j hj => (nlt hj).elim⟩⟩, ⟨⟨fun i hi => (nlt hi).elim, fun i j _ hj => (nlt hj).elim, fun i hi => (nlt hi).elim⟩, fun i hi => (nlt hi).elim, fun i hi => (nlt hi).elim, fun i hi => (nlt hi).elim⟩, rfl, fun _ _ => rfl, fun _ _ => rfl⟩
  show rg (flU (fun _ => 0) 10 66 i) 100
  unfold flU
  rw [if_pos hi]
  exact rg_nI (a := 10) (by decide) (by decide)
theorem LQI_0 (J : IM) : LQI (st0 J) sh58 := ⟨st0 J, 0, 0, 0, Ex.rf, INV_0 J⟩
set_option maxHeartbeats 4000000 in
set_option maxRecDepth 100000 in
theorem law_start {g : GP} {L : Nat} {xs : Nat → Int32} (hL3 : L ≤ 3072) (J : IM) : ZL g L xs 600000 7302250 0 [] [] J [] := by
  refine ZL.new (a := 0) dL_law_0 cl6 klL_7 iaX6 mkX6_init.1.1 (by decide) (by decide) rfl ?_
  refine ZL.dup dL_law_3 ?_
  refine ZL.callI (N := mX6_init) (n := 0) (d1 := 2) (mc1 := 34) (ms1 := 7588) (b0 := 0) (st := [.ref 0]) (As := []) dL_law_4 mlL_9 mkX6_init imX6_init ⟨rfl, rfl⟩ (by decide) rfl ⟨rfl, Nat.le_of_ble_eq_true rfl⟩ ⟨rfl, Nat.le_of_ble_eq_true rfl⟩ (by decide) (by decide) ci_X6 rfl (fun v J1 S1 q => ?_)
  obtain ⟨rfl, rfl, rfl⟩ := q
  refine ZL.astore1 (a := 0) dL_law_7 ?_
  refine ZL.new (a := 35) dL_law_8 cl7 klL_10 iaX7 mkX7_init.1.1 (by decide) (by decide) rfl ?_
  refine ZL.dup dL_law_11 ?_
  refine ZL.callI (N := mX7_init) (n := 0) (d1 := 1) (mc1 := 22) (ms1 := 16331) (b0 := 35) (st := [.ref 35]) (As := []) dL_law_12 mlL_12 mkX7_init imX7_init ⟨rfl, rfl⟩ (by decide) rfl ⟨rfl, Nat.le_of_ble_eq_true rfl⟩ ⟨rfl, Nat.le_of_ble_eq_true rfl⟩ (by decide) (by decide) ci_X7 rfl (fun v J1 S1 q => ?_)
  obtain ⟨rfl, rfl, rfl⟩ := q
  refine ZL.astore2 (a := 35) dL_law_15 ?_
  refine ZL.zero dL_law_16 dL_law_17 ?_
  exact (law_loop hL3 512 0 1536 29696 _ _ (Nat.zero_le _) (by omega) (by decide) (by decide) (LQI_0 J)).mono (by decide) (by decide)

set_option maxHeartbeats 4000000 in
theorem law_world {p : Program} {s : State} {m : MethodId} {meth : Method} {c : Code} {b L : Nat} {xs : Nat → Int32} (hA : lw_At p s m meth c b L xs) : ∃ g : GP, mK g s ∧ g_b g = s.heap.size := by
  obtain ⟨hx, hb, hr, hml, ho, ht0, hX, hbl, hlk, hgv⟩ := id hA
  have ht : ∀ w, inT w → w.before #[Value.ref b] s = true := fun w hw => ht0 w hw.1
  obtain ⟨c0, i0, k0⟩ := u_known (C := RX0) (T := TX0) (N := 2) (n := 2) ht0 (fun w hw => (lz0 w hw).1) (ht _ iaX0)
  obtain ⟨c1, i1, k1⟩ := u_known (C := RX1) (T := TX1) (N := 6) (n := 6) ht0 (fun w hw => (lz1 w hw).1) (ht _ iaX1)
  obtain ⟨c2, i2, k2⟩ := u_known (C := RX2) (T := TX2) (N := 4) (n := 4) ht0 (fun w hw => (lz2 w hw).1) (ht _ iaX2)
  obtain ⟨c3, i3, k3⟩ := u_known (C := RX3) (T := TX3) (N := 5) (n := 5) ht0 (fun w hw => (lz3 w hw).1) (ht _ iaX3)
  obtain ⟨c4, i4, k4⟩ := u_known (C := RX4) (T := TX4) (N := 7) (n := 7) ht0 (fun w hw => (lz4 w hw).1) (ht _ iaX4)
  obtain ⟨c5, i5, k5⟩ := u_known (C := RX5) (T := TX5) (N := 13) (n := 13) ht0 (fun w hw => (lz5 w hw).1) (ht _ iaX5)
  obtain ⟨c6, i6, k6⟩ := u_known (C := RX6) (T := TX6) (N := 11) (n := 11) ht0 (fun w hw => (lz6 w hw).1) (ht _ iaX6)
  obtain ⟨c7, i7, k7⟩ := u_known (C := RX7) (T := TX7) (N := 27) (n := 27) ht0 (fun w hw => (lz7 w hw).1) (ht _ iaX7)
  obtain ⟨dC, dI, hKc⟩ : ∃ (dC : Nat → ClassId) (dI : Nat → Nat → Nat), ∀ (k : Nat) (q : vw_C), mCl[k]? = some q → u_Kn s q.1 q.2.1 q.2.2 (dC k) (dI k) := by
    refine ⟨fun k => [c0, c1, c2, c3, c4, c5, c6, c7].getD k c0, fun k => [i0, i1, i2, i3, i4, i5, i6, i7].getD k i0, ?_⟩
    intro k q hq
    match k, hq with
    | 0, hq => cases hq; exact k0
    | 1, hq => cases hq; exact k1
    | 2, hq => cases hq; exact k2
    | 3, hq => cases hq; exact k3
    | 4, hq => cases hq; exact k4
    | 5, hq => cases hq; exact k5
    | 6, hq => cases hq; exact k6
    | 7, hq => cases hq; exact k7
    | k + 8, hq => simp [mCl] at hq
  obtain ⟨cI, kI, pI, f1, f2, f3⟩ := Cond.arrayClass_spec (ht _ acI)
  obtain ⟨cZ, kZ, pZ, g1, g2, g3⟩ := Cond.arrayClass_spec (ht _ acZ)
  obtain ⟨pM', cM, kM, m1, m2, m3, m4, m5⟩ := Cond.arrayOver_spec (ht0 _ aoX1)
  refine ⟨(dC, dI, cI, cZ, cM, s.heap.size), ⟨⟨hKc, fun k q hq => ?_⟩, ?_, va_Nw.of rfl (ht0 _ fnX6_247), va_AO.of (ht0 _ aoX1)⟩, rfl⟩
  · match k, hq with
    | 0, hq =>
      cases hq
      exact ⟨fun n z => ⟨fun k h => (by cases h), kI, f2, pI, f3⟩, f1⟩
    | 1, hq =>
      cases hq
      exact ⟨fun n z => ⟨fun k h => (by cases h), kZ, g2, pZ, g3⟩, g1⟩
    | 2, hq =>
      cases hq
      exact ⟨fun n z => ⟨fun k h => (by cases h), kM, m3, pM', m4⟩, kM, pM', m3, m4, m1, m5⟩
    | k + 3, hq => simp [mTys] at hq
  · intro q hq
    simp only [nestL, List.mem_cons, List.not_mem_nil, or_false] at hq
    rcases hq with rfl | rfl | rfl | rfl | rfl | rfl
    · exact va_Nw.of rfl (ht0 _ mnX6_18)
    · exact va_Nw.of rfl (ht0 _ mnX6_31)
    · exact va_Nw.of rfl (ht0 _ mnX6_48)
    · exact va_Nw.of rfl (ht0 _ mnX6_61)
    · exact va_Nw.of rfl (ht0 _ mnX5_73)
    · exact va_Nw.of rfl (ht0 _ mnX4_43)
theorem whole_start {p : Program} {e : Env} {s : State} {m : MethodId} {below : List Frame} {meth : Method} {c : Code} (l : Launch) {b L : Nat} {xs : Nat → Int32} (hL : L ≤ 3072) (C0 : lw_At p s m meth c b L xs) : W p l e room_1 s m #[Value.ref b] below meth c s.heap [] 0 0 (lw_Z below #[Value.ref b] s) (entryFrame m ([Value.ref b] : List Value).toArray 4) := by
  obtain ⟨g, hK, hg⟩ := law_world C0
  have hl := lv_entry ([.ref b]) (n := 4) (Nat.le_of_ble_eq_true rfl)
  rw [lg_entry_eq]
  generalize (lg_sl ([.ref b]) ++ List.replicate (4 - (lg_sl ([.ref b])).length) Slot.unset).toArray = ls at hl ⊢
  exact law_start hL (fun _ _ => 0) l p e s m below meth c b s.heap [] 0 0 ls C0 hK hg ⟨fun k q h => by simp [wl] at h, by rw [hg]; rfl⟩ va_S.rf hl (by decide) (by decide)
