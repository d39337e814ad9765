/-- f with v in the first i places -/
def flU (f : Nat → Int32) (v : Int32) (i : Nat) : Nat → Int32 := fun q => if q < i then v else f q
theorem flU_0 {f : Nat → Int32} {v : Int32} : flU f v 0 = f := by
  funext q
  simp [flU]
theorem flU_s {f : Nat → Int32} {v : Int32} {i : Nat} : upd (flU f v i) i v = flU f v (i + 1) := by
  funext q
  simp only [upd, flU]
  by_cases c : q = i
  · rw [if_pos c, if_pos (by omega)]
  · rw [if_neg c]
    by_cases d : q < i
    · rw [if_pos d, if_pos (by omega)]
    · rw [if_neg d, if_neg (by omega)]
set_option maxHeartbeats 4000000 in
set_option maxRecDepth 100000 in
theorem lc_fill {g : GP} {J : IM} {S : SH} {a n : Nat} (v : Int32) (hs : S[a]? = some (8, n, [])) (hn : n < 2 ^ 31) : ∀ i, i ≤ n → Z g 0 0 0 mJ7_fill_53178 5 [.ref a, .int v, .int (nI i), .int (nI n)] [] (va_up J a (flU (J a) v i)) S (VQ (va_up J a (flU (J a) v n)) S) := by
  refine upZ n (fun i hi ih => ?_)
  refine Z.iload_n dJ7_fill_53178_5 rfl ?_
  refine Z.iload_n dJ7_fill_53178_6 rfl ?_
  refine Z.icmp_geN (a := i) (b := n) (by omega) (by omega) (tgt := 20) dJ7_fill_53178_7 (by decide) (fun h1 => ?_) (fun h1 => ?_)
  · exact Z.vret dJ7_fill_53178_20 rfl ⟨rfl, by rw [show i = n by omega], rfl⟩
  · refine Z.aload_n dJ7_fill_53178_10 rfl ?_
    refine Z.iload_n dJ7_fill_53178_11 rfl ?_
    refine Z.iload_n dJ7_fill_53178_12 rfl ?_
    refine Z.iast (j := i) (x := v) dJ7_fill_53178_13 hs rfl (by omega) (by omega) ?_
    refine Z.eqI (bx_uu _ _ _ _) ?_
    refine Z.iinc (v := nI (i + 1)) (L' := [.ref a, .int v, .int (nI (i + 1)), .int (nI n)]) dJ7_fill_53178_14 rfl (nI_1 _) rfl ?_
    refine Z.goto (tgt := 5) dJ7_fill_53178_17 (by decide) ?_
    have e := ih (by omega)
    rw [← flU_s] at e
    simp only [va_up_self]
    exact e

set_option maxHeartbeats 4000000 in
set_option maxRecDepth 100000 in
theorem cc_fill {g : GP} {J : IM} {S : SH} {a n : Nat} (v : Int32) (hs : S[a]? = some (8, n, [])) (hn : n < 2 ^ 31) : Z g 0 0 0 mJ7_fill_53178 0 (enL mJ7_fill_53178 [.ref a, .int v]) [] J S (VQ (va_up J a (flU (J a) v n)) S) := by
  show Z g 0 0 0 mJ7_fill_53178 0 [.ref a, .int v, .retAddr 0, .retAddr 0] [] J S _
  refine Z.iconst (v := 0) dJ7_fill_53178_0 (by decide) ?_
  refine Z.istore_n (L' := [.ref a, .int v, .int 0, .retAddr 0]) dJ7_fill_53178_1 (Nat.le_of_ble_eq_true rfl) rfl ?_
  refine Z.aload_n dJ7_fill_53178_2 rfl ?_
  refine Z.alen (k := 0) dJ7_fill_53178_3 hs ?_
  refine Z.istore_n (L' := [.ref a, .int v, .int 0, .int (nI n)]) dJ7_fill_53178_4 (Nat.le_of_ble_eq_true rfl) rfl ?_
  refine Z.eqI (show J = va_up J a (flU (J a) v 0) by rw [flU_0, up_self]) ?_
  exact lc_fill v hs hn 0 (Nat.zero_le _)

