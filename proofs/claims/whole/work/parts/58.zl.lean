/-! the law's own walk: locals beside the script as numbers of the picture -/
def ZL (g : GP) (L : Nat) (xs : Nat → Int32) (mc ms pc : Nat) (lv : List (Nat × Value)) (st : List Value) (I : IM) (S : SH) : Prop :=
  ∀ (l : Launch) (p : Program) (e : Env) (s : State) (m : MethodId) (below : List Frame) (meth : Method) (c : Code) (b : Nat) (H : Heap) (locs : List Loc) (cells slots : Nat) (ls : Array Slot),
    lw_At p s m meth c b L xs → mK g s → g_b g = s.heap.size → rep g I S H → va_S (mA g) s.heap H locs → lv_has ls 4 ((0, .ref b) :: lv.map (fun q => (q.1, sv (g_b g) q.2))) → cells + mc ≤ 600000 → slots + ms ≤ 7302250 →
    W p l e room_1 s m #[Value.ref b] below meth c H locs cells slots (lw_Z below #[Value.ref b] s) (F0 m pc ls (st.map (sv (g_b g))))
theorem ofI_nat (k : Nat) : Int32.ofInt (k : Int) = nI k := Int32.ofInt_eq_ofNat
section ZLR
variable {g : GP} {L : Nat} {xs : Nat → Int32} {mc ms pc : Nat} {lv : List (Nat × Value)} {st : List Value} {I : IM} {S : SH}
theorem ZL.mono {mc' ms' : Nat} (kk : ZL g L xs mc' ms' pc lv st I S) (h1 : mc' ≤ mc) (h2 : ms' ≤ ms) : ZL g L xs mc ms pc lv st I S := by
  intro l p e s m below meth c b H locs cells slots ls hA hK hg hP hS hL hc1 hc2
  exact kk l p e s m below meth c b H locs cells slots ls hA hK hg hP hS hL (by omega) (by omega)
theorem ZL.aload {k : Fin 4} {j a : Nat} (hd : decode code pc = .ok (.aload_n k, 1)) (hj : lv[j]? = some ((k : Nat), .ref a)) (kk : ZL g L xs mc ms (pc + 1) lv (.ref a :: st) I S) : ZL g L xs mc ms pc lv st I S := by
  intro l p e s m below meth c b H locs cells slots ls hA hK hg hP hS hL hc1 hc2
  obtain ⟨hx, hb, hr, hml, ho, ht0, hX, hbl, hlk, hgv⟩ := id hA
  have ht : ∀ w, inT w → w.before #[Value.ref b] s = true := fun w hw => ht0 w hw.1
  have hts : ∀ w ∈ lw_tbl.filter goodWord, w.before #[Value.ref b] s = true := fun w hw => ht0 w (List.mem_filter.mp hw).1
  have hbA : ¬ mA g b := fun h => absurd (show g_b g ≤ b from h) (by omega)
  refine lv_aload_n (x := g_b g + a) hx hb hd rfl (lv_at hL (j + 1) (by rw [List.getElem?_cons_succ, List.getElem?_map, hj]; rfl)) ?_
  exact kk l p e s m below meth c b H locs cells slots ls hA hK hg hP hS hL hc1 hc2
theorem ZL.arg {k i j : Nat} {v : Int32} (h0 : decode code pc = .ok (.aload_n 0, 1)) (h1 : decode code (pc + 1) = .ok (.iload_n 3, 1)) (h2 : decode code (pc + 1 + 1) = .ok (.iconst (k : Int), 1)) (h3 : decode code (pc + 1 + 1 + 1) = .ok (.iadd, 1)) (h4 : decode code (pc + 1 + 1 + 1 + 1) = .ok (.iaload, 1)) (hj : lv[j]? = some (3, .int (nI i))) (hk : k < 6) (hi : i + k < L) (hL31 : L < 2 ^ 31) (hv : xs (i + k) = v) (kk : ZL g L xs mc ms (pc + 5) lv (.int v :: st) I S) : ZL g L xs mc ms pc lv st I S := by
  intro l p e s m below meth c b H locs cells slots ls hA hK hg hP hS hL hc1 hc2
  obtain ⟨hx, hb, hr, hml, ho, ht0, hX, hbl, hlk, hgv⟩ := id hA
  have ht : ∀ w, inT w → w.before #[Value.ref b] s = true := fun w hw => ht0 w hw.1
  have hts : ∀ w ∈ lw_tbl.filter goodWord, w.before #[Value.ref b] s = true := fun w hw => ht0 w (List.mem_filter.mp hw).1
  have hbA : ¬ mA g b := fun h => absurd (show g_b g ≤ b from h) (by omega)
  have hik : vp_in (nI i + nI k) L ∧ (nI i + nI k).toNatClampNeg = i + k := in_nI (nI_add i k) hi hL31
  refine lv_aload_n (x := b) hx hb h0 rfl (lv_at hL 0 rfl) ?_
  refine lv_iload_n (x := nI i) hx hb h1 rfl (lv_at hL (j + 1) (by rw [List.getElem?_cons_succ, List.getElem?_map, hj]; rfl)) ?_
  refine lv_iconst (v := nI k) hx hb h2 (ofI_nat k) ?_
  refine lv_iadd hx hb h3 ?_
  refine va_sld hx hb hX hbl hbA hS hik.1 h4 ?_
  rw [hik.2, hv]
  exact kk l p e s m below meth c b H locs cells slots ls hA hK hg hP hS hL hc1 hc2
theorem ZL.op {i j : Nat} (h0 : decode code pc = .ok (.aload_n 0, 1)) (h1 : decode code (pc + 1) = .ok (.iload_n 3, 1)) (h4 : decode code (pc + 1 + 1) = .ok (.iaload, 1)) (h5 : decode code (pc + 1 + 1 + 1) = .ok (.bipush 31, 2)) (h6 : decode code (pc + 1 + 1 + 1 + 2) = .ok (.iand, 1)) (hj : lv[j]? = some (3, .int (nI i))) (hi : i < L) (hL31 : L < 2 ^ 31) (kk : ZL g L xs mc ms (pc + 6) lv (.int (xs i &&& 31) :: st) I S) : ZL g L xs mc ms pc lv st I S := by
  intro l p e s m below meth c b H locs cells slots ls hA hK hg hP hS hL hc1 hc2
  obtain ⟨hx, hb, hr, hml, ho, ht0, hX, hbl, hlk, hgv⟩ := id hA
  have ht : ∀ w, inT w → w.before #[Value.ref b] s = true := fun w hw => ht0 w hw.1
  have hts : ∀ w ∈ lw_tbl.filter goodWord, w.before #[Value.ref b] s = true := fun w hw => ht0 w (List.mem_filter.mp hw).1
  have hbA : ¬ mA g b := fun h => absurd (show g_b g ≤ b from h) (by omega)
  have hik : vp_in (nI i) L ∧ (nI i).toNatClampNeg = i := in_nI rfl hi hL31
  refine lv_aload_n (x := b) hx hb h0 rfl (lv_at hL 0 rfl) ?_
  refine lv_iload_n (x := nI i) hx hb h1 rfl (lv_at hL (j + 1) (by rw [List.getElem?_cons_succ, List.getElem?_map, hj]; rfl)) ?_
  refine va_sld hx hb hX hbl hbA hS hik.1 h4 ?_
  rw [hik.2]
  refine lv_bipush (v := 31) hx hb h5 (by decide) ?_
  refine lv_iand hx hb h6 ?_
  exact kk l p e s m below meth c b H locs cells slots ls hA hK hg hP hS hL hc1 hc2
theorem ZL.tableOut {dflt lo hi : Int} {offs : Array Int} {len : Nat} {x : Int32} {tgt : Nat} (hd : decode code pc = .ok (.tableswitch dflt lo hi offs, len)) (h : x.toInt < lo ∨ hi < x.toInt) (ht' : (pc : Int) + dflt = (tgt : Int)) (kk : ZL g L xs mc ms tgt lv st I S) : ZL g L xs mc ms pc lv (.int x :: st) I S := by
  intro l p e s m below meth c b H locs cells slots ls hA hK hg hP hS hL hc1 hc2
  obtain ⟨hx, hb, hr, hml, ho, ht0, hX, hbl, hlk, hgv⟩ := id hA
  have ht : ∀ w, inT w → w.before #[Value.ref b] s = true := fun w hw => ht0 w hw.1
  have hts : ∀ w ∈ lw_tbl.filter goodWord, w.before #[Value.ref b] s = true := fun w hw => ht0 w (List.mem_filter.mp hw).1
  have hbA : ¬ mA g b := fun h => absurd (show g_b g ≤ b from h) (by omega)
  refine lv_tableOut hx hb hd h ht' ?_
  exact kk l p e s m below meth c b H locs cells slots ls hA hK hg hP hS hL hc1 hc2
theorem ZL.tableIn {dflt lo hi : Int} {offs : Array Int} {len : Nat} {x : Int32} {off : Int} {tgt : Nat} (hd : decode code pc = .ok (.tableswitch dflt lo hi offs, len)) (h1 : ¬ x.toInt < lo) (h2 : ¬ hi < x.toInt) (hof : offs[(x.toInt - lo).toNat]? = some off) (ht' : (pc : Int) + off = (tgt : Int)) (kk : ZL g L xs mc ms tgt lv st I S) : ZL g L xs mc ms pc lv (.int x :: st) I S := by
  intro l p e s m below meth c b H locs cells slots ls hA hK hg hP hS hL hc1 hc2
  obtain ⟨hx, hb, hr, hml, ho, ht0, hX, hbl, hlk, hgv⟩ := id hA
  have ht : ∀ w, inT w → w.before #[Value.ref b] s = true := fun w hw => ht0 w hw.1
  have hts : ∀ w ∈ lw_tbl.filter goodWord, w.before #[Value.ref b] s = true := fun w hw => ht0 w (List.mem_filter.mp hw).1
  have hbA : ¬ mA g b := fun h => absurd (show g_b g ≤ b from h) (by omega)
  refine lv_tableIn hx hb hd h1 h2 hof ht' ?_
  exact kk l p e s m below meth c b H locs cells slots ls hA hK hg hP hS hL hc1 hc2
theorem ZL.cmp {x : Int32} {off : Int} {tgt : Nat} (hd : decode code pc = .ok (.if_icmp .eq off, 3)) (ht' : (pc : Int) + off = (tgt : Int)) (kk : ZL g L xs mc ms tgt lv st I S) : ZL g L xs mc ms pc lv (.int x :: .int x :: st) I S := by
  intro l p e s m below meth c b H locs cells slots ls hA hK hg hP hS hL hc1 hc2
  obtain ⟨hx, hb, hr, hml, ho, ht0, hX, hbl, hlk, hgv⟩ := id hA
  have ht : ∀ w, inT w → w.before #[Value.ref b] s = true := fun w hw => ht0 w hw.1
  have hts : ∀ w ∈ lw_tbl.filter goodWord, w.before #[Value.ref b] s = true := fun w hw => ht0 w (List.mem_filter.mp hw).1
  have hbA : ¬ mA g b := fun h => absurd (show g_b g ≤ b from h) (by omega)
  refine lv_icmp_eq hx hb hd ht' (fun _ => ?_) (fun h => absurd rfl h)
  exact kk l p e s m below meth c b H locs cells slots ls hA hK hg hP hS hL hc1 hc2
theorem ZL.goto {off : Int} {tgt : Nat} (hd : decode code pc = .ok (.goto off, 3)) (ht' : (pc : Int) + off = (tgt : Int)) (kk : ZL g L xs mc ms tgt lv st I S) : ZL g L xs mc ms pc lv st I S := by
  intro l p e s m below meth c b H locs cells slots ls hA hK hg hP hS hL hc1 hc2
  obtain ⟨hx, hb, hr, hml, ho, ht0, hX, hbl, hlk, hgv⟩ := id hA
  have ht : ∀ w, inT w → w.before #[Value.ref b] s = true := fun w hw => ht0 w hw.1
  have hts : ∀ w ∈ lw_tbl.filter goodWord, w.before #[Value.ref b] s = true := fun w hw => ht0 w (List.mem_filter.mp hw).1
  have hbA : ¬ mA g b := fun h => absurd (show g_b g ≤ b from h) (by omega)
  refine lv_goto hx hb hd ht' ?_
  exact kk l p e s m below meth c b H locs cells slots ls hA hK hg hP hS hL hc1 hc2
theorem ZL.inc {i a1 a2 : Nat} (hd : decode code pc = .ok (.iinc 3 6, 3)) (kk : ZL g L xs mc ms (pc + 3) [(1, .ref a1), (2, .ref a2), (3, .int (nI (i + 6)))] st I S) : ZL g L xs mc ms pc [(1, .ref a1), (2, .ref a2), (3, .int (nI i))] st I S := by
  intro l p e s m below meth c b H locs cells slots ls hA hK hg hP hS hL hc1 hc2
  obtain ⟨hx, hb, hr, hml, ho, ht0, hX, hbl, hlk, hgv⟩ := id hA
  have ht : ∀ w, inT w → w.before #[Value.ref b] s = true := fun w hw => ht0 w hw.1
  have hts : ∀ w ∈ lw_tbl.filter goodWord, w.before #[Value.ref b] s = true := fun w hw => ht0 w (List.mem_filter.mp hw).1
  have hbA : ¬ mA g b := fun h => absurd (show g_b g ≤ b from h) (by omega)
  have hL' : lv_has ls 4 [(0, .ref b), (1, .ref (g_b g + a1)), (2, .ref (g_b g + a2)), (3, .int (nI i))] := hL
  refine lv_iinc (lv' := [(3, .int (nI (i + 6))), (0, .ref b), (1, .ref (g_b g + a1)), (2, .ref (g_b g + a2))]) (v := nI (i + 6)) (k := 3) hx hb hd hL' rfl (nI_add i 6) (by decide) rfl (fun ls hl => ?_)
  exact kk l p e s m below meth c b H locs cells slots ls hA hK hg hP hS (lv_sub hl [1, 2, 3, 0] rfl) hc1 hc2
theorem ZL.dup {a : Nat} (hd : decode code pc = .ok (.dup, 1)) (kk : ZL g L xs mc ms (pc + 1) lv (.ref a :: .ref a :: st) I S) : ZL g L xs mc ms pc lv (.ref a :: st) I S := by
  intro l p e s m below meth c b H locs cells slots ls hA hK hg hP hS hL hc1 hc2
  obtain ⟨hx, hb, hr, hml, ho, ht0, hX, hbl, hlk, hgv⟩ := id hA
  have ht : ∀ w, inT w → w.before #[Value.ref b] s = true := fun w hw => ht0 w hw.1
  have hts : ∀ w ∈ lw_tbl.filter goodWord, w.before #[Value.ref b] s = true := fun w hw => ht0 w (List.mem_filter.mp hw).1
  have hbA : ¬ mA g b := fun h => absurd (show g_b g ≤ b from h) (by omega)
  refine lv_dup (va := .ref (g_b g + a)) hx hb hd rfl ?_
  exact kk l p e s m below meth c b H locs cells slots ls hA hK hg hP hS hL hc1 hc2
theorem ZL.astore1 {a : Nat} (hd : decode code pc = .ok (.astore_n 1, 1)) (kk : ZL g L xs mc ms (pc + 1) [(1, .ref a)] st I S) : ZL g L xs mc ms pc [] (.ref a :: st) I S := by
  intro l p e s m below meth c b H locs cells slots ls hA hK hg hP hS hL hc1 hc2
  obtain ⟨hx, hb, hr, hml, ho, ht0, hX, hbl, hlk, hgv⟩ := id hA
  have ht : ∀ w, inT w → w.before #[Value.ref b] s = true := fun w hw => ht0 w hw.1
  have hts : ∀ w ∈ lw_tbl.filter goodWord, w.before #[Value.ref b] s = true := fun w hw => ht0 w (List.mem_filter.mp hw).1
  have hbA : ¬ mA g b := fun h => absurd (show g_b g ≤ b from h) (by omega)
  have hL' : lv_has ls 4 [(0, .ref b)] := hL
  refine lv_astore_n (lv' := [(1, .ref (g_b g + a)), (0, .ref b)]) (x := g_b g + a) hx hb hd rfl hL' (by decide) rfl (fun ls hl => ?_)
  exact kk l p e s m below meth c b H locs cells slots ls hA hK hg hP hS (lv_sub hl [1, 0] rfl) hc1 hc2
theorem ZL.astore2 {a a1 : Nat} (hd : decode code pc = .ok (.astore_n 2, 1)) (kk : ZL g L xs mc ms (pc + 1) [(1, .ref a1), (2, .ref a)] st I S) : ZL g L xs mc ms pc [(1, .ref a1)] (.ref a :: st) I S := by
  intro l p e s m below meth c b H locs cells slots ls hA hK hg hP hS hL hc1 hc2
  obtain ⟨hx, hb, hr, hml, ho, ht0, hX, hbl, hlk, hgv⟩ := id hA
  have ht : ∀ w, inT w → w.before #[Value.ref b] s = true := fun w hw => ht0 w hw.1
  have hts : ∀ w ∈ lw_tbl.filter goodWord, w.before #[Value.ref b] s = true := fun w hw => ht0 w (List.mem_filter.mp hw).1
  have hbA : ¬ mA g b := fun h => absurd (show g_b g ≤ b from h) (by omega)
  have hL' : lv_has ls 4 [(0, .ref b), (1, .ref (g_b g + a1))] := hL
  refine lv_astore_n (lv' := [(2, .ref (g_b g + a)), (0, .ref b), (1, .ref (g_b g + a1))]) (x := g_b g + a) hx hb hd rfl hL' (by decide) rfl (fun ls hl => ?_)
  exact kk l p e s m below meth c b H locs cells slots ls hA hK hg hP hS (lv_sub hl [1, 2, 0] rfl) hc1 hc2
theorem ZL.zero {a1 a2 : Nat} (h1 : decode code pc = .ok (.iconst 0, 1)) (hd : decode code (pc + 1) = .ok (.istore_n 3, 1)) (kk : ZL g L xs mc ms (pc + 2) [(1, .ref a1), (2, .ref a2), (3, .int (nI 0))] st I S) : ZL g L xs mc ms pc [(1, .ref a1), (2, .ref a2)] st I S := by
  intro l p e s m below meth c b H locs cells slots ls hA hK hg hP hS hL hc1 hc2
  obtain ⟨hx, hb, hr, hml, ho, ht0, hX, hbl, hlk, hgv⟩ := id hA
  have ht : ∀ w, inT w → w.before #[Value.ref b] s = true := fun w hw => ht0 w hw.1
  have hts : ∀ w ∈ lw_tbl.filter goodWord, w.before #[Value.ref b] s = true := fun w hw => ht0 w (List.mem_filter.mp hw).1
  have hbA : ¬ mA g b := fun h => absurd (show g_b g ≤ b from h) (by omega)
  have hL' : lv_has ls 4 [(0, .ref b), (1, .ref (g_b g + a1)), (2, .ref (g_b g + a2))] := hL
  refine lv_iconst (v := nI 0) hx hb h1 (by decide) ?_
  refine lv_istore_n (lv' := [(3, .int (nI 0)), (0, .ref b), (1, .ref (g_b g + a1)), (2, .ref (g_b g + a2))]) (x := nI 0) hx hb hd rfl hL' (by decide) rfl (fun ls hl => ?_)
  exact kk l p e s m below meth c b H locs cells slots ls hA hK hg hP hS (lv_sub hl [1, 2, 3, 0] rfl) hc1 hc2

theorem ZL.callV {idx n d1 mc1 ms1 b0 ci ln N0 : Nat} {rs : List (Option Nat)} {N : MI} {C : String} {T : u_T} {ty : Nat → FieldType} {As : List Value} {Q1 : ZQ} (hd : decode code pc = .ok (.invokevirtual idx, 3)) (hlink : inT (.methodLink RL idx N.1)) (hN : mOk N n) (him : inT (.instanceMethod N.1)) (hse : inT (.selects N.1.cls N.1 N.1)) (hs : S[b0]? = some (ci, ln, rs)) (hc : clOk ci C T N0 ty) (hcn : C = N.1.cls) (hk : d1 + 1 ≤ 11) (hn : As.length = n) (hav : avOk N (.ref b0 :: As)) (hst : st.all isV = true ∧ st.length ≤ 8) (hb1 : mc1 ≤ mc) (hb2 : ms1 ≤ ms)
    (hcal : Z g d1 mc1 ms1 N 0 (enL N (.ref b0 :: As)) [] I S Q1) {st0 : List Value} (he : st0 = As.reverse ++ .ref b0 :: st)
    (kk : ∀ v I' S', Q1 v I' S' → ZL g L xs (mc - mc1) (ms - ms1) (pc + 3) lv (v.toList ++ st) I' S') : ZL g L xs mc ms pc lv st0 I S := by
  subst he
  intro l p e s m below meth c b H locs cells slots ls hA hK hg hP hS hL hc1 hc2
  obtain ⟨hx, hb, hr, hml, ho, ht0, hX, hbl, hlk, hgv⟩ := id hA
  have ht : ∀ w, inT w → w.before #[Value.ref b] s = true := fun w hw => ht0 w hw.1
  have hts : ∀ w ∈ lw_tbl.filter goodWord, w.before #[Value.ref b] s = true := fun w hw => ht0 w (List.mem_filter.mp hw).1
  have hbA : ¬ mA g b := fun h => absurd (show g_b g ≤ b from h) (by omega)
  have hrun := va_runV (l := l) (e := e) (R := room_1) (below := below) (locs := locs) (meth := meth) (g := F0 m pc ls ((As.reverse ++ .ref b0 :: st).map (sv (g_b g)))) (rest := st.map (sv (g_b g))) (own := RL) (C := N.1.cls) (b := g_b g + b0) (As := As.map (sv (g_b g))) (Ts := lw_tbl.filter goodWord) ⟨hx, hb, hml, ho, hts⟩ (hcal.met hN.2.1 hav l) ⟨⟨rfl, rfl, by show d1 + 1 ≤ 11; omega, by show 8 + (N.2.2.1 + 11) + 42 * d1 ≤ 470; have := hN.2.2.2.2; omega, mWs_ok hN ht, List.mem_cons_self, ht _ hN.1.2, ht _ hN.1.1, hN.2.2.1, hN.len, ht _ hlink⟩, ht _ him, ht _ hse⟩ ⟨mPc_blind, hcn ▸ va_recv hK.1 hP.1 hc.1 ((wl_at hs).trans (by rw [ent_obj hc.2.2.2.2.2.1])), fun U hU hW => ⟨rfl, by rw [hU]; exact hP, hK.warm hW⟩⟩ rfl (by rw [List.length_map]; exact hn) hL.1 (by simp [List.map_append, List.map_reverse, sv]) (lv_room (by rw [cat_sum st hst.1]; exact hst.2)) hd ⟨by show cells + mc1 ≤ 600000; omega, by show slots + ms1 ≤ 7302250; omega⟩
  intro T hT X
  obtain ⟨v, st₀, t, T', Lc, h0, X', hLc, e1, e2, ⟨⟨v', I', S', hv, hq, hrp⟩, hz, hk'⟩, stp⟩ := hrun T hT X
  rw [h0] at hz hk'
  have hS' : va_S (mA g) s.heap T'.heap (locs ++ Lc) := by
    refine ⟨Nat.le_trans hS.1 (by rw [e1]; exact hz), fun q a1 a2 => ?_, fun q hq => ?_⟩
    · rw [e1, hk' q (Nat.lt_of_lt_of_le a1 hS.1) a2]
      exact hS.2.1 q a1 a2
    · rcases List.mem_append.mp hq with h | h
      · exact hS.2.2 q h
      · exact hLc q h
  obtain ⟨t2, a1, b1⟩ := kk v' I' S' hq l p e s m below meth c b T'.heap (locs ++ Lc) (cells + mc1) (slots + ms1) ls hA hK hg (by rw [e1]; exact hrp) hS' hL (by omega) (by omega) T' rfl X'
  refine ⟨t2, stp t2 ?_, b1⟩
  have hv2 : v = v'.map (sv (g_b g)) := by injection hv
  rw [hv2]
  cases v' <;> exact a1
theorem ZL.callI {idx n d1 mc1 ms1 b0 : Nat} {N : MI} {As : List Value} {Q1 : ZQ} (hd : decode code pc = .ok (.invokespecial idx, 3)) (hlink : inT (.methodLink RL idx N.1)) (hN : mOk N n) (him : inT (.instanceMethod N.1)) (hini : N.1.name = "<init>" ∧ N.2.2.2 = none) (hk : d1 + 1 ≤ 11) (hn : As.length = n) (hav : avOk N (.ref b0 :: As)) (hst : st.all isV = true ∧ st.length ≤ 8) (hb1 : mc1 ≤ mc) (hb2 : ms1 ≤ ms)
    (hcal : Z g d1 mc1 ms1 N 0 (enL N (.ref b0 :: As)) [] I S Q1) {st0 : List Value} (he : st0 = As.reverse ++ .ref b0 :: st)
    (kk : ∀ v I' S', Q1 v I' S' → ZL g L xs (mc - mc1) (ms - ms1) (pc + 3) lv (v.toList ++ st) I' S') : ZL g L xs mc ms pc lv st0 I S := by
  subst he
  intro l p e s m below meth c b H locs cells slots ls hA hK hg hP hS hL hc1 hc2
  obtain ⟨hx, hb, hr, hml, ho, ht0, hX, hbl, hlk, hgv⟩ := id hA
  have ht : ∀ w, inT w → w.before #[Value.ref b] s = true := fun w hw => ht0 w hw.1
  have hts : ∀ w ∈ lw_tbl.filter goodWord, w.before #[Value.ref b] s = true := fun w hw => ht0 w (List.mem_filter.mp hw).1
  have hbA : ¬ mA g b := fun h => absurd (show g_b g ≤ b from h) (by omega)
  have hcode := hN.1.2
  rw [hini.2] at hcode
  have hrun := va_runI (l := l) (e := e) (R := room_1) (below := below) (locs := locs) (meth := meth) (g := F0 m pc ls ((As.reverse ++ .ref b0 :: st).map (sv (g_b g)))) (rest := st.map (sv (g_b g))) (own := RL) (b := g_b g + b0) (As := As.map (sv (g_b g))) (Ts := lw_tbl.filter goodWord) ⟨hx, hb, hml, ho, hts⟩ (hcal.met hN.2.1 hav l) ⟨⟨rfl, rfl, by show d1 + 1 ≤ 11; omega, by show 8 + (N.2.2.1 + 11) + 42 * d1 ≤ 470; have := hN.2.2.2.2; omega, mWs_ok hN ht, by rw [mWs, hini.2]; exact List.mem_cons_self, ht _ hcode, ht _ hN.1.1, hN.2.2.1, hN.len, ht _ hlink⟩, hini.1, ht _ him⟩ ⟨mPc_blind, fun U hU hW => ⟨rfl, by rw [hU]; exact hP, hK.warm hW⟩⟩ rfl (by rw [List.length_map]; exact hn) hL.1 (by simp [List.map_append, List.map_reverse, sv]) (lv_room (by rw [cat_sum st hst.1]; exact hst.2)) hd ⟨by show cells + mc1 ≤ 600000; omega, by show slots + ms1 ≤ 7302250; omega⟩
  intro T hT X
  obtain ⟨v, st₀, t, T', Lc, h0, X', hLc, e1, e2, ⟨⟨v', I', S', hv, hq, hrp⟩, hz, hk'⟩, stp⟩ := hrun T hT X
  rw [h0] at hz hk'
  have hS' : va_S (mA g) s.heap T'.heap (locs ++ Lc) := by
    refine ⟨Nat.le_trans hS.1 (by rw [e1]; exact hz), fun q a1 a2 => ?_, fun q hq => ?_⟩
    · rw [e1, hk' q (Nat.lt_of_lt_of_le a1 hS.1) a2]
      exact hS.2.1 q a1 a2
    · rcases List.mem_append.mp hq with h | h
      · exact hS.2.2 q h
      · exact hLc q h
  obtain ⟨t2, a1, b1⟩ := kk v' I' S' hq l p e s m below meth c b T'.heap (locs ++ Lc) (cells + mc1) (slots + ms1) ls hA hK hg (by rw [e1]; exact hrp) hS' hL (by omega) (by omega) T' rfl X'
  refine ⟨t2, stp t2 ?_, b1⟩
  have hv2 : v = v'.map (sv (g_b g)) := by injection hv
  rw [hv2]
  cases v' <;> exact a1
theorem ZL.new {idx ci N a : Nat} {C : String} {T : u_T} {ty : Nat → FieldType} (hd : decode code pc = .ok (.new idx, 3)) (hc : clOk ci C T N ty) (hlink : inT (.classLink RL idx C)) (hia : inT (.instantiable C N)) (hini : inT (.initialized C)) (hb1 : 1 ≤ mc) (hb2 : N ≤ ms) (hl : S.length = a)
    (kk : ZL g L xs (mc - 1) (ms - N) (pc + 3) lv (.ref a :: st) (va_up I a (fun _ => 0)) (S ++ [(ci, 0, List.replicate N none)])) : ZL g L xs mc ms pc lv st I S := by
  subst hl
  intro l p e s m below meth c b H locs cells slots ls hA hK hg hP hS hL hc1 hc2
  obtain ⟨hx, hb, hr, hml, ho, ht0, hX, hbl, hlk, hgv⟩ := id hA
  have ht : ∀ w, inT w → w.before #[Value.ref b] s = true := fun w hw => ht0 w hw.1
  have hts : ∀ w ∈ lw_tbl.filter goodWord, w.before #[Value.ref b] s = true := fun w hw => ht0 w (List.mem_filter.mp hw).1
  have hbA : ¬ mA g b := fun h => absurd (show g_b g ≤ b from h) (by omega)
  obtain ⟨hP, hsz⟩ := hP
  have hin : ∀ w ∈ u_ws C T N, w ∈ lw_tbl.filter goodWord := fun w hw => List.mem_filter.mpr (hc.2.1 w hw)
  have hKn := hK.1.1 ci _ hc.1
  refine W.newcK hx hb ho (ht _ hlink) (ht _ hia) (ht _ hini) rfl hd (by show cells + 1 ≤ 600000; omega) (by show slots + N ≤ 7302250; omega) hKn.2.1 hsz fun H1 kC hkC e1 z1 o1 => ?_
  have hP' : va_P (g.1, g.2.1) mCl (wl g (va_up I S.length (fun _ => 0)) (S ++ [(ci, 0, List.replicate N none)])) H1 := by
    rw [← wl_push]
    refine (hP.kept (fun k x hx => o1 x.1 (hsz ▸ (hP k x hx).lt))).app (fun k x hx => ?_)
    have hz : k < 1 := (List.getElem?_eq_some_iff.mp hx).1
    rw [show k = 0 by omega] at hx
    cases hx
    rw [ent_obj hc.2.2.2.2.2.1]
    refine ⟨_, hc.1, (u_born ty hts hin hKn hkC e1 hc.2.2.1).to (fun k hk => ?_)⟩
    rw [hc.2.2.2.2.2.2 k hk, vp_V, List.getD_eq_getElem?_getD, fs_at hc.2.2.2.2.1 hk, fVal]
    by_cases h2 : fTy ci k = 2
    · rw [if_pos h2, if_pos h2, List.getD_eq_getElem?_getD, List.getElem?_replicate]
      simp [hk, srf, va_rf]
    · rw [if_neg h2, if_neg h2]
      rfl
  exact kk l p e s m below meth c b H1 locs (cells + 1) (slots + N) ls hA hK hg ⟨hP', by rw [z1, List.length_append]; rfl⟩ ⟨Nat.le_trans hS.1 (by omega), fun x h1 h2 => (o1 x (by rw [← hsz]; exact Nat.lt_of_lt_of_le h1 hS.1)).trans (hS.2.1 x h1 h2), hS.2.2⟩ hL (by omega) (by omega)
theorem ZL.fin (h1 : decode code pc = .ok (.iconst 1, 1)) (hd : decode code (pc + 1) = .ok (.ireturn, 1)) : ZL g L xs mc ms pc lv [] I S := by
  intro l p e s m below meth c b H locs cells slots ls hA hK hg hP hS hL hc1 hc2
  obtain ⟨hx, hb, hr, hml, ho, ht0, hX, hbl, hlk, hgv⟩ := id hA
  have ht : ∀ w, inT w → w.before #[Value.ref b] s = true := fun w hw => ht0 w hw.1
  have hts : ∀ w ∈ lw_tbl.filter goodWord, w.before #[Value.ref b] s = true := fun w hw => ht0 w (List.mem_filter.mp hw).1
  have hbA : ¬ mA g b := fun h => absurd (show g_b g ≤ b from h) (by omega)
  refine lv_iconst (v := 1) hx hb h1 (by decide) ?_
  refine va_forget (fun q hq => hg ▸ hS.2.2 q hq) ?_
  refine W.widen (k := 600000) (n := 7302250) (by omega) (by omega) ?_
  exact lw_ret hx hb hr hlk hd
theorem len_cmp {L i : Nat} (hL : L ≤ 3072) (hi : i ≤ L) : (nI L - 6 < nI i) ↔ L < i + 6 := by
  have e : (nI L - 6).toInt = (L : Int) - 6 := by
    by_cases c : 6 ≤ L
    · rw [show (6 : Int32) = nI 6 from rfl, nI_sub c, nI_toInt (by omega)]
      omega
    · rcases (show L = 0 ∨ L = 1 ∨ L = 2 ∨ L = 3 ∨ L = 4 ∨ L = 5 by omega) with rfl | rfl | rfl | rfl | rfl | rfl <;> decide
  rw [Int32.lt_iff_toInt_lt, e, nI_toInt (by omega)]
  omega
theorem ZL.head {i j : Nat} {off : Int} {tgt : Nat} (h0 : decode code pc = .ok (.iload_n 3, 1)) (h1 : decode code (pc + 1) = .ok (.aload_n 0, 1)) (h2 : decode code (pc + 1 + 1) = .ok (.arraylength, 1)) (h3 : decode code (pc + 1 + 1 + 1) = .ok (.bipush 6, 2)) (h4 : decode code (pc + 1 + 1 + 1 + 2) = .ok (.isub, 1)) (h5 : decode code (pc + 1 + 1 + 1 + 2 + 1) = .ok (.if_icmp .gt off, 3)) (ht' : ((pc + 1 + 1 + 1 + 2 + 1 : Nat) : Int) + off = (tgt : Int)) (hj : lv[j]? = some (3, .int (nI i))) (hL3 : L ≤ 3072) (hi : i ≤ L)
    (k1 : L < i + 6 → ZL g L xs mc ms tgt lv st I S) (k2 : i + 6 ≤ L → ZL g L xs mc ms (pc + 9) lv st I S) : ZL g L xs mc ms pc lv st I S := by
  intro l p e s m below meth c b H locs cells slots ls hA hK hg hP hS hL hc1 hc2
  obtain ⟨hx, hb, hr, hml, ho, ht0, hX, hbl, hlk, hgv⟩ := id hA
  have ht : ∀ w, inT w → w.before #[Value.ref b] s = true := fun w hw => ht0 w hw.1
  have hts : ∀ w ∈ lw_tbl.filter goodWord, w.before #[Value.ref b] s = true := fun w hw => ht0 w (List.mem_filter.mp hw).1
  have hbA : ¬ mA g b := fun h => absurd (show g_b g ≤ b from h) (by omega)
  refine lv_iload_n (x := nI i) hx hb h0 rfl (lv_at hL (j + 1) (by rw [List.getElem?_cons_succ, List.getElem?_map, hj]; rfl)) ?_
  refine lv_aload_n (x := b) hx hb h1 rfl (lv_at hL 0 rfl) ?_
  refine va_slen hx hb hX hbl hbA hS h2 ?_
  refine lv_bipush (v := 6) hx hb h3 (by decide) ?_
  refine lv_isub hx hb h4 ?_
  refine lv_icmp_gt hx hb h5 ht' (fun h => ?_) (fun h => ?_)
  · exact k1 ((len_cmp hL3 hi).mp h) l p e s m below meth c b H locs cells slots ls hA hK hg hP hS hL hc1 hc2
  · exact k2 (Nat.not_lt.mp (fun q => h ((len_cmp hL3 hi).mpr q))) l p e s m below meth c b H locs cells slots ls hA hK hg hP hS hL hc1 hc2
end ZLR
