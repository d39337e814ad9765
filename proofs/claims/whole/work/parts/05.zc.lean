theorem lg_sl_cat (vs : List Value) (h : ∀ v ∈ vs, v.category = 1) : (lg_sl vs).length = vs.length := by
  induction vs with
  | nil => rfl
  | cons v vs ih =>
    have h1 : ¬ v.category = 2 := by rw [h v List.mem_cons_self]; decide
    have h2 := ih (fun w hw => h w (List.mem_cons_of_mem _ hw))
    simp only [lg_sl, List.flatMap_cons, if_neg h1, List.length_append, List.length_cons, List.length_nil] at h2 ⊢
    omega
theorem lv_args_mem (vs : List Value) (h : ∀ v ∈ vs, v.category = 1) : ∀ (k i : Nat) (v : Value), vs[i]? = some v → (k + i, v) ∈ lv_args k vs := by
  induction vs with
  | nil => intro k i v hv; simp at hv
  | cons w vs ih =>
    intro k i v hv
    have h1 : ¬ w.category = 2 := by rw [h w List.mem_cons_self]; decide
    cases i with
    | zero =>
      simp at hv
      subst hv
      exact List.mem_cons_self
    | succ i =>
      simp only [List.getElem?_cons_succ] at hv
      have h2 := ih (fun w hw => h w (List.mem_cons_of_mem _ hw)) (k + 1) i v hv
      unfold lv_args
      rw [if_neg h1]
      refine List.mem_cons_of_mem _ ?_
      rw [show k + (i + 1) = k + 1 + i by omega]
      exact h2
def enL (M : MI) (av : List Value) : List Value := av ++ List.replicate (M.2.2.1 - av.length) (.retAddr 0)
def mWs (M : MI) : List Cond := .code M.1 M.2.1 M.2.2.1 M.2.2.2 :: lw_tbl.filter goodWord
def mPc (g : GP) (av : List Value) (I : IM) (S : SH) : Array Value → State → Prop := va_Pc (av.map (sv (g_b g))) (fun U => rep g I S U.heap ∧ mK g U)
def mQc (g : GP) (Q : ZQ) : Array Value → State → Outcome → State → Prop := fun _ st oc t => (∃ (v : Option Value) (I : IM) (S : SH), oc = .returned (v.map (sv (g_b g))) ∧ Q v I S ∧ rep g I S t.heap) ∧ va_F (mA g) st t
abbrev mRm (d mc ms : Nat) : Room := { frames := d, cells := mc, slots := ms, locals := 42 * d }
def avOk (M : MI) (av : List Value) : Prop := av.all isV = true ∧ av.length ≤ M.2.2.1
theorem Z.met {g : GP} {d mc ms : Nat} {M : MI} {av : List Value} {I : IM} {S : SH} {Q : ZQ} (hz : Z g d mc ms M 0 (enL M av) [] I S Q) (hp : plainName M.1.cls = true) (ha : avOk M av) (l : Launch) :
    Met l M.1 (mWs M) (mRm d mc ms) (mPc g av I S) (mQc g Q) mc ms (mA g) := by
  refine Met.ofW (cc := M.2.1) (maxL := M.2.2.1) (ret := M.2.2.2) hp rfl ?_
  intro p e s m args below meth c s₁ B hml hv
  obtain ⟨rfl, hR, hK⟩ := hv
  have hts := atoms_spec (ws := mWs M) B.pre
  have hown := findClass_of_methodNamed B.named
  have hav : ∀ v ∈ av, isV v = true := List.all_eq_true.mp ha.1
  have hcat : ∀ v ∈ av.map (sv (g_b g)), v.category = 1 := fun v hv => by
    obtain ⟨w, hw, rfl⟩ := List.mem_map.mp hv
    exact sv_cat (hav w hw)
  have hlen := lg_sl_cat _ hcat
  rw [List.length_map] at hlen
  have hl := lv_entry (av.map (sv (g_b g))) (n := M.2.2.1) (by rw [hlen]; exact ha.2)
  rw [lg_entry_eq]
  generalize (lg_sl (av.map (sv (g_b g))) ++ List.replicate (M.2.2.1 - (lg_sl (av.map (sv (g_b g)))).length) Slot.unset).toArray = ls at hl ⊢
  have hl2 : lOk (g_b g) M.2.2.1 (enL M av) ls := by
    refine ⟨?_, hl.1, hl.2.1, fun q hq => ?_⟩
    · have := ha.2
      simp [enL]
      omega
    · obtain ⟨w, h1, h2, h3⟩ := lvs_inv hq
      by_cases hq1 : q.1 < av.length
      · rw [enL, List.getElem?_append_left hq1] at h1
        have h4 := lv_args_mem _ hcat 0 q.1 (sv (g_b g) w) (by rw [List.getElem?_map, h1]; rfl)
        rw [Nat.zero_add, ← h3] at h4
        exact hl.2.2 _ h4
      · rw [enL, List.getElem?_append_right (by omega)] at h1
        have h5 := List.eq_of_mem_replicate (List.mem_of_getElem? h1)
        rw [h5] at h2
        cases h2
  exact hz l p e _ s m _ below meth c s.heap [] 0 0 mc ms ls (mQc g Q) ⟨B.exec, B.bytes, B.returns, B.notSynchronized, hml, hown, (name_of_methodNamed B.named B.method).1, fun w hw => hts w (List.mem_cons_of_mem _ (List.mem_filter.mpr hw)), hK, Nat.le_refl _, Nat.le_refl _, by rw [hR.2]; exact Nat.le_add_right _ _⟩
    ⟨hR, va_S.rf, hl2, Nat.zero_add _, Nat.zero_add _, Nat.le_refl _, Nat.le_refl _⟩ (fun v I S t hq hr hf _ => ⟨⟨v, I, S, rfl, hq, hr⟩, hf⟩)
theorem mPc_blind {g : GP} {av : List Value} {I : IM} {S : SH} : FrameBlind (mPc g av I S) := fun a U f mk h => ⟨h.1, h.2.1, h.2.2.same rfl⟩
theorem cat_sum {b : Nat} : ∀ (st : List Value), st.all isV = true → ((st.map (sv b)).map fun v => v.category).sum = st.length
  | [], _ => rfl
  | v :: st, h => by
    simp only [List.all_cons, Bool.and_eq_true] at h
    simp only [List.map_cons, List.sum_cons, sv_cat h.1, cat_sum st h.2, List.length_cons]
    omega
/-- what a callee must be -/
def mOk (N : MI) (n : Nat) : Prop := (inT (.initialized N.1.cls) ∧ inT (.code N.1 N.2.1 N.2.2.1 N.2.2.2)) ∧ plainName N.1.cls = true ∧ (N.1.cls ≠ "java/lang/invoke/MethodHandle" ∧ N.1.cls ≠ "java/lang/invoke/VarHandle") ∧ (parseMethodDescriptor N.1.desc).map (fun d => d.parameters.length) = some n ∧ N.2.2.1 ≤ 23
theorem mOk.len {N : MI} {n : Nat} (h : mOk N n) : ∀ sig, parseMethodDescriptor N.1.desc = some sig → n = sig.parameters.length := fun sig hs => by
  have h2 := h.2.2.2.1
  rw [hs] at h2
  exact (Option.some.inj h2).symm
theorem mWs_ok {N : MI} {n : Nat} (h : mOk N n) {args : Array Value} {s : State} (ht : ∀ w, inT w → w.before args s = true) : ∀ w ∈ mWs N, ∀ (a' : Array Value) (U : State), s.WarmedH U.vm → w.before a' U = true := by
  intro w hw a' U hW
  have hi : inT w := by
    rcases List.mem_cons.mp hw with rfl | hw
    · exact h.1.2
    · exact List.mem_filter.mp hw
  exact word_at hW (good_of_word hi.2) (ht w hi)
section ZC
variable {g : GP} {d mc ms : Nat} {M : MI} {pc : Nat} {L st : List Value} {I : IM} {S : SH} {Q : ZQ}
/-- behind a call -/
theorem Z.after {l : Launch} {p : Program} {e : Env} {R : Room} {s : State} {m : MethodId} {args : Array Value} {below : List Frame} {meth : Method} {c : Code} {H : Heap} {locs : List Loc} {cells slots mcF msF mc1 ms1 : Nat} {ls : Array Slot} {Qc : Array Value → State → Outcome → State → Prop} {Q1 : ZQ} {st0 : List Value} {av : Array Value}
    (hr : va_Run p l e R s m args below meth c H locs cells slots mc1 ms1 (F0 m pc ls st0) (st.map (sv (g_b g))) (mQc g Q1 av) (mA g))
    (hC : zC g d M p R s m args meth c) (hD : zD g M.2.2.1 mc ms L I S R s H locs cells slots mcF msF ls) (hQ : zQ g s args Qc Q) (h1 : mc1 ≤ mc) (h2 : ms1 ≤ ms)
    (kk : ∀ v I' S', Q1 v I' S' → Z g d (mc - mc1) (ms - ms1) M (pc + 3) L (v.toList ++ st) I' S' Q) :
    W p l e R s m args below meth c H locs cells slots (MQ below Qc args s mcF msF (mA g)) (F0 m pc ls st0) := by
  obtain ⟨⟨hP, hsz⟩, hS, hL, hcc, hss, hcr, hsr⟩ := hD
  intro T hT X
  obtain ⟨v, st₀, t, T', Lc, h0, X', hLc, e1, e2, ⟨⟨v', I', S', hv, hq, hrp⟩, hz, hk⟩, stp⟩ := hr T hT X
  rw [h0] at hz hk
  have hS' : va_S (mA g) s.heap T'.heap (locs ++ Lc) := by
    refine ⟨Nat.le_trans hS.1 (by rw [e1]; exact hz), fun q a1 a2 => ?_, fun q hq => ?_⟩
    · rw [e1, hk q (Nat.lt_of_lt_of_le a1 hS.1) a2]
      exact hS.2.1 q a1 a2
    · rcases List.mem_append.mp hq with h | h
      · exact hS.2.2 q h
      · exact hLc q h
  obtain ⟨t2, a1, b1⟩ := kk v' I' S' hq l p e R s m args below meth c T'.heap (locs ++ Lc) (cells + mc1) (slots + ms1) mcF msF ls Qc hC ⟨by rw [e1]; exact hrp, hS', hL, by omega, by omega, hcr, hsr⟩ hQ T' rfl X'
  refine ⟨t2, stp t2 ?_, b1⟩
  have hv2 : v = v'.map (sv (g_b g)) := by injection hv
  rw [hv2]
  cases v' <;> exact a1

theorem Z.callV {idx n d1 mc1 ms1 b ci ln N0 : Nat} {rs : List (Option Nat)} {N : MI} {C : String} {T : u_T} {ty : Nat → FieldType} {As : List Value} {Q1 : ZQ} (hd : decode M.2.1 pc = .ok (.invokevirtual idx, 3)) (hlink : inT (.methodLink M.1.cls idx N.1)) (hN : mOk N n) (him : inT (.instanceMethod N.1)) (hse : inT (.selects N.1.cls N.1 N.1)) (hs : S[b]? = some (ci, ln, rs)) (hc : clOk ci C T N0 ty) (hcn : C = N.1.cls) (hk : d1 + 1 ≤ d) (hn : As.length = n) (hav : avOk N (.ref b :: As)) (hst : st.all isV = true ∧ st.length ≤ 8) (hb1 : mc1 ≤ mc) (hb2 : ms1 ≤ ms)
    (hcal : Z g d1 mc1 ms1 N 0 (enL N (.ref b :: As)) [] I S Q1)
    (kk : ∀ v I' S', Q1 v I' S' → Z g d (mc - mc1) (ms - ms1) M (pc + 3) L (v.toList ++ st) I' S' Q) : Z g d mc ms M pc L (As.reverse ++ .ref b :: st) I S Q := by
  intro l p e R s m args below meth c H locs cells slots mcF msF ls Qc hC hD hQ
  have hC0 := hC
  have hD0 := hD
  obtain ⟨hx, hb, hr, hlk, hml, ho, hnm, ht, hK, hfr, hlo, hbs⟩ := hC
  obtain ⟨⟨hP, hsz⟩, hS, hL, hcc, hss, hcr, hsr⟩ := hD
  have hts : ∀ w ∈ lw_tbl.filter goodWord, w.before args s = true := fun w hw => ht w (List.mem_filter.mp hw)
  refine Z.after (mc1 := mc1) (ms1 := ms1) (va_runV (C := N.1.cls) (b := g_b g + b) (As := As.map (sv (g_b g))) (Ts := lw_tbl.filter goodWord) ⟨hx, hb, hml, ho, hts⟩ (hcal.met hN.2.1 hav l) ⟨⟨rfl, rfl, by show d1 + 1 ≤ R.frames; omega, by show 8 + (N.2.2.1 + 11) + 42 * d1 ≤ R.locals; have := hN.2.2.2.2; omega, mWs_ok hN ht, List.mem_cons_self, ht _ hN.1.2, ht _ hN.1.1, hN.2.2.1, hN.len, ht _ hlink⟩, ht _ him, ht _ hse⟩ ⟨mPc_blind, hcn ▸ va_recv hK.1 hP hc.1 ((wl_at hs).trans (by rw [ent_obj hc.2.2.2.2.2.1])), fun U hU hW => ⟨rfl, by rw [hU]; exact ⟨hP, hsz⟩, hK.warm hW⟩⟩ rfl (by rw [List.length_map]; exact hn) (hL.2.1) (by simp [List.map_append, List.map_reverse, sv]) (lv_room (by rw [cat_sum st hst.1]; exact hst.2)) hd ⟨by omega, by omega⟩) hC0 hD0 hQ hb1 hb2 kk
theorem Z.callS {idx n d1 mc1 ms1 : Nat} {N : MI} {As : List Value} {Q1 : ZQ} (hd : decode M.2.1 pc = .ok (.invokestatic idx, 3)) (hlink : inT (.methodLink M.1.cls idx N.1)) (hN : mOk N n) (hsta : inT (.static N.1)) (hk : d1 + 1 ≤ d) (hn : As.length = n) (hav : avOk N As) (hst : st.all isV = true ∧ st.length ≤ 8) (hb1 : mc1 ≤ mc) (hb2 : ms1 ≤ ms)
    (hcal : Z g d1 mc1 ms1 N 0 (enL N As) [] I S Q1)
    (kk : ∀ v I' S', Q1 v I' S' → Z g d (mc - mc1) (ms - ms1) M (pc + 3) L (v.toList ++ st) I' S' Q) : Z g d mc ms M pc L (As.reverse ++ st) I S Q := by
  intro l p e R s m args below meth c H locs cells slots mcF msF ls Qc hC hD hQ
  have hC0 := hC
  have hD0 := hD
  obtain ⟨hx, hb, hr, hlk, hml, ho, hnm, ht, hK, hfr, hlo, hbs⟩ := hC
  obtain ⟨⟨hP, hsz⟩, hS, hL, hcc, hss, hcr, hsr⟩ := hD
  have hts : ∀ w ∈ lw_tbl.filter goodWord, w.before args s = true := fun w hw => ht w (List.mem_filter.mp hw)
  refine Z.after (mc1 := mc1) (ms1 := ms1) (va_runS (As := As.map (sv (g_b g))) (Ts := lw_tbl.filter goodWord) ⟨hx, hb, hml, ho, hts⟩ (hcal.met hN.2.1 hav l) ⟨⟨rfl, rfl, by show d1 + 1 ≤ R.frames; omega, by show 8 + (N.2.2.1 + 11) + 42 * d1 ≤ R.locals; have := hN.2.2.2.2; omega, mWs_ok hN ht, List.mem_cons_self, ht _ hN.1.2, ht _ hN.1.1, hN.2.2.1, hN.len, ht _ hlink⟩, ht _ hsta⟩ ⟨mPc_blind, fun U hU hW => ⟨rfl, by rw [hU]; exact ⟨hP, hsz⟩, hK.warm hW⟩⟩ rfl (by rw [List.length_map]; exact hn) (hL.2.1) (by simp [List.map_append, List.map_reverse, sv]) (lv_room (by rw [cat_sum st hst.1]; exact hst.2)) hd ⟨by omega, by omega⟩) hC0 hD0 hQ hb1 hb2 kk
theorem Z.callSN {idx n d1 mc1 ms1 : Nat} {N : MI} {As : List Value} {Q1 : ZQ} (hd : decode M.2.1 pc = .ok (.invokestatic idx, 3)) (hlink : (M.1.cls, idx, N.1) ∈ nestL) (hN : mOk N n) (hsta : inT (.static N.1)) (hk : d1 + 1 ≤ d) (hn : As.length = n) (hav : avOk N As) (hst : st.all isV = true ∧ st.length ≤ 8) (hb1 : mc1 ≤ mc) (hb2 : ms1 ≤ ms)
    (hcal : Z g d1 mc1 ms1 N 0 (enL N As) [] I S Q1)
    (kk : ∀ v I' S', Q1 v I' S' → Z g d (mc - mc1) (ms - ms1) M (pc + 3) L (v.toList ++ st) I' S' Q) : Z g d mc ms M pc L (As.reverse ++ st) I S Q := by
  intro l p e R s m args below meth c H locs cells slots mcF msF ls Qc hC hD hQ
  have hC0 := hC
  have hD0 := hD
  obtain ⟨hx, hb, hr, hlk, hml, ho, hnm, ht, hK, hfr, hlo, hbs⟩ := hC
  obtain ⟨⟨hP, hsz⟩, hS, hL, hcc, hss, hcr, hsr⟩ := hD
  have hts : ∀ w ∈ lw_tbl.filter goodWord, w.before args s = true := fun w hw => ht w (List.mem_filter.mp hw)
  refine Z.after (mc1 := mc1) (ms1 := ms1) (va_runSN (host := RX6) (As := As.map (sv (g_b g))) (Ts := lw_tbl.filter goodWord) ⟨hx, hb, hml, ho, hts⟩ (hcal.met hN.2.1 hav l) ⟨⟨⟨rfl, rfl, by show d1 + 1 ≤ R.frames; omega, by show 8 + (N.2.2.1 + 11) + 42 * d1 ≤ R.locals; have := hN.2.2.2.2; omega, mWs_ok hN ht, List.mem_cons_self⟩, ht _ hN.1.2, ht _ hN.1.1, hN.2.2.1, hN.len, va_Nw.use rfl (hK.2.1 _ hlink)⟩, ht _ hsta, trivial⟩ ⟨mPc_blind, fun U hU hW => ⟨rfl, by rw [hU]; exact ⟨hP, hsz⟩, hK.warm hW⟩⟩ rfl (by rw [List.length_map]; exact hn) (hL.2.1) (by simp [List.map_append, List.map_reverse, sv]) (lv_room (by rw [cat_sum st hst.1]; exact hst.2)) hd ⟨by omega, by omega⟩) hC0 hD0 hQ hb1 hb2 kk
theorem Z.callI {idx n d1 mc1 ms1 b : Nat} {N : MI} {As : List Value} {Q1 : ZQ} (hd : decode M.2.1 pc = .ok (.invokespecial idx, 3)) (hlink : inT (.methodLink M.1.cls idx N.1)) (hN : mOk N n) (him : inT (.instanceMethod N.1)) (hini : N.1.name = "<init>" ∧ N.2.2.2 = none) (hk : d1 + 1 ≤ d) (hn : As.length = n) (hav : avOk N (.ref b :: As)) (hst : st.all isV = true ∧ st.length ≤ 8) (hb1 : mc1 ≤ mc) (hb2 : ms1 ≤ ms)
    (hcal : Z g d1 mc1 ms1 N 0 (enL N (.ref b :: As)) [] I S Q1)
    (kk : ∀ v I' S', Q1 v I' S' → Z g d (mc - mc1) (ms - ms1) M (pc + 3) L (v.toList ++ st) I' S' Q) : Z g d mc ms M pc L (As.reverse ++ .ref b :: st) I S Q := by
  intro l p e R s m args below meth c H locs cells slots mcF msF ls Qc hC hD hQ
  have hC0 := hC
  have hD0 := hD
  obtain ⟨hx, hb, hr, hlk, hml, ho, hnm, ht, hK, hfr, hlo, hbs⟩ := hC
  obtain ⟨⟨hP, hsz⟩, hS, hL, hcc, hss, hcr, hsr⟩ := hD
  have hts : ∀ w ∈ lw_tbl.filter goodWord, w.before args s = true := fun w hw => ht w (List.mem_filter.mp hw)
  have hcode := hN.1.2
  rw [hini.2] at hcode
  refine Z.after (mc1 := mc1) (ms1 := ms1) (va_runI (b := g_b g + b) (As := As.map (sv (g_b g))) (Ts := lw_tbl.filter goodWord) ⟨hx, hb, hml, ho, hts⟩ (hcal.met hN.2.1 hav l) ⟨⟨rfl, rfl, by show d1 + 1 ≤ R.frames; omega, by show 8 + (N.2.2.1 + 11) + 42 * d1 ≤ R.locals; have := hN.2.2.2.2; omega, mWs_ok hN ht, by rw [mWs, hini.2]; exact List.mem_cons_self, ht _ hcode, ht _ hN.1.1, hN.2.2.1, hN.len, ht _ hlink⟩, hini.1, ht _ him⟩ ⟨mPc_blind, fun U hU hW => ⟨rfl, by rw [hU]; exact ⟨hP, hsz⟩, hK.warm hW⟩⟩ rfl (by rw [List.length_map]; exact hn) (hL.2.1) (by simp [List.map_append, List.map_reverse, sv]) (lv_room (by rw [cat_sum st hst.1]; exact hst.2)) hd ⟨by omega, by omega⟩) hC0 hD0 hQ hb1 hb2 kk
theorem Z.callIN {idx n d1 mc1 ms1 b : Nat} {N : MI} {As : List Value} {Q1 : ZQ} (hd : decode M.2.1 pc = .ok (.invokespecial idx, 3)) (hlink : (M.1.cls, idx, N.1) ∈ nestL) (hN : mOk N n) (him : inT (.instanceMethod N.1)) (hini : N.1.name = "<init>" ∧ N.2.2.2 = none) (hk : d1 + 1 ≤ d) (hn : As.length = n) (hav : avOk N (.ref b :: As)) (hst : st.all isV = true ∧ st.length ≤ 8) (hb1 : mc1 ≤ mc) (hb2 : ms1 ≤ ms)
    (hcal : Z g d1 mc1 ms1 N 0 (enL N (.ref b :: As)) [] I S Q1)
    (kk : ∀ v I' S', Q1 v I' S' → Z g d (mc - mc1) (ms - ms1) M (pc + 3) L (v.toList ++ st) I' S' Q) : Z g d mc ms M pc L (As.reverse ++ .ref b :: st) I S Q := by
  intro l p e R s m args below meth c H locs cells slots mcF msF ls Qc hC hD hQ
  have hC0 := hC
  have hD0 := hD
  obtain ⟨hx, hb, hr, hlk, hml, ho, hnm, ht, hK, hfr, hlo, hbs⟩ := hC
  obtain ⟨⟨hP, hsz⟩, hS, hL, hcc, hss, hcr, hsr⟩ := hD
  have hts : ∀ w ∈ lw_tbl.filter goodWord, w.before args s = true := fun w hw => ht w (List.mem_filter.mp hw)
  have hcode := hN.1.2
  rw [hini.2] at hcode
  refine Z.after (mc1 := mc1) (ms1 := ms1) (va_runIN (host := RX6) (b := g_b g + b) (As := As.map (sv (g_b g))) (Ts := lw_tbl.filter goodWord) ⟨hx, hb, hml, ho, hts⟩ (hcal.met hN.2.1 hav l) ⟨⟨⟨rfl, rfl, by show d1 + 1 ≤ R.frames; omega, by show 8 + (N.2.2.1 + 11) + 42 * d1 ≤ R.locals; have := hN.2.2.2.2; omega, mWs_ok hN ht, by rw [mWs, hini.2]; exact List.mem_cons_self⟩, ht _ hcode, ht _ hN.1.1, hN.2.2.1, hN.len, va_Nw.use rfl (hK.2.1 _ hlink)⟩, hini.1, ht _ him⟩ ⟨mPc_blind, fun U hU hW => ⟨rfl, by rw [hU]; exact ⟨hP, hsz⟩, hK.warm hW⟩⟩ rfl (by rw [List.length_map]; exact hn) (hL.2.1) (by simp [List.map_append, List.map_reverse, sv]) (lv_room (by rw [cat_sum st hst.1]; exact hst.2)) hd ⟨by omega, by omega⟩) hC0 hD0 hQ hb1 hb2 kk
theorem Z.objInit {idx a : Nat} (hd : decode M.2.1 pc = .ok (.invokespecial idx, 3)) (hlink : inT (.methodLink M.1.cls idx objectInit)) (hk : 1 ≤ d) (hst : st.all isV = true ∧ st.length ≤ 8) (kk : Z g d mc ms M (pc + 3) L st I S Q) : Z g d mc ms M pc L (.ref a :: st) I S Q := by
  intro l p e R s m args below meth c H locs cells slots mcF msF ls Qc hC hD hQ
  have hC0 := hC
  have hD0 := hD
  obtain ⟨hx, hb, hr, hlk, hml, ho, hnm, ht, hK, hfr, hlo, hbs⟩ := hC
  obtain ⟨⟨hP, hsz⟩, hS, hL, hcc, hss, hcr, hsr⟩ := hD
  have hts : ∀ w ∈ lw_tbl.filter goodWord, w.before args s = true := fun w hw => ht w (List.mem_filter.mp hw)
  refine W.objInit hx hb ho (ht _ hlink) (ht _ obI) (ht _ obC) rfl (by rw [hml]; exact hL.2.1) rfl hd (by omega) (by show 2 * 0 + _ + 12 ≤ R.locals; rw [cat_sum st hst.1]; have := hst.2; omega) ?_
  exact kk l p e R s m args below meth c H locs cells slots mcF msF ls Qc hC0 hD0 hQ
theorem Z.mmax {idx : Nat} {x y : Int32} (hd : decode M.2.1 pc = .ok (.invokestatic idx, 3)) (hlink : inT (.methodLink M.1.cls idx mJ9_max_7cf53.1)) (hk : 1 ≤ d) (hst : st.all isV = true ∧ st.length ≤ 8) (kk : Z g d mc ms M (pc + 3) L (.int (if x < y then y else x) :: st) I S Q) : Z g d mc ms M pc L (.int y :: .int x :: st) I S Q := by
  intro l p e R s m args below meth c H locs cells slots mcF msF ls Qc hC hD hQ
  have hC0 := hC
  have hD0 := hD
  obtain ⟨hx, hb, hr, hlk, hml, ho, hnm, ht, hK, hfr, hlo, hbs⟩ := hC
  obtain ⟨⟨hP, hsz⟩, hS, hL, hcc, hss, hcr, hsr⟩ := hD
  have hts : ∀ w ∈ lw_tbl.filter goodWord, w.before args s = true := fun w hw => ht w (List.mem_filter.mp hw)
  refine va_mmax hx hb (hml.trans hL.2.1.symm) ho (ht _ hlink) (ht _ stJ9_max_7cf53) (ht _ okJ9_max_7cf53.1) (ht _ okJ9_max_7cf53.2) (by omega) (by rw [cat_sum st hst.1]; have := hst.2; omega) (by omega) (by omega) hd ?_
  exact kk l p e R s m args below meth c H locs cells slots mcF msF ls Qc hC0 hD0 hQ
theorem Z.mmin {idx : Nat} {x y : Int32} (hd : decode M.2.1 pc = .ok (.invokestatic idx, 3)) (hlink : inT (.methodLink M.1.cls idx mJ9_min_7cf53.1)) (hk : 1 ≤ d) (hst : st.all isV = true ∧ st.length ≤ 8) (kk : Z g d mc ms M (pc + 3) L (.int (if y < x then y else x) :: st) I S Q) : Z g d mc ms M pc L (.int y :: .int x :: st) I S Q := by
  intro l p e R s m args below meth c H locs cells slots mcF msF ls Qc hC hD hQ
  have hC0 := hC
  have hD0 := hD
  obtain ⟨hx, hb, hr, hlk, hml, ho, hnm, ht, hK, hfr, hlo, hbs⟩ := hC
  obtain ⟨⟨hP, hsz⟩, hS, hL, hcc, hss, hcr, hsr⟩ := hD
  have hts : ∀ w ∈ lw_tbl.filter goodWord, w.before args s = true := fun w hw => ht w (List.mem_filter.mp hw)
  refine va_mmin hx hb (hml.trans hL.2.1.symm) ho (ht _ hlink) (ht _ stJ9_min_7cf53) (ht _ okJ9_min_7cf53.1) (ht _ okJ9_min_7cf53.2) (by omega) (by rw [cat_sum st hst.1]; have := hst.2; omega) (by omega) (by omega) hd ?_
  exact kk l p e R s m args below meth c H locs cells slots mcF msF ls Qc hC0 hD0 hQ
theorem Z.new {idx ci N : Nat} {C : String} {T : u_T} {ty : Nat → FieldType} (hd : decode M.2.1 pc = .ok (.new idx, 3)) (hc : clOk ci C T N ty) (hlink : inT (.classLink M.1.cls idx C)) (hia : inT (.instantiable C N)) (hini : inT (.initialized C)) (hb1 : 1 ≤ mc) (hb2 : N ≤ ms)
    (kk : Z g d (mc - 1) (ms - N) M (pc + 3) L (.ref S.length :: st) (va_up I S.length (fun _ => 0)) (S ++ [(ci, 0, List.replicate N none)]) Q) : Z g d mc ms M pc L st I S Q := by
  intro l p e R s m args below meth c H locs cells slots mcF msF ls Qc hC hD hQ
  have hC0 := hC
  have hD0 := hD
  obtain ⟨hx, hb, hr, hlk, hml, ho, hnm, ht, hK, hfr, hlo, hbs⟩ := hC
  obtain ⟨⟨hP, hsz⟩, hS, hL, hcc, hss, hcr, hsr⟩ := hD
  have hts : ∀ w ∈ lw_tbl.filter goodWord, w.before args s = true := fun w hw => ht w (List.mem_filter.mp hw)
  have hin : ∀ w ∈ u_ws C T N, w ∈ lw_tbl.filter goodWord := fun w hw => List.mem_filter.mpr (hc.2.1 w hw)
  have hKn := hK.1.1 ci _ hc.1
  refine W.newcK hx hb ho (ht _ hlink) (ht _ hia) (ht _ hini) rfl hd (by omega) (by omega) hKn.2.1 hsz fun H1 kC hkC e1 z1 o1 => ?_
  have hP' : va_P (g.1, g.2.1) mCl (wl g (va_up I S.length (fun _ => 0)) (S ++ [(ci, 0, List.replicate N none)])) H1 := by
    rw [← wl_push]
    refine (hP.kept (fun k x hx => o1 x.1 (hsz ▸ (hP k x hx).lt))).app (fun k x hx => ?_)
    have hz : k < 1 := (List.getElem?_eq_some_iff.mp hx).1
    rw [show k = 0 by omega] at hx
    cases hx
    rw [ent_obj hc.2.2.2.2.2.1]
    refine ⟨_, hc.1, (u_born ty hts hin hKn hkC e1 hc.2.2.1).to (fun k hk => ?_)⟩
    rw [hc.2.2.2.2.2.2 k hk, vp_V, List.getD_eq_getElem?_getD, fs_at hc.2.2.2.2.1 hk, fVal]
    by_cases h2 : fTy ci k = 2
    · rw [if_pos h2, if_pos h2, List.getD_eq_getElem?_getD, List.getElem?_replicate]
      simp [hk, srf, va_rf]
    · rw [if_neg h2, if_neg h2]
      rfl
  exact kk l p e R s m args below meth c H1 locs (cells + 1) (slots + N) mcF msF ls Qc hC0 ⟨⟨hP', by rw [z1, List.length_append]; rfl⟩, ⟨Nat.le_trans hS.1 (by omega), fun x h1 h2 => (o1 x (by rw [← hsz]; exact Nat.lt_of_lt_of_le h1 hS.1)).trans (hS.2.1 x h1 h2), hS.2.2⟩, hL, by omega, by omega, hcr, hsr⟩ hQ
theorem Z.newa {at' : ArrayType} {ck n : Nat} {i : Int32} (hd : decode M.2.1 pc = .ok (.newarray at', 2)) (hty : at' = .int ∧ ck = 8 ∨ at' = .boolean ∧ ck = 9) (hi : i = nI n) (hn : n < 100000) (hb1 : 1 ≤ mc) (hb2 : n ≤ ms)
    (kk : Z g d (mc - 1) (ms - n) M (pc + 2) L (.ref S.length :: st) (va_up I S.length (fun _ => 0)) (S ++ [(ck, n, [])]) Q) : Z g d mc ms M pc L (.int i :: st) I S Q := by
  intro l p e R s m args below meth c H locs cells slots mcF msF ls Qc hC hD hQ
  have hC0 := hC
  have hD0 := hD
  obtain ⟨hx, hb, hr, hlk, hml, ho, hnm, ht, hK, hfr, hlo, hbs⟩ := hC
  obtain ⟨⟨hP, hsz⟩, hS, hL, hcc, hss, hcr, hsr⟩ := hD
  have hts : ∀ w ∈ lw_tbl.filter goodWord, w.before args s = true := fun w hw => ht w (List.mem_filter.mp hw)
  have hi0 : ¬ i < 0 := by rw [hi]; exact nI_pos (by omega)
  have hiN : i.toNatClampNeg = n := by rw [hi]; exact nI_clamp (by omega)
  have hbt : n * componentBytes (newarray.typeOf at') ≤ 536870912 := by
    rcases hty with ⟨rfl, -⟩ | ⟨rfl, -⟩
    · show n * 4 ≤ _; omega
    · show n * 1 ≤ _; omega
  refine va_newaK hx hb (by rcases hty with ⟨rfl, -⟩ | ⟨rfl, -⟩; exact ht _ acI; exact ht _ acZ) rfl hd rfl hi0 hiN hbt (by omega) (by omega) hsz fun H1 cA e1 z1 o1 hAr hNm => ?_
  have hP' : va_P (g.1, g.2.1) mCl (wl g (va_up I S.length (fun _ => 0)) (S ++ [(ck, n, [])])) H1 := by
    rw [← wl_push]
    refine (hP.kept (fun k x hx => o1 x.1 (hsz ▸ (hP k x hx).lt))).app (fun k x hx => ?_)
    have hz : k < 1 := (List.getElem?_eq_some_iff.mp hx).1
    rw [show k = 0 by omega] at hx
    cases hx
    rcases hty with ⟨rfl, rfl⟩ | ⟨rfl, rfl⟩
    · have hcA : cA = g.2.2.1 := Option.some.inj (hNm.symm.trans (hK.1.2 0 _ (show (mTys g)[0]? = some (g.2.2.1, .int) from rfl)).2)
      rw [hcA] at e1
      exact e1
    · have hcA : cA = g.2.2.2.1 := Option.some.inj (hNm.symm.trans (hK.1.2 1 _ (show (mTys g)[1]? = some (g.2.2.2.1, .boolean) from rfl)).2)
      rw [hcA] at e1
      exact e1
  exact kk l p e R s m args below meth c H1 locs (cells + 1) (slots + n) mcF msF ls Qc hC0 ⟨⟨hP', by rw [z1, List.length_append]; rfl⟩, ⟨Nat.le_trans hS.1 (by omega), fun x h1 h2 => (o1 x (by rw [← hsz]; exact Nat.lt_of_lt_of_le h1 hS.1)).trans (hS.2.1 x h1 h2), hS.2.2⟩, hL, by omega, by omega, hcr, hsr⟩ hQ
theorem Z.anew {idx n : Nat} {i : Int32} (hd : decode M.2.1 pc = .ok (.anewarray idx, 3)) (hlink : inT (.classLink M.1.cls idx RX1)) (hi : i = nI n) (hn : n < 100000) (hb1 : 1 ≤ mc) (hb2 : n ≤ ms)
    (kk : Z g d (mc - 1) (ms - n) M (pc + 3) L (.ref S.length :: st) (va_up I S.length (fun _ => 0)) (S ++ [(10, n, List.replicate n none)]) Q) : Z g d mc ms M pc L (.int i :: st) I S Q := by
  intro l p e R s m args below meth c H locs cells slots mcF msF ls Qc hC hD hQ
  have hC0 := hC
  have hD0 := hD
  obtain ⟨hx, hb, hr, hlk, hml, ho, hnm, ht, hK, hfr, hlo, hbs⟩ := hC
  obtain ⟨⟨hP, hsz⟩, hS, hL, hcc, hss, hcr, hsr⟩ := hD
  have hts : ∀ w ∈ lw_tbl.filter goodWord, w.before args s = true := fun w hw => ht w (List.mem_filter.mp hw)
  have hi0 : ¬ i < 0 := by rw [hi]; exact nI_pos (by omega)
  have hiN : i.toNatClampNeg = n := by rw [hi]; exact nI_clamp (by omega)
  subst hiN
  refine W.anew hx hb ho (ht _ hlink) (va_AO.use hK.2.2.2) rfl hd rfl hi0 (by omega) (by omega) (by omega) fun cA kA comp f1 f2 f3 f4 => ?_
  generalize hH1 : H.push ({ cls := cA, slots := Array.replicate i.toNatClampNeg .null, vm := .none } : Cell) = H1
  have z1 : H1.size = H.size + 1 := by rw [← hH1, Array.size_push]
  have e1 : H1[H.size]? = some (arrV cA i.toNatClampNeg (fun _ => .null)) := by rw [← hH1, Array.getElem?_push_size, ← arrV_new]
  have o1 : ∀ q : Nat, q < H.size → H1[q]? = H[q]? := fun q hq => by rw [← hH1, Array.getElem?_push, if_neg (Nat.ne_of_lt hq)]
  have hP' : va_P (g.1, g.2.1) mCl (wl g (va_up I S.length (fun _ => 0)) (S ++ [(10, i.toNatClampNeg, List.replicate i.toNatClampNeg none)])) H1 := by
    rw [← wl_push]
    refine (hP.kept (fun k x hx => o1 x.1 ((hP k x hx).lt))).app (fun k x hx => ?_)
    have hz : k < 1 := (List.getElem?_eq_some_iff.mp hx).1
    rw [show k = 0 by omega] at hx
    cases hx
    have hcA : cA = g.2.2.2.2.1 := by
      obtain ⟨_, _, _, _, _, h4⟩ := (hK.1.2 2 _ (show (mTys g)[2]? = some (g.2.2.2.2.1, .object RX1) from rfl)).2
      exact Option.some.inj (f1.symm.trans h4)
    rw [hcA, hsz] at e1
    rw [ent_10]
    show H1[_]? = some (vp_cell _ _)
    rw [vp_cell_q, e1]
    congr 2
    funext q
    rw [List.getD_eq_getElem?_getD, List.getElem?_replicate]
    by_cases hq : q < i.toNatClampNeg <;> simp [hq, srf, va_rf]
  rw [hsz]
  exact kk l p e R s m args below meth c H1 locs (cells + 1) (slots + i.toNatClampNeg) mcF msF ls Qc hC0 ⟨⟨hP', by rw [z1, hsz, List.length_append]; rfl⟩, ⟨Nat.le_trans hS.1 (by omega), fun x h1 h2 => (o1 x (Nat.lt_of_lt_of_le h1 hS.1)).trans (hS.2.1 x h1 h2), hS.2.2⟩, hL, by omega, by omega, hcr, hsr⟩ hQ
theorem Z.aast {a j n v ln : Nat} {rs rv : List (Option Nat)} {i : Int32} (hd : decode M.2.1 pc = .ok (.aastore, 1)) (hs : S[a]? = some (10, n, rs)) (hi : i = nI j) (hj : j < n) (hn : n < 2 ^ 31) (hrs : rs.length = n) (hv : S[v]? = some (1, ln, rv))
    (kk : Z g d mc ms M (pc + 1) L st I (S.set a (10, n, rs.set j (some v))) Q) : Z g d mc ms M pc L (.ref v :: .int i :: .ref a :: st) I S Q := by
  obtain ⟨h1, h2⟩ := in_nI hi hj hn
  intro l p e R s m args below meth c H locs cells slots mcF msF ls Qc hC hD hQ
  have hC0 := hC
  have hD0 := hD
  obtain ⟨hx, hb, hr, hlk, hml, ho, hnm, ht, hK, hfr, hlo, hbs⟩ := hC
  obtain ⟨⟨hP, hsz⟩, hS, hL, hcc, hss, hcr, hsr⟩ := hD
  have hts : ∀ w ∈ lw_tbl.filter goodWord, w.before args s = true := fun w hw => ht w (List.mem_filter.mp hw)
  have ha : (wl g I S)[a]? = some (g_b g + a, .inl (g.2.2.2.2.1, n, .inr (.inr (.inr (.inr (fun j => srf (g_b g) (rs.getD j none))))))) := wl_at hs
  have hvv : (wl g I S)[v]? = some (g_b g + v, .inr (1, (List.range (fN 1)).map (fVal (g_b g) 1 (I v) rv))) := (wl_at hv).trans (by rw [ent_obj (by decide)])
  have hlt : i.toNatClampNeg < n := Nat.not_le.mp fun q => h1 (Or.inr q)
  have h0 : ¬ i < 0 := fun q => h1 (Or.inl q)
  obtain ⟨r', hr', cellV, g1, g2, g3, -⟩ := hP v _ hvv
  have hcls := (hK.1.1 1 _ cl1.1).2
  obtain ⟨kA, comp, k1, k2, k3, -⟩ := (hK.1.2 2 _ (show (mTys g)[2]? = some (g.2.2.2.2.1, .object RX1) from rfl)).2
  have hcomp : comp = g.1 1 := Option.some.inj (k3.symm.trans hcls.1)
  subst hcomp
  obtain ⟨kC, hkC, -⟩ := id hcls.2
  refine W.aast hx hb (hP a _ ha) (fun q h => by cases h) (fun h => by cases h) k1 k2 rfl hkC ⟨h0, by show _ < (arrV _ _ _).slots.size; rw [arrV_size]; exact hlt⟩ g1 (fun q h => by rw [g3] at h; cases h) (by rw [g2]; exact hkC) (by rw [g2]; exact va_assign hcls) rfl rfl hd fun H1 e9 z oq => ?_
  have hP' := hP.set wl_D ha (e := ent g (I a) (10, n, rs.set j (some v))) (by
    rw [ent_10]
    show H1[_]? = some (vp_cell _ _)
    rw [e9, vp_cell_q, vp_cell_q, arrV_store, h2]
    congr 2
    funext q
    by_cases hq : q = j
    · subst hq
      simp [updV, va_rf, srf, List.getD_eq_getElem?_getD, List.getElem?_set_self (hrs ▸ hj)]
    · simp [updV, hq, List.getD_eq_getElem?_getD, List.getElem?_set_ne (Ne.symm hq)]) oq
  rw [wl_setS hs] at hP'
  exact kk l p e R s m args below meth c H1 _ cells slots mcF msF ls Qc hC0 ⟨⟨hP', (z.trans hsz).trans (by rw [List.length_set])⟩, hS.put z oq (Nat.le_add_right _ _), hL, hcc, hss, hcr, hsr⟩ hQ
end ZC
