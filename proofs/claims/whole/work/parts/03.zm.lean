/-! THE WHOLE WORLD AS NUMBERS. A cell is (kind, length, references); ints apart. Address a of the picture is cell g_b g + a of the heap. -/
abbrev GP : Type := (Nat → ClassId) × (Nat → Nat → Nat) × ClassId × ClassId × ClassId × Nat
abbrev SC : Type := Nat × Nat × List (Option Nat)
abbrev SH : Type := List SC
abbrev IM : Type := Nat → Nat → Int32
abbrev ZQ : Type := Option Value → IM → SH → Prop
def g_b (g : GP) : Nat := g.2.2.2.2.2
def sv (b : Nat) : Value → Value
  | .ref a => .ref (b + a)
  | v => v
def isV : Value → Bool
  | .int _ => true
  | .ref _ => true
  | .null => true
  | _ => false
def srf (b : Nat) (r : Option Nat) : Option Nat := r.map (fun x => b + x)
def fTy (ci k : Nat) : Nat := (fTab.getD ci []).getD k 0
def fN (ci : Nat) : Nat := (fTab.getD ci []).length
def fVal (b ci : Nat) (f : Nat → Int32) (rs : List (Option Nat)) (k : Nat) : Value := if fTy ci k = 2 then va_rf (srf b (rs.getD k none)) else .int (f k)
def ent (g : GP) (f : Nat → Int32) (c : SC) : va_E :=
  if c.1 = 8 then .inl (g.2.2.1, c.2.1, .inl f)
  else if c.1 = 9 then .inl (g.2.2.2.1, c.2.1, .inl f)
  else if c.1 = 10 then .inl (g.2.2.2.2.1, c.2.1, .inr (.inr (.inr (.inr (fun j => srf (g_b g) (c.2.2.getD j none))))))
  else .inr (c.1, (List.range (fN c.1)).map (fVal (g_b g) c.1 f c.2.2))
def sc0 : SC := (11, 0, [])
def wl (g : GP) (I : IM) (S : SH) : va_W := (List.range S.length).map (fun a => (g_b g + a, ent g (I a) (S.getD a sc0)))
theorem wl_len {g : GP} {I : IM} {S : SH} : (wl g I S).length = S.length := by simp [wl]
theorem sh_lt {S : SH} {a : Nat} {c : SC} (h : S[a]? = some c) : a < S.length := (List.getElem?_eq_some_iff.mp h).1
theorem wl_at {g : GP} {I : IM} {S : SH} {a : Nat} {c : SC} (h : S[a]? = some c) : (wl g I S)[a]? = some (g_b g + a, ent g (I a) c) := by
  simp only [wl, List.getElem?_map, List.getElem?_range (sh_lt h), Option.map_some]
  rw [List.getD_eq_getElem?_getD, h]
  rfl
theorem wl_none {g : GP} {I : IM} {S : SH} {a : Nat} (h : S[a]? = none) : (wl g I S)[a]? = none := by
  rw [List.getElem?_eq_none_iff, wl_len]
  exact List.getElem?_eq_none_iff.mp h
theorem wl_inv {g : GP} {I : IM} {S : SH} {k : Nat} {q : Nat × va_E} (h : (wl g I S)[k]? = some q) : ∃ c, S[k]? = some c ∧ q = (g_b g + k, ent g (I k) c) := by
  cases hc : S[k]? with
  | none => rw [wl_none hc] at h; cases h
  | some c => rw [wl_at hc] at h; exact ⟨c, rfl, (Option.some.inj h).symm⟩
def mA (g : GP) : Nat → Prop := fun q => g_b g ≤ q
theorem wl_D {g : GP} {I : IM} {S : SH} : va_D (mA g) (wl g I S) := by
  refine ⟨fun i j p q hi hj hpq => ?_, fun k q hk => ?_⟩
  · obtain ⟨_, _, rfl⟩ := wl_inv hi
    obtain ⟨_, _, rfl⟩ := wl_inv hj
    exact Nat.add_left_cancel hpq
  · obtain ⟨_, _, rfl⟩ := wl_inv hk
    exact Nat.le_add_right _ _
theorem wl_setI {g : GP} {I : IM} {S : SH} {a : Nat} {c : SC} {f : Nat → Int32} (h : S[a]? = some c) : (wl g I S).set a (g_b g + a, ent g f c) = wl g (va_up I a f) S := by
  apply List.ext_getElem?
  intro k
  by_cases hk : k = a
  · subst hk
    rw [List.getElem?_set_self (by rw [wl_len]; exact sh_lt h), wl_at h]
    simp [va_up]
  · rw [List.getElem?_set_ne (Ne.symm hk)]
    cases hc : S[k]? with
    | none => rw [wl_none hc, wl_none hc]
    | some c' => rw [wl_at hc, wl_at hc]; simp [va_up, hk]
theorem wl_setS {g : GP} {I : IM} {S : SH} {a : Nat} {c c' : SC} (h : S[a]? = some c) : (wl g I S).set a (g_b g + a, ent g (I a) c') = wl g I (S.set a c') := by
  apply List.ext_getElem?
  intro k
  by_cases hk : k = a
  · subst hk
    rw [List.getElem?_set_self (by rw [wl_len]; exact sh_lt h), wl_at (List.getElem?_set_self (sh_lt h))]
  · rw [List.getElem?_set_ne (Ne.symm hk)]
    cases hc : S[k]? with
    | none => rw [wl_none hc, wl_none (by rw [List.getElem?_set_ne (Ne.symm hk)]; exact hc)]
    | some c' => rw [wl_at hc, wl_at (c := c') (by rw [List.getElem?_set_ne (Ne.symm hk)]; exact hc)]
theorem wl_push {g : GP} {I : IM} {S : SH} {x : SC} {f : Nat → Int32} : wl g I S ++ [(g_b g + S.length, ent g f x)] = wl g (va_up I S.length f) (S ++ [x]) := by
  apply List.ext_getElem?
  intro k
  rcases Nat.lt_trichotomy k S.length with hk | hk | hk
  · have hc : S[k]? = some S[k] := List.getElem?_eq_getElem hk
    rw [List.getElem?_append_left (by rw [wl_len]; exact hk), wl_at hc, wl_at (c := S[k]) (by rw [List.getElem?_append_left hk]; exact hc)]
    simp [va_up, Nat.ne_of_lt hk]
  · subst hk
    rw [List.getElem?_append_right (by rw [wl_len]; exact Nat.le_refl _), wl_len, Nat.sub_self, wl_at (c := x) (by rw [List.getElem?_append_right (Nat.le_refl _), Nat.sub_self]; rfl)]
    simp [va_up]
  · rw [List.getElem?_eq_none_iff.mpr (by rw [List.length_append, wl_len]; simp; omega), wl_none (List.getElem?_eq_none_iff.mpr (by rw [List.length_append]; simp; omega))]
def rep (g : GP) (I : IM) (S : SH) (H : Heap) : Prop := va_P (g.1, g.2.1) mCl (wl g I S) H ∧ H.size = g_b g + S.length
def nestL : List (String × Nat × MethodName) := [(RX6, 18, yX2_init), (RX6, 31, yX3_init), (RX6, 48, yX5_init), (RX6, 61, yX0_init), (RX5, 73, yX6_below), (RX4, 43, yX6_below)]
def mTys (g : GP) : List (ClassId × FieldType) := [(g.2.2.1, .int), (g.2.2.2.1, .boolean), (g.2.2.2.2.1, .object RX1)]
def mK (g : GP) (U : State) : Prop := va_K (g.1, g.2.1) mCl (mTys g) U ∧ (∀ q ∈ nestL, va_Nw (.methodLinkNest q.1 q.2.1 q.2.2 RX6) U) ∧ va_Nw (.fieldLinkNest RX6 247 (TX2 3).1 (TX2 3).2.1 (TX2 3).2.2.1 RX6) U ∧ va_AO RX1 U
theorem mK.warm {g : GP} {s U : State} (h : mK g s) (hW : s.WarmedH U.vm) : mK g U := ⟨va_K.moved hW.alike h.1, fun q hq => va_Nw.warmM hW (h.2.1 q hq), va_Nw.warmF hW h.2.2.1, va_AO.moved hW.alike h.2.2.2⟩
theorem mK.same {g : GP} {s U : State} (h : mK g s) (hv : s.vm = U.vm) : mK g U := ⟨va_K.moved (by rw [hv]; exact Vm.Alike.refl _) h.1, fun q hq => va_Nw.same rfl hv (h.2.1 q hq), va_Nw.same rfl hv h.2.2.1, va_AO.moved (by rw [hv]; exact Vm.Alike.refl _) h.2.2.2⟩
/-! the locals -/
def lvs (b : Nat) (L : List Value) : List (Nat × Value) := (List.range L.length).filterMap (fun i => match L[i]? with
  | some v => if isV v = true then some (i, sv b v) else none
  | none => none)
theorem lvs_mem {b : Nat} {L : List Value} {i : Nat} {v : Value} (h : L[i]? = some v) (hv : isV v = true) : (i, sv b v) ∈ lvs b L :=
  List.mem_filterMap.mpr ⟨i, List.mem_range.mpr (List.getElem?_eq_some_iff.mp h).1, by simp [h, hv]⟩
theorem lvs_inv {b : Nat} {L : List Value} {q : Nat × Value} (h : q ∈ lvs b L) : ∃ v, L[q.1]? = some v ∧ isV v = true ∧ q.2 = sv b v := by
  obtain ⟨i, hi, he⟩ := List.mem_filterMap.mp h
  cases hc : L[i]? with
  | none => rw [hc] at he; cases he
  | some v =>
    rw [hc] at he
    by_cases hv : isV v = true
    · simp only [hv, if_true] at he
      cases he
      exact ⟨v, hc, hv, rfl⟩
    · simp only [hv, if_false] at he
      cases he
theorem sv_cat {b : Nat} {v : Value} (h : isV v = true) : (sv b v).category = 1 := by
  cases v <;> first | rfl | (simp [isV] at h)
def lOk (b nL : Nat) (L : List Value) (ls : Array Slot) : Prop := L.length = nL ∧ lv_has ls nL (lvs b L)
theorem lOk.at {b nL : Nat} {L : List Value} {ls : Array Slot} (h : lOk b nL L ls) {i : Nat} {v : Value} (hi : L[i]? = some v) (hv : isV v = true) : ls[i]? = some (.val (sv b v)) := h.2.2.2 _ (lvs_mem hi hv)
theorem lOk.store {b nL : Nat} {L : List Value} {ls ls' : Array Slot} {i : Nat} {v : Value} (h : lOk b nL L ls) (hi : i < L.length)
    (h' : lv_has ls' nL ((i, sv b v) :: (lvs b L).filter (fun q => !(q.1 == i) && !(q.1 + 1 == i && q.2.category == 2)))) : lOk b nL (L.set i v) ls' := by
  refine ⟨by rw [List.length_set]; exact h.1, h'.1, h'.2.1, fun q hq => ?_⟩
  obtain ⟨w, h1, h2, h3⟩ := lvs_inv hq
  by_cases hqi : q.1 = i
  · rw [hqi, List.getElem?_set_self hi] at h1
    cases h1
    have := h'.2.2 (i, sv b v) List.mem_cons_self
    rw [hqi, h3]
    exact this
  · rw [List.getElem?_set_ne (Ne.symm hqi)] at h1
    have hm : (q.1, sv b w) ∈ lvs b L := lvs_mem h1 h2
    have := h'.2.2 (q.1, sv b w) (List.mem_cons_of_mem _ (List.mem_filter.mpr ⟨hm, by simp [hqi, sv_cat h2]⟩))
    rw [h3]
    exact this
theorem lOk.drop {b nL : Nat} {L : List Value} {ls : Array Slot} (h : lOk b nL L ls) (i : Nat) : lOk b nL (L.set i (.retAddr 0)) ls := by
  refine ⟨by rw [List.length_set]; exact h.1, h.2.1, h.2.2.1, fun q hq => ?_⟩
  obtain ⟨w, h1, h2, h3⟩ := lvs_inv hq
  by_cases hqi : q.1 = i
  · exfalso
    have hl := (List.getElem?_eq_some_iff.mp h1).1
    rw [List.length_set, hqi] at hl
    rw [hqi, List.getElem?_set_self hl] at h1
    cases h1
    cases h2
  · rw [List.getElem?_set_ne (Ne.symm hqi)] at h1
    rw [h3]
    exact h.at h1 h2
/-! the judgement -/
def zC (g : GP) (d : Nat) (M : MI) (p : Program) (R : Room) (s : State) (m : MethodId) (args : Array Value) (meth : Method) (c : Code) : Prop :=
  p.tables.exec = Jvm.exec ∧ c.code = M.2.1 ∧ meth.sig.returnType = M.2.2.2 ∧ meth.locks = false ∧ c.maxLocals = M.2.2.1 ∧ s.vm.findClass M.1.cls = some m.cls ∧ meth.name = M.1.name ∧ (∀ w, inT w → w.before args s = true) ∧ mK g s ∧ d ≤ R.frames ∧ 42 * d ≤ R.locals ∧ g_b g ≤ s.heap.size
def zD (g : GP) (nL mc ms : Nat) (L : List Value) (I : IM) (S : SH) (R : Room) (s : State) (H : Heap) (locs : List Loc) (cells slots mcF msF : Nat) (ls : Array Slot) : Prop :=
  rep g I S H ∧ va_S (mA g) s.heap H locs ∧ lOk (g_b g) nL L ls ∧ cells + mc = mcF ∧ slots + ms = msF ∧ mcF ≤ R.cells ∧ msF ≤ R.slots
def zQ (g : GP) (s : State) (args : Array Value) (Qc : Array Value → State → Outcome → State → Prop) (Q : ZQ) : Prop :=
  ∀ (v : Option Value) (I : IM) (S : SH) (t : State), Q v I S → rep g I S t.heap → va_F (mA g) s t → s.WarmedH t.vm → Qc args s (.returned (v.map (sv (g_b g)))) t
def Z (g : GP) (d mc ms : Nat) (M : MI) (pc : Nat) (L st : List Value) (I : IM) (S : SH) (Q : ZQ) : Prop :=
  ∀ (l : Launch) (p : Program) (e : Env) (R : Room) (s : State) (m : MethodId) (args : Array Value) (below : List Frame) (meth : Method) (c : Code) (H : Heap) (locs : List Loc) (cells slots mcF msF : Nat) (ls : Array Slot) (Qc : Array Value → State → Outcome → State → Prop),
    zC g d M p R s m args meth c → zD g M.2.2.1 mc ms L I S R s H locs cells slots mcF msF ls → zQ g s args Qc Q →
    W p l e R s m args below meth c H locs cells slots (MQ below Qc args s mcF msF (mA g)) (F0 m pc ls (st.map (sv (g_b g))))
section ZR
variable {g : GP} {d mc ms : Nat} {M : MI} {pc : Nat} {L st : List Value} {I : IM} {S : SH} {Q : ZQ}
theorem Z.conseq {Q' : ZQ} (hz : Z g d mc ms M pc L st I S Q') (h : ∀ v I S, Q' v I S → Q v I S) : Z g d mc ms M pc L st I S Q := by
  intro l p e R s m args below meth c H locs cells slots mcF msF ls Qc hC hD hQ
  exact hz l p e R s m args below meth c H locs cells slots mcF msF ls Qc hC hD (fun v I S t q => hQ v I S t (h v I S q))
theorem Z.drop {i : Nat} {L' : List Value} (hL : L.set i (.retAddr 0) = L') (kk : Z g d mc ms M pc L' st I S Q) : Z g d mc ms M pc L st I S Q := by
  intro l p e R s m args below meth c H locs cells slots mcF msF ls Qc hC hD hQ
  exact kk l p e R s m args below meth c H locs cells slots mcF msF ls Qc hC ⟨hD.1, hD.2.1, hL ▸ hD.2.2.1.drop i, hD.2.2.2⟩ hQ
theorem Z.step {pc' : Nat} {st' : List Value}
    (h : ∀ (p : Program) (l : Launch) (e : Env) (R : Room) (s : State) (m : MethodId) (args : Array Value) (below : List Frame) (meth : Method) (c : Code) (H : Heap) (locs : List Loc) (cells slots : Nat) (ls : Array Slot) (Qf : State → Prop), p.tables.exec = Jvm.exec → c.code = M.2.1 → s.vm.findClass M.1.cls = some m.cls → (∀ w, inT w → w.before args s = true) → lOk (g_b g) M.2.2.1 L ls →
      W p l e R s m args below meth c H locs cells slots Qf (F0 m pc' ls (st'.map (sv (g_b g)))) → W p l e R s m args below meth c H locs cells slots Qf (F0 m pc ls (st.map (sv (g_b g)))))
    (kk : Z g d mc ms M pc' L st' I S Q) : Z g d mc ms M pc L st I S Q := by
  intro l p e R s m args below meth c H locs cells slots mcF msF ls Qc hC hD hQ
  exact h p l e R s m args below meth c H locs cells slots ls _ hC.1 hC.2.1 hC.2.2.2.2.2.1 hC.2.2.2.2.2.2.2.1 hD.2.2.1 (kk l p e R s m args below meth c H locs cells slots mcF msF ls Qc hC hD hQ)
theorem Z.stepL {pc' : Nat} {L' st' : List Value}
    (h : ∀ (p : Program) (l : Launch) (e : Env) (R : Room) (s : State) (m : MethodId) (args : Array Value) (below : List Frame) (meth : Method) (c : Code) (H : Heap) (locs : List Loc) (cells slots : Nat) (ls : Array Slot) (Qf : State → Prop), p.tables.exec = Jvm.exec → c.code = M.2.1 → lOk (g_b g) M.2.2.1 L ls →
      (∀ ls' : Array Slot, lOk (g_b g) M.2.2.1 L' ls' → W p l e R s m args below meth c H locs cells slots Qf (F0 m pc' ls' (st'.map (sv (g_b g))))) → W p l e R s m args below meth c H locs cells slots Qf (F0 m pc ls (st.map (sv (g_b g)))))
    (kk : Z g d mc ms M pc' L' st' I S Q) : Z g d mc ms M pc L st I S Q := by
  intro l p e R s m args below meth c H locs cells slots mcF msF ls Qc hC hD hQ
  exact h p l e R s m args below meth c H locs cells slots ls _ hC.1 hC.2.1 hD.2.2.1 (fun ls' hl' => kk l p e R s m args below meth c H locs cells slots mcF msF ls' Qc hC ⟨hD.1, hD.2.1, hl', hD.2.2.2⟩ hQ)
theorem Z.branch {C : Prop} {pc1 pc2 : Nat} {st' : List Value}
    (h : ∀ (p : Program) (l : Launch) (e : Env) (R : Room) (s : State) (m : MethodId) (args : Array Value) (below : List Frame) (meth : Method) (c : Code) (H : Heap) (locs : List Loc) (cells slots : Nat) (ls : Array Slot) (Qf : State → Prop), p.tables.exec = Jvm.exec → c.code = M.2.1 →
      (C → W p l e R s m args below meth c H locs cells slots Qf (F0 m pc1 ls (st'.map (sv (g_b g))))) → (¬ C → W p l e R s m args below meth c H locs cells slots Qf (F0 m pc2 ls (st'.map (sv (g_b g))))) → W p l e R s m args below meth c H locs cells slots Qf (F0 m pc ls (st.map (sv (g_b g)))))
    (k1 : C → Z g d mc ms M pc1 L st' I S Q) (k2 : ¬ C → Z g d mc ms M pc2 L st' I S Q) : Z g d mc ms M pc L st I S Q := by
  intro l p e R s m args below meth c H locs cells slots mcF msF ls Qc hC hD hQ
  exact h p l e R s m args below meth c H locs cells slots ls _ hC.1 hC.2.1 (fun q => k1 q l p e R s m args below meth c H locs cells slots mcF msF ls Qc hC hD hQ) (fun q => k2 q l p e R s m args below meth c H locs cells slots mcF msF ls Qc hC hD hQ)

theorem Z.iconst {n : Int} {v : Int32} (hd : decode M.2.1 pc = .ok (.iconst n, 1)) (hv : Int32.ofInt n = v) (kk : Z g d mc ms M (pc + 1) L (.int v :: st) I S Q) : Z g d mc ms M pc L (st) I S Q :=
  Z.step (fun _ _ _ _ _ _ _ _ _ _ _ _ _ _ _ _ hx hb ho ht hl k => lv_iconst hx hb hd hv k) kk
theorem Z.bipush {n : Int} {v : Int32} (hd : decode M.2.1 pc = .ok (.bipush n, 2)) (hv : (Int8.ofInt n).toInt32 = v) (kk : Z g d mc ms M (pc + 2) L (.int v :: st) I S Q) : Z g d mc ms M pc L (st) I S Q :=
  Z.step (fun _ _ _ _ _ _ _ _ _ _ _ _ _ _ _ _ hx hb ho ht hl k => lv_bipush hx hb hd hv k) kk
theorem Z.sipush {n : Int} {v : Int32} (hd : decode M.2.1 pc = .ok (.sipush n, 3)) (hv : (Int16.ofInt n).toInt32 = v) (kk : Z g d mc ms M (pc + 3) L (.int v :: st) I S Q) : Z g d mc ms M pc L (st) I S Q :=
  Z.step (fun _ _ _ _ _ _ _ _ _ _ _ _ _ _ _ _ hx hb ho ht hl k => lv_sipush hx hb hd hv k) kk
theorem Z.ldc {index : Nat} {v : Int32} (hd : decode M.2.1 pc = .ok (.ldc index, 2)) (hv : inT (.constant M.1.cls index v)) (kk : Z g d mc ms M (pc + 2) L (.int v :: st) I S Q) : Z g d mc ms M pc L (st) I S Q :=
  Z.step (fun _ _ _ _ _ _ _ _ _ _ _ _ _ _ _ _ hx hb ho ht hl k => lv_ldc hx hb ho (ht _ hv) hd k) kk
theorem Z.iload_n {k : Fin 4} {v : Int32} (hd : decode M.2.1 pc = .ok (.iload_n k, 1)) (hv : L[(k : Nat)]? = some (.int v)) (kk : Z g d mc ms M (pc + 1) L (.int v :: st) I S Q) : Z g d mc ms M pc L (st) I S Q :=
  Z.step (fun _ _ _ _ _ _ _ _ _ _ _ _ _ _ _ _ hx hb ho ht hl k => lv_iload_n hx hb hd rfl (hl.at hv rfl) k) kk
theorem Z.iload {i : Nat} {v : Int32} (hd : decode M.2.1 pc = .ok (.iload i, 2)) (hv : L[i]? = some (.int v)) (kk : Z g d mc ms M (pc + 2) L (.int v :: st) I S Q) : Z g d mc ms M pc L (st) I S Q :=
  Z.step (fun _ _ _ _ _ _ _ _ _ _ _ _ _ _ _ _ hx hb ho ht hl k => lv_iload hx hb hd (hl.at hv rfl) k) kk
theorem Z.aload_n {k : Fin 4} {a : Nat} (hd : decode M.2.1 pc = .ok (.aload_n k, 1)) (hv : L[(k : Nat)]? = some (.ref a)) (kk : Z g d mc ms M (pc + 1) L (.ref a :: st) I S Q) : Z g d mc ms M pc L (st) I S Q :=
  Z.step (fun _ _ _ _ _ _ _ _ _ _ _ _ _ _ _ _ hx hb ho ht hl k => lv_aload_n hx hb hd rfl (hl.at hv rfl) k) kk
theorem Z.aload {i a : Nat} (hd : decode M.2.1 pc = .ok (.aload i, 2)) (hv : L[i]? = some (.ref a)) (kk : Z g d mc ms M (pc + 2) L (.ref a :: st) I S Q) : Z g d mc ms M pc L (st) I S Q :=
  Z.step (fun _ _ _ _ _ _ _ _ _ _ _ _ _ _ _ _ hx hb ho ht hl k => lv_aload hx hb hd (hl.at hv rfl) k) kk
theorem Z.aload_nN {k : Fin 4} (hd : decode M.2.1 pc = .ok (.aload_n k, 1)) (hv : L[(k : Nat)]? = some .null) (kk : Z g d mc ms M (pc + 1) L (.null :: st) I S Q) : Z g d mc ms M pc L (st) I S Q :=
  Z.step (fun _ _ _ _ _ _ _ _ _ _ _ _ _ _ _ _ hx hb ho ht hl k => lv_aload_nN hx hb hd rfl (hl.at hv rfl) k) kk
theorem Z.aloadN {i : Nat} (hd : decode M.2.1 pc = .ok (.aload i, 2)) (hv : L[i]? = some .null) (kk : Z g d mc ms M (pc + 2) L (.null :: st) I S Q) : Z g d mc ms M pc L (st) I S Q :=
  Z.step (fun _ _ _ _ _ _ _ _ _ _ _ _ _ _ _ _ hx hb ho ht hl k => lv_aloadN hx hb hd (hl.at hv rfl) k) kk
theorem Z.iadd {x y : Int32} (hd : decode M.2.1 pc = .ok (.iadd, 1)) (kk : Z g d mc ms M (pc + 1) L (.int (x + y) :: st) I S Q) : Z g d mc ms M pc L (.int y :: .int x :: st) I S Q :=
  Z.step (fun _ _ _ _ _ _ _ _ _ _ _ _ _ _ _ _ hx hb ho ht hl k => lv_iadd hx hb hd k) kk
theorem Z.isub {x y : Int32} (hd : decode M.2.1 pc = .ok (.isub, 1)) (kk : Z g d mc ms M (pc + 1) L (.int (x - y) :: st) I S Q) : Z g d mc ms M pc L (.int y :: .int x :: st) I S Q :=
  Z.step (fun _ _ _ _ _ _ _ _ _ _ _ _ _ _ _ _ hx hb ho ht hl k => lv_isub hx hb hd k) kk
theorem Z.imul {x y : Int32} (hd : decode M.2.1 pc = .ok (.imul, 1)) (kk : Z g d mc ms M (pc + 1) L (.int (x * y) :: st) I S Q) : Z g d mc ms M pc L (.int y :: .int x :: st) I S Q :=
  Z.step (fun _ _ _ _ _ _ _ _ _ _ _ _ _ _ _ _ hx hb ho ht hl k => lv_imul hx hb hd k) kk
theorem Z.iand {x y : Int32} (hd : decode M.2.1 pc = .ok (.iand, 1)) (kk : Z g d mc ms M (pc + 1) L (.int (x &&& y) :: st) I S Q) : Z g d mc ms M pc L (.int y :: .int x :: st) I S Q :=
  Z.step (fun _ _ _ _ _ _ _ _ _ _ _ _ _ _ _ _ hx hb ho ht hl k => lv_iand hx hb hd k) kk
theorem Z.idiv {x y : Int32} (hd : decode M.2.1 pc = .ok (.idiv, 1)) (hne : ¬ y = 0) (kk : Z g d mc ms M (pc + 1) L (.int (x / y) :: st) I S Q) : Z g d mc ms M pc L (.int y :: .int x :: st) I S Q :=
  Z.step (fun _ _ _ _ _ _ _ _ _ _ _ _ _ _ _ _ hx hb ho ht hl k => lv_idiv hx hb hd hne k) kk
theorem Z.dupI {x : Int32} (hd : decode M.2.1 pc = .ok (.dup, 1)) (kk : Z g d mc ms M (pc + 1) L (.int x :: .int x :: st) I S Q) : Z g d mc ms M pc L (.int x :: st) I S Q :=
  Z.step (fun _ _ _ _ _ _ _ _ _ _ _ _ _ _ _ _ hx hb ho ht hl k => lv_dup hx hb hd rfl k) kk
theorem Z.dupR {x : Nat} (hd : decode M.2.1 pc = .ok (.dup, 1)) (kk : Z g d mc ms M (pc + 1) L (.ref x :: .ref x :: st) I S Q) : Z g d mc ms M pc L (.ref x :: st) I S Q :=
  Z.step (fun _ _ _ _ _ _ _ _ _ _ _ _ _ _ _ _ hx hb ho ht hl k => lv_dup hx hb hd rfl k) kk
theorem Z.dup2 {x : Int32} {a : Nat} (hd : decode M.2.1 pc = .ok (.dup2, 1)) (kk : Z g d mc ms M (pc + 1) L (.int x :: .ref a :: .int x :: .ref a :: st) I S Q) : Z g d mc ms M pc L (.int x :: .ref a :: st) I S Q :=
  Z.step (fun _ _ _ _ _ _ _ _ _ _ _ _ _ _ _ _ hx hb ho ht hl k => lv_dup2_11 hx hb hd rfl rfl k) kk
theorem Z.null (hd : decode M.2.1 pc = .ok (.aconst_null, 1)) (kk : Z g d mc ms M (pc + 1) L (.null :: st) I S Q) : Z g d mc ms M pc L (st) I S Q :=
  Z.step (fun _ _ _ _ _ _ _ _ _ _ _ _ _ _ _ _ hx hb ho ht hl k => lv_null hx hb hd k) kk
theorem Z.goto {off : Int} {tgt : Nat} (hd : decode M.2.1 pc = .ok (.goto off, 3)) (ht : (pc : Int) + off = (tgt : Int)) (kk : Z g d mc ms M tgt L st I S Q) : Z g d mc ms M pc L st I S Q :=
  Z.step (fun _ _ _ _ _ _ _ _ _ _ _ _ _ _ _ _ hx hb _ _ _ k => lv_goto hx hb hd ht k) kk
theorem Z.if_eq {x : Int32} {off : Int} {tgt : Nat} (hd : decode M.2.1 pc = .ok (.ifCond .eq off, 3)) (ht : (pc : Int) + off = (tgt : Int)) (k1 : (x = 0) → Z g d mc ms M tgt L st I S Q) (k2 : ¬ (x = 0) → Z g d mc ms M (pc + 3) L st I S Q) : Z g d mc ms M pc L (.int x :: st) I S Q :=
  Z.branch (fun _ _ _ _ _ _ _ _ _ _ _ _ _ _ _ _ hx hb k1 k2 => lv_if_eq hx hb hd ht k1 k2) k1 k2
theorem Z.if_lt {x : Int32} {off : Int} {tgt : Nat} (hd : decode M.2.1 pc = .ok (.ifCond .lt off, 3)) (ht : (pc : Int) + off = (tgt : Int)) (k1 : (x < 0) → Z g d mc ms M tgt L st I S Q) (k2 : ¬ (x < 0) → Z g d mc ms M (pc + 3) L st I S Q) : Z g d mc ms M pc L (.int x :: st) I S Q :=
  Z.branch (fun _ _ _ _ _ _ _ _ _ _ _ _ _ _ _ _ hx hb k1 k2 => lv_if_lt hx hb hd ht k1 k2) k1 k2
theorem Z.if_gt {x : Int32} {off : Int} {tgt : Nat} (hd : decode M.2.1 pc = .ok (.ifCond .gt off, 3)) (ht : (pc : Int) + off = (tgt : Int)) (k1 : (0 < x) → Z g d mc ms M tgt L st I S Q) (k2 : ¬ (0 < x) → Z g d mc ms M (pc + 3) L st I S Q) : Z g d mc ms M pc L (.int x :: st) I S Q :=
  Z.branch (fun _ _ _ _ _ _ _ _ _ _ _ _ _ _ _ _ hx hb k1 k2 => lv_if_gt hx hb hd ht k1 k2) k1 k2
theorem Z.icmp_eq {x y : Int32} {off : Int} {tgt : Nat} (hd : decode M.2.1 pc = .ok (.if_icmp .eq off, 3)) (ht : (pc : Int) + off = (tgt : Int)) (k1 : (x = y) → Z g d mc ms M tgt L st I S Q) (k2 : ¬ (x = y) → Z g d mc ms M (pc + 3) L st I S Q) : Z g d mc ms M pc L (.int y :: .int x :: st) I S Q :=
  Z.branch (fun _ _ _ _ _ _ _ _ _ _ _ _ _ _ _ _ hx hb k1 k2 => lv_icmp_eq hx hb hd ht k1 k2) k1 k2
theorem Z.icmp_lt {x y : Int32} {off : Int} {tgt : Nat} (hd : decode M.2.1 pc = .ok (.if_icmp .lt off, 3)) (ht : (pc : Int) + off = (tgt : Int)) (k1 : (x < y) → Z g d mc ms M tgt L st I S Q) (k2 : ¬ (x < y) → Z g d mc ms M (pc + 3) L st I S Q) : Z g d mc ms M pc L (.int y :: .int x :: st) I S Q :=
  Z.branch (fun _ _ _ _ _ _ _ _ _ _ _ _ _ _ _ _ hx hb k1 k2 => lv_icmp_lt hx hb hd ht k1 k2) k1 k2
theorem Z.icmp_gt {x y : Int32} {off : Int} {tgt : Nat} (hd : decode M.2.1 pc = .ok (.if_icmp .gt off, 3)) (ht : (pc : Int) + off = (tgt : Int)) (k1 : (y < x) → Z g d mc ms M tgt L st I S Q) (k2 : ¬ (y < x) → Z g d mc ms M (pc + 3) L st I S Q) : Z g d mc ms M pc L (.int y :: .int x :: st) I S Q :=
  Z.branch (fun _ _ _ _ _ _ _ _ _ _ _ _ _ _ _ _ hx hb k1 k2 => lv_icmp_gt hx hb hd ht k1 k2) k1 k2
theorem Z.if_ge {x : Int32} {off : Int} {tgt : Nat} (hd : decode M.2.1 pc = .ok (.ifCond .ge off, 3)) (ht : (pc : Int) + off = (tgt : Int)) (k1 : ¬ x < 0 → Z g d mc ms M tgt L st I S Q) (k2 : x < 0 → Z g d mc ms M (pc + 3) L st I S Q) : Z g d mc ms M pc L (.int x :: st) I S Q :=
  Z.branch (fun _ _ _ _ _ _ _ _ _ _ _ _ _ _ _ _ hx hb k1 k2 => lv_if_ge hx hb hd ht k1 k2) (fun h => k1 (k2_nlt h)) (fun h => k2 (k2_lt h))
theorem Z.if_le {x : Int32} {off : Int} {tgt : Nat} (hd : decode M.2.1 pc = .ok (.ifCond .le off, 3)) (ht : (pc : Int) + off = (tgt : Int)) (k1 : ¬ 0 < x → Z g d mc ms M tgt L st I S Q) (k2 : 0 < x → Z g d mc ms M (pc + 3) L st I S Q) : Z g d mc ms M pc L (.int x :: st) I S Q :=
  Z.branch (fun _ _ _ _ _ _ _ _ _ _ _ _ _ _ _ _ hx hb k1 k2 => lv_if_le hx hb hd ht k1 k2) (fun h => k1 (k2_nlt h)) (fun h => k2 (k2_lt h))
theorem Z.icmp_ge {x y : Int32} {off : Int} {tgt : Nat} (hd : decode M.2.1 pc = .ok (.if_icmp .ge off, 3)) (ht : (pc : Int) + off = (tgt : Int)) (k1 : ¬ x < y → Z g d mc ms M tgt L st I S Q) (k2 : x < y → Z g d mc ms M (pc + 3) L st I S Q) : Z g d mc ms M pc L (.int y :: .int x :: st) I S Q :=
  Z.branch (fun _ _ _ _ _ _ _ _ _ _ _ _ _ _ _ _ hx hb k1 k2 => lv_icmp_ge hx hb hd ht k1 k2) (fun h => k1 (k2_nlt h)) (fun h => k2 (k2_lt h))
theorem Z.icmp_le {x y : Int32} {off : Int} {tgt : Nat} (hd : decode M.2.1 pc = .ok (.if_icmp .le off, 3)) (ht : (pc : Int) + off = (tgt : Int)) (k1 : ¬ y < x → Z g d mc ms M tgt L st I S Q) (k2 : y < x → Z g d mc ms M (pc + 3) L st I S Q) : Z g d mc ms M pc L (.int y :: .int x :: st) I S Q :=
  Z.branch (fun _ _ _ _ _ _ _ _ _ _ _ _ _ _ _ _ hx hb k1 k2 => lv_icmp_le hx hb hd ht k1 k2) (fun h => k1 (k2_nlt h)) (fun h => k2 (k2_lt h))
theorem Z.if_ne {x : Int32} {off : Int} {tgt : Nat} (hd : decode M.2.1 pc = .ok (.ifCond .ne off, 3)) (ht : (pc : Int) + off = (tgt : Int)) (k1 : ¬ x = 0 → Z g d mc ms M tgt L st I S Q) (k2 : x = 0 → Z g d mc ms M (pc + 3) L st I S Q) : Z g d mc ms M pc L (.int x :: st) I S Q :=
  Z.branch (fun _ _ _ _ _ _ _ _ _ _ _ _ _ _ _ _ hx hb k1 k2 => lv_if_ne hx hb hd ht k2 k1) k2 k1
theorem Z.icmp_ne {x y : Int32} {off : Int} {tgt : Nat} (hd : decode M.2.1 pc = .ok (.if_icmp .ne off, 3)) (ht : (pc : Int) + off = (tgt : Int)) (k1 : ¬ x = y → Z g d mc ms M tgt L st I S Q) (k2 : x = y → Z g d mc ms M (pc + 3) L st I S Q) : Z g d mc ms M pc L (.int y :: .int x :: st) I S Q :=
  Z.branch (fun _ _ _ _ _ _ _ _ _ _ _ _ _ _ _ _ hx hb k1 k2 => lv_icmp_ne hx hb hd ht k2 k1) k2 k1
theorem Z.ifnull {a : Nat} {off : Int} (hd : decode M.2.1 pc = .ok (.ifnull off, 3)) (kk : Z g d mc ms M (pc + 3) L st I S Q) : Z g d mc ms M pc L (.ref a :: st) I S Q :=
  Z.step (fun _ _ _ _ _ _ _ _ _ _ _ _ _ _ _ _ hx hb _ _ _ k => lv_ifnull hx hb hd k) kk
theorem Z.ifnullN {off : Int} {tgt : Nat} (hd : decode M.2.1 pc = .ok (.ifnull off, 3)) (ht : (pc : Int) + off = (tgt : Int)) (kk : Z g d mc ms M tgt L st I S Q) : Z g d mc ms M pc L (.null :: st) I S Q :=
  Z.step (fun _ _ _ _ _ _ _ _ _ _ _ _ _ _ _ _ hx hb _ _ _ k => lv_ifnullN hx hb hd ht k) kk
theorem Z.ifnonnull {a : Nat} {off : Int} {tgt : Nat} (hd : decode M.2.1 pc = .ok (.ifnonnull off, 3)) (ht : (pc : Int) + off = (tgt : Int)) (kk : Z g d mc ms M tgt L st I S Q) : Z g d mc ms M pc L (.ref a :: st) I S Q :=
  Z.step (fun _ _ _ _ _ _ _ _ _ _ _ _ _ _ _ _ hx hb _ _ _ k => lv_ifnonnull hx hb hd ht k) kk
theorem Z.ifnonnullN {off : Int} (hd : decode M.2.1 pc = .ok (.ifnonnull off, 3)) (kk : Z g d mc ms M (pc + 3) L st I S Q) : Z g d mc ms M pc L (.null :: st) I S Q :=
  Z.step (fun _ _ _ _ _ _ _ _ _ _ _ _ _ _ _ _ hx hb _ _ _ k => lv_ifnonnullN hx hb hd k) kk
theorem Z.tableOut {dflt lo hi : Int} {offs : Array Int} {len : Nat} {x : Int32} {tgt : Nat} (hd : decode M.2.1 pc = .ok (.tableswitch dflt lo hi offs, len)) (h : x.toInt < lo ∨ hi < x.toInt) (ht : (pc : Int) + dflt = (tgt : Int)) (kk : Z g d mc ms M tgt L st I S Q) : Z g d mc ms M pc L (.int x :: st) I S Q :=
  Z.step (fun _ _ _ _ _ _ _ _ _ _ _ _ _ _ _ _ hx hb _ _ _ k => lv_tableOut hx hb hd h ht k) kk
theorem Z.tableIn {dflt lo hi : Int} {offs : Array Int} {len : Nat} {x : Int32} {off : Int} {tgt : Nat} (hd : decode M.2.1 pc = .ok (.tableswitch dflt lo hi offs, len)) (h1 : ¬ x.toInt < lo) (h2 : ¬ hi < x.toInt) (ho : offs[(x.toInt - lo).toNat]? = some off) (ht : (pc : Int) + off = (tgt : Int)) (kk : Z g d mc ms M tgt L st I S Q) : Z g d mc ms M pc L (.int x :: st) I S Q :=
  Z.step (fun _ _ _ _ _ _ _ _ _ _ _ _ _ _ _ _ hx hb _ _ _ k => lv_tableIn hx hb hd h1 h2 ho ht k) kk
theorem Z.lookup {dflt : Int} {ps : Array (Int × Int)} {len : Nat} {x : Int32} {off : Int} {tgt : Nat} (hd : decode M.2.1 pc = .ok (.lookupswitch dflt ps, len)) (hp : (ps.toList.zip (ps.toList.drop 1)).all (fun (a, next) => a.1 < next.1) = true) (ho : Op.lookupswitch.offset ps.toList dflt x.toInt = off) (ht : (pc : Int) + off = (tgt : Int)) (kk : Z g d mc ms M tgt L st I S Q) : Z g d mc ms M pc L (.int x :: st) I S Q :=
  Z.step (fun _ _ _ _ _ _ _ _ _ _ _ _ _ _ _ _ hx hb _ _ _ k => lv_lookup hx hb hd hp ho ht k) kk
theorem Z.istore_n {k : Fin 4} {x : Int32} {L' : List Value} (hd : decode M.2.1 pc = .ok (.istore_n k, 1)) (hi : (k : Nat) < L.length) (hL : L.set (k : Nat) (.int x) = L') (kk : Z g d mc ms M (pc + 1) L' st I S Q) : Z g d mc ms M pc L (.int x :: st) I S Q :=
  Z.stepL (fun _ _ _ _ _ _ _ _ _ _ _ _ _ _ _ _ hx hb hl k => lv_istore_n hx hb hd rfl hl.2 (hl.1 ▸ hi) rfl (fun ls' hl' => k ls' (hL ▸ hl.store (v := .int x) hi hl'))) kk
theorem Z.istore {i : Nat} {x : Int32} {L' : List Value} (hd : decode M.2.1 pc = .ok (.istore i, 2)) (hi : i < L.length) (hL : L.set i (.int x) = L') (kk : Z g d mc ms M (pc + 2) L' st I S Q) : Z g d mc ms M pc L (.int x :: st) I S Q :=
  Z.stepL (fun _ _ _ _ _ _ _ _ _ _ _ _ _ _ _ _ hx hb hl k => lv_istore hx hb hd hl.2 (hl.1 ▸ hi) rfl (fun ls' hl' => k ls' (hL ▸ hl.store (v := .int x) hi hl'))) kk
theorem Z.astore_n {k : Fin 4} {x : Nat} {L' : List Value} (hd : decode M.2.1 pc = .ok (.astore_n k, 1)) (hi : (k : Nat) < L.length) (hL : L.set (k : Nat) (.ref x) = L') (kk : Z g d mc ms M (pc + 1) L' st I S Q) : Z g d mc ms M pc L (.ref x :: st) I S Q :=
  Z.stepL (fun _ _ _ _ _ _ _ _ _ _ _ _ _ _ _ _ hx hb hl k => lv_astore_n hx hb hd rfl hl.2 (hl.1 ▸ hi) rfl (fun ls' hl' => k ls' (hL ▸ hl.store (v := .ref x) hi hl'))) kk
theorem Z.astore {i : Nat} {x : Nat} {L' : List Value} (hd : decode M.2.1 pc = .ok (.astore i, 2)) (hi : i < L.length) (hL : L.set i (.ref x) = L') (kk : Z g d mc ms M (pc + 2) L' st I S Q) : Z g d mc ms M pc L (.ref x :: st) I S Q :=
  Z.stepL (fun _ _ _ _ _ _ _ _ _ _ _ _ _ _ _ _ hx hb hl k => lv_astore hx hb hd hl.2 (hl.1 ▸ hi) rfl (fun ls' hl' => k ls' (hL ▸ hl.store (v := .ref x) hi hl'))) kk
theorem Z.astore_nN {k : Fin 4} {L' : List Value} (hd : decode M.2.1 pc = .ok (.astore_n k, 1)) (hi : (k : Nat) < L.length) (hL : L.set (k : Nat) (.null) = L') (kk : Z g d mc ms M (pc + 1) L' st I S Q) : Z g d mc ms M pc L (.null :: st) I S Q :=
  Z.stepL (fun _ _ _ _ _ _ _ _ _ _ _ _ _ _ _ _ hx hb hl k => lv_astore_nN hx hb hd rfl hl.2 (hl.1 ▸ hi) rfl (fun ls' hl' => k ls' (hL ▸ hl.store (v := .null) hi hl'))) kk
theorem Z.astoreN {i : Nat} {L' : List Value} (hd : decode M.2.1 pc = .ok (.astore i, 2)) (hi : i < L.length) (hL : L.set i (.null) = L') (kk : Z g d mc ms M (pc + 2) L' st I S Q) : Z g d mc ms M pc L (.null :: st) I S Q :=
  Z.stepL (fun _ _ _ _ _ _ _ _ _ _ _ _ _ _ _ _ hx hb hl k => lv_astoreN hx hb hd hl.2 (hl.1 ▸ hi) rfl (fun ls' hl' => k ls' (hL ▸ hl.store (v := .null) hi hl'))) kk
theorem Z.iinc {i : Nat} {n : Int} {x v : Int32} {L' : List Value} (hd : decode M.2.1 pc = .ok (.iinc i n, 3)) (hx : L[i]? = some (.int x)) (hv : x + Int32.ofInt n = v) (hL : L.set i (.int v) = L') (kk : Z g d mc ms M (pc + 3) L' st I S Q) : Z g d mc ms M pc L st I S Q := by
  refine Z.stepL (fun _ _ _ _ _ _ _ _ _ _ _ _ _ _ _ _ hx' hb hl k => ?_) kk
  have hlt : i < L.length := (List.getElem?_eq_some_iff.mp hx).1
  obtain ⟨j, hj⟩ := List.getElem?_of_mem (lvs_mem (b := g_b g) hx rfl)
  exact lv_iinc hx' hb hd hl.2 hj hv (hl.1 ▸ hlt) rfl (fun ls' hl' => k ls' (hL ▸ hl.store (v := .int v) hlt hl'))
end ZR
