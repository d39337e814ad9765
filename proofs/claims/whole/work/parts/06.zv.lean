def bI (b : Bool) : Int32 := if b = true then 1 else 0
theorem bI_01 (b : Bool) : bI b = 0 ∨ bI b = 1 := by cases b <;> decide
theorem bI_0 {b : Bool} : bI b = 0 ↔ b = false := by cases b <;> decide
theorem bI_n0 {b : Bool} : ¬ bI b = 0 ↔ b = true := by cases b <;> decide
theorem nI_sub {a b : Nat} (h : b ≤ a) : nI a - nI b = nI (a - b) := pk_sub h
theorem upZ {P : Nat → Prop} (N : Nat) (h : ∀ i, i ≤ N → (i < N → P (i + 1)) → P i) : ∀ i, i ≤ N → P i := by
  have key : ∀ n i, i ≤ N → N ≤ i + n → P i := by
    intro n
    induction n with
    | zero => intro i h1 h2; exact h i h1 (fun q => absurd q (by omega))
    | succ n ih => intro i h1 h2; exact h i h1 (fun q => ih (i + 1) (by omega) (by omega))
  intro i hi
  exact key N i hi (by omega)
theorem dnZ {P : Nat → Prop} (h : ∀ i, (∀ j, i = j + 1 → P j) → P i) : ∀ i, P i := by
  intro i
  induction i with
  | zero => exact h 0 (fun j q => absurd q (by omega))
  | succ i ih => exact h (i + 1) (fun j q => by have : i = j := by omega
                                                subst this; exact ih)
theorem up_1 {α : Type} {I : Nat → α} {a b : Nat} {f h f' : α} (hab : a ≠ b) : va_up (va_up (va_up I a f) b h) a f' = va_up (va_up I b h) a f' := by
  funext q
  by_cases h1 : q = a <;> by_cases h2 : q = b <;> simp [va_up, h1, h2]
theorem up_2 {α : Type} {I : Nat → α} {a b c : Nat} {f h k f' : α} (hab : a ≠ b) (hac : a ≠ c) : va_up (va_up (va_up (va_up I a f) b h) c k) a f' = va_up (va_up (va_up I b h) c k) a f' := by
  funext q
  by_cases h1 : q = a <;> by_cases h2 : q = b <;> by_cases h3 : q = c <;> simp [va_up, h1, h2, h3]
theorem up_3 {α : Type} {I : Nat → α} {a b c d : Nat} {f h k l f' : α} (hab : a ≠ b) (hac : a ≠ c) (had : a ≠ d) : va_up (va_up (va_up (va_up (va_up I a f) b h) c k) d l) a f' = va_up (va_up (va_up (va_up I b h) c k) d l) a f' := by
  funext q
  by_cases h1 : q = a <;> by_cases h2 : q = b <;> by_cases h3 : q = c <;> by_cases h4 : q = d <;> simp [va_up, h1, h2, h3, h4]
theorem up_4 {α : Type} {I : Nat → α} {a b c d e : Nat} {f h k l m f' : α} (hab : a ≠ b) (hac : a ≠ c) (had : a ≠ d) (hae : a ≠ e) : va_up (va_up (va_up (va_up (va_up (va_up I a f) b h) c k) d l) e m) a f' = va_up (va_up (va_up (va_up (va_up I b h) c k) d l) e m) a f' := by
  funext q
  by_cases h1 : q = a <;> by_cases h2 : q = b <;> by_cases h3 : q = c <;> by_cases h4 : q = d <;> by_cases h5 : q = e <;> simp [va_up, h1, h2, h3, h4, h5]
section ZV
variable {g : GP} {d mc ms : Nat} {M : MI} {pc : Nat} {L st : List Value} {I : IM} {S : SH} {Q : ZQ}
theorem Z.getIv {idx ci k a ln N : Nat} {rs : List (Option Nat)} {C : String} {T : u_T} {ty : Nat → FieldType} {v : Int32} (hd : decode M.2.1 pc = .ok (.getfield idx, 3)) (hc : clOk ci C T N ty) (hf : inT (.fieldLink M.1.cls idx (T k).1 (T k).2.1 (T k).2.2.1)) (hk : k < N ∧ fTy ci k ≠ 2) (hs : S[a]? = some (ci, ln, rs)) (hv : I a k = v)
    (kk : Z g d mc ms M (pc + 3) L (.int v :: st) I S Q) : Z g d mc ms M pc L (.ref a :: st) I S Q := Z.getI hd hc hf hk hs (by rw [hv]; exact kk)
theorem Z.ialdv {a j n : Nat} {rs : List (Option Nat)} {i v : Int32} (hd : decode M.2.1 pc = .ok (.iaload, 1)) (hs : S[a]? = some (8, n, rs)) (hi : i = nI j) (hj : j < n) (hn : n < 2 ^ 31) (hv : I a j = v)
    (kk : Z g d mc ms M (pc + 1) L (.int v :: st) I S Q) : Z g d mc ms M pc L (.int i :: .ref a :: st) I S Q := Z.iald hd hs hi hj hn (by rw [hv]; exact kk)
theorem Z.zaldv {a j n : Nat} {rs : List (Option Nat)} {i v : Int32} (hd : decode M.2.1 pc = .ok (.baload, 1)) (hs : S[a]? = some (9, n, rs)) (hi : i = nI j) (hj : j < n) (hn : n < 2 ^ 31) (hv : I a j = v)
    (kk : Z g d mc ms M (pc + 1) L (.int v :: st) I S Q) : Z g d mc ms M pc L (.int i :: .ref a :: st) I S Q := Z.zald hd hs hi hj hn (by rw [hv]; exact kk)
theorem Z.iaddN {a b : Nat} (hd : decode M.2.1 pc = .ok (.iadd, 1)) (kk : Z g d mc ms M (pc + 1) L (.int (nI (a + b)) :: st) I S Q) : Z g d mc ms M pc L (.int (nI b) :: .int (nI a) :: st) I S Q := Z.iadd hd (by rw [nI_add]; exact kk)
theorem Z.isubN {a b : Nat} (h : b ≤ a) (hd : decode M.2.1 pc = .ok (.isub, 1)) (kk : Z g d mc ms M (pc + 1) L (.int (nI (a - b)) :: st) I S Q) : Z g d mc ms M pc L (.int (nI b) :: .int (nI a) :: st) I S Q := Z.isub hd (by rw [nI_sub h]; exact kk)
theorem Z.imulN {a b : Nat} (hd : decode M.2.1 pc = .ok (.imul, 1)) (kk : Z g d mc ms M (pc + 1) L (.int (nI (a * b)) :: st) I S Q) : Z g d mc ms M pc L (.int (nI b) :: .int (nI a) :: st) I S Q := Z.imul hd (by rw [pk_mul]; exact kk)
theorem Z.if_eqB {b : Bool} {off : Int} {tgt : Nat} (hd : decode M.2.1 pc = .ok (.ifCond .eq off, 3)) (ht : (pc : Int) + off = (tgt : Int)) (k1 : b = false → Z g d mc ms M tgt L st I S Q) (k2 : b = true → Z g d mc ms M (pc + 3) L st I S Q) : Z g d mc ms M pc L (.int (bI b) :: st) I S Q := Z.if_eq hd ht (fun h => k1 (bI_0.mp h)) (fun h => k2 (bI_n0.mp h))
theorem Z.if_neB {b : Bool} {off : Int} {tgt : Nat} (hd : decode M.2.1 pc = .ok (.ifCond .ne off, 3)) (ht : (pc : Int) + off = (tgt : Int)) (k1 : b = true → Z g d mc ms M tgt L st I S Q) (k2 : b = false → Z g d mc ms M (pc + 3) L st I S Q) : Z g d mc ms M pc L (.int (bI b) :: st) I S Q := Z.if_ne hd ht (fun h => k1 (bI_n0.mp h)) (fun h => k2 (bI_0.mp h))

theorem Z.icmp_eqN {a b : Nat} {off : Int} {tgt : Nat} (ha : a < 2 ^ 31) (hb : b < 2 ^ 31) (hd : decode M.2.1 pc = .ok (.if_icmp .eq off, 3)) (ht : (pc : Int) + off = (tgt : Int)) (k1 : a = b → Z g d mc ms M tgt L st I S Q) (k2 : ¬ a = b → Z g d mc ms M (pc + 3) L st I S Q) : Z g d mc ms M pc L (.int (nI b) :: .int (nI a) :: st) I S Q := Z.icmp_eq hd ht (fun h => k1 ((nI_eq ha hb).mp h)) (fun h => k2 (fun q => h ((nI_eq ha hb).mpr q)))
theorem Z.icmp_ltN {a b : Nat} {off : Int} {tgt : Nat} (ha : a < 2 ^ 31) (hb : b < 2 ^ 31) (hd : decode M.2.1 pc = .ok (.if_icmp .lt off, 3)) (ht : (pc : Int) + off = (tgt : Int)) (k1 : a < b → Z g d mc ms M tgt L st I S Q) (k2 : b ≤ a → Z g d mc ms M (pc + 3) L st I S Q) : Z g d mc ms M pc L (.int (nI b) :: .int (nI a) :: st) I S Q := Z.icmp_lt hd ht (fun h => k1 ((nI_ltI ha hb).mp h)) (fun h => k2 (Nat.not_lt.mp (fun q => h ((nI_ltI ha hb).mpr q))))
theorem Z.icmp_gtN {a b : Nat} {off : Int} {tgt : Nat} (ha : a < 2 ^ 31) (hb : b < 2 ^ 31) (hd : decode M.2.1 pc = .ok (.if_icmp .gt off, 3)) (ht : (pc : Int) + off = (tgt : Int)) (k1 : b < a → Z g d mc ms M tgt L st I S Q) (k2 : a ≤ b → Z g d mc ms M (pc + 3) L st I S Q) : Z g d mc ms M pc L (.int (nI b) :: .int (nI a) :: st) I S Q := Z.icmp_gt hd ht (fun h => k1 ((nI_ltI hb ha).mp h)) (fun h => k2 (Nat.not_lt.mp (fun q => h ((nI_ltI hb ha).mpr q))))
theorem Z.icmp_geN {a b : Nat} {off : Int} {tgt : Nat} (ha : a < 2 ^ 31) (hb : b < 2 ^ 31) (hd : decode M.2.1 pc = .ok (.if_icmp .ge off, 3)) (ht : (pc : Int) + off = (tgt : Int)) (k1 : b ≤ a → Z g d mc ms M tgt L st I S Q) (k2 : a < b → Z g d mc ms M (pc + 3) L st I S Q) : Z g d mc ms M pc L (.int (nI b) :: .int (nI a) :: st) I S Q := Z.icmp_ge hd ht (fun h => k1 (Nat.not_lt.mp (fun q => h ((nI_ltI ha hb).mpr q)))) (fun h => k2 ((nI_ltI ha hb).mp h))
theorem Z.icmp_leN {a b : Nat} {off : Int} {tgt : Nat} (ha : a < 2 ^ 31) (hb : b < 2 ^ 31) (hd : decode M.2.1 pc = .ok (.if_icmp .le off, 3)) (ht : (pc : Int) + off = (tgt : Int)) (k1 : a ≤ b → Z g d mc ms M tgt L st I S Q) (k2 : b < a → Z g d mc ms M (pc + 3) L st I S Q) : Z g d mc ms M pc L (.int (nI b) :: .int (nI a) :: st) I S Q := Z.icmp_le hd ht (fun h => k1 (Nat.not_lt.mp (fun q => h ((nI_ltI hb ha).mpr q)))) (fun h => k2 ((nI_ltI hb ha).mp h))
theorem Z.icmp_neN {a b : Nat} {off : Int} {tgt : Nat} (ha : a < 2 ^ 31) (hb : b < 2 ^ 31) (hd : decode M.2.1 pc = .ok (.if_icmp .ne off, 3)) (ht : (pc : Int) + off = (tgt : Int)) (k1 : ¬ a = b → Z g d mc ms M tgt L st I S Q) (k2 : a = b → Z g d mc ms M (pc + 3) L st I S Q) : Z g d mc ms M pc L (.int (nI b) :: .int (nI a) :: st) I S Q := Z.icmp_ne hd ht (fun h => k1 (fun q => h ((nI_eq ha hb).mpr q))) (fun h => k2 ((nI_eq ha hb).mp h))
theorem Z.if_eqN {a : Nat} {off : Int} {tgt : Nat} (ha : a < 2 ^ 31) (hd : decode M.2.1 pc = .ok (.ifCond .eq off, 3)) (ht : (pc : Int) + off = (tgt : Int)) (k1 : a = 0 → Z g d mc ms M tgt L st I S Q) (k2 : 0 < a → Z g d mc ms M (pc + 3) L st I S Q) : Z g d mc ms M pc L (.int (nI a) :: st) I S Q := Z.if_eq hd ht (fun h => k1 (by have := (nI_eq (b := 0) ha (by decide)).mp h; omega)) (fun h => k2 (Nat.pos_of_ne_zero (fun q => h (by rw [q]; rfl))))
theorem Z.if_neN {a : Nat} {off : Int} {tgt : Nat} (ha : a < 2 ^ 31) (hd : decode M.2.1 pc = .ok (.ifCond .ne off, 3)) (ht : (pc : Int) + off = (tgt : Int)) (k1 : 0 < a → Z g d mc ms M tgt L st I S Q) (k2 : a = 0 → Z g d mc ms M (pc + 3) L st I S Q) : Z g d mc ms M pc L (.int (nI a) :: st) I S Q := Z.if_ne hd ht (fun h => k1 (Nat.pos_of_ne_zero (fun q => h (by rw [q]; rfl)))) (fun h => k2 (by have := (nI_eq (b := 0) ha (by decide)).mp h; omega))
theorem Z.if_gtN {a : Nat} {off : Int} {tgt : Nat} (ha : a < 2 ^ 31) (hd : decode M.2.1 pc = .ok (.ifCond .gt off, 3)) (ht : (pc : Int) + off = (tgt : Int)) (k1 : 0 < a → Z g d mc ms M tgt L st I S Q) (k2 : a = 0 → Z g d mc ms M (pc + 3) L st I S Q) : Z g d mc ms M pc L (.int (nI a) :: st) I S Q := Z.if_gt hd ht (fun h => k1 ((nI_ltI (a := 0) (by decide) ha).mp h)) (fun h => k2 (by have : ¬ 0 < a := fun q => h ((nI_ltI (a := 0) (by decide) ha).mpr q); omega))
theorem Z.if_leN {a : Nat} {off : Int} {tgt : Nat} (ha : a < 2 ^ 31) (hd : decode M.2.1 pc = .ok (.ifCond .le off, 3)) (ht : (pc : Int) + off = (tgt : Int)) (k1 : a = 0 → Z g d mc ms M tgt L st I S Q) (k2 : 0 < a → Z g d mc ms M (pc + 3) L st I S Q) : Z g d mc ms M pc L (.int (nI a) :: st) I S Q := Z.if_le hd ht (fun h => k1 (by have : ¬ 0 < a := fun q => h ((nI_ltI (a := 0) (by decide) ha).mpr q); omega)) (fun h => k2 ((nI_ltI (a := 0) (by decide) ha).mp h))
theorem Z.if_ltN {a : Nat} {off : Int} {tgt : Nat} (ha : a < 2 ^ 31) (hd : decode M.2.1 pc = .ok (.ifCond .lt off, 3)) (ht : (pc : Int) + off = (tgt : Int)) (kk : Z g d mc ms M (pc + 3) L st I S Q) : Z g d mc ms M pc L (.int (nI a) :: st) I S Q := Z.if_lt (tgt := tgt) hd ht (fun h => absurd h (nI_pos ha)) (fun _ => kk)
theorem Z.if_geN {a : Nat} {off : Int} {tgt : Nat} (ha : a < 2 ^ 31) (hd : decode M.2.1 pc = .ok (.ifCond .ge off, 3)) (ht : (pc : Int) + off = (tgt : Int)) (kk : Z g d mc ms M tgt L st I S Q) : Z g d mc ms M pc L (.int (nI a) :: st) I S Q := Z.if_ge hd ht (fun _ => kk) (fun h => absurd h (nI_pos ha))
/-- a method that answers r and leaves the world as it is -/
def PQ (r : Value) (I : IM) (S : SH) : ZQ := fun v I' S' => v = some r ∧ I' = I ∧ S' = S
theorem Z.callVp {idx n d1 b ci ln N0 : Nat} {rs : List (Option Nat)} {N : MI} {C : String} {T : u_T} {ty : Nat → FieldType} {As : List Value} {r : Value} (hd : decode M.2.1 pc = .ok (.invokevirtual idx, 3)) (hlink : inT (.methodLink M.1.cls idx N.1)) (hN : mOk N n) (him : inT (.instanceMethod N.1)) (hse : inT (.selects N.1.cls N.1 N.1)) (hs : S[b]? = some (ci, ln, rs)) (hc : clOk ci C T N0 ty) (hcn : C = N.1.cls) (hk : d1 + 1 ≤ d) (hn : As.length = n) (hav : avOk N (.ref b :: As)) (hst : st.all isV = true ∧ st.length ≤ 8)
    (hcal : Z g d1 0 0 N 0 (enL N (.ref b :: As)) [] I S (PQ r I S)) {st0 : List Value} (he : st0 = As.reverse ++ .ref b :: st)
    (kk : Z g d mc ms M (pc + 3) L (r :: st) I S Q) : Z g d mc ms M pc L st0 I S Q := by
  subst he
  refine Z.callV hd hlink hN him hse hs hc hcn hk hn hav hst (Nat.zero_le _) (Nat.zero_le _) hcal (fun v I' S' h => ?_)
  obtain ⟨rfl, rfl, rfl⟩ := h
  exact kk
theorem Z.callSp {idx n d1 : Nat} {N : MI} {As : List Value} {r : Value} (hd : decode M.2.1 pc = .ok (.invokestatic idx, 3)) (hlink : inT (.methodLink M.1.cls idx N.1)) (hN : mOk N n) (hsta : inT (.static N.1)) (hk : d1 + 1 ≤ d) (hn : As.length = n) (hav : avOk N As) (hst : st.all isV = true ∧ st.length ≤ 8)
    (hcal : Z g d1 0 0 N 0 (enL N As) [] I S (PQ r I S)) {st0 : List Value} (he : st0 = As.reverse ++ st)
    (kk : Z g d mc ms M (pc + 3) L (r :: st) I S Q) : Z g d mc ms M pc L st0 I S Q := by
  subst he
  refine Z.callS hd hlink hN hsta hk hn hav hst (Nat.zero_le _) (Nat.zero_le _) hcal (fun v I' S' h => ?_)
  obtain ⟨rfl, rfl, rfl⟩ := h
  exact kk
theorem Z.callSNp {idx n d1 : Nat} {N : MI} {As : List Value} {r : Value} (hd : decode M.2.1 pc = .ok (.invokestatic idx, 3)) (hlink : (M.1.cls, idx, N.1) ∈ nestL) (hN : mOk N n) (hsta : inT (.static N.1)) (hk : d1 + 1 ≤ d) (hn : As.length = n) (hav : avOk N As) (hst : st.all isV = true ∧ st.length ≤ 8)
    (hcal : Z g d1 0 0 N 0 (enL N As) [] I S (PQ r I S)) {st0 : List Value} (he : st0 = As.reverse ++ st)
    (kk : Z g d mc ms M (pc + 3) L (r :: st) I S Q) : Z g d mc ms M pc L st0 I S Q := by
  subst he
  refine Z.callSN hd hlink hN hsta hk hn hav hst (Nat.zero_le _) (Nat.zero_le _) hcal (fun v I' S' h => ?_)
  obtain ⟨rfl, rfl, rfl⟩ := h
  exact kk
theorem Z.callVg {idx n d1 b ci ln N0 : Nat} {rs : List (Option Nat)} {N : MI} {C : String} {T : u_T} {ty : Nat → FieldType} {As : List Value} {Q1 : ZQ} (hd : decode M.2.1 pc = .ok (.invokevirtual idx, 3)) (hlink : inT (.methodLink M.1.cls idx N.1)) (hN : mOk N n) (him : inT (.instanceMethod N.1)) (hse : inT (.selects N.1.cls N.1 N.1)) (hs : S[b]? = some (ci, ln, rs)) (hc : clOk ci C T N0 ty) (hcn : C = N.1.cls) (hk : d1 + 1 ≤ d) (hn : As.length = n) (hav : avOk N (.ref b :: As)) (hst : st.all isV = true ∧ st.length ≤ 8)
    (hcal : Z g d1 0 0 N 0 (enL N (.ref b :: As)) [] I S Q1) {st0 : List Value} (he : st0 = As.reverse ++ .ref b :: st)
    (kk : ∀ v I' S', Q1 v I' S' → Z g d mc ms M (pc + 3) L (v.toList ++ st) I' S' Q) : Z g d mc ms M pc L st0 I S Q := by
  subst he
  exact Z.callV hd hlink hN him hse hs hc hcn hk hn hav hst (Nat.zero_le _) (Nat.zero_le _) hcal kk
theorem Z.eqLs {L' st' : List Value} (hL : L = L') (hs : st = st') (kk : Z g d mc ms M pc L' st' I S Q) : Z g d mc ms M pc L st I S Q := by
  subst hL
  subst hs
  exact kk
theorem Z.eqI {I' : IM} (h : I = I') (kk : Z g d mc ms M pc L st I' S Q) : Z g d mc ms M pc L st I S Q := by
  subst h
  exact kk
theorem Z.callSg {idx n d1 : Nat} {N : MI} {As : List Value} {Q1 : ZQ} (hd : decode M.2.1 pc = .ok (.invokestatic idx, 3)) (hlink : inT (.methodLink M.1.cls idx N.1)) (hN : mOk N n) (hsta : inT (.static N.1)) (hk : d1 + 1 ≤ d) (hn : As.length = n) (hav : avOk N As) (hst : st.all isV = true ∧ st.length ≤ 8)
    (hcal : Z g d1 0 0 N 0 (enL N As) [] I S Q1) {st0 : List Value} (he : st0 = As.reverse ++ st)
    (kk : ∀ v I' S', Q1 v I' S' → Z g d mc ms M (pc + 3) L (v.toList ++ st) I' S' Q) : Z g d mc ms M pc L st0 I S Q := by
  subst he
  exact Z.callS hd hlink hN hsta hk hn hav hst (Nat.zero_le _) (Nat.zero_le _) hcal kk
end ZV
theorem mkX0_init : mOk mX0_init 0 := ⟨okX0_init, by decide +kernel, ⟨by decide +kernel, by decide +kernel⟩, by decide +kernel, by decide⟩
theorem mkX0_clear : mOk mX0_clear 0 := ⟨okX0_clear, by decide +kernel, ⟨by decide +kernel, by decide +kernel⟩, by decide +kernel, by decide⟩
theorem mkX0_isThere : mOk mX0_isThere 0 := ⟨okX0_isThere, by decide +kernel, ⟨by decide +kernel, by decide +kernel⟩, by decide +kernel, by decide⟩
theorem mkX0_add : mOk mX0_add 3 := ⟨okX0_add, by decide +kernel, ⟨by decide +kernel, by decide +kernel⟩, by decide +kernel, by decide⟩
theorem mkX1_init : mOk mX1_init 2 := ⟨okX1_init, by decide +kernel, ⟨by decide +kernel, by decide +kernel⟩, by decide +kernel, by decide⟩
theorem mkX1_hasPicture : mOk mX1_hasPicture 0 := ⟨okX1_hasPicture, by decide +kernel, ⟨by decide +kernel, by decide +kernel⟩, by decide +kernel, by decide⟩
theorem mkX1_addLetter : mOk mX1_addLetter 1 := ⟨okX1_addLetter, by decide +kernel, ⟨by decide +kernel, by decide +kernel⟩, by decide +kernel, by decide⟩
theorem mkX1_addCode : mOk mX1_addCode 1 := ⟨okX1_addCode, by decide +kernel, ⟨by decide +kernel, by decide +kernel⟩, by decide +kernel, by decide⟩
theorem mkX1_likeOfPictures : mOk mX1_likeOfPictures 1 := ⟨okX1_likeOfPictures, by decide +kernel, ⟨by decide +kernel, by decide +kernel⟩, by decide +kernel, by decide⟩
theorem mkX1_hasCode : mOk mX1_hasCode 1 := ⟨okX1_hasCode, by decide +kernel, ⟨by decide +kernel, by decide +kernel⟩, by decide +kernel, by decide⟩
theorem mkX2_init : mOk mX2_init 0 := ⟨okX2_init, by decide +kernel, ⟨by decide +kernel, by decide +kernel⟩, by decide +kernel, by decide⟩
theorem mkX2_nearOf : mOk mX2_nearOf 2 := ⟨okX2_nearOf, by decide +kernel, ⟨by decide +kernel, by decide +kernel⟩, by decide +kernel, by decide⟩
theorem mkX2_tell : mOk mX2_tell 3 := ⟨okX2_tell, by decide +kernel, ⟨by decide +kernel, by decide +kernel⟩, by decide +kernel, by decide⟩
theorem mkX2_find : mOk mX2_find 2 := ⟨okX2_find, by decide +kernel, ⟨by decide +kernel, by decide +kernel⟩, by decide +kernel, by decide⟩
theorem mkX2_append : mOk mX2_append 3 := ⟨okX2_append, by decide +kernel, ⟨by decide +kernel, by decide +kernel⟩, by decide +kernel, by decide⟩
theorem mkX2_forget : mOk mX2_forget 1 := ⟨okX2_forget, by decide +kernel, ⟨by decide +kernel, by decide +kernel⟩, by decide +kernel, by decide⟩
theorem mkX3_init : mOk mX3_init 0 := ⟨okX3_init, by decide +kernel, ⟨by decide +kernel, by decide +kernel⟩, by decide +kernel, by decide⟩
theorem mkX3_latestDay : mOk mX3_latestDay 0 := ⟨okX3_latestDay, by decide +kernel, ⟨by decide +kernel, by decide +kernel⟩, by decide +kernel, by decide⟩
theorem mkX3_take : mOk mX3_take 1 := ⟨okX3_take, by decide +kernel, ⟨by decide +kernel, by decide +kernel⟩, by decide +kernel, by decide⟩
theorem mkX3_add : mOk mX3_add 4 := ⟨okX3_add, by decide +kernel, ⟨by decide +kernel, by decide +kernel⟩, by decide +kernel, by decide⟩
theorem mkX3_takeBack : mOk mX3_takeBack 0 := ⟨okX3_takeBack, by decide +kernel, ⟨by decide +kernel, by decide +kernel⟩, by decide +kernel, by decide⟩
theorem mkX3_areOf : mOk mX3_areOf 1 := ⟨okX3_areOf, by decide +kernel, ⟨by decide +kernel, by decide +kernel⟩, by decide +kernel, by decide⟩
theorem mkX3_tell : mOk mX3_tell 4 := ⟨okX3_tell, by decide +kernel, ⟨by decide +kernel, by decide +kernel⟩, by decide +kernel, by decide⟩
theorem mkX3_latest : mOk mX3_latest 1 := ⟨okX3_latest, by decide +kernel, ⟨by decide +kernel, by decide +kernel⟩, by decide +kernel, by decide⟩
theorem mkX4_init : mOk mX4_init 0 := ⟨okX4_init, by decide +kernel, ⟨by decide +kernel, by decide +kernel⟩, by decide +kernel, by decide⟩
theorem mkX4_placesOf : mOk mX4_placesOf 1 := ⟨okX4_placesOf, by decide +kernel, ⟨by decide +kernel, by decide +kernel⟩, by decide +kernel, by decide⟩
theorem mkX4_setPlaces : mOk mX4_setPlaces 2 := ⟨okX4_setPlaces, by decide +kernel, ⟨by decide +kernel, by decide +kernel⟩, by decide +kernel, by decide⟩
theorem mkX4_setPlace : mOk mX4_setPlace 3 := ⟨okX4_setPlace, by decide +kernel, ⟨by decide +kernel, by decide +kernel⟩, by decide +kernel, by decide⟩
theorem mkX4_setPutCost : mOk mX4_setPutCost 2 := ⟨okX4_setPutCost, by decide +kernel, ⟨by decide +kernel, by decide +kernel⟩, by decide +kernel, by decide⟩
theorem mkX4_setChangeCost : mOk mX4_setChangeCost 3 := ⟨okX4_setChangeCost, by decide +kernel, ⟨by decide +kernel, by decide +kernel⟩, by decide +kernel, by decide⟩
theorem mkX4_countOf : mOk mX4_countOf 1 := ⟨okX4_countOf, by decide +kernel, ⟨by decide +kernel, by decide +kernel⟩, by decide +kernel, by decide⟩
theorem mkX4_at : mOk mX4_at 2 := ⟨okX4_at, by decide +kernel, ⟨by decide +kernel, by decide +kernel⟩, by decide +kernel, by decide⟩
theorem mkX4_costOf : mOk mX4_costOf 2 := ⟨okX4_costOf, by decide +kernel, ⟨by decide +kernel, by decide +kernel⟩, by decide +kernel, by decide⟩
theorem mkX4_likeOf : mOk mX4_likeOf 2 := ⟨okX4_likeOf, by decide +kernel, ⟨by decide +kernel, by decide +kernel⟩, by decide +kernel, by decide⟩
theorem mkX4_spell : mOk mX4_spell 2 := ⟨okX4_spell, by decide +kernel, ⟨by decide +kernel, by decide +kernel⟩, by decide +kernel, by decide⟩
theorem mkX4_heard : mOk mX4_heard 2 := ⟨okX4_heard, by decide +kernel, ⟨by decide +kernel, by decide +kernel⟩, by decide +kernel, by decide⟩
theorem mkX4_leastSum : mOk mX4_leastSum 2 := ⟨okX4_leastSum, by decide +kernel, ⟨by decide +kernel, by decide +kernel⟩, by decide +kernel, by decide⟩
theorem mkX5_init : mOk mX5_init 0 := ⟨okX5_init, by decide +kernel, ⟨by decide +kernel, by decide +kernel⟩, by decide +kernel, by decide⟩
theorem mkX5_read : mOk mX5_read 4 := ⟨okX5_read, by decide +kernel, ⟨by decide +kernel, by decide +kernel⟩, by decide +kernel, by decide⟩
theorem mkX5_isEntered : mOk mX5_isEntered 0 := ⟨okX5_isEntered, by decide +kernel, ⟨by decide +kernel, by decide +kernel⟩, by decide +kernel, by decide⟩
theorem mkX5_termEnd : mOk mX5_termEnd 0 := ⟨okX5_termEnd, by decide +kernel, ⟨by decide +kernel, by decide +kernel⟩, by decide +kernel, by decide⟩
theorem mkX5_isLapsed : mOk mX5_isLapsed 0 := ⟨okX5_isLapsed, by decide +kernel, ⟨by decide +kernel, by decide +kernel⟩, by decide +kernel, by decide⟩
theorem mkX5_isTimeToRenew : mOk mX5_isTimeToRenew 0 := ⟨okX5_isTimeToRenew, by decide +kernel, ⟨by decide +kernel, by decide +kernel⟩, by decide +kernel, by decide⟩
theorem mkX5_find : mOk mX5_find 1 := ⟨okX5_find, by decide +kernel, ⟨by decide +kernel, by decide +kernel⟩, by decide +kernel, by decide⟩
theorem mkX5_keeps : mOk mX5_keeps 1 := ⟨okX5_keeps, by decide +kernel, ⟨by decide +kernel, by decide +kernel⟩, by decide +kernel, by decide⟩
theorem mkX5_sinceAt : mOk mX5_sinceAt 1 := ⟨okX5_sinceAt, by decide +kernel, ⟨by decide +kernel, by decide +kernel⟩, by decide +kernel, by decide⟩
theorem mkX5_rightAt : mOk mX5_rightAt 1 := ⟨okX5_rightAt, by decide +kernel, ⟨by decide +kernel, by decide +kernel⟩, by decide +kernel, by decide⟩
theorem mkX5_standsAt : mOk mX5_standsAt 1 := ⟨okX5_standsAt, by decide +kernel, ⟨by decide +kernel, by decide +kernel⟩, by decide +kernel, by decide⟩
theorem mkX5_standsForAny : mOk mX5_standsForAny 0 := ⟨okX5_standsForAny, by decide +kernel, ⟨by decide +kernel, by decide +kernel⟩, by decide +kernel, by decide⟩
theorem mkX5_clear : mOk mX5_clear 1 := ⟨okX5_clear, by decide +kernel, ⟨by decide +kernel, by decide +kernel⟩, by decide +kernel, by decide⟩
theorem mkX5_readPaper : mOk mX5_readPaper 4 := ⟨okX5_readPaper, by decide +kernel, ⟨by decide +kernel, by decide +kernel⟩, by decide +kernel, by decide⟩
theorem mkX5_readEnter : mOk mX5_readEnter 3 := ⟨okX5_readEnter, by decide +kernel, ⟨by decide +kernel, by decide +kernel⟩, by decide +kernel, by decide⟩
theorem mkX5_readGoods : mOk mX5_readGoods 2 := ⟨okX5_readGoods, by decide +kernel, ⟨by decide +kernel, by decide +kernel⟩, by decide +kernel, by decide⟩
theorem mkX5_readGive : mOk mX5_readGive 2 := ⟨okX5_readGive, by decide +kernel, ⟨by decide +kernel, by decide +kernel⟩, by decide +kernel, by decide⟩
theorem mkX5_readUse : mOk mX5_readUse 2 := ⟨okX5_readUse, by decide +kernel, ⟨by decide +kernel, by decide +kernel⟩, by decide +kernel, by decide⟩
theorem mkX6_init : mOk mX6_init 0 := ⟨okX6_init, by decide +kernel, ⟨by decide +kernel, by decide +kernel⟩, by decide +kernel, by decide⟩
theorem mkX6_row : mOk mX6_row 2 := ⟨okX6_row, by decide +kernel, ⟨by decide +kernel, by decide +kernel⟩, by decide +kernel, by decide⟩
theorem mkX6_sound : mOk mX6_sound 3 := ⟨okX6_sound, by decide +kernel, ⟨by decide +kernel, by decide +kernel⟩, by decide +kernel, by decide⟩
theorem mkX6_cost : mOk mX6_cost 3 := ⟨okX6_cost, by decide +kernel, ⟨by decide +kernel, by decide +kernel⟩, by decide +kernel, by decide⟩
theorem mkX6_near : mOk mX6_near 3 := ⟨okX6_near, by decide +kernel, ⟨by decide +kernel, by decide +kernel⟩, by decide +kernel, by decide⟩
theorem mkX6_levels : mOk mX6_levels 2 := ⟨okX6_levels, by decide +kernel, ⟨by decide +kernel, by decide +kernel⟩, by decide +kernel, by decide⟩
theorem mkX6_mark : mOk mX6_mark 2 := ⟨okX6_mark, by decide +kernel, ⟨by decide +kernel, by decide +kernel⟩, by decide +kernel, by decide⟩
theorem mkX6_letter : mOk mX6_letter 2 := ⟨okX6_letter, by decide +kernel, ⟨by decide +kernel, by decide +kernel⟩, by decide +kernel, by decide⟩
theorem mkX6_code : mOk mX6_code 2 := ⟨okX6_code, by decide +kernel, ⟨by decide +kernel, by decide +kernel⟩, by decide +kernel, by decide⟩
theorem mkX6_paper : mOk mX6_paper 4 := ⟨okX6_paper, by decide +kernel, ⟨by decide +kernel, by decide +kernel⟩, by decide +kernel, by decide⟩
theorem mkX6_oppose : mOk mX6_oppose 3 := ⟨okX6_oppose, by decide +kernel, ⟨by decide +kernel, by decide +kernel⟩, by decide +kernel, by decide⟩
theorem mkX6_undo : mOk mX6_undo 0 := ⟨okX6_undo, by decide +kernel, ⟨by decide +kernel, by decide +kernel⟩, by decide +kernel, by decide⟩
theorem mkX6_paperOf : mOk mX6_paperOf 2 := ⟨okX6_paperOf, by decide +kernel, ⟨by decide +kernel, by decide +kernel⟩, by decide +kernel, by decide⟩
theorem mkX6_markOf : mOk mX6_markOf 2 := ⟨okX6_markOf, by decide +kernel, ⟨by decide +kernel, by decide +kernel⟩, by decide +kernel, by decide⟩
theorem mkX6_soundOf : mOk mX6_soundOf 2 := ⟨okX6_soundOf, by decide +kernel, ⟨by decide +kernel, by decide +kernel⟩, by decide +kernel, by decide⟩
theorem mkX6_like : mOk mX6_like 3 := ⟨okX6_like, by decide +kernel, ⟨by decide +kernel, by decide +kernel⟩, by decide +kernel, by decide⟩
theorem mkX6_right : mOk mX6_right 5 := ⟨okX6_right, by decide +kernel, ⟨by decide +kernel, by decide +kernel⟩, by decide +kernel, by decide⟩
theorem mkX6_state : mOk mX6_state 3 := ⟨okX6_state, by decide +kernel, ⟨by decide +kernel, by decide +kernel⟩, by decide +kernel, by decide⟩
theorem mkX6_clash : mOk mX6_clash 4 := ⟨okX6_clash, by decide +kernel, ⟨by decide +kernel, by decide +kernel⟩, by decide +kernel, by decide⟩
theorem mkX6_first : mOk mX6_first 3 := ⟨okX6_first, by decide +kernel, ⟨by decide +kernel, by decide +kernel⟩, by decide +kernel, by decide⟩
theorem mkX6_may : mOk mX6_may 5 := ⟨okX6_may, by decide +kernel, ⟨by decide +kernel, by decide +kernel⟩, by decide +kernel, by decide⟩
theorem mkX6_watch : mOk mX6_watch 1 := ⟨okX6_watch, by decide +kernel, ⟨by decide +kernel, by decide +kernel⟩, by decide +kernel, by decide⟩
theorem mkX6_about : mOk mX6_about 1 := ⟨okX6_about, by decide +kernel, ⟨by decide +kernel, by decide +kernel⟩, by decide +kernel, by decide⟩
theorem mkX6_below : mOk mX6_below 2 := ⟨okX6_below, by decide +kernel, ⟨by decide +kernel, by decide +kernel⟩, by decide +kernel, by decide⟩
theorem mkX6_isDay : mOk mX6_isDay 1 := ⟨okX6_isDay, by decide +kernel, ⟨by decide +kernel, by decide +kernel⟩, by decide +kernel, by decide⟩
theorem mkX6_markAt : mOk mX6_markAt 1 := ⟨okX6_markAt, by decide +kernel, ⟨by decide +kernel, by decide +kernel⟩, by decide +kernel, by decide⟩
theorem mkX6_boundOfX : mOk mX6_boundOfX 1 := ⟨okX6_boundOfX, by decide +kernel, ⟨by decide +kernel, by decide +kernel⟩, by decide +kernel, by decide⟩
theorem mkX6_canBe : mOk mX6_canBe 4 := ⟨okX6_canBe, by decide +kernel, ⟨by decide +kernel, by decide +kernel⟩, by decide +kernel, by decide⟩
theorem mkX6_isOfKind : mOk mX6_isOfKind 2 := ⟨okX6_isOfKind, by decide +kernel, ⟨by decide +kernel, by decide +kernel⟩, by decide +kernel, by decide⟩
theorem mkX6_haveOneOwner : mOk mX6_haveOneOwner 2 := ⟨okX6_haveOneOwner, by decide +kernel, ⟨by decide +kernel, by decide +kernel⟩, by decide +kernel, by decide⟩
theorem mkX6_likeOf : mOk mX6_likeOf 2 := ⟨okX6_likeOf, by decide +kernel, ⟨by decide +kernel, by decide +kernel⟩, by decide +kernel, by decide⟩
theorem mkX6_areAlike : mOk mX6_areAlike 2 := ⟨okX6_areAlike, by decide +kernel, ⟨by decide +kernel, by decide +kernel⟩, by decide +kernel, by decide⟩
theorem mkX6_isNear : mOk mX6_isNear 2 := ⟨okX6_isNear, by decide +kernel, ⟨by decide +kernel, by decide +kernel⟩, by decide +kernel, by decide⟩
theorem mkX6_earliestNear : mOk mX6_earliestNear 1 := ⟨okX6_earliestNear, by decide +kernel, ⟨by decide +kernel, by decide +kernel⟩, by decide +kernel, by decide⟩
theorem mkX6_standsNearYounger : mOk mX6_standsNearYounger 0 := ⟨okX6_standsNearYounger, by decide +kernel, ⟨by decide +kernel, by decide +kernel⟩, by decide +kernel, by decide⟩
theorem mkX6_claimOf : mOk mX6_claimOf 3 := ⟨okX6_claimOf, by decide +kernel, ⟨by decide +kernel, by decide +kernel⟩, by decide +kernel, by decide⟩
theorem mkX6_findClash : mOk mX6_findClash 4 := ⟨okX6_findClash, by decide +kernel, ⟨by decide +kernel, by decide +kernel⟩, by decide +kernel, by decide⟩
theorem mkX6_findClashOver : mOk mX6_findClashOver 4 := ⟨okX6_findClashOver, by decide +kernel, ⟨by decide +kernel, by decide +kernel⟩, by decide +kernel, by decide⟩
theorem mkX7_init : mOk mX7_init 0 := ⟨okX7_init, by decide +kernel, ⟨by decide +kernel, by decide +kernel⟩, by decide +kernel, by decide⟩
theorem mkX7_in : mOk mX7_in 3 := ⟨okX7_in, by decide +kernel, ⟨by decide +kernel, by decide +kernel⟩, by decide +kernel, by decide⟩
theorem mkX7_isMark : mOk mX7_isMark 1 := ⟨okX7_isMark, by decide +kernel, ⟨by decide +kernel, by decide +kernel⟩, by decide +kernel, by decide⟩
theorem mkX7_isDay : mOk mX7_isDay 1 := ⟨okX7_isDay, by decide +kernel, ⟨by decide +kernel, by decide +kernel⟩, by decide +kernel, by decide⟩
theorem mkX7_isCountry : mOk mX7_isCountry 1 := ⟨okX7_isCountry, by decide +kernel, ⟨by decide +kernel, by decide +kernel⟩, by decide +kernel, by decide⟩
theorem mkX7_isGoods : mOk mX7_isGoods 1 := ⟨okX7_isGoods, by decide +kernel, ⟨by decide +kernel, by decide +kernel⟩, by decide +kernel, by decide⟩
theorem mkX7_isPerson : mOk mX7_isPerson 1 := ⟨okX7_isPerson, by decide +kernel, ⟨by decide +kernel, by decide +kernel⟩, by decide +kernel, by decide⟩
theorem mkX7_row : mOk mX7_row 2 := ⟨okX7_row, by decide +kernel, ⟨by decide +kernel, by decide +kernel⟩, by decide +kernel, by decide⟩
theorem mkX7_sound : mOk mX7_sound 3 := ⟨okX7_sound, by decide +kernel, ⟨by decide +kernel, by decide +kernel⟩, by decide +kernel, by decide⟩
theorem mkX7_cost : mOk mX7_cost 3 := ⟨okX7_cost, by decide +kernel, ⟨by decide +kernel, by decide +kernel⟩, by decide +kernel, by decide⟩
theorem mkX7_pairOf : mOk mX7_pairOf 2 := ⟨okX7_pairOf, by decide +kernel, ⟨by decide +kernel, by decide +kernel⟩, by decide +kernel, by decide⟩
theorem mkX7_near : mOk mX7_near 3 := ⟨okX7_near, by decide +kernel, ⟨by decide +kernel, by decide +kernel⟩, by decide +kernel, by decide⟩
theorem mkX7_nearOf : mOk mX7_nearOf 2 := ⟨okX7_nearOf, by decide +kernel, ⟨by decide +kernel, by decide +kernel⟩, by decide +kernel, by decide⟩
theorem mkX7_levels : mOk mX7_levels 2 := ⟨okX7_levels, by decide +kernel, ⟨by decide +kernel, by decide +kernel⟩, by decide +kernel, by decide⟩
theorem mkX7_mark : mOk mX7_mark 2 := ⟨okX7_mark, by decide +kernel, ⟨by decide +kernel, by decide +kernel⟩, by decide +kernel, by decide⟩
theorem mkX7_hasPaper : mOk mX7_hasPaper 1 := ⟨okX7_hasPaper, by decide +kernel, ⟨by decide +kernel, by decide +kernel⟩, by decide +kernel, by decide⟩
theorem mkX7_letter : mOk mX7_letter 2 := ⟨okX7_letter, by decide +kernel, ⟨by decide +kernel, by decide +kernel⟩, by decide +kernel, by decide⟩
theorem mkX7_code : mOk mX7_code 2 := ⟨okX7_code, by decide +kernel, ⟨by decide +kernel, by decide +kernel⟩, by decide +kernel, by decide⟩
theorem mkX7_hasCode : mOk mX7_hasCode 2 := ⟨okX7_hasCode, by decide +kernel, ⟨by decide +kernel, by decide +kernel⟩, by decide +kernel, by decide⟩
theorem mkX7_soundOfLetter : mOk mX7_soundOfLetter 2 := ⟨okX7_soundOfLetter, by decide +kernel, ⟨by decide +kernel, by decide +kernel⟩, by decide +kernel, by decide⟩
theorem mkX7_soundsInto : mOk mX7_soundsInto 2 := ⟨okX7_soundsInto, by decide +kernel, ⟨by decide +kernel, by decide +kernel⟩, by decide +kernel, by decide⟩
theorem mkX7_costOf : mOk mX7_costOf 2 := ⟨okX7_costOf, by decide +kernel, ⟨by decide +kernel, by decide +kernel⟩, by decide +kernel, by decide⟩
theorem mkX7_wordsLike : mOk mX7_wordsLike 2 := ⟨okX7_wordsLike, by decide +kernel, ⟨by decide +kernel, by decide +kernel⟩, by decide +kernel, by decide⟩
theorem mkX7_codesLike : mOk mX7_codesLike 2 := ⟨okX7_codesLike, by decide +kernel, ⟨by decide +kernel, by decide +kernel⟩, by decide +kernel, by decide⟩
theorem mkX7_likeOf : mOk mX7_likeOf 2 := ⟨okX7_likeOf, by decide +kernel, ⟨by decide +kernel, by decide +kernel⟩, by decide +kernel, by decide⟩
theorem mkX7_isAlike : mOk mX7_isAlike 2 := ⟨okX7_isAlike, by decide +kernel, ⟨by decide +kernel, by decide +kernel⟩, by decide +kernel, by decide⟩
theorem mkX7_latest : mOk mX7_latest 4 := ⟨okX7_latest, by decide +kernel, ⟨by decide +kernel, by decide +kernel⟩, by decide +kernel, by decide⟩
theorem mkX7_earliest : mOk mX7_earliest 4 := ⟨okX7_earliest, by decide +kernel, ⟨by decide +kernel, by decide +kernel⟩, by decide +kernel, by decide⟩
theorem mkX7_countOf : mOk mX7_countOf 3 := ⟨okX7_countOf, by decide +kernel, ⟨by decide +kernel, by decide +kernel⟩, by decide +kernel, by decide⟩
theorem mkX7_since : mOk mX7_since 3 := ⟨okX7_since, by decide +kernel, ⟨by decide +kernel, by decide +kernel⟩, by decide +kernel, by decide⟩
theorem mkX7_firstOf : mOk mX7_firstOf 2 := ⟨okX7_firstOf, by decide +kernel, ⟨by decide +kernel, by decide +kernel⟩, by decide +kernel, by decide⟩
theorem mkX7_termEnd : mOk mX7_termEnd 2 := ⟨okX7_termEnd, by decide +kernel, ⟨by decide +kernel, by decide +kernel⟩, by decide +kernel, by decide⟩
theorem mkX7_hasLapsed : mOk mX7_hasLapsed 2 := ⟨okX7_hasLapsed, by decide +kernel, ⟨by decide +kernel, by decide +kernel⟩, by decide +kernel, by decide⟩
theorem mkX7_isStruck : mOk mX7_isStruck 2 := ⟨okX7_isStruck, by decide +kernel, ⟨by decide +kernel, by decide +kernel⟩, by decide +kernel, by decide⟩
theorem mkX7_rightOf : mOk mX7_rightOf 4 := ⟨okX7_rightOf, by decide +kernel, ⟨by decide +kernel, by decide +kernel⟩, by decide +kernel, by decide⟩
theorem mkX7_stands : mOk mX7_stands 4 := ⟨okX7_stands, by decide +kernel, ⟨by decide +kernel, by decide +kernel⟩, by decide +kernel, by decide⟩
theorem mkX7_goodsInto : mOk mX7_goodsInto 3 := ⟨okX7_goodsInto, by decide +kernel, ⟨by decide +kernel, by decide +kernel⟩, by decide +kernel, by decide⟩
theorem mkX7_isNear : mOk mX7_isNear 4 := ⟨okX7_isNear, by decide +kernel, ⟨by decide +kernel, by decide +kernel⟩, by decide +kernel, by decide⟩
theorem mkX7_hasLeave : mOk mX7_hasLeave 3 := ⟨okX7_hasLeave, by decide +kernel, ⟨by decide +kernel, by decide +kernel⟩, by decide +kernel, by decide⟩
theorem mkX7_mayClash : mOk mX7_mayClash 3 := ⟨okX7_mayClash, by decide +kernel, ⟨by decide +kernel, by decide +kernel⟩, by decide +kernel, by decide⟩
theorem mkX7_clashes : mOk mX7_clashes 6 := ⟨okX7_clashes, by decide +kernel, ⟨by decide +kernel, by decide +kernel⟩, by decide +kernel, by decide⟩
theorem mkX7_clashOf : mOk mX7_clashOf 4 := ⟨okX7_clashOf, by decide +kernel, ⟨by decide +kernel, by decide +kernel⟩, by decide +kernel, by decide⟩
theorem mkX7_clashRight : mOk mX7_clashRight 4 := ⟨okX7_clashRight, by decide +kernel, ⟨by decide +kernel, by decide +kernel⟩, by decide +kernel, by decide⟩
theorem mkX7_isX : mOk mX7_isX 2 := ⟨okX7_isX, by decide +kernel, ⟨by decide +kernel, by decide +kernel⟩, by decide +kernel, by decide⟩
theorem mkX7_canBe : mOk mX7_canBe 4 := ⟨okX7_canBe, by decide +kernel, ⟨by decide +kernel, by decide +kernel⟩, by decide +kernel, by decide⟩
theorem mkX7_paper : mOk mX7_paper 4 := ⟨okX7_paper, by decide +kernel, ⟨by decide +kernel, by decide +kernel⟩, by decide +kernel, by decide⟩
theorem mkX7_oppose : mOk mX7_oppose 3 := ⟨okX7_oppose, by decide +kernel, ⟨by decide +kernel, by decide +kernel⟩, by decide +kernel, by decide⟩
theorem mkX7_undo : mOk mX7_undo 0 := ⟨okX7_undo, by decide +kernel, ⟨by decide +kernel, by decide +kernel⟩, by decide +kernel, by decide⟩
theorem mkX7_paperOf : mOk mX7_paperOf 2 := ⟨okX7_paperOf, by decide +kernel, ⟨by decide +kernel, by decide +kernel⟩, by decide +kernel, by decide⟩
theorem mkX7_markOf : mOk mX7_markOf 2 := ⟨okX7_markOf, by decide +kernel, ⟨by decide +kernel, by decide +kernel⟩, by decide +kernel, by decide⟩
theorem mkX7_soundOf : mOk mX7_soundOf 2 := ⟨okX7_soundOf, by decide +kernel, ⟨by decide +kernel, by decide +kernel⟩, by decide +kernel, by decide⟩
theorem mkX7_like : mOk mX7_like 3 := ⟨okX7_like, by decide +kernel, ⟨by decide +kernel, by decide +kernel⟩, by decide +kernel, by decide⟩
theorem mkX7_right : mOk mX7_right 5 := ⟨okX7_right, by decide +kernel, ⟨by decide +kernel, by decide +kernel⟩, by decide +kernel, by decide⟩
theorem mkX7_state : mOk mX7_state 3 := ⟨okX7_state, by decide +kernel, ⟨by decide +kernel, by decide +kernel⟩, by decide +kernel, by decide⟩
theorem mkX7_clash : mOk mX7_clash 4 := ⟨okX7_clash, by decide +kernel, ⟨by decide +kernel, by decide +kernel⟩, by decide +kernel, by decide⟩
theorem mkX7_first : mOk mX7_first 3 := ⟨okX7_first, by decide +kernel, ⟨by decide +kernel, by decide +kernel⟩, by decide +kernel, by decide⟩
theorem mkX7_nearRight : mOk mX7_nearRight 4 := ⟨okX7_nearRight, by decide +kernel, ⟨by decide +kernel, by decide +kernel⟩, by decide +kernel, by decide⟩
theorem mkX7_may : mOk mX7_may 5 := ⟨okX7_may, by decide +kernel, ⟨by decide +kernel, by decide +kernel⟩, by decide +kernel, by decide⟩
theorem mkX7_watch : mOk mX7_watch 1 := ⟨okX7_watch, by decide +kernel, ⟨by decide +kernel, by decide +kernel⟩, by decide +kernel, by decide⟩
theorem mkX7_comesNear : mOk mX7_comesNear 4 := ⟨okX7_comesNear, by decide +kernel, ⟨by decide +kernel, by decide +kernel⟩, by decide +kernel, by decide⟩
theorem mkX7_about : mOk mX7_about 1 := ⟨okX7_about, by decide +kernel, ⟨by decide +kernel, by decide +kernel⟩, by decide +kernel, by decide⟩
theorem mkJ7_fill_53178 : mOk mJ7_fill_53178 2 := ⟨okJ7_fill_53178, by decide +kernel, ⟨by decide +kernel, by decide +kernel⟩, by decide +kernel, by decide⟩
