section ZY
variable {g : GP} {d mc ms : Nat} {M : MI} {pc : Nat} {L st : List Value} {I : IM} {S : SH} {Q : ZQ}
theorem Z.newaL {at' : ArrayType} {ck n a : Nat} {i : Int32} (hd : decode M.2.1 pc = .ok (.newarray at', 2)) (hty : at' = .int ∧ ck = 8 ∨ at' = .boolean ∧ ck = 9) (hi : i = nI n) (hn : n < 100000) (hb1 : 1 ≤ mc) (hb2 : n ≤ ms) (hl : S.length = a)
    (kk : Z g d (mc - 1) (ms - n) M (pc + 2) L (.ref a :: st) (va_up I a (fun _ => 0)) (S ++ [(ck, n, [])]) Q) : Z g d mc ms M pc L (.int i :: st) I S Q := by
  subst hl
  exact Z.newa hd hty hi hn hb1 hb2 kk
theorem Z.newL {idx ci N a : Nat} {C : String} {T : u_T} {ty : Nat → FieldType} (hd : decode M.2.1 pc = .ok (.new idx, 3)) (hc : clOk ci C T N ty) (hlink : inT (.classLink M.1.cls idx C)) (hia : inT (.instantiable C N)) (hini : inT (.initialized C)) (hb1 : 1 ≤ mc) (hb2 : N ≤ ms) (hl : S.length = a)
    (kk : Z g d (mc - 1) (ms - N) M (pc + 3) L (.ref a :: st) (va_up I a (fun _ => 0)) (S ++ [(ci, 0, List.replicate N none)]) Q) : Z g d mc ms M pc L st I S Q := by
  subst hl
  exact Z.new hd hc hlink hia hini hb1 hb2 kk
end ZY
/-- the shape with a mark's rows, c places for codes -/
def s1 (S : SH) (x : Nat) : SH := (S ++ [(8, 40, [])]).set x (1, 0, [none, none, some (x + 1), none, none, none])
def s2 (S : SH) (x c : Nat) : SH := (s1 S x ++ [(8, c, [])]).set x (1, 0, [none, none, some (x + 1), some (x + 2), none, none])
theorem s1_x {S : SH} {x : Nat} (hl : S.length = x + 1) : (s1 S x)[x]? = some (1, 0, [none, none, some (x + 1), none, none, none]) := by
  unfold s1
  rw [List.getElem?_set_self (by simp; omega)]
theorem s1_l {S : SH} {x : Nat} (hl : S.length = x + 1) : (s1 S x).length = x + 2 := by
  unfold s1
  simp
  omega
theorem s1_x2 {S : SH} {x c : Nat} (hl : S.length = x + 1) : (s1 S x ++ [(8, c, [])])[x]? = some (1, 0, [none, none, some (x + 1), none, none, none]) := by
  rw [List.getElem?_append_left (by rw [s1_l hl]; omega)]
  exact s1_x hl
theorem s0_x {S : SH} {x : Nat} (hl : S.length = x + 1) (hx : S[x]? = some (1, 0, [none, none, none, none, none, none])) : (S ++ [(8, 40, [])])[x]? = some (1, 0, [none, none, none, none, none, none]) := by
  rw [List.getElem?_append_left (by omega)]
  exact hx
/-- a new mark's row of fields -/
def mkF (k p : Int32) : Nat → Int32 := upd (upd (upd (upd (fun _ => 0) 4 0) 5 0) 0 k) 1 p
set_option maxHeartbeats 4000000 in
set_option maxRecDepth 100000 in
theorem cc_markInit {g : GP} {J : IM} {S : SH} {x : Nat} (k p : Int32) (hl : S.length = x + 1) (hx : S[x]? = some (1, 0, [none, none, none, none, none, none])) (h0 : J x = fun _ => 0) : Z g 1 2 52 mX1_init 0 (enL mX1_init [.ref x, .int k, .int p]) [] J S (fun v J' T => v = none ∧ J' = va_up (va_up (va_up J (x + 1) (fun _ => 0)) x (mkF k p)) (x + 2) (fun _ => 0) ∧ T = s2 S x (if k = 1 ∨ k = 2 then 12 else 0)) := by
  show Z g 1 2 52 mX1_init 0 [.ref x, .int k, .int p] [] J S _
  refine Z.aload_n dX1_init_0 rfl ?_
  refine Z.objInit dX1_init_1 mlX1_3 (by decide) ⟨rfl, Nat.le_of_ble_eq_true rfl⟩ ?_
  refine Z.aload_n dX1_init_4 rfl ?_
  refine Z.bipush (v := 40) dX1_init_5 (by decide) ?_
  refine Z.newaL (n := 40) (a := x + 1) dX1_init_7 (Or.inl ⟨rfl, rfl⟩) rfl (by decide) (by decide) (by decide) hl ?_
  refine Z.putFR dX1_init_9 cl1 flX1_9 (by decide) (fun r => ⟨rfl, rfl⟩) ⟨rfl, rfl⟩ (s0_x hl hx) (by decide) ?_
  have h1x := s1_x hl
  show Z g 1 _ _ mX1_init 12 [.ref x, .int k, .int p] [] (va_up J (x + 1) (fun _ => 0)) (s1 S x) _
  refine Z.aload_n dX1_init_12 rfl ?_
  refine Z.iconst (v := 0) dX1_init_13 (by decide) ?_
  refine Z.putI (x := 0) dX1_init_14 cl1 flX1_15 (by decide) ⟨rfl, rfl⟩ h1x ?_
  refine Z.aload_n dX1_init_17 rfl ?_
  refine Z.iconst (v := 0) dX1_init_18 (by decide) ?_
  refine Z.putI (x := 0) dX1_init_19 cl1 flX1_19 (by decide) ⟨rfl, rfl⟩ h1x ?_
  refine Z.eqI (bx_uu _ _ _ _) ?_
  refine Z.aload_n dX1_init_22 rfl ?_
  refine Z.iload_n dX1_init_23 rfl ?_
  refine Z.putFI (x := k) dX1_init_24 cl1 flX1_22 (by decide) ⟨rfl, rfl⟩ ⟨rfl, rfl⟩ h1x ?_
  refine Z.eqI (bx_uu _ _ _ _) ?_
  refine Z.aload_n dX1_init_27 rfl ?_
  refine Z.iload_n dX1_init_28 rfl ?_
  refine Z.putFI (x := p) dX1_init_29 cl1 flX1_25 (by decide) ⟨rfl, rfl⟩ ⟨rfl, rfl⟩ h1x ?_
  refine Z.eqI (bx_uu _ _ _ _) ?_
  refine Z.aload_n dX1_init_32 rfl ?_
  refine Z.iload_n dX1_init_33 rfl ?_
  refine Z.iconst (v := 1) dX1_init_34 (by decide) ?_
  refine Z.icmp_eq (tgt := 43) dX1_init_35 (by decide) (fun h1 => ?_) (fun h1 => ?_)
  · refine Z.bipush (v := 12) dX1_init_43 (by decide) ?_
    refine Z.goto (tgt := 49) dX1_init_45 (by decide) ?_
    refine Z.newaL (n := 12) (a := x + 2) dX1_init_49 (Or.inl ⟨rfl, rfl⟩) rfl (by decide) (by decide) (by decide) (s1_l hl) ?_
    refine Z.putFR dX1_init_51 cl1 flX1_28 (by decide) (fun r => ⟨rfl, rfl⟩) ⟨rfl, rfl⟩ (s1_x2 hl) (show 3 < 6 by decide) ?_
    exact Z.vret dX1_init_54 rfl ⟨rfl, by simp only [va_up_self]; rw [va_up_ne _ _ (show x ≠ x + 1 by omega), h0]; rfl, by rw [if_pos (Or.inl h1)]; rfl⟩
  · refine Z.iload_n dX1_init_38 rfl ?_
    refine Z.iconst (v := 2) dX1_init_39 (by decide) ?_
    refine Z.icmp_ne (tgt := 48) dX1_init_40 (by decide) (fun h2 => ?_) (fun h2 => ?_)
    · refine Z.iconst (v := 0) dX1_init_48 (by decide) ?_
      refine Z.newaL (n := 0) (a := x + 2) dX1_init_49 (Or.inl ⟨rfl, rfl⟩) rfl (by decide) (by decide) (by decide) (s1_l hl) ?_
      refine Z.putFR dX1_init_51 cl1 flX1_28 (by decide) (fun r => ⟨rfl, rfl⟩) ⟨rfl, rfl⟩ (s1_x2 hl) (show 3 < 6 by decide) ?_
      exact Z.vret dX1_init_54 rfl ⟨rfl, by simp only [va_up_self]; rw [va_up_ne _ _ (show x ≠ x + 1 by omega), h0]; rfl, by rw [if_neg (fun z => z.elim h1 h2)]; rfl⟩
    · refine Z.bipush (v := 12) dX1_init_43 (by decide) ?_
      refine Z.goto (tgt := 49) dX1_init_45 (by decide) ?_
      refine Z.newaL (n := 12) (a := x + 2) dX1_init_49 (Or.inl ⟨rfl, rfl⟩) rfl (by decide) (by decide) (by decide) (s1_l hl) ?_
      refine Z.putFR dX1_init_51 cl1 flX1_28 (by decide) (fun r => ⟨rfl, rfl⟩) ⟨rfl, rfl⟩ (s1_x2 hl) (show 3 < 6 by decide) ?_
      exact Z.vret dX1_init_54 rfl ⟨rfl, by simp only [va_up_self]; rw [va_up_ne _ _ (show x ≠ x + 1 by omega), h0]; rfl, by rw [if_pos (Or.inr h2)]; rfl⟩

