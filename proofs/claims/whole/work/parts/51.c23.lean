/-- f with zeros in the first i places of the diagonal of 66 times 66 -/
def dgU (f : Nat → Int32) : Nat → (Nat → Int32)
  | 0 => f
  | i + 1 => upd (dgU f i) (66 * i + i) 0
theorem up_5 {α : Type} {I : Nat → α} {a b0 b1 b2 b3 b4 : Nat} {f f' g0 g1 g2 g3 g4 : α} (h0 : a ≠ b0) (h1 : a ≠ b1) (h2 : a ≠ b2) (h3 : a ≠ b3) (h4 : a ≠ b4) : va_up (va_up (va_up (va_up (va_up (va_up (va_up I a f) b0 g0) b1 g1) b2 g2) b3 g3) b4 g4) a f' = va_up (va_up (va_up (va_up (va_up (va_up I b0 g0) b1 g1) b2 g2) b3 g3) b4 g4) a f' := by
  funext q
  by_cases h : q = a <;> simp [va_up, h]
theorem up_6 {α : Type} {I : Nat → α} {a b0 b1 b2 b3 b4 b5 : Nat} {f f' g0 g1 g2 g3 g4 g5 : α} (h0 : a ≠ b0) (h1 : a ≠ b1) (h2 : a ≠ b2) (h3 : a ≠ b3) (h4 : a ≠ b4) (h5 : a ≠ b5) : va_up (va_up (va_up (va_up (va_up (va_up (va_up (va_up I a f) b0 g0) b1 g1) b2 g2) b3 g3) b4 g4) b5 g5) a f' = va_up (va_up (va_up (va_up (va_up (va_up (va_up I b0 g0) b1 g1) b2 g2) b3 g3) b4 g4) b5 g5) a f' := by
  funext q
  by_cases h : q = a <;> simp [va_up, h]
theorem up_7 {α : Type} {I : Nat → α} {a b0 b1 b2 b3 b4 b5 b6 : Nat} {f f' g0 g1 g2 g3 g4 g5 g6 : α} (h0 : a ≠ b0) (h1 : a ≠ b1) (h2 : a ≠ b2) (h3 : a ≠ b3) (h4 : a ≠ b4) (h5 : a ≠ b5) (h6 : a ≠ b6) : va_up (va_up (va_up (va_up (va_up (va_up (va_up (va_up (va_up I a f) b0 g0) b1 g1) b2 g2) b3 g3) b4 g4) b5 g5) b6 g6) a f' = va_up (va_up (va_up (va_up (va_up (va_up (va_up (va_up I b0 g0) b1 g1) b2 g2) b3 g3) b4 g4) b5 g5) b6 g6) a f' := by
  funext q
  by_cases h : q = a <;> simp [va_up, h]
theorem up_8 {α : Type} {I : Nat → α} {a b0 b1 b2 b3 b4 b5 b6 b7 : Nat} {f f' g0 g1 g2 g3 g4 g5 g6 g7 : α} (h0 : a ≠ b0) (h1 : a ≠ b1) (h2 : a ≠ b2) (h3 : a ≠ b3) (h4 : a ≠ b4) (h5 : a ≠ b5) (h6 : a ≠ b6) (h7 : a ≠ b7) : va_up (va_up (va_up (va_up (va_up (va_up (va_up (va_up (va_up (va_up I a f) b0 g0) b1 g1) b2 g2) b3 g3) b4 g4) b5 g5) b6 g6) b7 g7) a f' = va_up (va_up (va_up (va_up (va_up (va_up (va_up (va_up (va_up I b0 g0) b1 g1) b2 g2) b3 g3) b4 g4) b5 g5) b6 g6) b7 g7) a f' := by
  funext q
  by_cases h : q = a <;> simp [va_up, h]
set_option maxHeartbeats 4000000 in
set_option maxRecDepth 100000 in
theorem lc_X4  {g : GP} {J : IM} {mc ms : Nat} (f5 : Nat → Int32) : ∀ i, i ≤ 66 → Z g 1 mc ms mX4_init 90 [.ref 1, .int (nI i)] [] (va_up J 5 (dgU f5 i)) [(6, 0, [none, none, none, none, none, none, none, none, none, none, none]), (4, 0, [some 2, some 3, some 4, some 5, some 6, some 7, some 8]), (8, 26, []), (8, 702, []), (8, 66, []), (8, 4356, []), (8, 40, []), (8, 40, []), (8, 41, [])] (VQ (va_up J 5 (dgU f5 66)) [(6, 0, [none, none, none, none, none, none, none, none, none, none, none]), (4, 0, [some 2, some 3, some 4, some 5, some 6, some 7, some 8]), (8, 26, []), (8, 702, []), (8, 66, []), (8, 4356, []), (8, 40, []), (8, 40, []), (8, 41, [])]) := by
  refine upZ 66 (fun i hi ih => ?_)
  refine Z.iload_n dX4_init_90 rfl ?_
  refine Z.bipush (v := 66) dX4_init_91 (by decide) ?_
  refine Z.icmp_geN (a := i) (b := 66) (by omega) (by decide) (tgt := 114) dX4_init_93 (by decide) (fun h1 => ?_) (fun h1 => ?_)
  · exact Z.vret dX4_init_114 rfl ⟨rfl, by rw [show i = 66 by omega], rfl⟩
  · refine Z.aload_n dX4_init_96 rfl ?_
    refine Z.getR (r := 5) dX4_init_97 cl4 flX4_21 (by decide) rfl rfl ?_
    refine Z.iload_n dX4_init_100 rfl ?_
    refine Z.bipush (v := 66) dX4_init_101 (by decide) ?_
    refine Z.imulN (a := i) (b := 66) dX4_init_103 ?_
    refine Z.iload_n dX4_init_104 rfl ?_
    refine Z.iaddN (a := i * 66) (b := i) dX4_init_105 ?_
    refine Z.eqLs (L' := [.ref 1, .int (nI i)]) (st' := [.int (nI (66 * i + i)), .ref 5]) rfl (by rw [show i * 66 + i = 66 * i + i by omega]) ?_
    refine Z.iconst (v := 0) dX4_init_106 (by decide) ?_
    refine Z.iast (j := 66 * i + i) (x := 0) dX4_init_107 rfl rfl (by omega) (by decide) ?_
    refine Z.eqI (bx_uu _ _ _ _) ?_
    refine Z.iinc (v := nI (i + 1)) (L' := [.ref 1, .int (nI (i + 1))]) dX4_init_108 rfl (nI_1 _) rfl ?_
    refine Z.goto (tgt := 90) dX4_init_111 (by decide) ?_
    exact ih (by omega)

set_option maxHeartbeats 4000000 in
set_option maxRecDepth 100000 in
theorem ci_X4 {g : GP} {J : IM} : Z g 1 7 5271 mX4_init 0 (enL mX4_init [.ref 1]) [] J [(6, 0, [none, none, none, none, none, none, none, none, none, none, none]), (4, 0, [none, none, none, none, none, none, none])] (VQ (va_up (va_up (va_up (va_up (va_up (va_up (va_up J 3 (fun _ => 0)) 6 (fun _ => 0)) 7 (fun _ => 0)) 8 (fun _ => 0)) 2 (flU ((fun _ => 0)) (-1) 26)) 4 (flU ((fun _ => 0)) 10 66)) 5 (dgU (flU ((fun _ => 0)) 10 4356) 66)) [(6, 0, [none, none, none, none, none, none, none, none, none, none, none]), (4, 0, [some 2, some 3, some 4, some 5, some 6, some 7, some 8]), (8, 26, []), (8, 702, []), (8, 66, []), (8, 4356, []), (8, 40, []), (8, 40, []), (8, 41, [])]) := by
  show Z g 1 7 5271 mX4_init 0 [.ref 1, .retAddr 0] [] J _ _
  refine Z.aload_n dX4_init_0 rfl ?_
  refine Z.objInit dX4_init_1 mlX4_3 (by decide) ⟨rfl, Nat.le_of_ble_eq_true rfl⟩ ?_
  refine Z.aload_n dX4_init_4 rfl ?_
  refine Z.bipush (v := 26) dX4_init_5 (by decide) ?_
  refine Z.newaL (ck := 8) (n := 26) (a := 2) dX4_init_7 (Or.inl ⟨rfl, rfl⟩) rfl (by decide) (by decide) (by decide) rfl ?_
  refine Z.eqSh (S' := [(6, 0, [none, none, none, none, none, none, none, none, none, none, none]), (4, 0, [none, none, none, none, none, none, none]), (8, 26, [])]) rfl ?_
  refine Z.putFR (r := 2) dX4_init_9 cl4 flX4_9 (by decide) (fun r => ⟨rfl, rfl⟩) ⟨rfl, rfl⟩ rfl (by decide) ?_
  refine Z.eqSh (S' := [(6, 0, [none, none, none, none, none, none, none, none, none, none, none]), (4, 0, [some 2, none, none, none, none, none, none]), (8, 26, [])]) rfl ?_
  refine Z.aload_n dX4_init_12 rfl ?_
  refine Z.sipush (v := 702) dX4_init_13 (by decide) ?_
  refine Z.newaL (ck := 8) (n := 702) (a := 3) dX4_init_16 (Or.inl ⟨rfl, rfl⟩) rfl (by decide) (by decide) (by decide) rfl ?_
  refine Z.eqSh (S' := [(6, 0, [none, none, none, none, none, none, none, none, none, none, none]), (4, 0, [some 2, none, none, none, none, none, none]), (8, 26, []), (8, 702, [])]) rfl ?_
  refine Z.putFR (r := 3) dX4_init_18 cl4 flX4_15 (by decide) (fun r => ⟨rfl, rfl⟩) ⟨rfl, rfl⟩ rfl (by decide) ?_
  refine Z.eqSh (S' := [(6, 0, [none, none, none, none, none, none, none, none, none, none, none]), (4, 0, [some 2, some 3, none, none, none, none, none]), (8, 26, []), (8, 702, [])]) rfl ?_
  refine Z.aload_n dX4_init_21 rfl ?_
  refine Z.bipush (v := 66) dX4_init_22 (by decide) ?_
  refine Z.newaL (ck := 8) (n := 66) (a := 4) dX4_init_24 (Or.inl ⟨rfl, rfl⟩) rfl (by decide) (by decide) (by decide) rfl ?_
  refine Z.eqSh (S' := [(6, 0, [none, none, none, none, none, none, none, none, none, none, none]), (4, 0, [some 2, some 3, none, none, none, none, none]), (8, 26, []), (8, 702, []), (8, 66, [])]) rfl ?_
  refine Z.putFR (r := 4) dX4_init_26 cl4 flX4_18 (by decide) (fun r => ⟨rfl, rfl⟩) ⟨rfl, rfl⟩ rfl (by decide) ?_
  refine Z.eqSh (S' := [(6, 0, [none, none, none, none, none, none, none, none, none, none, none]), (4, 0, [some 2, some 3, some 4, none, none, none, none]), (8, 26, []), (8, 702, []), (8, 66, [])]) rfl ?_
  refine Z.aload_n dX4_init_29 rfl ?_
  refine Z.sipush (v := 4356) dX4_init_30 (by decide) ?_
  refine Z.newaL (ck := 8) (n := 4356) (a := 5) dX4_init_33 (Or.inl ⟨rfl, rfl⟩) rfl (by decide) (by decide) (by decide) rfl ?_
  refine Z.eqSh (S' := [(6, 0, [none, none, none, none, none, none, none, none, none, none, none]), (4, 0, [some 2, some 3, some 4, none, none, none, none]), (8, 26, []), (8, 702, []), (8, 66, []), (8, 4356, [])]) rfl ?_
  refine Z.putFR (r := 5) dX4_init_35 cl4 flX4_21 (by decide) (fun r => ⟨rfl, rfl⟩) ⟨rfl, rfl⟩ rfl (by decide) ?_
  refine Z.eqSh (S' := [(6, 0, [none, none, none, none, none, none, none, none, none, none, none]), (4, 0, [some 2, some 3, some 4, some 5, none, none, none]), (8, 26, []), (8, 702, []), (8, 66, []), (8, 4356, [])]) rfl ?_
  refine Z.aload_n dX4_init_38 rfl ?_
  refine Z.bipush (v := 40) dX4_init_39 (by decide) ?_
  refine Z.newaL (ck := 8) (n := 40) (a := 6) dX4_init_41 (Or.inl ⟨rfl, rfl⟩) rfl (by decide) (by decide) (by decide) rfl ?_
  refine Z.eqSh (S' := [(6, 0, [none, none, none, none, none, none, none, none, none, none, none]), (4, 0, [some 2, some 3, some 4, some 5, none, none, none]), (8, 26, []), (8, 702, []), (8, 66, []), (8, 4356, []), (8, 40, [])]) rfl ?_
  refine Z.putFR (r := 6) dX4_init_43 cl4 flX4_24 (by decide) (fun r => ⟨rfl, rfl⟩) ⟨rfl, rfl⟩ rfl (by decide) ?_
  refine Z.eqSh (S' := [(6, 0, [none, none, none, none, none, none, none, none, none, none, none]), (4, 0, [some 2, some 3, some 4, some 5, some 6, none, none]), (8, 26, []), (8, 702, []), (8, 66, []), (8, 4356, []), (8, 40, [])]) rfl ?_
  refine Z.aload_n dX4_init_46 rfl ?_
  refine Z.bipush (v := 40) dX4_init_47 (by decide) ?_
  refine Z.newaL (ck := 8) (n := 40) (a := 7) dX4_init_49 (Or.inl ⟨rfl, rfl⟩) rfl (by decide) (by decide) (by decide) rfl ?_
  refine Z.eqSh (S' := [(6, 0, [none, none, none, none, none, none, none, none, none, none, none]), (4, 0, [some 2, some 3, some 4, some 5, some 6, none, none]), (8, 26, []), (8, 702, []), (8, 66, []), (8, 4356, []), (8, 40, []), (8, 40, [])]) rfl ?_
  refine Z.putFR (r := 7) dX4_init_51 cl4 flX4_27 (by decide) (fun r => ⟨rfl, rfl⟩) ⟨rfl, rfl⟩ rfl (by decide) ?_
  refine Z.eqSh (S' := [(6, 0, [none, none, none, none, none, none, none, none, none, none, none]), (4, 0, [some 2, some 3, some 4, some 5, some 6, some 7, none]), (8, 26, []), (8, 702, []), (8, 66, []), (8, 4356, []), (8, 40, []), (8, 40, [])]) rfl ?_
  refine Z.aload_n dX4_init_54 rfl ?_
  refine Z.bipush (v := 41) dX4_init_55 (by decide) ?_
  refine Z.newaL (ck := 8) (n := 41) (a := 8) dX4_init_57 (Or.inl ⟨rfl, rfl⟩) rfl (by decide) (by decide) (by decide) rfl ?_
  refine Z.eqSh (S' := [(6, 0, [none, none, none, none, none, none, none, none, none, none, none]), (4, 0, [some 2, some 3, some 4, some 5, some 6, some 7, none]), (8, 26, []), (8, 702, []), (8, 66, []), (8, 4356, []), (8, 40, []), (8, 40, []), (8, 41, [])]) rfl ?_
  refine Z.putFR (r := 8) dX4_init_59 cl4 flX4_30 (by decide) (fun r => ⟨rfl, rfl⟩) ⟨rfl, rfl⟩ rfl (by decide) ?_
  refine Z.eqSh (S' := [(6, 0, [none, none, none, none, none, none, none, none, none, none, none]), (4, 0, [some 2, some 3, some 4, some 5, some 6, some 7, some 8]), (8, 26, []), (8, 702, []), (8, 66, []), (8, 4356, []), (8, 40, []), (8, 40, []), (8, 41, [])]) rfl ?_
  refine Z.aload_n dX4_init_62 rfl ?_
  refine Z.getR (r := 2) dX4_init_63 cl4 flX4_9 (by decide) rfl rfl ?_
  refine Z.iconst (v := (-1)) dX4_init_66 (by decide) ?_
  refine Z.callSg (M := mX4_init) (pc := 67) (st := []) (N := mJ7_fill_53178) (n := 2) dX4_init_67 mlX4_33 mkJ7_fill_53178 stJ7_fill_53178 (d1 := 0) (by decide) (As := [.ref 2, .int ((-1))]) rfl ⟨rfl, Nat.le_of_ble_eq_true rfl⟩ ⟨rfl, Nat.le_of_ble_eq_true rfl⟩ (cc_fill (a := 2) (n := 26) (-1) rfl (by decide)) rfl (fun v_ J1 S_ h_ => ?_)
  obtain ⟨rfl, rfl, rfl⟩ := h_
  refine Z.eqI (up_6 (by decide) (by decide) (by decide) (by decide) (by decide) (by decide)) ?_
  refine Z.aload_n dX4_init_70 rfl ?_
  refine Z.getR (r := 4) dX4_init_71 cl4 flX4_18 (by decide) rfl rfl ?_
  refine Z.bipush (v := 10) dX4_init_74 (by decide) ?_
  refine Z.callSg (M := mX4_init) (pc := 76) (st := []) (N := mJ7_fill_53178) (n := 2) dX4_init_76 mlX4_33 mkJ7_fill_53178 stJ7_fill_53178 (d1 := 0) (by decide) (As := [.ref 4, .int 10]) rfl ⟨rfl, Nat.le_of_ble_eq_true rfl⟩ ⟨rfl, Nat.le_of_ble_eq_true rfl⟩ (cc_fill (a := 4) (n := 66) 10 rfl (by decide)) rfl (fun v_ J2 S_ h_ => ?_)
  obtain ⟨rfl, rfl, rfl⟩ := h_
  refine Z.eqI (up_5 (by decide) (by decide) (by decide) (by decide) (by decide)) ?_
  refine Z.aload_n dX4_init_79 rfl ?_
  refine Z.getR (r := 5) dX4_init_80 cl4 flX4_21 (by decide) rfl rfl ?_
  refine Z.bipush (v := 10) dX4_init_83 (by decide) ?_
  refine Z.callSg (M := mX4_init) (pc := 85) (st := []) (N := mJ7_fill_53178) (n := 2) dX4_init_85 mlX4_33 mkJ7_fill_53178 stJ7_fill_53178 (d1 := 0) (by decide) (As := [.ref 5, .int 10]) rfl ⟨rfl, Nat.le_of_ble_eq_true rfl⟩ ⟨rfl, Nat.le_of_ble_eq_true rfl⟩ (cc_fill (a := 5) (n := 4356) 10 rfl (by decide)) rfl (fun v_ J3 S_ h_ => ?_)
  obtain ⟨rfl, rfl, rfl⟩ := h_
  refine Z.eqI (up_5 (by decide) (by decide) (by decide) (by decide) (by decide)) ?_
  refine Z.iconst (v := 0) dX4_init_88 (by decide) ?_
  refine Z.istore_n (L' := [.ref 1, .int 0]) dX4_init_89 (Nat.le_of_ble_eq_true rfl) rfl ?_
  exact lc_X4 _ 0 (Nat.zero_le _)

