/-- f with zeros in the first i places of the diagonal of 66 times 66 -/
def dgU (f : Nat → Int32) : Nat → (Nat → Int32)
  | 0 => f
  | i + 1 => upd (dgU f i) (66 * i + i) 0
set_option maxHeartbeats 4000000 in
set_option maxRecDepth 100000 in
theorem lc_X4  {g : GP} {J : IM} (f5 : Nat → Int32) : ∀ i, i ≤ 66 → Z g 1 0 0 mX4_init 90 [.ref 1, .int (nI i)] [] (va_up J 5 (dgU f5 i)) [(6, 0, [none, none, none, none, none, none, none, none, none, none, none]), (4, 0, [some 2, some 3, some 4, some 5, some 6, some 7, some 8]), (8, 26, []), (8, 702, []), (8, 66, []), (8, 4356, []), (8, 40, []), (8, 40, []), (8, 41, [])] (VQ (va_up J 5 (dgU f5 66)) [(6, 0, [none, none, none, none, none, none, none, none, none, none, none]), (4, 0, [some 2, some 3, some 4, some 5, some 6, some 7, some 8]), (8, 26, []), (8, 702, []), (8, 66, []), (8, 4356, []), (8, 40, []), (8, 40, []), (8, 41, [])]) := by
  refine upZ 66 (fun i hi ih => ?_)
  refine Z.iload_n dX4_init_90 rfl ?_
  refine Z.bipush (v := 66) dX4_init_91 (by decide) ?_
  refine Z.icmp_geN (a := i) (b := 66) (by omega) (by decide) (tgt := 114) dX4_init_93 (by decide) (fun h1 => ?_) (fun h1 => ?_)
  · exact Z.vret dX4_init_114 rfl ⟨rfl, by rw [show i = 66 by omega], rfl⟩
  · refine Z.aload_n dX4_init_96 rfl ?_
    refine Z.getR (r := 5) dX4_init_97 cl4 flX4_21 (by decide) rfl rfl ?_
    refine Z.iload_n dX4_init_100 rfl ?_
    refine Z.bipush (v := 66) dX4_init_101 (by decide) ?_
    refine Z.imulN (a := i) (b := 66) dX4_init_103 ?_
    refine Z.iload_n dX4_init_104 rfl ?_
    refine Z.iaddN (a := i * 66) (b := i) dX4_init_105 ?_
    refine Z.eqLs (L' := [.ref 1, .int (nI i)]) (st' := [.int (nI (66 * i + i)), .ref 5]) rfl (by rw [show i * 66 + i = 66 * i + i by omega]) ?_
    refine Z.iconst (v := 0) dX4_init_106 (by decide) ?_
    refine Z.iast (j := 66 * i + i) (x := 0) dX4_init_107 rfl rfl (by omega) (by decide) ?_
    refine Z.eqI (bx_uu _ _ _ _) ?_
    refine Z.iinc (v := nI (i + 1)) (L' := [.ref 1, .int (nI (i + 1))]) dX4_init_108 rfl (nI_1 _) rfl ?_
    refine Z.goto (tgt := 90) dX4_init_111 (by decide) ?_
    exact ih (by omega)

