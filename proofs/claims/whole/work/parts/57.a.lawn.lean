theorem klL_7 : inT (.classLink RL 7 RX6) := ⟨t1 (List.mem_of_getElem? (i := 11) rfl), rfl⟩
theorem mlL_9 : inT (.methodLink RL 9 mX6_init.1) := ⟨t1 (List.mem_of_getElem? (i := 13) rfl), rfl⟩
theorem mnX6_18 : Cond.methodLinkNest RX6 18 yX2_init RX6 ∈ lw_tbl := t1 (List.mem_of_getElem? (i := 53) rfl)
theorem fnX6_247 : Cond.fieldLinkNest RX6 247 (TX2 3).1 (TX2 3).2.1 (TX2 3).2.2.1 RX6 ∈ lw_tbl := t1 (List.mem_of_getElem? (i := 61) rfl)
theorem aoX1 : Cond.arrayOver (.object RX1) ∈ lw_tbl := t1 (List.mem_of_getElem? (i := 72) rfl)
theorem mnX6_31 : Cond.methodLinkNest RX6 31 yX3_init RX6 ∈ lw_tbl := t1 (List.mem_of_getElem? (i := 75) rfl)
theorem mnX6_48 : Cond.methodLinkNest RX6 48 yX5_init RX6 ∈ lw_tbl := t1 (List.mem_of_getElem? (i := 107) rfl)
theorem mnX6_61 : Cond.methodLinkNest RX6 61 yX0_init RX6 ∈ lw_tbl := t1 (List.mem_of_getElem? (i := 161) rfl)
theorem mlL_13 : inT (.methodLink RL 13 mX6_row.1) := ⟨t1 (List.mem_of_getElem? (i := 208) rfl), rfl⟩
theorem mlL_18 : inT (.methodLink RL 18 mX6_sound.1) := ⟨t1 (List.mem_of_getElem? (i := 219) rfl), rfl⟩
theorem mlL_23 : inT (.methodLink RL 23 mX6_cost.1) := ⟨t1 (List.mem_of_getElem? (i := 231) rfl), rfl⟩
theorem mlL_27 : inT (.methodLink RL 27 mX6_near.1) := ⟨t2 (List.mem_of_getElem? (i := 3) rfl), rfl⟩
theorem mlL_31 : inT (.methodLink RL 31 mX6_levels.1) := ⟨t2 (List.mem_of_getElem? (i := 23) rfl), rfl⟩
theorem mlL_35 : inT (.methodLink RL 35 mX6_mark.1) := ⟨t2 (List.mem_of_getElem? (i := 27) rfl), rfl⟩
theorem mlL_40 : inT (.methodLink RL 40 mX6_letter.1) := ⟨t2 (List.mem_of_getElem? (i := 61) rfl), rfl⟩
theorem mlL_44 : inT (.methodLink RL 44 mX6_code.1) := ⟨t2 (List.mem_of_getElem? (i := 77) rfl), rfl⟩
theorem mlL_48 : inT (.methodLink RL 48 mX6_paper.1) := ⟨t2 (List.mem_of_getElem? (i := 90) rfl), rfl⟩
theorem mlL_53 : inT (.methodLink RL 53 mX6_oppose.1) := ⟨t2 (List.mem_of_getElem? (i := 174) rfl), rfl⟩
theorem mnX5_73 : Cond.methodLinkNest RX5 73 yX6_below RX6 ∈ lw_tbl := t2 (List.mem_of_getElem? (i := 202) rfl)
theorem mlL_58 : inT (.methodLink RL 58 mX6_undo.1) := ⟨t3 (List.mem_of_getElem? (i := 32) rfl), rfl⟩
theorem mlL_63 : inT (.methodLink RL 63 mX6_paperOf.1) := ⟨t3 (List.mem_of_getElem? (i := 40) rfl), rfl⟩
theorem mlL_67 : inT (.methodLink RL 67 mX6_markOf.1) := ⟨t3 (List.mem_of_getElem? (i := 44) rfl), rfl⟩
theorem mlL_71 : inT (.methodLink RL 71 mX6_soundOf.1) := ⟨t3 (List.mem_of_getElem? (i := 52) rfl), rfl⟩
theorem mnX4_43 : Cond.methodLinkNest RX4 43 yX6_below RX6 ∈ lw_tbl := t3 (List.mem_of_getElem? (i := 60) rfl)
theorem mlL_75 : inT (.methodLink RL 75 mX6_like.1) := ⟨t3 (List.mem_of_getElem? (i := 61) rfl), rfl⟩
theorem mlL_79 : inT (.methodLink RL 79 mX6_right.1) := ⟨t3 (List.mem_of_getElem? (i := 69) rfl), rfl⟩
theorem mlL_84 : inT (.methodLink RL 84 mX6_state.1) := ⟨t3 (List.mem_of_getElem? (i := 77) rfl), rfl⟩
theorem mlL_88 : inT (.methodLink RL 88 mX6_clash.1) := ⟨t3 (List.mem_of_getElem? (i := 83) rfl), rfl⟩
theorem mlL_92 : inT (.methodLink RL 92 mX6_first.1) := ⟨t3 (List.mem_of_getElem? (i := 87) rfl), rfl⟩
theorem mlL_96 : inT (.methodLink RL 96 mX6_may.1) := ⟨t3 (List.mem_of_getElem? (i := 91) rfl), rfl⟩
theorem mlL_100 : inT (.methodLink RL 100 mX6_watch.1) := ⟨t3 (List.mem_of_getElem? (i := 103) rfl), rfl⟩
theorem mlL_105 : inT (.methodLink RL 105 mX6_about.1) := ⟨t3 (List.mem_of_getElem? (i := 115) rfl), rfl⟩
theorem klL_10 : inT (.classLink RL 10 RX7) := ⟨t3 (List.mem_of_getElem? (i := 120) rfl), rfl⟩
theorem mlL_12 : inT (.methodLink RL 12 mX7_init.1) := ⟨t3 (List.mem_of_getElem? (i := 122) rfl), rfl⟩
theorem mlL_17 : inT (.methodLink RL 17 mX7_row.1) := ⟨t3 (List.mem_of_getElem? (i := 208) rfl), rfl⟩
theorem mlL_22 : inT (.methodLink RL 22 mX7_sound.1) := ⟨t3 (List.mem_of_getElem? (i := 215) rfl), rfl⟩
theorem mlL_26 : inT (.methodLink RL 26 mX7_cost.1) := ⟨t3 (List.mem_of_getElem? (i := 219) rfl), rfl⟩
theorem mlL_30 : inT (.methodLink RL 30 mX7_near.1) := ⟨t3 (List.mem_of_getElem? (i := 223) rfl), rfl⟩
theorem mlL_34 : inT (.methodLink RL 34 mX7_levels.1) := ⟨t3 (List.mem_of_getElem? (i := 234) rfl), rfl⟩
theorem mlL_39 : inT (.methodLink RL 39 mX7_mark.1) := ⟨t3 (List.mem_of_getElem? (i := 238) rfl), rfl⟩
theorem mlL_43 : inT (.methodLink RL 43 mX7_letter.1) := ⟨t4 (List.mem_of_getElem? (i := 5) rfl), rfl⟩
theorem mlL_47 : inT (.methodLink RL 47 mX7_code.1) := ⟨t4 (List.mem_of_getElem? (i := 17) rfl), rfl⟩
theorem mlL_52 : inT (.methodLink RL 52 mX7_paper.1) := ⟨t4 (List.mem_of_getElem? (i := 25) rfl), rfl⟩
theorem mlL_57 : inT (.methodLink RL 57 mX7_oppose.1) := ⟨t4 (List.mem_of_getElem? (i := 79) rfl), rfl⟩
theorem mlL_62 : inT (.methodLink RL 62 mX7_undo.1) := ⟨t4 (List.mem_of_getElem? (i := 145) rfl), rfl⟩
theorem mlL_66 : inT (.methodLink RL 66 mX7_paperOf.1) := ⟨t4 (List.mem_of_getElem? (i := 149) rfl), rfl⟩
theorem mlL_70 : inT (.methodLink RL 70 mX7_markOf.1) := ⟨t4 (List.mem_of_getElem? (i := 153) rfl), rfl⟩
theorem mlL_74 : inT (.methodLink RL 74 mX7_soundOf.1) := ⟨t4 (List.mem_of_getElem? (i := 157) rfl), rfl⟩
theorem mlL_78 : inT (.methodLink RL 78 mX7_like.1) := ⟨t4 (List.mem_of_getElem? (i := 161) rfl), rfl⟩
theorem mlL_83 : inT (.methodLink RL 83 mX7_right.1) := ⟨t4 (List.mem_of_getElem? (i := 165) rfl), rfl⟩
theorem mlL_87 : inT (.methodLink RL 87 mX7_state.1) := ⟨t4 (List.mem_of_getElem? (i := 169) rfl), rfl⟩
theorem mlL_91 : inT (.methodLink RL 91 mX7_clash.1) := ⟨t4 (List.mem_of_getElem? (i := 173) rfl), rfl⟩
theorem mlL_95 : inT (.methodLink RL 95 mX7_first.1) := ⟨t4 (List.mem_of_getElem? (i := 177) rfl), rfl⟩
theorem mlL_99 : inT (.methodLink RL 99 mX7_may.1) := ⟨t4 (List.mem_of_getElem? (i := 185) rfl), rfl⟩
theorem mlL_104 : inT (.methodLink RL 104 mX7_watch.1) := ⟨t4 (List.mem_of_getElem? (i := 193) rfl), rfl⟩
theorem mlL_108 : inT (.methodLink RL 108 mX7_about.1) := ⟨t4 (List.mem_of_getElem? (i := 201) rfl), rfl⟩
def R_law : String := "MarksRegisterLaw"
def lw_P (b : Addr) (xs : List Int32) (args : Array Value) (s : State) : Prop := args = #[.ref b] ∧ s.IntsAt b xs ∧ xs.length ≤ 3072 ∧ (Jvm.Cond.and given_1 narrow_1).before args s = true
def lw_Q (_ : Array Value) (s : State) (o : Outcome) (t : State) : Prop := o = .returned (some (.int 1)) ∧ Framed s o t [] 600000 7302250
def lw_Z (below : List Frame) (a : Array Value) (s : State) : State → Prop := fun t => ∃ o, t.status = .running ∧ Ended t below o ∧ lw_Q a s o t
/-- the law's own end, with 1 on the stack, nothing written that was there before, its room as the claim has it -/
theorem lw_ret {p : Program} {l : Launch} {e : Env} {s : State} {m : MethodId} {below : List Frame} {meth : Method} {c : Code} {b : Nat} (hx : p.tables.exec = Jvm.exec) (hb : c.code = code) (hr : meth.sig.returnType = ret) (hlocks : meth.locks = false) {pc : Nat} {H : Heap} {ls : Array Slot} (hdg : decode code pc = .ok (.ireturn, 1)) : W p l e room_1 s m #[Value.ref b] below meth c H [] 600000 7302250 (lw_Z below #[Value.ref b] s) (F0 m pc ls [.int 1]) := by
  intro T hT X
  obtain ⟨fs, hret, hrun, hended, hW, hframe⟩ := X.leave (v := some (.int 1)) (hlocks := hlocks) (fun h => by rw [hr] at h; cases h)
  have hmeth' : T.vm.method? m = some meth := X.method'
  refine ⟨T.setFrames fs, ?_, .returned (some (.int 1)), hrun, hended, rfl, ⟨_, rfl⟩, hW, hframe⟩
  jvm_step X.here [X.here.top, hx, hb, hdg, hmeth', hr, ret, narrow_b1]
  (try refine ⟨rfl, ?_⟩); (try refine ⟨rfl, ?_⟩)
  first | (intro acts; rw [hret _ acts rfl rfl rfl]) | rw [hret _ _ rfl rfl rfl]
  exact Steps.refl _
/-- what holds at the law's entry: the machine, the code, the tables' words (any of lw_tbl by 'hts w (by decide +kernel)'), the script of L ints xs at the cell b, what the Statement gives of the start (any of its parts by flat_of_before) -/
def lw_At (p : Program) (s : State) (m : MethodId) (meth : Method) (c : Code) (b L : Nat) (xs : Nat → Int32) : Prop :=
  p.tables.exec = Jvm.exec ∧ c.code = code ∧ meth.sig.returnType = ret ∧ c.maxLocals = 4 ∧ s.vm.findClass R_law = some m.cls ∧ (∀ w ∈ lw_tbl, w.before #[Value.ref b] s = true) ∧ va_X b L xs s s.heap ∧ b < s.heap.size ∧ meth.locks = false ∧ (Jvm.Cond.and given_1 narrow_1).before #[Value.ref b] s = true
