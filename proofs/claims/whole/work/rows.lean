section
-- ===== PART A: goes FIRST, ahead of the names: the tables' words, and 'selects' of the private methods out of them =====
/-- a private method of a class that the tables say can be made, by its rows of tables_1 -/
def lw_okq (q : MethodName × Nat) : Prop := (q.1.cls ≠ "java/lang/invoke/MethodHandle" ∧ q.1.cls ≠ "java/lang/invoke/VarHandle") ∧ Cond.instantiable q.1.cls q.2 ∈ tables_1 ∧ Cond.privateMethod q.1 ∈ tables_1 ∧ Cond.instanceMethod q.1 ∈ tables_1
theorem lw_p0 : lw_okq (⟨"MarksRegister$NearPairs", "find", "(II)I"⟩, 4) := ⟨⟨by decide +kernel, by decide +kernel⟩, List.mem_of_getElem? (i := 52) (by decide +kernel), List.mem_of_getElem? (i := 252) (by decide +kernel), List.mem_of_getElem? (i := 253) (by decide +kernel)⟩
theorem lw_p1 : lw_okq (⟨"MarksRegister$NearPairs", "forget", "(I)V"⟩, 4) := ⟨⟨by decide +kernel, by decide +kernel⟩, List.mem_of_getElem? (i := 52) (by decide +kernel), List.mem_of_getElem? (i := 256) (by decide +kernel), List.mem_of_getElem? (i := 257) (by decide +kernel)⟩
theorem lw_p2 : lw_okq (⟨"MarksRegister$NearPairs", "append", "(III)Z"⟩, 4) := ⟨⟨by decide +kernel, by decide +kernel⟩, List.mem_of_getElem? (i := 52) (by decide +kernel), List.mem_of_getElem? (i := 260) (by decide +kernel), List.mem_of_getElem? (i := 261) (by decide +kernel)⟩
theorem lw_p3 : lw_okq (⟨"MarksRegister", "markAt", "(I)LMarksRegister$Mark;"⟩, 11) := ⟨⟨by decide +kernel, by decide +kernel⟩, List.mem_of_getElem? (i := 12) (by decide +kernel), List.mem_of_getElem? (i := 306) (by decide +kernel), List.mem_of_getElem? (i := 307) (by decide +kernel)⟩
theorem lw_p4 : lw_okq (⟨"MarksRegister$Mark", "hasCode", "(I)Z"⟩, 6) := ⟨⟨by decide +kernel, by decide +kernel⟩, List.mem_of_getElem? (i := 271) (by decide +kernel), List.mem_of_getElem? (i := 327) (by decide +kernel), List.mem_of_getElem? (i := 328) (by decide +kernel)⟩
theorem lw_p5 : lw_okq (⟨"MarksRegister$View", "clear", "(I)V"⟩, 13) := ⟨⟨by decide +kernel, by decide +kernel⟩, List.mem_of_getElem? (i := 106) (by decide +kernel), List.mem_of_getElem? (i := 354) (by decide +kernel), List.mem_of_getElem? (i := 355) (by decide +kernel)⟩
theorem lw_p6 : lw_okq (⟨"MarksRegister$View", "readPaper", "(IIII)V"⟩, 13) := ⟨⟨by decide +kernel, by decide +kernel⟩, List.mem_of_getElem? (i := 106) (by decide +kernel), List.mem_of_getElem? (i := 358) (by decide +kernel), List.mem_of_getElem? (i := 359) (by decide +kernel)⟩
theorem lw_p7 : lw_okq (⟨"MarksRegister$View", "readGoods", "(II)V"⟩, 13) := ⟨⟨by decide +kernel, by decide +kernel⟩, List.mem_of_getElem? (i := 106) (by decide +kernel), List.mem_of_getElem? (i := 362) (by decide +kernel), List.mem_of_getElem? (i := 363) (by decide +kernel)⟩
theorem lw_p8 : lw_okq (⟨"MarksRegister$View", "readEnter", "(III)V"⟩, 13) := ⟨⟨by decide +kernel, by decide +kernel⟩, List.mem_of_getElem? (i := 106) (by decide +kernel), List.mem_of_getElem? (i := 370) (by decide +kernel), List.mem_of_getElem? (i := 371) (by decide +kernel)⟩
theorem lw_p9 : lw_okq (⟨"MarksRegister$View", "readGive", "(II)V"⟩, 13) := ⟨⟨by decide +kernel, by decide +kernel⟩, List.mem_of_getElem? (i := 106) (by decide +kernel), List.mem_of_getElem? (i := 374) (by decide +kernel), List.mem_of_getElem? (i := 375) (by decide +kernel)⟩
theorem lw_p10 : lw_okq (⟨"MarksRegister$View", "readUse", "(II)V"⟩, 13) := ⟨⟨by decide +kernel, by decide +kernel⟩, List.mem_of_getElem? (i := 106) (by decide +kernel), List.mem_of_getElem? (i := 378) (by decide +kernel), List.mem_of_getElem? (i := 379) (by decide +kernel)⟩
theorem lw_p11 : lw_okq (⟨"MarksRegister", "canBe", "(IIII)Z"⟩, 11) := ⟨⟨by decide +kernel, by decide +kernel⟩, List.mem_of_getElem? (i := 12) (by decide +kernel), List.mem_of_getElem? (i := 382) (by decide +kernel), List.mem_of_getElem? (i := 383) (by decide +kernel)⟩
theorem lw_p12 : lw_okq (⟨"MarksRegister", "isOfKind", "(II)Z"⟩, 11) := ⟨⟨by decide +kernel, by decide +kernel⟩, List.mem_of_getElem? (i := 12) (by decide +kernel), List.mem_of_getElem? (i := 407) (by decide +kernel), List.mem_of_getElem? (i := 408) (by decide +kernel)⟩
theorem lw_p13 : lw_okq (⟨"MarksRegister", "findClash", "(IIII)V"⟩, 11) := ⟨⟨by decide +kernel, by decide +kernel⟩, List.mem_of_getElem? (i := 12) (by decide +kernel), List.mem_of_getElem? (i := 419) (by decide +kernel), List.mem_of_getElem? (i := 420) (by decide +kernel)⟩
theorem lw_p14 : lw_okq (⟨"MarksRegister", "haveOneOwner", "(II)Z"⟩, 11) := ⟨⟨by decide +kernel, by decide +kernel⟩, List.mem_of_getElem? (i := 12) (by decide +kernel), List.mem_of_getElem? (i := 427) (by decide +kernel), List.mem_of_getElem? (i := 428) (by decide +kernel)⟩
theorem lw_p15 : lw_okq (⟨"MarksRegister", "areAlike", "(II)Z"⟩, 11) := ⟨⟨by decide +kernel, by decide +kernel⟩, List.mem_of_getElem? (i := 12) (by decide +kernel), List.mem_of_getElem? (i := 451) (by decide +kernel), List.mem_of_getElem? (i := 452) (by decide +kernel)⟩
def lw_privs_1 : List (MethodName × Nat) := [(⟨"MarksRegister$NearPairs", "find", "(II)I"⟩, 4), (⟨"MarksRegister$NearPairs", "forget", "(I)V"⟩, 4), (⟨"MarksRegister$NearPairs", "append", "(III)Z"⟩, 4), (⟨"MarksRegister", "markAt", "(I)LMarksRegister$Mark;"⟩, 11), (⟨"MarksRegister$Mark", "hasCode", "(I)Z"⟩, 6), (⟨"MarksRegister$View", "clear", "(I)V"⟩, 13), (⟨"MarksRegister$View", "readPaper", "(IIII)V"⟩, 13), (⟨"MarksRegister$View", "readGoods", "(II)V"⟩, 13), (⟨"MarksRegister$View", "readEnter", "(III)V"⟩, 13), (⟨"MarksRegister$View", "readGive", "(II)V"⟩, 13), (⟨"MarksRegister$View", "readUse", "(II)V"⟩, 13), (⟨"MarksRegister", "canBe", "(IIII)Z"⟩, 11), (⟨"MarksRegister", "isOfKind", "(II)Z"⟩, 11), (⟨"MarksRegister", "findClash", "(IIII)V"⟩, 11), (⟨"MarksRegister", "haveOneOwner", "(II)Z"⟩, 11), (⟨"MarksRegister", "areAlike", "(II)Z"⟩, 11)]
theorem lw_r1 : ∀ q ∈ lw_privs_1, lw_okq q := List.forall_mem_cons.mpr ⟨lw_p0, List.forall_mem_cons.mpr ⟨lw_p1, List.forall_mem_cons.mpr ⟨lw_p2, List.forall_mem_cons.mpr ⟨lw_p3, List.forall_mem_cons.mpr ⟨lw_p4, List.forall_mem_cons.mpr ⟨lw_p5, List.forall_mem_cons.mpr ⟨lw_p6, List.forall_mem_cons.mpr ⟨lw_p7, List.forall_mem_cons.mpr ⟨lw_p8, List.forall_mem_cons.mpr ⟨lw_p9, List.forall_mem_cons.mpr ⟨lw_p10, List.forall_mem_cons.mpr ⟨lw_p11, List.forall_mem_cons.mpr ⟨lw_p12, List.forall_mem_cons.mpr ⟨lw_p13, List.forall_mem_cons.mpr ⟨lw_p14, List.forall_mem_cons.mpr ⟨lw_p15, fun _ h => absurd h List.not_mem_nil⟩⟩⟩⟩⟩⟩⟩⟩⟩⟩⟩⟩⟩⟩⟩⟩
theorem lw_p16 : lw_okq (⟨"MarksRegister", "likeOf", "(LMarksRegister$Mark;LMarksRegister$Mark;)I"⟩, 11) := ⟨⟨by decide +kernel, by decide +kernel⟩, List.mem_of_getElem? (i := 12) (by decide +kernel), List.mem_of_getElem? (i := 455) (by decide +kernel), List.mem_of_getElem? (i := 456) (by decide +kernel)⟩
theorem lw_p17 : lw_okq (⟨"MarksRegister$Sounds", "spell", "(LMarksRegister$Mark;[I)I"⟩, 7) := ⟨⟨by decide +kernel, by decide +kernel⟩, List.mem_of_getElem? (i := 20) (by decide +kernel), List.mem_of_getElem? (i := 472) (by decide +kernel), List.mem_of_getElem? (i := 473) (by decide +kernel)⟩
theorem lw_p18 : lw_okq (⟨"MarksRegister$Sounds", "heard", "(II)I"⟩, 7) := ⟨⟨by decide +kernel, by decide +kernel⟩, List.mem_of_getElem? (i := 20) (by decide +kernel), List.mem_of_getElem? (i := 476) (by decide +kernel), List.mem_of_getElem? (i := 477) (by decide +kernel)⟩
theorem lw_p19 : lw_okq (⟨"MarksRegister$Sounds", "leastSum", "(II)I"⟩, 7) := ⟨⟨by decide +kernel, by decide +kernel⟩, List.mem_of_getElem? (i := 20) (by decide +kernel), List.mem_of_getElem? (i := 481) (by decide +kernel), List.mem_of_getElem? (i := 482) (by decide +kernel)⟩
theorem lw_p20 : lw_okq (⟨"MarksRegister", "findClashOver", "(IIII)V"⟩, 11) := ⟨⟨by decide +kernel, by decide +kernel⟩, List.mem_of_getElem? (i := 12) (by decide +kernel), List.mem_of_getElem? (i := 490) (by decide +kernel), List.mem_of_getElem? (i := 491) (by decide +kernel)⟩
theorem lw_p21 : lw_okq (⟨"MarksRegister", "isNear", "(II)Z"⟩, 11) := ⟨⟨by decide +kernel, by decide +kernel⟩, List.mem_of_getElem? (i := 12) (by decide +kernel), List.mem_of_getElem? (i := 495) (by decide +kernel), List.mem_of_getElem? (i := 496) (by decide +kernel)⟩
theorem lw_p22 : lw_okq (⟨"MarksRegister", "earliestNear", "(I)I"⟩, 11) := ⟨⟨by decide +kernel, by decide +kernel⟩, List.mem_of_getElem? (i := 12) (by decide +kernel), List.mem_of_getElem? (i := 576) (by decide +kernel), List.mem_of_getElem? (i := 577) (by decide +kernel)⟩
theorem lw_p23 : lw_okq (⟨"MarksRegister", "claimOf", "(III)I"⟩, 11) := ⟨⟨by decide +kernel, by decide +kernel⟩, List.mem_of_getElem? (i := 12) (by decide +kernel), List.mem_of_getElem? (i := 580) (by decide +kernel), List.mem_of_getElem? (i := 581) (by decide +kernel)⟩
theorem lw_p24 : lw_okq (⟨"MarksRegister", "standsNearYounger", "()Z"⟩, 11) := ⟨⟨by decide +kernel, by decide +kernel⟩, List.mem_of_getElem? (i := 12) (by decide +kernel), List.mem_of_getElem? (i := 592) (by decide +kernel), List.mem_of_getElem? (i := 593) (by decide +kernel)⟩
theorem lw_p25 : lw_okq (⟨"MarksRegisterModel", "pairOf", "(II)I"⟩, 27) := ⟨⟨by decide +kernel, by decide +kernel⟩, List.mem_of_getElem? (i := 601) (by decide +kernel), List.mem_of_getElem? (i := 711) (by decide +kernel), List.mem_of_getElem? (i := 712) (by decide +kernel)⟩
theorem lw_p26 : lw_okq (⟨"MarksRegisterModel", "isMark", "(I)Z"⟩, 27) := ⟨⟨by decide +kernel, by decide +kernel⟩, List.mem_of_getElem? (i := 601) (by decide +kernel), List.mem_of_getElem? (i := 730) (by decide +kernel), List.mem_of_getElem? (i := 731) (by decide +kernel)⟩
theorem lw_p27 : lw_okq (⟨"MarksRegisterModel", "hasPaper", "(I)Z"⟩, 27) := ⟨⟨by decide +kernel, by decide +kernel⟩, List.mem_of_getElem? (i := 601) (by decide +kernel), List.mem_of_getElem? (i := 734) (by decide +kernel), List.mem_of_getElem? (i := 735) (by decide +kernel)⟩
theorem lw_p28 : lw_okq (⟨"MarksRegisterModel", "hasCode", "(II)Z"⟩, 27) := ⟨⟨by decide +kernel, by decide +kernel⟩, List.mem_of_getElem? (i := 601) (by decide +kernel), List.mem_of_getElem? (i := 742) (by decide +kernel), List.mem_of_getElem? (i := 743) (by decide +kernel)⟩
theorem lw_p29 : lw_okq (⟨"MarksRegisterModel", "canBe", "(IIII)Z"⟩, 27) := ⟨⟨by decide +kernel, by decide +kernel⟩, List.mem_of_getElem? (i := 601) (by decide +kernel), List.mem_of_getElem? (i := 760) (by decide +kernel), List.mem_of_getElem? (i := 761) (by decide +kernel)⟩
theorem lw_p30 : lw_okq (⟨"MarksRegisterModel", "firstOf", "(II)I"⟩, 27) := ⟨⟨by decide +kernel, by decide +kernel⟩, List.mem_of_getElem? (i := 601) (by decide +kernel), List.mem_of_getElem? (i := 764) (by decide +kernel), List.mem_of_getElem? (i := 765) (by decide +kernel)⟩
theorem lw_p31 : lw_okq (⟨"MarksRegisterModel", "earliest", "(IIII)I"⟩, 27) := ⟨⟨by decide +kernel, by decide +kernel⟩, List.mem_of_getElem? (i := 601) (by decide +kernel), List.mem_of_getElem? (i := 768) (by decide +kernel), List.mem_of_getElem? (i := 769) (by decide +kernel)⟩
def lw_privs_2 : List (MethodName × Nat) := [(⟨"MarksRegister", "likeOf", "(LMarksRegister$Mark;LMarksRegister$Mark;)I"⟩, 11), (⟨"MarksRegister$Sounds", "spell", "(LMarksRegister$Mark;[I)I"⟩, 7), (⟨"MarksRegister$Sounds", "heard", "(II)I"⟩, 7), (⟨"MarksRegister$Sounds", "leastSum", "(II)I"⟩, 7), (⟨"MarksRegister", "findClashOver", "(IIII)V"⟩, 11), (⟨"MarksRegister", "isNear", "(II)Z"⟩, 11), (⟨"MarksRegister", "earliestNear", "(I)I"⟩, 11), (⟨"MarksRegister", "claimOf", "(III)I"⟩, 11), (⟨"MarksRegister", "standsNearYounger", "()Z"⟩, 11), (⟨"MarksRegisterModel", "pairOf", "(II)I"⟩, 27), (⟨"MarksRegisterModel", "isMark", "(I)Z"⟩, 27), (⟨"MarksRegisterModel", "hasPaper", "(I)Z"⟩, 27), (⟨"MarksRegisterModel", "hasCode", "(II)Z"⟩, 27), (⟨"MarksRegisterModel", "canBe", "(IIII)Z"⟩, 27), (⟨"MarksRegisterModel", "firstOf", "(II)I"⟩, 27), (⟨"MarksRegisterModel", "earliest", "(IIII)I"⟩, 27)]
theorem lw_r2 : ∀ q ∈ lw_privs_2, lw_okq q := List.forall_mem_cons.mpr ⟨lw_p16, List.forall_mem_cons.mpr ⟨lw_p17, List.forall_mem_cons.mpr ⟨lw_p18, List.forall_mem_cons.mpr ⟨lw_p19, List.forall_mem_cons.mpr ⟨lw_p20, List.forall_mem_cons.mpr ⟨lw_p21, List.forall_mem_cons.mpr ⟨lw_p22, List.forall_mem_cons.mpr ⟨lw_p23, List.forall_mem_cons.mpr ⟨lw_p24, List.forall_mem_cons.mpr ⟨lw_p25, List.forall_mem_cons.mpr ⟨lw_p26, List.forall_mem_cons.mpr ⟨lw_p27, List.forall_mem_cons.mpr ⟨lw_p28, List.forall_mem_cons.mpr ⟨lw_p29, List.forall_mem_cons.mpr ⟨lw_p30, List.forall_mem_cons.mpr ⟨lw_p31, fun _ h => absurd h List.not_mem_nil⟩⟩⟩⟩⟩⟩⟩⟩⟩⟩⟩⟩⟩⟩⟩⟩
theorem lw_p32 : lw_okq (⟨"MarksRegisterModel", "latest", "(IIII)I"⟩, 27) := ⟨⟨by decide +kernel, by decide +kernel⟩, List.mem_of_getElem? (i := 601) (by decide +kernel), List.mem_of_getElem? (i := 772) (by decide +kernel), List.mem_of_getElem? (i := 773) (by decide +kernel)⟩
theorem lw_p33 : lw_okq (⟨"MarksRegisterModel", "goodsInto", "(II[I)I"⟩, 27) := ⟨⟨by decide +kernel, by decide +kernel⟩, List.mem_of_getElem? (i := 601) (by decide +kernel), List.mem_of_getElem? (i := 776) (by decide +kernel), List.mem_of_getElem? (i := 777) (by decide +kernel)⟩
theorem lw_p34 : lw_okq (⟨"MarksRegisterModel", "since", "(III)I"⟩, 27) := ⟨⟨by decide +kernel, by decide +kernel⟩, List.mem_of_getElem? (i := 601) (by decide +kernel), List.mem_of_getElem? (i := 780) (by decide +kernel), List.mem_of_getElem? (i := 781) (by decide +kernel)⟩
theorem lw_p35 : lw_okq (⟨"MarksRegisterModel", "termEnd", "(II)I"⟩, 27) := ⟨⟨by decide +kernel, by decide +kernel⟩, List.mem_of_getElem? (i := 601) (by decide +kernel), List.mem_of_getElem? (i := 784) (by decide +kernel), List.mem_of_getElem? (i := 785) (by decide +kernel)⟩
theorem lw_p36 : lw_okq (⟨"MarksRegisterModel", "countOf", "(III)I"⟩, 27) := ⟨⟨by decide +kernel, by decide +kernel⟩, List.mem_of_getElem? (i := 601) (by decide +kernel), List.mem_of_getElem? (i := 788) (by decide +kernel), List.mem_of_getElem? (i := 789) (by decide +kernel)⟩
theorem lw_p37 : lw_okq (⟨"MarksRegisterModel", "isStruck", "(II)Z"⟩, 27) := ⟨⟨by decide +kernel, by decide +kernel⟩, List.mem_of_getElem? (i := 601) (by decide +kernel), List.mem_of_getElem? (i := 792) (by decide +kernel), List.mem_of_getElem? (i := 793) (by decide +kernel)⟩
theorem lw_p38 : lw_okq (⟨"MarksRegisterModel", "hasLeave", "(III)Z"⟩, 27) := ⟨⟨by decide +kernel, by decide +kernel⟩, List.mem_of_getElem? (i := 601) (by decide +kernel), List.mem_of_getElem? (i := 796) (by decide +kernel), List.mem_of_getElem? (i := 797) (by decide +kernel)⟩
theorem lw_p39 : lw_okq (⟨"MarksRegisterModel", "clashOf", "(IIII)I"⟩, 27) := ⟨⟨by decide +kernel, by decide +kernel⟩, List.mem_of_getElem? (i := 601) (by decide +kernel), List.mem_of_getElem? (i := 804) (by decide +kernel), List.mem_of_getElem? (i := 805) (by decide +kernel)⟩
theorem lw_p40 : lw_okq (⟨"MarksRegisterModel", "mayClash", "(III)Z"⟩, 27) := ⟨⟨by decide +kernel, by decide +kernel⟩, List.mem_of_getElem? (i := 601) (by decide +kernel), List.mem_of_getElem? (i := 808) (by decide +kernel), List.mem_of_getElem? (i := 809) (by decide +kernel)⟩
theorem lw_p41 : lw_okq (⟨"MarksRegisterModel", "isAlike", "(II)Z"⟩, 27) := ⟨⟨by decide +kernel, by decide +kernel⟩, List.mem_of_getElem? (i := 601) (by decide +kernel), List.mem_of_getElem? (i := 812) (by decide +kernel), List.mem_of_getElem? (i := 813) (by decide +kernel)⟩
theorem lw_p42 : lw_okq (⟨"MarksRegisterModel", "likeOf", "(II)I"⟩, 27) := ⟨⟨by decide +kernel, by decide +kernel⟩, List.mem_of_getElem? (i := 601) (by decide +kernel), List.mem_of_getElem? (i := 816) (by decide +kernel), List.mem_of_getElem? (i := 817) (by decide +kernel)⟩
theorem lw_p43 : lw_okq (⟨"MarksRegisterModel", "codesLike", "(II)I"⟩, 27) := ⟨⟨by decide +kernel, by decide +kernel⟩, List.mem_of_getElem? (i := 601) (by decide +kernel), List.mem_of_getElem? (i := 820) (by decide +kernel), List.mem_of_getElem? (i := 821) (by decide +kernel)⟩
theorem lw_p44 : lw_okq (⟨"MarksRegisterModel", "wordsLike", "(II)I"⟩, 27) := ⟨⟨by decide +kernel, by decide +kernel⟩, List.mem_of_getElem? (i := 601) (by decide +kernel), List.mem_of_getElem? (i := 824) (by decide +kernel), List.mem_of_getElem? (i := 825) (by decide +kernel)⟩
theorem lw_p45 : lw_okq (⟨"MarksRegisterModel", "costOf", "(II)I"⟩, 27) := ⟨⟨by decide +kernel, by decide +kernel⟩, List.mem_of_getElem? (i := 601) (by decide +kernel), List.mem_of_getElem? (i := 828) (by decide +kernel), List.mem_of_getElem? (i := 829) (by decide +kernel)⟩
theorem lw_p46 : lw_okq (⟨"MarksRegisterModel", "soundsInto", "(I[I)I"⟩, 27) := ⟨⟨by decide +kernel, by decide +kernel⟩, List.mem_of_getElem? (i := 601) (by decide +kernel), List.mem_of_getElem? (i := 832) (by decide +kernel), List.mem_of_getElem? (i := 833) (by decide +kernel)⟩
theorem lw_p47 : lw_okq (⟨"MarksRegisterModel", "soundOfLetter", "(II)I"⟩, 27) := ⟨⟨by decide +kernel, by decide +kernel⟩, List.mem_of_getElem? (i := 601) (by decide +kernel), List.mem_of_getElem? (i := 836) (by decide +kernel), List.mem_of_getElem? (i := 837) (by decide +kernel)⟩
def lw_privs_3 : List (MethodName × Nat) := [(⟨"MarksRegisterModel", "latest", "(IIII)I"⟩, 27), (⟨"MarksRegisterModel", "goodsInto", "(II[I)I"⟩, 27), (⟨"MarksRegisterModel", "since", "(III)I"⟩, 27), (⟨"MarksRegisterModel", "termEnd", "(II)I"⟩, 27), (⟨"MarksRegisterModel", "countOf", "(III)I"⟩, 27), (⟨"MarksRegisterModel", "isStruck", "(II)Z"⟩, 27), (⟨"MarksRegisterModel", "hasLeave", "(III)Z"⟩, 27), (⟨"MarksRegisterModel", "clashOf", "(IIII)I"⟩, 27), (⟨"MarksRegisterModel", "mayClash", "(III)Z"⟩, 27), (⟨"MarksRegisterModel", "isAlike", "(II)Z"⟩, 27), (⟨"MarksRegisterModel", "likeOf", "(II)I"⟩, 27), (⟨"MarksRegisterModel", "codesLike", "(II)I"⟩, 27), (⟨"MarksRegisterModel", "wordsLike", "(II)I"⟩, 27), (⟨"MarksRegisterModel", "costOf", "(II)I"⟩, 27), (⟨"MarksRegisterModel", "soundsInto", "(I[I)I"⟩, 27), (⟨"MarksRegisterModel", "soundOfLetter", "(II)I"⟩, 27)]
theorem lw_r3 : ∀ q ∈ lw_privs_3, lw_okq q := List.forall_mem_cons.mpr ⟨lw_p32, List.forall_mem_cons.mpr ⟨lw_p33, List.forall_mem_cons.mpr ⟨lw_p34, List.forall_mem_cons.mpr ⟨lw_p35, List.forall_mem_cons.mpr ⟨lw_p36, List.forall_mem_cons.mpr ⟨lw_p37, List.forall_mem_cons.mpr ⟨lw_p38, List.forall_mem_cons.mpr ⟨lw_p39, List.forall_mem_cons.mpr ⟨lw_p40, List.forall_mem_cons.mpr ⟨lw_p41, List.forall_mem_cons.mpr ⟨lw_p42, List.forall_mem_cons.mpr ⟨lw_p43, List.forall_mem_cons.mpr ⟨lw_p44, List.forall_mem_cons.mpr ⟨lw_p45, List.forall_mem_cons.mpr ⟨lw_p46, List.forall_mem_cons.mpr ⟨lw_p47, fun _ h => absurd h List.not_mem_nil⟩⟩⟩⟩⟩⟩⟩⟩⟩⟩⟩⟩⟩⟩⟩⟩
theorem lw_p48 : lw_okq (⟨"MarksRegisterModel", "clashes", "(IIIIII)Z"⟩, 27) := ⟨⟨by decide +kernel, by decide +kernel⟩, List.mem_of_getElem? (i := 601) (by decide +kernel), List.mem_of_getElem? (i := 841) (by decide +kernel), List.mem_of_getElem? (i := 842) (by decide +kernel)⟩
theorem lw_p49 : lw_okq (⟨"MarksRegisterModel", "isNear", "(IIII)Z"⟩, 27) := ⟨⟨by decide +kernel, by decide +kernel⟩, List.mem_of_getElem? (i := 601) (by decide +kernel), List.mem_of_getElem? (i := 845) (by decide +kernel), List.mem_of_getElem? (i := 846) (by decide +kernel)⟩
theorem lw_p50 : lw_okq (⟨"MarksRegisterModel", "nearOf", "(II)I"⟩, 27) := ⟨⟨by decide +kernel, by decide +kernel⟩, List.mem_of_getElem? (i := 601) (by decide +kernel), List.mem_of_getElem? (i := 849) (by decide +kernel), List.mem_of_getElem? (i := 850) (by decide +kernel)⟩
theorem lw_p51 : lw_okq (⟨"MarksRegisterModel", "stands", "(IIII)Z"⟩, 27) := ⟨⟨by decide +kernel, by decide +kernel⟩, List.mem_of_getElem? (i := 601) (by decide +kernel), List.mem_of_getElem? (i := 853) (by decide +kernel), List.mem_of_getElem? (i := 854) (by decide +kernel)⟩
theorem lw_p52 : lw_okq (⟨"MarksRegisterModel", "rightOf", "(IIII)I"⟩, 27) := ⟨⟨by decide +kernel, by decide +kernel⟩, List.mem_of_getElem? (i := 601) (by decide +kernel), List.mem_of_getElem? (i := 857) (by decide +kernel), List.mem_of_getElem? (i := 858) (by decide +kernel)⟩
theorem lw_p53 : lw_okq (⟨"MarksRegisterModel", "hasLapsed", "(II)Z"⟩, 27) := ⟨⟨by decide +kernel, by decide +kernel⟩, List.mem_of_getElem? (i := 601) (by decide +kernel), List.mem_of_getElem? (i := 861) (by decide +kernel), List.mem_of_getElem? (i := 862) (by decide +kernel)⟩
theorem lw_p54 : lw_okq (⟨"MarksRegisterModel", "clashRight", "(IIII)I"⟩, 27) := ⟨⟨by decide +kernel, by decide +kernel⟩, List.mem_of_getElem? (i := 601) (by decide +kernel), List.mem_of_getElem? (i := 902) (by decide +kernel), List.mem_of_getElem? (i := 903) (by decide +kernel)⟩
theorem lw_p55 : lw_okq (⟨"MarksRegisterModel", "nearRight", "(IIII)I"⟩, 27) := ⟨⟨by decide +kernel, by decide +kernel⟩, List.mem_of_getElem? (i := 601) (by decide +kernel), List.mem_of_getElem? (i := 910) (by decide +kernel), List.mem_of_getElem? (i := 911) (by decide +kernel)⟩
theorem lw_p56 : lw_okq (⟨"MarksRegisterModel", "comesNear", "(IIII)Z"⟩, 27) := ⟨⟨by decide +kernel, by decide +kernel⟩, List.mem_of_getElem? (i := 601) (by decide +kernel), List.mem_of_getElem? (i := 918) (by decide +kernel), List.mem_of_getElem? (i := 919) (by decide +kernel)⟩
def lw_privs_4 : List (MethodName × Nat) := [(⟨"MarksRegisterModel", "clashes", "(IIIIII)Z"⟩, 27), (⟨"MarksRegisterModel", "isNear", "(IIII)Z"⟩, 27), (⟨"MarksRegisterModel", "nearOf", "(II)I"⟩, 27), (⟨"MarksRegisterModel", "stands", "(IIII)Z"⟩, 27), (⟨"MarksRegisterModel", "rightOf", "(IIII)I"⟩, 27), (⟨"MarksRegisterModel", "hasLapsed", "(II)Z"⟩, 27), (⟨"MarksRegisterModel", "clashRight", "(IIII)I"⟩, 27), (⟨"MarksRegisterModel", "nearRight", "(IIII)I"⟩, 27), (⟨"MarksRegisterModel", "comesNear", "(IIII)Z"⟩, 27)]
theorem lw_r4 : ∀ q ∈ lw_privs_4, lw_okq q := List.forall_mem_cons.mpr ⟨lw_p48, List.forall_mem_cons.mpr ⟨lw_p49, List.forall_mem_cons.mpr ⟨lw_p50, List.forall_mem_cons.mpr ⟨lw_p51, List.forall_mem_cons.mpr ⟨lw_p52, List.forall_mem_cons.mpr ⟨lw_p53, List.forall_mem_cons.mpr ⟨lw_p54, List.forall_mem_cons.mpr ⟨lw_p55, List.forall_mem_cons.mpr ⟨lw_p56, fun _ h => absurd h List.not_mem_nil⟩⟩⟩⟩⟩⟩⟩⟩⟩
def lw_privs : List (MethodName × Nat) := lw_privs_1 ++ (lw_privs_2 ++ (lw_privs_3 ++ (lw_privs_4)))
def lw_tbl : List Cond := k2_sels lw_privs ++ tables_1
theorem lw_privs_ok : ∀ q ∈ lw_privs, lw_okq q := by
  show ∀ q ∈ lw_privs_1 ++ (lw_privs_2 ++ (lw_privs_3 ++ (lw_privs_4))), lw_okq q
  exact List.forall_mem_append.mpr ⟨lw_r1, List.forall_mem_append.mpr ⟨lw_r2, List.forall_mem_append.mpr ⟨lw_r3, lw_r4⟩⟩⟩
def RX0 : String := "MarksRegister$Clash"
def TX0 : u_T := fun k => match k with
  | 0 => ("MarksRegister$Clash", "pair", "I", false)
  | _ => ("MarksRegister$Clash", "earliest", "I", false)
def tyX0 : Nat → FieldType := fun k => match k with
  | 0 => .int
  | _ => .int
abbrev wsX00 : List Cond := u_ws RX0 TX0 2
theorem nmX0 : ∀ a, a < 2 → ∀ b, b < 2 → a ≠ b → (TX0 a).2.1 ≠ (TX0 b).2.1 := by decide +kernel
theorem tyX0_ok : ∀ k, k < 2 → parseFieldDescriptor (TX0 k).2.2.1 = some (tyX0 k) := by decide +kernel
abbrev cX0_init : ByteArray := prog_2_method_1_code
def yX0_init : MethodName := ⟨RX0, "<init>", "()V"⟩
abbrev cX0_clear : ByteArray := prog_2_method_2_code
def yX0_clear : MethodName := ⟨RX0, "clear", "()V"⟩
abbrev cX0_isThere : ByteArray := prog_2_method_3_code
def yX0_isThere : MethodName := ⟨RX0, "isThere", "()Z"⟩
abbrev cX0_add : ByteArray := prog_2_method_4_code
def yX0_add : MethodName := ⟨RX0, "add", "(III)V"⟩
def RX1 : String := "MarksRegister$Mark"
def TX1 : u_T := fun k => match k with
  | 0 => ("MarksRegister$Mark", "kind", "I", true)
  | 1 => ("MarksRegister$Mark", "owner", "I", true)
  | 2 => ("MarksRegister$Mark", "letters", "[I", true)
  | 3 => ("MarksRegister$Mark", "codes", "[I", true)
  | 4 => ("MarksRegister$Mark", "letterCount", "I", false)
  | _ => ("MarksRegister$Mark", "codeCount", "I", false)
def tyX1 : Nat → FieldType := fun k => match k with
  | 0 => .int
  | 1 => .int
  | 2 => .array .int
  | 3 => .array .int
  | 4 => .int
  | _ => .int
abbrev wsX10 : List Cond := u_ws RX1 TX1 6
theorem nmX1 : ∀ a, a < 6 → ∀ b, b < 6 → a ≠ b → (TX1 a).2.1 ≠ (TX1 b).2.1 := by decide +kernel
theorem tyX1_ok : ∀ k, k < 6 → parseFieldDescriptor (TX1 k).2.2.1 = some (tyX1 k) := by decide +kernel
abbrev cX1_init : ByteArray := prog_3_method_1_code
def yX1_init : MethodName := ⟨RX1, "<init>", "(II)V"⟩
abbrev cX1_hasPicture : ByteArray := prog_3_method_2_code
def yX1_hasPicture : MethodName := ⟨RX1, "hasPicture", "()Z"⟩
abbrev cX1_addLetter : ByteArray := prog_3_method_3_code
def yX1_addLetter : MethodName := ⟨RX1, "addLetter", "(I)I"⟩
abbrev cX1_addCode : ByteArray := prog_3_method_4_code
def yX1_addCode : MethodName := ⟨RX1, "addCode", "(I)I"⟩
abbrev cX1_likeOfPictures : ByteArray := prog_3_method_5_code
def yX1_likeOfPictures : MethodName := ⟨RX1, "likeOfPictures", "(LMarksRegister$Mark;)I"⟩
abbrev cX1_hasCode : ByteArray := prog_3_method_6_code
def yX1_hasCode : MethodName := ⟨RX1, "hasCode", "(I)Z"⟩
def RX2 : String := "MarksRegister$NearPairs"
def TX2 : u_T := fun k => match k with
  | 0 => ("MarksRegister$NearPairs", "ones", "[I", true)
  | 1 => ("MarksRegister$NearPairs", "others", "[I", true)
  | 2 => ("MarksRegister$NearPairs", "values", "[I", true)
  | _ => ("MarksRegister$NearPairs", "count", "I", false)
def tyX2 : Nat → FieldType := fun k => match k with
  | 0 => .array .int
  | 1 => .array .int
  | 2 => .array .int
  | _ => .int
abbrev wsX20 : List Cond := u_ws RX2 TX2 4
theorem nmX2 : ∀ a, a < 4 → ∀ b, b < 4 → a ≠ b → (TX2 a).2.1 ≠ (TX2 b).2.1 := by decide +kernel
theorem tyX2_ok : ∀ k, k < 4 → parseFieldDescriptor (TX2 k).2.2.1 = some (tyX2 k) := by decide +kernel
abbrev cX2_init : ByteArray := prog_4_method_1_code
def yX2_init : MethodName := ⟨RX2, "<init>", "()V"⟩
abbrev cX2_nearOf : ByteArray := prog_4_method_2_code
def yX2_nearOf : MethodName := ⟨RX2, "nearOf", "(II)I"⟩
abbrev cX2_tell : ByteArray := prog_4_method_3_code
def yX2_tell : MethodName := ⟨RX2, "tell", "(III)Z"⟩
abbrev cX2_find : ByteArray := prog_4_method_4_code
def yX2_find : MethodName := ⟨RX2, "find", "(II)I"⟩
abbrev cX2_append : ByteArray := prog_4_method_5_code
def yX2_append : MethodName := ⟨RX2, "append", "(III)Z"⟩
abbrev cX2_forget : ByteArray := prog_4_method_6_code
def yX2_forget : MethodName := ⟨RX2, "forget", "(I)V"⟩
def RX3 : String := "MarksRegister$Papers"
def TX3 : u_T := fun k => match k with
  | 0 => ("MarksRegister$Papers", "kinds", "[I", true)
  | 1 => ("MarksRegister$Papers", "marks", "[I", true)
  | 2 => ("MarksRegister$Papers", "xs", "[I", true)
  | 3 => ("MarksRegister$Papers", "days", "[I", true)
  | _ => ("MarksRegister$Papers", "count", "I", false)
def tyX3 : Nat → FieldType := fun k => match k with
  | 0 => .array .int
  | 1 => .array .int
  | 2 => .array .int
  | 3 => .array .int
  | _ => .int
abbrev wsX30 : List Cond := u_ws RX3 TX3 5
theorem nmX3 : ∀ a, a < 5 → ∀ b, b < 5 → a ≠ b → (TX3 a).2.1 ≠ (TX3 b).2.1 := by decide +kernel
theorem tyX3_ok : ∀ k, k < 5 → parseFieldDescriptor (TX3 k).2.2.1 = some (tyX3 k) := by decide +kernel
abbrev cX3_init : ByteArray := prog_5_method_1_code
def yX3_init : MethodName := ⟨RX3, "<init>", "()V"⟩
abbrev cX3_latestDay : ByteArray := prog_5_method_2_code
def yX3_latestDay : MethodName := ⟨RX3, "latestDay", "()I"⟩
abbrev cX3_take : ByteArray := prog_5_method_3_code
def yX3_take : MethodName := ⟨RX3, "take", "(I)Z"⟩
abbrev cX3_add : ByteArray := prog_5_method_4_code
def yX3_add : MethodName := ⟨RX3, "add", "(IIII)I"⟩
abbrev cX3_takeBack : ByteArray := prog_5_method_5_code
def yX3_takeBack : MethodName := ⟨RX3, "takeBack", "()I"⟩
abbrev cX3_areOf : ByteArray := prog_5_method_6_code
def yX3_areOf : MethodName := ⟨RX3, "areOf", "(I)Z"⟩
abbrev cX3_tell : ByteArray := prog_5_method_7_code
def yX3_tell : MethodName := ⟨RX3, "tell", "(IIII)Z"⟩
abbrev cX3_latest : ByteArray := prog_5_method_8_code
def yX3_latest : MethodName := ⟨RX3, "latest", "(I)I"⟩
def RX4 : String := "MarksRegister$Sounds"
def TX4 : u_T := fun k => match k with
  | 0 => ("MarksRegister$Sounds", "places", "[I", true)
  | 1 => ("MarksRegister$Sounds", "rows", "[I", true)
  | 2 => ("MarksRegister$Sounds", "putCosts", "[I", true)
  | 3 => ("MarksRegister$Sounds", "changeCosts", "[I", true)
  | 4 => ("MarksRegister$Sounds", "left", "[I", true)
  | 5 => ("MarksRegister$Sounds", "right", "[I", true)
  | _ => ("MarksRegister$Sounds", "sums", "[I", true)
def tyX4 : Nat → FieldType := fun k => match k with
  | 0 => .array .int
  | 1 => .array .int
  | 2 => .array .int
  | 3 => .array .int
  | 4 => .array .int
  | 5 => .array .int
  | _ => .array .int
abbrev wsX40 : List Cond := u_ws RX4 TX4 7
theorem nmX4 : ∀ a, a < 7 → ∀ b, b < 7 → a ≠ b → (TX4 a).2.1 ≠ (TX4 b).2.1 := by decide +kernel
theorem tyX4_ok : ∀ k, k < 7 → parseFieldDescriptor (TX4 k).2.2.1 = some (tyX4 k) := by decide +kernel
abbrev cX4_init : ByteArray := prog_6_method_1_code
def yX4_init : MethodName := ⟨RX4, "<init>", "()V"⟩
abbrev cX4_placesOf : ByteArray := prog_6_method_2_code
def yX4_placesOf : MethodName := ⟨RX4, "placesOf", "(I)I"⟩
abbrev cX4_setPlaces : ByteArray := prog_6_method_3_code
def yX4_setPlaces : MethodName := ⟨RX4, "setPlaces", "(II)V"⟩
abbrev cX4_setPlace : ByteArray := prog_6_method_4_code
def yX4_setPlace : MethodName := ⟨RX4, "setPlace", "(III)V"⟩
abbrev cX4_setPutCost : ByteArray := prog_6_method_5_code
def yX4_setPutCost : MethodName := ⟨RX4, "setPutCost", "(II)V"⟩
abbrev cX4_setChangeCost : ByteArray := prog_6_method_6_code
def yX4_setChangeCost : MethodName := ⟨RX4, "setChangeCost", "(III)V"⟩
abbrev cX4_countOf : ByteArray := prog_6_method_7_code
def yX4_countOf : MethodName := ⟨RX4, "countOf", "(LMarksRegister$Mark;)I"⟩
abbrev cX4_at : ByteArray := prog_6_method_8_code
def yX4_at : MethodName := ⟨RX4, "at", "(LMarksRegister$Mark;I)I"⟩
abbrev cX4_costOf : ByteArray := prog_6_method_9_code
def yX4_costOf : MethodName := ⟨RX4, "costOf", "(LMarksRegister$Mark;LMarksRegister$Mark;)I"⟩
abbrev cX4_likeOf : ByteArray := prog_6_method_10_code
def yX4_likeOf : MethodName := ⟨RX4, "likeOf", "(LMarksRegister$Mark;LMarksRegister$Mark;)I"⟩
abbrev cX4_spell : ByteArray := prog_6_method_11_code
def yX4_spell : MethodName := ⟨RX4, "spell", "(LMarksRegister$Mark;[I)I"⟩
abbrev cX4_heard : ByteArray := prog_6_method_12_code
def yX4_heard : MethodName := ⟨RX4, "heard", "(II)I"⟩
abbrev cX4_leastSum : ByteArray := prog_6_method_13_code
def yX4_leastSum : MethodName := ⟨RX4, "leastSum", "(II)I"⟩
def RX5 : String := "MarksRegister$View"
def TX5 : u_T := fun k => match k with
  | 0 => ("MarksRegister$View", "day", "I", false)
  | 1 => ("MarksRegister$View", "firstDay", "I", false)
  | 2 => ("MarksRegister$View", "enterDay", "I", false)
  | 3 => ("MarksRegister$View", "countries", "I", false)
  | 4 => ("MarksRegister$View", "renews", "I", false)
  | 5 => ("MarksRegister$View", "isStruck", "Z", false)
  | 6 => ("MarksRegister$View", "isKnown", "Z", false)
  | 7 => ("MarksRegister$View", "hadGoods", "Z", false)
  | 8 => ("MarksRegister$View", "count", "I", false)
  | 9 => ("MarksRegister$View", "goods", "[I", true)
  | 10 => ("MarksRegister$View", "since", "[I", true)
  | 11 => ("MarksRegister$View", "used", "[I", true)
  | _ => ("MarksRegister$View", "given", "[Z", true)
def tyX5 : Nat → FieldType := fun k => match k with
  | 0 => .int
  | 1 => .int
  | 2 => .int
  | 3 => .int
  | 4 => .int
  | 5 => .boolean
  | 6 => .boolean
  | 7 => .boolean
  | 8 => .int
  | 9 => .array .int
  | 10 => .array .int
  | 11 => .array .int
  | _ => .array .boolean
abbrev wsX50 : List Cond := u_ws RX5 TX5 13
theorem nmX5 : ∀ a, a < 13 → ∀ b, b < 13 → a ≠ b → (TX5 a).2.1 ≠ (TX5 b).2.1 := by decide +kernel
theorem tyX5_ok : ∀ k, k < 13 → parseFieldDescriptor (TX5 k).2.2.1 = some (tyX5 k) := by decide +kernel
abbrev cX5_init : ByteArray := prog_7_method_1_code
def yX5_init : MethodName := ⟨RX5, "<init>", "()V"⟩
abbrev cX5_read : ByteArray := prog_7_method_2_code
def yX5_read : MethodName := ⟨RX5, "read", "(LMarksRegister$Papers;III)V"⟩
abbrev cX5_isEntered : ByteArray := prog_7_method_3_code
def yX5_isEntered : MethodName := ⟨RX5, "isEntered", "()Z"⟩
abbrev cX5_termEnd : ByteArray := prog_7_method_4_code
def yX5_termEnd : MethodName := ⟨RX5, "termEnd", "()I"⟩
abbrev cX5_isLapsed : ByteArray := prog_7_method_5_code
def yX5_isLapsed : MethodName := ⟨RX5, "isLapsed", "()Z"⟩
abbrev cX5_isTimeToRenew : ByteArray := prog_7_method_6_code
def yX5_isTimeToRenew : MethodName := ⟨RX5, "isTimeToRenew", "()Z"⟩
abbrev cX5_find : ByteArray := prog_7_method_7_code
def yX5_find : MethodName := ⟨RX5, "find", "(I)I"⟩
abbrev cX5_keeps : ByteArray := prog_7_method_8_code
def yX5_keeps : MethodName := ⟨RX5, "keeps", "(I)Z"⟩
abbrev cX5_sinceAt : ByteArray := prog_7_method_9_code
def yX5_sinceAt : MethodName := ⟨RX5, "sinceAt", "(I)I"⟩
abbrev cX5_rightAt : ByteArray := prog_7_method_10_code
def yX5_rightAt : MethodName := ⟨RX5, "rightAt", "(I)I"⟩
abbrev cX5_standsAt : ByteArray := prog_7_method_11_code
def yX5_standsAt : MethodName := ⟨RX5, "standsAt", "(I)Z"⟩
abbrev cX5_standsForAny : ByteArray := prog_7_method_12_code
def yX5_standsForAny : MethodName := ⟨RX5, "standsForAny", "()Z"⟩
abbrev cX5_clear : ByteArray := prog_7_method_13_code
def yX5_clear : MethodName := ⟨RX5, "clear", "(I)V"⟩
abbrev cX5_readPaper : ByteArray := prog_7_method_14_code
def yX5_readPaper : MethodName := ⟨RX5, "readPaper", "(IIII)V"⟩
abbrev cX5_readEnter : ByteArray := prog_7_method_15_code
def yX5_readEnter : MethodName := ⟨RX5, "readEnter", "(III)V"⟩
abbrev cX5_readGoods : ByteArray := prog_7_method_16_code
def yX5_readGoods : MethodName := ⟨RX5, "readGoods", "(II)V"⟩
abbrev cX5_readGive : ByteArray := prog_7_method_17_code
def yX5_readGive : MethodName := ⟨RX5, "readGive", "(II)V"⟩
abbrev cX5_readUse : ByteArray := prog_7_method_18_code
def yX5_readUse : MethodName := ⟨RX5, "readUse", "(II)V"⟩
def RX6 : String := "MarksRegister"
def TX6 : u_T := fun k => match k with
  | 0 => ("MarksRegister", "sounds", "LMarksRegister$Sounds;", true)
  | 1 => ("MarksRegister", "pairs", "LMarksRegister$NearPairs;", true)
  | 2 => ("MarksRegister", "marks", "[LMarksRegister$Mark;", true)
  | 3 => ("MarksRegister", "papers", "LMarksRegister$Papers;", true)
  | 4 => ("MarksRegister", "markCount", "I", false)
  | 5 => ("MarksRegister", "likeLevel", "I", false)
  | 6 => ("MarksRegister", "nearLevel", "I", false)
  | 7 => ("MarksRegister", "elder", "LMarksRegister$View;", true)
  | 8 => ("MarksRegister", "younger", "LMarksRegister$View;", true)
  | 9 => ("MarksRegister", "past", "LMarksRegister$View;", true)
  | _ => ("MarksRegister", "found", "LMarksRegister$Clash;", true)
def tyX6 : Nat → FieldType := fun k => match k with
  | 0 => .object "MarksRegister$Sounds"
  | 1 => .object "MarksRegister$NearPairs"
  | 2 => .array (.object "MarksRegister$Mark")
  | 3 => .object "MarksRegister$Papers"
  | 4 => .int
  | 5 => .int
  | 6 => .int
  | 7 => .object "MarksRegister$View"
  | 8 => .object "MarksRegister$View"
  | 9 => .object "MarksRegister$View"
  | _ => .object "MarksRegister$Clash"
abbrev wsX60 : List Cond := u_ws RX6 TX6 11
theorem nmX6 : ∀ a, a < 11 → ∀ b, b < 11 → a ≠ b → (TX6 a).2.1 ≠ (TX6 b).2.1 := by decide +kernel
theorem tyX6_ok : ∀ k, k < 11 → parseFieldDescriptor (TX6 k).2.2.1 = some (tyX6 k) := by decide +kernel
abbrev cX6_init : ByteArray := prog_1_method_1_code
def yX6_init : MethodName := ⟨RX6, "<init>", "()V"⟩
abbrev cX6_row : ByteArray := prog_1_method_2_code
def yX6_row : MethodName := ⟨RX6, "row", "(II)Z"⟩
abbrev cX6_sound : ByteArray := prog_1_method_3_code
def yX6_sound : MethodName := ⟨RX6, "sound", "(III)Z"⟩
abbrev cX6_cost : ByteArray := prog_1_method_4_code
def yX6_cost : MethodName := ⟨RX6, "cost", "(III)Z"⟩
abbrev cX6_near : ByteArray := prog_1_method_5_code
def yX6_near : MethodName := ⟨RX6, "near", "(III)Z"⟩
abbrev cX6_levels : ByteArray := prog_1_method_6_code
def yX6_levels : MethodName := ⟨RX6, "levels", "(II)Z"⟩
abbrev cX6_mark : ByteArray := prog_1_method_7_code
def yX6_mark : MethodName := ⟨RX6, "mark", "(II)I"⟩
abbrev cX6_letter : ByteArray := prog_1_method_8_code
def yX6_letter : MethodName := ⟨RX6, "letter", "(II)I"⟩
abbrev cX6_code : ByteArray := prog_1_method_9_code
def yX6_code : MethodName := ⟨RX6, "code", "(II)I"⟩
abbrev cX6_paper : ByteArray := prog_1_method_10_code
def yX6_paper : MethodName := ⟨RX6, "paper", "(IIII)I"⟩
abbrev cX6_oppose : ByteArray := prog_1_method_11_code
def yX6_oppose : MethodName := ⟨RX6, "oppose", "(III)I"⟩
abbrev cX6_undo : ByteArray := prog_1_method_12_code
def yX6_undo : MethodName := ⟨RX6, "undo", "()I"⟩
abbrev cX6_paperOf : ByteArray := prog_1_method_13_code
def yX6_paperOf : MethodName := ⟨RX6, "paperOf", "(II)I"⟩
abbrev cX6_markOf : ByteArray := prog_1_method_14_code
def yX6_markOf : MethodName := ⟨RX6, "markOf", "(II)I"⟩
abbrev cX6_soundOf : ByteArray := prog_1_method_15_code
def yX6_soundOf : MethodName := ⟨RX6, "soundOf", "(II)I"⟩
abbrev cX6_like : ByteArray := prog_1_method_16_code
def yX6_like : MethodName := ⟨RX6, "like", "(III)I"⟩
abbrev cX6_right : ByteArray := prog_1_method_17_code
def yX6_right : MethodName := ⟨RX6, "right", "(IIIII)I"⟩
abbrev cX6_state : ByteArray := prog_1_method_18_code
def yX6_state : MethodName := ⟨RX6, "state", "(III)I"⟩
abbrev cX6_clash : ByteArray := prog_1_method_19_code
def yX6_clash : MethodName := ⟨RX6, "clash", "(IIII)I"⟩
abbrev cX6_first : ByteArray := prog_1_method_20_code
def yX6_first : MethodName := ⟨RX6, "first", "(III)I"⟩
abbrev cX6_may : ByteArray := prog_1_method_21_code
def yX6_may : MethodName := ⟨RX6, "may", "(IIIII)I"⟩
abbrev cX6_watch : ByteArray := prog_1_method_22_code
def yX6_watch : MethodName := ⟨RX6, "watch", "(I)I"⟩
abbrev cX6_about : ByteArray := prog_1_method_23_code
def yX6_about : MethodName := ⟨RX6, "about", "(I)I"⟩
abbrev cX6_below : ByteArray := prog_1_method_24_code
def yX6_below : MethodName := ⟨RX6, "below", "(II)Z"⟩
abbrev cX6_isDay : ByteArray := prog_1_method_25_code
def yX6_isDay : MethodName := ⟨RX6, "isDay", "(I)Z"⟩
abbrev cX6_markAt : ByteArray := prog_1_method_26_code
def yX6_markAt : MethodName := ⟨RX6, "markAt", "(I)LMarksRegister$Mark;"⟩
abbrev cX6_boundOfX : ByteArray := prog_1_method_27_code
def yX6_boundOfX : MethodName := ⟨RX6, "boundOfX", "(I)I"⟩
abbrev cX6_canBe : ByteArray := prog_1_method_28_code
def yX6_canBe : MethodName := ⟨RX6, "canBe", "(IIII)Z"⟩
abbrev cX6_isOfKind : ByteArray := prog_1_method_29_code
def yX6_isOfKind : MethodName := ⟨RX6, "isOfKind", "(II)Z"⟩
abbrev cX6_haveOneOwner : ByteArray := prog_1_method_30_code
def yX6_haveOneOwner : MethodName := ⟨RX6, "haveOneOwner", "(II)Z"⟩
abbrev cX6_likeOf : ByteArray := prog_1_method_31_code
def yX6_likeOf : MethodName := ⟨RX6, "likeOf", "(LMarksRegister$Mark;LMarksRegister$Mark;)I"⟩
abbrev cX6_areAlike : ByteArray := prog_1_method_32_code
def yX6_areAlike : MethodName := ⟨RX6, "areAlike", "(II)Z"⟩
abbrev cX6_isNear : ByteArray := prog_1_method_33_code
def yX6_isNear : MethodName := ⟨RX6, "isNear", "(II)Z"⟩
abbrev cX6_earliestNear : ByteArray := prog_1_method_34_code
def yX6_earliestNear : MethodName := ⟨RX6, "earliestNear", "(I)I"⟩
abbrev cX6_standsNearYounger : ByteArray := prog_1_method_35_code
def yX6_standsNearYounger : MethodName := ⟨RX6, "standsNearYounger", "()Z"⟩
abbrev cX6_claimOf : ByteArray := prog_1_method_36_code
def yX6_claimOf : MethodName := ⟨RX6, "claimOf", "(III)I"⟩
abbrev cX6_findClash : ByteArray := prog_1_method_37_code
def yX6_findClash : MethodName := ⟨RX6, "findClash", "(IIII)V"⟩
abbrev cX6_findClashOver : ByteArray := prog_1_method_38_code
def yX6_findClashOver : MethodName := ⟨RX6, "findClashOver", "(IIII)V"⟩
def RX7 : String := "MarksRegisterModel"
def TX7 : u_T := fun k => match k with
  | 0 => ("MarksRegisterModel", "places", "[I", true)
  | 1 => ("MarksRegisterModel", "soundAt", "[I", true)
  | 2 => ("MarksRegisterModel", "change", "[I", true)
  | 3 => ("MarksRegisterModel", "put", "[I", true)
  | 4 => ("MarksRegisterModel", "pairLow", "[I", true)
  | 5 => ("MarksRegisterModel", "pairHigh", "[I", true)
  | 6 => ("MarksRegisterModel", "pairNear", "[I", true)
  | 7 => ("MarksRegisterModel", "pairs", "I", false)
  | 8 => ("MarksRegisterModel", "likeLevel", "I", false)
  | 9 => ("MarksRegisterModel", "nearLevel", "I", false)
  | 10 => ("MarksRegisterModel", "marks", "I", false)
  | 11 => ("MarksRegisterModel", "kind", "[I", true)
  | 12 => ("MarksRegisterModel", "owner", "[I", true)
  | 13 => ("MarksRegisterModel", "letters", "[I", true)
  | 14 => ("MarksRegisterModel", "letterOf", "[I", true)
  | 15 => ("MarksRegisterModel", "codes", "[I", true)
  | 16 => ("MarksRegisterModel", "codeOf", "[I", true)
  | 17 => ("MarksRegisterModel", "papers", "I", false)
  | 18 => ("MarksRegisterModel", "paperKind", "[I", true)
  | 19 => ("MarksRegisterModel", "paperMark", "[I", true)
  | 20 => ("MarksRegisterModel", "paperX", "[I", true)
  | 21 => ("MarksRegisterModel", "paperDay", "[I", true)
  | 22 => ("MarksRegisterModel", "soundsA", "[I", true)
  | 23 => ("MarksRegisterModel", "soundsB", "[I", true)
  | 24 => ("MarksRegisterModel", "least", "[I", true)
  | 25 => ("MarksRegisterModel", "goodsA", "[I", true)
  | _ => ("MarksRegisterModel", "goodsB", "[I", true)
def tyX7 : Nat → FieldType := fun k => match k with
  | 0 => .array .int
  | 1 => .array .int
  | 2 => .array .int
  | 3 => .array .int
  | 4 => .array .int
  | 5 => .array .int
  | 6 => .array .int
  | 7 => .int
  | 8 => .int
  | 9 => .int
  | 10 => .int
  | 11 => .array .int
  | 12 => .array .int
  | 13 => .array .int
  | 14 => .array .int
  | 15 => .array .int
  | 16 => .array .int
  | 17 => .int
  | 18 => .array .int
  | 19 => .array .int
  | 20 => .array .int
  | 21 => .array .int
  | 22 => .array .int
  | 23 => .array .int
  | 24 => .array .int
  | 25 => .array .int
  | _ => .array .int
abbrev wsX70 : List Cond := u_ws RX7 TX7 27
theorem nmX7 : ∀ a, a < 27 → ∀ b, b < 27 → a ≠ b → (TX7 a).2.1 ≠ (TX7 b).2.1 := by decide +kernel
theorem tyX7_ok : ∀ k, k < 27 → parseFieldDescriptor (TX7 k).2.2.1 = some (tyX7 k) := by decide +kernel
abbrev cX7_init : ByteArray := prog_9_method_1_code
def yX7_init : MethodName := ⟨RX7, "<init>", "()V"⟩
abbrev cX7_in : ByteArray := prog_9_method_2_code
def yX7_in : MethodName := ⟨RX7, "in", "(III)Z"⟩
abbrev cX7_isMark : ByteArray := prog_9_method_3_code
def yX7_isMark : MethodName := ⟨RX7, "isMark", "(I)Z"⟩
abbrev cX7_isDay : ByteArray := prog_9_method_4_code
def yX7_isDay : MethodName := ⟨RX7, "isDay", "(I)Z"⟩
abbrev cX7_isCountry : ByteArray := prog_9_method_5_code
def yX7_isCountry : MethodName := ⟨RX7, "isCountry", "(I)Z"⟩
abbrev cX7_isGoods : ByteArray := prog_9_method_6_code
def yX7_isGoods : MethodName := ⟨RX7, "isGoods", "(I)Z"⟩
abbrev cX7_isPerson : ByteArray := prog_9_method_7_code
def yX7_isPerson : MethodName := ⟨RX7, "isPerson", "(I)Z"⟩
abbrev cX7_row : ByteArray := prog_9_method_8_code
def yX7_row : MethodName := ⟨RX7, "row", "(II)Z"⟩
abbrev cX7_sound : ByteArray := prog_9_method_9_code
def yX7_sound : MethodName := ⟨RX7, "sound", "(III)Z"⟩
abbrev cX7_cost : ByteArray := prog_9_method_10_code
def yX7_cost : MethodName := ⟨RX7, "cost", "(III)Z"⟩
abbrev cX7_pairOf : ByteArray := prog_9_method_11_code
def yX7_pairOf : MethodName := ⟨RX7, "pairOf", "(II)I"⟩
abbrev cX7_near : ByteArray := prog_9_method_12_code
def yX7_near : MethodName := ⟨RX7, "near", "(III)Z"⟩
abbrev cX7_nearOf : ByteArray := prog_9_method_13_code
def yX7_nearOf : MethodName := ⟨RX7, "nearOf", "(II)I"⟩
abbrev cX7_levels : ByteArray := prog_9_method_14_code
def yX7_levels : MethodName := ⟨RX7, "levels", "(II)Z"⟩
abbrev cX7_mark : ByteArray := prog_9_method_15_code
def yX7_mark : MethodName := ⟨RX7, "mark", "(II)I"⟩
abbrev cX7_hasPaper : ByteArray := prog_9_method_16_code
def yX7_hasPaper : MethodName := ⟨RX7, "hasPaper", "(I)Z"⟩
abbrev cX7_letter : ByteArray := prog_9_method_17_code
def yX7_letter : MethodName := ⟨RX7, "letter", "(II)I"⟩
abbrev cX7_code : ByteArray := prog_9_method_18_code
def yX7_code : MethodName := ⟨RX7, "code", "(II)I"⟩
abbrev cX7_hasCode : ByteArray := prog_9_method_19_code
def yX7_hasCode : MethodName := ⟨RX7, "hasCode", "(II)Z"⟩
abbrev cX7_soundOfLetter : ByteArray := prog_9_method_20_code
def yX7_soundOfLetter : MethodName := ⟨RX7, "soundOfLetter", "(II)I"⟩
abbrev cX7_soundsInto : ByteArray := prog_9_method_21_code
def yX7_soundsInto : MethodName := ⟨RX7, "soundsInto", "(I[I)I"⟩
abbrev cX7_costOf : ByteArray := prog_9_method_22_code
def yX7_costOf : MethodName := ⟨RX7, "costOf", "(II)I"⟩
abbrev cX7_wordsLike : ByteArray := prog_9_method_23_code
def yX7_wordsLike : MethodName := ⟨RX7, "wordsLike", "(II)I"⟩
abbrev cX7_codesLike : ByteArray := prog_9_method_24_code
def yX7_codesLike : MethodName := ⟨RX7, "codesLike", "(II)I"⟩
abbrev cX7_likeOf : ByteArray := prog_9_method_25_code
def yX7_likeOf : MethodName := ⟨RX7, "likeOf", "(II)I"⟩
abbrev cX7_isAlike : ByteArray := prog_9_method_26_code
def yX7_isAlike : MethodName := ⟨RX7, "isAlike", "(II)Z"⟩
abbrev cX7_latest : ByteArray := prog_9_method_27_code
def yX7_latest : MethodName := ⟨RX7, "latest", "(IIII)I"⟩
abbrev cX7_earliest : ByteArray := prog_9_method_28_code
def yX7_earliest : MethodName := ⟨RX7, "earliest", "(IIII)I"⟩
abbrev cX7_countOf : ByteArray := prog_9_method_29_code
def yX7_countOf : MethodName := ⟨RX7, "countOf", "(III)I"⟩
abbrev cX7_since : ByteArray := prog_9_method_30_code
def yX7_since : MethodName := ⟨RX7, "since", "(III)I"⟩
abbrev cX7_firstOf : ByteArray := prog_9_method_31_code
def yX7_firstOf : MethodName := ⟨RX7, "firstOf", "(II)I"⟩
abbrev cX7_termEnd : ByteArray := prog_9_method_32_code
def yX7_termEnd : MethodName := ⟨RX7, "termEnd", "(II)I"⟩
abbrev cX7_hasLapsed : ByteArray := prog_9_method_33_code
def yX7_hasLapsed : MethodName := ⟨RX7, "hasLapsed", "(II)Z"⟩
abbrev cX7_isStruck : ByteArray := prog_9_method_34_code
def yX7_isStruck : MethodName := ⟨RX7, "isStruck", "(II)Z"⟩
abbrev cX7_rightOf : ByteArray := prog_9_method_35_code
def yX7_rightOf : MethodName := ⟨RX7, "rightOf", "(IIII)I"⟩
abbrev cX7_stands : ByteArray := prog_9_method_36_code
def yX7_stands : MethodName := ⟨RX7, "stands", "(IIII)Z"⟩
abbrev cX7_goodsInto : ByteArray := prog_9_method_37_code
def yX7_goodsInto : MethodName := ⟨RX7, "goodsInto", "(II[I)I"⟩
abbrev cX7_isNear : ByteArray := prog_9_method_38_code
def yX7_isNear : MethodName := ⟨RX7, "isNear", "(IIII)Z"⟩
abbrev cX7_hasLeave : ByteArray := prog_9_method_39_code
def yX7_hasLeave : MethodName := ⟨RX7, "hasLeave", "(III)Z"⟩
abbrev cX7_mayClash : ByteArray := prog_9_method_40_code
def yX7_mayClash : MethodName := ⟨RX7, "mayClash", "(III)Z"⟩
abbrev cX7_clashes : ByteArray := prog_9_method_41_code
def yX7_clashes : MethodName := ⟨RX7, "clashes", "(IIIIII)Z"⟩
abbrev cX7_clashOf : ByteArray := prog_9_method_42_code
def yX7_clashOf : MethodName := ⟨RX7, "clashOf", "(IIII)I"⟩
abbrev cX7_clashRight : ByteArray := prog_9_method_43_code
def yX7_clashRight : MethodName := ⟨RX7, "clashRight", "(IIII)I"⟩
abbrev cX7_isX : ByteArray := prog_9_method_44_code
def yX7_isX : MethodName := ⟨RX7, "isX", "(II)Z"⟩
abbrev cX7_canBe : ByteArray := prog_9_method_45_code
def yX7_canBe : MethodName := ⟨RX7, "canBe", "(IIII)Z"⟩
abbrev cX7_paper : ByteArray := prog_9_method_46_code
def yX7_paper : MethodName := ⟨RX7, "paper", "(IIII)I"⟩
abbrev cX7_oppose : ByteArray := prog_9_method_47_code
def yX7_oppose : MethodName := ⟨RX7, "oppose", "(III)I"⟩
abbrev cX7_undo : ByteArray := prog_9_method_48_code
def yX7_undo : MethodName := ⟨RX7, "undo", "()I"⟩
abbrev cX7_paperOf : ByteArray := prog_9_method_49_code
def yX7_paperOf : MethodName := ⟨RX7, "paperOf", "(II)I"⟩
abbrev cX7_markOf : ByteArray := prog_9_method_50_code
def yX7_markOf : MethodName := ⟨RX7, "markOf", "(II)I"⟩
abbrev cX7_soundOf : ByteArray := prog_9_method_51_code
def yX7_soundOf : MethodName := ⟨RX7, "soundOf", "(II)I"⟩
abbrev cX7_like : ByteArray := prog_9_method_52_code
def yX7_like : MethodName := ⟨RX7, "like", "(III)I"⟩
abbrev cX7_right : ByteArray := prog_9_method_53_code
def yX7_right : MethodName := ⟨RX7, "right", "(IIIII)I"⟩
abbrev cX7_state : ByteArray := prog_9_method_54_code
def yX7_state : MethodName := ⟨RX7, "state", "(III)I"⟩
abbrev cX7_clash : ByteArray := prog_9_method_55_code
def yX7_clash : MethodName := ⟨RX7, "clash", "(IIII)I"⟩
abbrev cX7_first : ByteArray := prog_9_method_56_code
def yX7_first : MethodName := ⟨RX7, "first", "(III)I"⟩
abbrev cX7_nearRight : ByteArray := prog_9_method_57_code
def yX7_nearRight : MethodName := ⟨RX7, "nearRight", "(IIII)I"⟩
abbrev cX7_may : ByteArray := prog_9_method_58_code
def yX7_may : MethodName := ⟨RX7, "may", "(IIIII)I"⟩
abbrev cX7_watch : ByteArray := prog_9_method_59_code
def yX7_watch : MethodName := ⟨RX7, "watch", "(I)I"⟩
abbrev cX7_comesNear : ByteArray := prog_9_method_60_code
def yX7_comesNear : MethodName := ⟨RX7, "comesNear", "(IIII)Z"⟩
abbrev cX7_about : ByteArray := prog_9_method_61_code
def yX7_about : MethodName := ⟨RX7, "about", "(I)I"⟩
def RJ9 : String := "java/lang/Math"
def TJ9 : u_T := fun k => match k with
  | _ => ("", "", "", false)
def tyJ9 : Nat → FieldType := fun k => match k with
  | _ => .int
abbrev wsJ90 : List Cond := u_ws RJ9 TJ9 0
theorem nmJ9 : ∀ a, a < 0 → ∀ b, b < 0 → a ≠ b → (TJ9 a).2.1 ≠ (TJ9 b).2.1 := by decide +kernel
theorem tyJ9_ok : ∀ k, k < 0 → parseFieldDescriptor (TJ9 k).2.2.1 = some (tyJ9 k) := by decide +kernel
abbrev cJ9_max_7cf53 : ByteArray := prog_10_method_65_code
def yJ9_max_7cf53 : MethodName := ⟨RJ9, "max", "(II)I"⟩
abbrev cJ9_min_7cf53 : ByteArray := prog_10_method_69_code
def yJ9_min_7cf53 : MethodName := ⟨RJ9, "min", "(II)I"⟩
def RJ7 : String := "java/util/Arrays"
def TJ7 : u_T := fun k => match k with
  | _ => ("", "", "", false)
def tyJ7 : Nat → FieldType := fun k => match k with
  | _ => .int
abbrev wsJ70 : List Cond := u_ws RJ7 TJ7 0
theorem nmJ7 : ∀ a, a < 0 → ∀ b, b < 0 → a ≠ b → (TJ7 a).2.1 ≠ (TJ7 b).2.1 := by decide +kernel
theorem tyJ7_ok : ∀ k, k < 0 → parseFieldDescriptor (TJ7 k).2.2.1 = some (tyJ7 k) := by decide +kernel
abbrev cJ7_fill_53178 : ByteArray := prog_11_method_103_code
def yJ7_fill_53178 : MethodName := ⟨RJ7, "fill", "([II)V"⟩
def RL : String := "MarksRegisterLaw"
abbrev cL_law : ByteArray := code
def yL_law : MethodName := ⟨RL, "law", "([I)Z"⟩
theorem t1 {w : Cond} (h : w ∈ tables_1_1) : w ∈ lw_tbl := List.mem_append_right _ (List.mem_append_left _ h)
theorem t2 {w : Cond} (h : w ∈ tables_1_2) : w ∈ lw_tbl := List.mem_append_right _ (List.mem_append_right _ (List.mem_append_left _ h))
theorem t3 {w : Cond} (h : w ∈ tables_1_3) : w ∈ lw_tbl := List.mem_append_right _ (List.mem_append_right _ (List.mem_append_right _ (List.mem_append_left _ h)))
theorem t4 {w : Cond} (h : w ∈ tables_1_4) : w ∈ lw_tbl := List.mem_append_right _ (List.mem_append_right _ (List.mem_append_right _ (List.mem_append_right _ h)))
theorem t0 {q : MethodName × Nat} (h : q ∈ lw_privs) : Cond.selects q.1.cls q.1 q.1 ∈ lw_tbl := List.mem_append_left _ (List.mem_map.mpr ⟨q, h, rfl⟩)
theorem p1 {q : MethodName × Nat} (h : q ∈ lw_privs_1) : q ∈ lw_privs := List.mem_append_left _ h
theorem p2 {q : MethodName × Nat} (h : q ∈ lw_privs_2) : q ∈ lw_privs := List.mem_append_right _ (List.mem_append_left _ h)
theorem p3 {q : MethodName × Nat} (h : q ∈ lw_privs_3) : q ∈ lw_privs := List.mem_append_right _ (List.mem_append_right _ (List.mem_append_left _ h))
theorem p4 {q : MethodName × Nat} (h : q ∈ lw_privs_4) : q ∈ lw_privs := List.mem_append_right _ (List.mem_append_right _ (List.mem_append_right _ h))
/-- a word of the tables that stays true wherever a call may lead -/
def inT (w : Cond) : Prop := w ∈ lw_tbl ∧ goodWord w = true
abbrev MI : Type := MethodName × ByteArray × Nat × Option FieldType
def mCl : List vw_C := [(RX0, TX0, 2), (RX1, TX1, 6), (RX2, TX2, 4), (RX3, TX3, 5), (RX4, TX4, 7), (RX5, TX5, 13), (RX6, TX6, 11), (RX7, TX7, 27)]
/-- 0 int, 1 boolean, 2 reference: the fields of each class -/

def fTab : List (List Nat) := [[0, 0], [0, 0, 2, 2, 0, 0], [2, 2, 2, 0], [2, 2, 2, 2, 0], [2, 2, 2, 2, 2, 2, 2], [0, 0, 0, 0, 0, 1, 1, 1, 0, 2, 2, 2, 2], [2, 2, 2, 2, 0, 0, 0, 2, 2, 2, 2], [2, 2, 2, 2, 2, 2, 2, 0, 0, 0, 0, 2, 2, 2, 2, 2, 2, 0, 2, 2, 2, 2, 2, 2, 2, 2, 2]]
def mX0_init : MI := (yX0_init, cX0_init, 1, none)
theorem okX0_init : inT (.initialized mX0_init.1.cls) ∧ inT (.code mX0_init.1 mX0_init.2.1 mX0_init.2.2.1 mX0_init.2.2.2) := ⟨⟨t1 (List.mem_of_getElem? (i := 7) rfl), rfl⟩, ⟨t1 (List.mem_of_getElem? (i := 163) rfl), rfl⟩⟩
theorem imX0_init : inT (.instanceMethod mX0_init.1) := ⟨t1 (List.mem_of_getElem? (i := 162) rfl), rfl⟩
def mX0_clear : MI := (yX0_clear, cX0_clear, 1, none)
theorem okX0_clear : inT (.initialized mX0_clear.1.cls) ∧ inT (.code mX0_clear.1 mX0_clear.2.1 mX0_clear.2.2.1 mX0_clear.2.2.2) := ⟨⟨t1 (List.mem_of_getElem? (i := 7) rfl), rfl⟩, ⟨t2 (List.mem_of_getElem? (i := 185) rfl), rfl⟩⟩
theorem imX0_clear : inT (.instanceMethod mX0_clear.1) := ⟨t2 (List.mem_of_getElem? (i := 183) rfl), rfl⟩
theorem seX0_clear : inT (.selects mX0_clear.1.cls mX0_clear.1 mX0_clear.1) := ⟨t2 (List.mem_of_getElem? (i := 184) rfl), rfl⟩
def mX0_isThere : MI := (yX0_isThere, cX0_isThere, 1, (some .boolean))
theorem okX0_isThere : inT (.initialized mX0_isThere.1.cls) ∧ inT (.code mX0_isThere.1 mX0_isThere.2.1 mX0_isThere.2.2.1 mX0_isThere.2.2.2) := ⟨⟨t1 (List.mem_of_getElem? (i := 7) rfl), rfl⟩, ⟨t3 (List.mem_of_getElem? (i := 30) rfl), rfl⟩⟩
theorem imX0_isThere : inT (.instanceMethod mX0_isThere.1) := ⟨t3 (List.mem_of_getElem? (i := 28) rfl), rfl⟩
theorem seX0_isThere : inT (.selects mX0_isThere.1.cls mX0_isThere.1 mX0_isThere.1) := ⟨t3 (List.mem_of_getElem? (i := 29) rfl), rfl⟩
def mX0_add : MI := (yX0_add, cX0_add, 5, none)
theorem okX0_add : inT (.initialized mX0_add.1.cls) ∧ inT (.code mX0_add.1 mX0_add.2.1 mX0_add.2.2.1 mX0_add.2.2.2) := ⟨⟨t1 (List.mem_of_getElem? (i := 7) rfl), rfl⟩, ⟨t3 (List.mem_of_getElem? (i := 26) rfl), rfl⟩⟩
theorem imX0_add : inT (.instanceMethod mX0_add.1) := ⟨t3 (List.mem_of_getElem? (i := 24) rfl), rfl⟩
theorem seX0_add : inT (.selects mX0_add.1.cls mX0_add.1 mX0_add.1) := ⟨t3 (List.mem_of_getElem? (i := 25) rfl), rfl⟩
def mX1_init : MI := (yX1_init, cX1_init, 3, none)
theorem okX1_init : inT (.initialized mX1_init.1.cls) ∧ inT (.code mX1_init.1 mX1_init.2.1 mX1_init.2.2.1 mX1_init.2.2.2) := ⟨⟨t1 (List.mem_of_getElem? (i := 9) rfl), rfl⟩, ⟨t2 (List.mem_of_getElem? (i := 34) rfl), rfl⟩⟩
theorem imX1_init : inT (.instanceMethod mX1_init.1) := ⟨t2 (List.mem_of_getElem? (i := 33) rfl), rfl⟩
def mX1_hasPicture : MI := (yX1_hasPicture, cX1_hasPicture, 1, (some .boolean))
theorem okX1_hasPicture : inT (.initialized mX1_hasPicture.1.cls) ∧ inT (.code mX1_hasPicture.1 mX1_hasPicture.2.1 mX1_hasPicture.2.2.1 mX1_hasPicture.2.2.2) := ⟨⟨t1 (List.mem_of_getElem? (i := 9) rfl), rfl⟩, ⟨t2 (List.mem_of_getElem? (i := 221) rfl), rfl⟩⟩
theorem imX1_hasPicture : inT (.instanceMethod mX1_hasPicture.1) := ⟨t2 (List.mem_of_getElem? (i := 219) rfl), rfl⟩
theorem seX1_hasPicture : inT (.selects mX1_hasPicture.1.cls mX1_hasPicture.1 mX1_hasPicture.1) := ⟨t2 (List.mem_of_getElem? (i := 220) rfl), rfl⟩
def mX1_addLetter : MI := (yX1_addLetter, cX1_addLetter, 2, (some .int))
theorem okX1_addLetter : inT (.initialized mX1_addLetter.1.cls) ∧ inT (.code mX1_addLetter.1 mX1_addLetter.2.1 mX1_addLetter.2.2.1 mX1_addLetter.2.2.2) := ⟨⟨t1 (List.mem_of_getElem? (i := 9) rfl), rfl⟩, ⟨t2 (List.mem_of_getElem? (i := 76) rfl), rfl⟩⟩
theorem imX1_addLetter : inT (.instanceMethod mX1_addLetter.1) := ⟨t2 (List.mem_of_getElem? (i := 74) rfl), rfl⟩
theorem seX1_addLetter : inT (.selects mX1_addLetter.1.cls mX1_addLetter.1 mX1_addLetter.1) := ⟨t2 (List.mem_of_getElem? (i := 75) rfl), rfl⟩
def mX1_addCode : MI := (yX1_addCode, cX1_addCode, 2, (some .int))
theorem okX1_addCode : inT (.initialized mX1_addCode.1.cls) ∧ inT (.code mX1_addCode.1 mX1_addCode.2.1 mX1_addCode.2.2.1 mX1_addCode.2.2.2) := ⟨⟨t1 (List.mem_of_getElem? (i := 9) rfl), rfl⟩, ⟨t2 (List.mem_of_getElem? (i := 85) rfl), rfl⟩⟩
theorem imX1_addCode : inT (.instanceMethod mX1_addCode.1) := ⟨t2 (List.mem_of_getElem? (i := 83) rfl), rfl⟩
theorem seX1_addCode : inT (.selects mX1_addCode.1.cls mX1_addCode.1 mX1_addCode.1) := ⟨t2 (List.mem_of_getElem? (i := 84) rfl), rfl⟩
def mX1_likeOfPictures : MI := (yX1_likeOfPictures, cX1_likeOfPictures, 5, (some .int))
theorem okX1_likeOfPictures : inT (.initialized mX1_likeOfPictures.1.cls) ∧ inT (.code mX1_likeOfPictures.1 mX1_likeOfPictures.2.1 mX1_likeOfPictures.2.2.1 mX1_likeOfPictures.2.2.2) := ⟨⟨t1 (List.mem_of_getElem? (i := 9) rfl), rfl⟩, ⟨t2 (List.mem_of_getElem? (i := 225) rfl), rfl⟩⟩
theorem imX1_likeOfPictures : inT (.instanceMethod mX1_likeOfPictures.1) := ⟨t2 (List.mem_of_getElem? (i := 223) rfl), rfl⟩
theorem seX1_likeOfPictures : inT (.selects mX1_likeOfPictures.1.cls mX1_likeOfPictures.1 mX1_likeOfPictures.1) := ⟨t2 (List.mem_of_getElem? (i := 224) rfl), rfl⟩
def mX1_hasCode : MI := (yX1_hasCode, cX1_hasCode, 3, (some .boolean))
theorem okX1_hasCode : inT (.initialized mX1_hasCode.1.cls) ∧ inT (.code mX1_hasCode.1 mX1_hasCode.2.1 mX1_hasCode.2.2.1 mX1_hasCode.2.2.2) := ⟨⟨t1 (List.mem_of_getElem? (i := 9) rfl), rfl⟩, ⟨t2 (List.mem_of_getElem? (i := 89) rfl), rfl⟩⟩
theorem imX1_hasCode : inT (.instanceMethod mX1_hasCode.1) := ⟨t2 (List.mem_of_getElem? (i := 88) rfl), rfl⟩
theorem seX1_hasCode : inT (.selects mX1_hasCode.1.cls mX1_hasCode.1 mX1_hasCode.1) := ⟨t0 (q := (yX1_hasCode, 6)) (p1 (List.mem_of_getElem? (i := 4) rfl)), rfl⟩
def mX2_init : MI := (yX2_init, cX2_init, 1, none)
theorem okX2_init : inT (.initialized mX2_init.1.cls) ∧ inT (.code mX2_init.1 mX2_init.2.1 mX2_init.2.2.1 mX2_init.2.2.2) := ⟨⟨t1 (List.mem_of_getElem? (i := 4) rfl), rfl⟩, ⟨t1 (List.mem_of_getElem? (i := 55) rfl), rfl⟩⟩
theorem imX2_init : inT (.instanceMethod mX2_init.1) := ⟨t1 (List.mem_of_getElem? (i := 54) rfl), rfl⟩
def mX2_nearOf : MI := (yX2_nearOf, cX2_nearOf, 4, (some .int))
theorem okX2_nearOf : inT (.initialized mX2_nearOf.1.cls) ∧ inT (.code mX2_nearOf.1 mX2_nearOf.2.1 mX2_nearOf.2.2.1 mX2_nearOf.2.2.2) := ⟨⟨t1 (List.mem_of_getElem? (i := 4) rfl), rfl⟩, ⟨t3 (List.mem_of_getElem? (i := 21) rfl), rfl⟩⟩
theorem imX2_nearOf : inT (.instanceMethod mX2_nearOf.1) := ⟨t3 (List.mem_of_getElem? (i := 19) rfl), rfl⟩
theorem seX2_nearOf : inT (.selects mX2_nearOf.1.cls mX2_nearOf.1 mX2_nearOf.1) := ⟨t3 (List.mem_of_getElem? (i := 20) rfl), rfl⟩
def mX2_tell : MI := (yX2_tell, cX2_tell, 5, (some .boolean))
theorem okX2_tell : inT (.initialized mX2_tell.1.cls) ∧ inT (.code mX2_tell.1 mX2_tell.2.1 mX2_tell.2.2.1 mX2_tell.2.2.2) := ⟨⟨t1 (List.mem_of_getElem? (i := 4) rfl), rfl⟩, ⟨t2 (List.mem_of_getElem? (i := 10) rfl), rfl⟩⟩
theorem imX2_tell : inT (.instanceMethod mX2_tell.1) := ⟨t2 (List.mem_of_getElem? (i := 8) rfl), rfl⟩
theorem seX2_tell : inT (.selects mX2_tell.1.cls mX2_tell.1 mX2_tell.1) := ⟨t2 (List.mem_of_getElem? (i := 9) rfl), rfl⟩
def mX2_find : MI := (yX2_find, cX2_find, 4, (some .int))
theorem okX2_find : inT (.initialized mX2_find.1.cls) ∧ inT (.code mX2_find.1 mX2_find.2.1 mX2_find.2.2.1 mX2_find.2.2.2) := ⟨⟨t1 (List.mem_of_getElem? (i := 4) rfl), rfl⟩, ⟨t2 (List.mem_of_getElem? (i := 14) rfl), rfl⟩⟩
theorem imX2_find : inT (.instanceMethod mX2_find.1) := ⟨t2 (List.mem_of_getElem? (i := 13) rfl), rfl⟩
theorem seX2_find : inT (.selects mX2_find.1.cls mX2_find.1 mX2_find.1) := ⟨t0 (q := (yX2_find, 4)) (p1 (List.mem_of_getElem? (i := 0) rfl)), rfl⟩
def mX2_append : MI := (yX2_append, cX2_append, 4, (some .boolean))
theorem okX2_append : inT (.initialized mX2_append.1.cls) ∧ inT (.code mX2_append.1 mX2_append.2.1 mX2_append.2.2.1 mX2_append.2.2.2) := ⟨⟨t1 (List.mem_of_getElem? (i := 4) rfl), rfl⟩, ⟨t2 (List.mem_of_getElem? (i := 22) rfl), rfl⟩⟩
theorem imX2_append : inT (.instanceMethod mX2_append.1) := ⟨t2 (List.mem_of_getElem? (i := 21) rfl), rfl⟩
theorem seX2_append : inT (.selects mX2_append.1.cls mX2_append.1 mX2_append.1) := ⟨t0 (q := (yX2_append, 4)) (p1 (List.mem_of_getElem? (i := 2) rfl)), rfl⟩
def mX2_forget : MI := (yX2_forget, cX2_forget, 2, none)
theorem okX2_forget : inT (.initialized mX2_forget.1.cls) ∧ inT (.code mX2_forget.1 mX2_forget.2.1 mX2_forget.2.2.1 mX2_forget.2.2.2) := ⟨⟨t1 (List.mem_of_getElem? (i := 4) rfl), rfl⟩, ⟨t2 (List.mem_of_getElem? (i := 18) rfl), rfl⟩⟩
theorem imX2_forget : inT (.instanceMethod mX2_forget.1) := ⟨t2 (List.mem_of_getElem? (i := 17) rfl), rfl⟩
theorem seX2_forget : inT (.selects mX2_forget.1.cls mX2_forget.1 mX2_forget.1) := ⟨t0 (q := (yX2_forget, 4)) (p1 (List.mem_of_getElem? (i := 1) rfl)), rfl⟩
def mX3_init : MI := (yX3_init, cX3_init, 1, none)
theorem okX3_init : inT (.initialized mX3_init.1.cls) ∧ inT (.code mX3_init.1 mX3_init.2.1 mX3_init.2.2.1 mX3_init.2.2.2) := ⟨⟨t1 (List.mem_of_getElem? (i := 5) rfl), rfl⟩, ⟨t1 (List.mem_of_getElem? (i := 77) rfl), rfl⟩⟩
theorem imX3_init : inT (.instanceMethod mX3_init.1) := ⟨t1 (List.mem_of_getElem? (i := 76) rfl), rfl⟩
def mX3_latestDay : MI := (yX3_latestDay, cX3_latestDay, 1, (some .int))
theorem okX3_latestDay : inT (.initialized mX3_latestDay.1.cls) ∧ inT (.code mX3_latestDay.1 mX3_latestDay.2.1 mX3_latestDay.2.2.1 mX3_latestDay.2.2.2) := ⟨⟨t1 (List.mem_of_getElem? (i := 5) rfl), rfl⟩, ⟨t2 (List.mem_of_getElem? (i := 108) rfl), rfl⟩⟩
theorem imX3_latestDay : inT (.instanceMethod mX3_latestDay.1) := ⟨t2 (List.mem_of_getElem? (i := 106) rfl), rfl⟩
theorem seX3_latestDay : inT (.selects mX3_latestDay.1.cls mX3_latestDay.1 mX3_latestDay.1) := ⟨t2 (List.mem_of_getElem? (i := 107) rfl), rfl⟩
def mX3_take : MI := (yX3_take, cX3_take, 2, (some .boolean))
theorem okX3_take : inT (.initialized mX3_take.1.cls) ∧ inT (.code mX3_take.1 mX3_take.2.1 mX3_take.2.2.1 mX3_take.2.2.2) := ⟨⟨t1 (List.mem_of_getElem? (i := 5) rfl), rfl⟩, ⟨t2 (List.mem_of_getElem? (i := 104) rfl), rfl⟩⟩
theorem imX3_take : inT (.instanceMethod mX3_take.1) := ⟨t2 (List.mem_of_getElem? (i := 102) rfl), rfl⟩
theorem seX3_take : inT (.selects mX3_take.1.cls mX3_take.1 mX3_take.1) := ⟨t2 (List.mem_of_getElem? (i := 103) rfl), rfl⟩
def mX3_add : MI := (yX3_add, cX3_add, 5, (some .int))
theorem okX3_add : inT (.initialized mX3_add.1.cls) ∧ inT (.code mX3_add.1 mX3_add.2.1 mX3_add.2.2.1 mX3_add.2.2.2) := ⟨⟨t1 (List.mem_of_getElem? (i := 5) rfl), rfl⟩, ⟨t2 (List.mem_of_getElem? (i := 173) rfl), rfl⟩⟩
theorem imX3_add : inT (.instanceMethod mX3_add.1) := ⟨t2 (List.mem_of_getElem? (i := 171) rfl), rfl⟩
theorem seX3_add : inT (.selects mX3_add.1.cls mX3_add.1 mX3_add.1) := ⟨t2 (List.mem_of_getElem? (i := 172) rfl), rfl⟩
def mX3_takeBack : MI := (yX3_takeBack, cX3_takeBack, 1, (some .int))
theorem okX3_takeBack : inT (.initialized mX3_takeBack.1.cls) ∧ inT (.code mX3_takeBack.1 mX3_takeBack.2.1 mX3_takeBack.2.2.1 mX3_takeBack.2.2.2) := ⟨⟨t1 (List.mem_of_getElem? (i := 5) rfl), rfl⟩, ⟨t3 (List.mem_of_getElem? (i := 39) rfl), rfl⟩⟩
theorem imX3_takeBack : inT (.instanceMethod mX3_takeBack.1) := ⟨t3 (List.mem_of_getElem? (i := 37) rfl), rfl⟩
theorem seX3_takeBack : inT (.selects mX3_takeBack.1.cls mX3_takeBack.1 mX3_takeBack.1) := ⟨t3 (List.mem_of_getElem? (i := 38) rfl), rfl⟩
def mX3_areOf : MI := (yX3_areOf, cX3_areOf, 3, (some .boolean))
theorem okX3_areOf : inT (.initialized mX3_areOf.1.cls) ∧ inT (.code mX3_areOf.1 mX3_areOf.2.1 mX3_areOf.2.2.1 mX3_areOf.2.2.2) := ⟨⟨t1 (List.mem_of_getElem? (i := 5) rfl), rfl⟩, ⟨t2 (List.mem_of_getElem? (i := 72) rfl), rfl⟩⟩
theorem imX3_areOf : inT (.instanceMethod mX3_areOf.1) := ⟨t2 (List.mem_of_getElem? (i := 70) rfl), rfl⟩
theorem seX3_areOf : inT (.selects mX3_areOf.1.cls mX3_areOf.1 mX3_areOf.1) := ⟨t2 (List.mem_of_getElem? (i := 71) rfl), rfl⟩
def mX3_tell : MI := (yX3_tell, cX3_tell, 6, (some .boolean))
theorem okX3_tell : inT (.initialized mX3_tell.1.cls) ∧ inT (.code mX3_tell.1 mX3_tell.2.1 mX3_tell.2.2.1 mX3_tell.2.2.2) := ⟨⟨t1 (List.mem_of_getElem? (i := 5) rfl), rfl⟩, ⟨t2 (List.mem_of_getElem? (i := 156) rfl), rfl⟩⟩
theorem imX3_tell : inT (.instanceMethod mX3_tell.1) := ⟨t2 (List.mem_of_getElem? (i := 154) rfl), rfl⟩
theorem seX3_tell : inT (.selects mX3_tell.1.cls mX3_tell.1 mX3_tell.1) := ⟨t2 (List.mem_of_getElem? (i := 155) rfl), rfl⟩
def mX3_latest : MI := (yX3_latest, cX3_latest, 3, (some .int))
theorem okX3_latest : inT (.initialized mX3_latest.1.cls) ∧ inT (.code mX3_latest.1 mX3_latest.2.1 mX3_latest.2.2.1 mX3_latest.2.2.2) := ⟨⟨t1 (List.mem_of_getElem? (i := 5) rfl), rfl⟩, ⟨t3 (List.mem_of_getElem? (i := 110) rfl), rfl⟩⟩
theorem imX3_latest : inT (.instanceMethod mX3_latest.1) := ⟨t3 (List.mem_of_getElem? (i := 108) rfl), rfl⟩
theorem seX3_latest : inT (.selects mX3_latest.1.cls mX3_latest.1 mX3_latest.1) := ⟨t3 (List.mem_of_getElem? (i := 109) rfl), rfl⟩
def mX4_init : MI := (yX4_init, cX4_init, 2, none)
theorem okX4_init : inT (.initialized mX4_init.1.cls) ∧ inT (.code mX4_init.1 mX4_init.2.1 mX4_init.2.2.1 mX4_init.2.2.2) := ⟨⟨t1 (List.mem_of_getElem? (i := 2) rfl), rfl⟩, ⟨t1 (List.mem_of_getElem? (i := 23) rfl), rfl⟩⟩
theorem imX4_init : inT (.instanceMethod mX4_init.1) := ⟨t1 (List.mem_of_getElem? (i := 22) rfl), rfl⟩
def mX4_placesOf : MI := (yX4_placesOf, cX4_placesOf, 2, (some .int))
theorem okX4_placesOf : inT (.initialized mX4_placesOf.1.cls) ∧ inT (.code mX4_placesOf.1 mX4_placesOf.2.1 mX4_placesOf.2.2.1 mX4_placesOf.2.2.2) := ⟨⟨t1 (List.mem_of_getElem? (i := 2) rfl), rfl⟩, ⟨t1 (List.mem_of_getElem? (i := 226) rfl), rfl⟩⟩
theorem imX4_placesOf : inT (.instanceMethod mX4_placesOf.1) := ⟨t1 (List.mem_of_getElem? (i := 224) rfl), rfl⟩
theorem seX4_placesOf : inT (.selects mX4_placesOf.1.cls mX4_placesOf.1 mX4_placesOf.1) := ⟨t1 (List.mem_of_getElem? (i := 225) rfl), rfl⟩
def mX4_setPlaces : MI := (yX4_setPlaces, cX4_setPlaces, 4, none)
theorem okX4_setPlaces : inT (.initialized mX4_setPlaces.1.cls) ∧ inT (.code mX4_setPlaces.1 mX4_setPlaces.2.1 mX4_setPlaces.2.2.1 mX4_setPlaces.2.2.2) := ⟨⟨t1 (List.mem_of_getElem? (i := 2) rfl), rfl⟩, ⟨t1 (List.mem_of_getElem? (i := 218) rfl), rfl⟩⟩
theorem imX4_setPlaces : inT (.instanceMethod mX4_setPlaces.1) := ⟨t1 (List.mem_of_getElem? (i := 216) rfl), rfl⟩
theorem seX4_setPlaces : inT (.selects mX4_setPlaces.1.cls mX4_setPlaces.1 mX4_setPlaces.1) := ⟨t1 (List.mem_of_getElem? (i := 217) rfl), rfl⟩
def mX4_setPlace : MI := (yX4_setPlace, cX4_setPlace, 4, none)
theorem okX4_setPlace : inT (.initialized mX4_setPlace.1.cls) ∧ inT (.code mX4_setPlace.1 mX4_setPlace.2.1 mX4_setPlace.2.2.1 mX4_setPlace.2.2.2) := ⟨⟨t1 (List.mem_of_getElem? (i := 2) rfl), rfl⟩, ⟨t1 (List.mem_of_getElem? (i := 230) rfl), rfl⟩⟩
theorem imX4_setPlace : inT (.instanceMethod mX4_setPlace.1) := ⟨t1 (List.mem_of_getElem? (i := 228) rfl), rfl⟩
theorem seX4_setPlace : inT (.selects mX4_setPlace.1.cls mX4_setPlace.1 mX4_setPlace.1) := ⟨t1 (List.mem_of_getElem? (i := 229) rfl), rfl⟩
def mX4_setPutCost : MI := (yX4_setPutCost, cX4_setPutCost, 3, none)
theorem okX4_setPutCost : inT (.initialized mX4_setPutCost.1.cls) ∧ inT (.code mX4_setPutCost.1 mX4_setPutCost.2.1 mX4_setPutCost.2.2.1 mX4_setPutCost.2.2.2) := ⟨⟨t1 (List.mem_of_getElem? (i := 2) rfl), rfl⟩, ⟨t1 (List.mem_of_getElem? (i := 238) rfl), rfl⟩⟩
theorem imX4_setPutCost : inT (.instanceMethod mX4_setPutCost.1) := ⟨t1 (List.mem_of_getElem? (i := 236) rfl), rfl⟩
theorem seX4_setPutCost : inT (.selects mX4_setPutCost.1.cls mX4_setPutCost.1 mX4_setPutCost.1) := ⟨t1 (List.mem_of_getElem? (i := 237) rfl), rfl⟩
def mX4_setChangeCost : MI := (yX4_setChangeCost, cX4_setChangeCost, 4, none)
theorem okX4_setChangeCost : inT (.initialized mX4_setChangeCost.1.cls) ∧ inT (.code mX4_setChangeCost.1 mX4_setChangeCost.2.1 mX4_setChangeCost.2.2.1 mX4_setChangeCost.2.2.2) := ⟨⟨t1 (List.mem_of_getElem? (i := 2) rfl), rfl⟩, ⟨t2 (List.mem_of_getElem? (i := 2) rfl), rfl⟩⟩
theorem imX4_setChangeCost : inT (.instanceMethod mX4_setChangeCost.1) := ⟨t2 (List.mem_of_getElem? (i := 0) rfl), rfl⟩
theorem seX4_setChangeCost : inT (.selects mX4_setChangeCost.1.cls mX4_setChangeCost.1 mX4_setChangeCost.1) := ⟨t2 (List.mem_of_getElem? (i := 1) rfl), rfl⟩
def mX4_countOf : MI := (yX4_countOf, cX4_countOf, 2, (some .int))
theorem okX4_countOf : inT (.initialized mX4_countOf.1.cls) ∧ inT (.code mX4_countOf.1 mX4_countOf.2.1 mX4_countOf.2.2.1 mX4_countOf.2.2.2) := ⟨⟨t1 (List.mem_of_getElem? (i := 2) rfl), rfl⟩, ⟨t3 (List.mem_of_getElem? (i := 51) rfl), rfl⟩⟩
theorem imX4_countOf : inT (.instanceMethod mX4_countOf.1) := ⟨t3 (List.mem_of_getElem? (i := 49) rfl), rfl⟩
theorem seX4_countOf : inT (.selects mX4_countOf.1.cls mX4_countOf.1 mX4_countOf.1) := ⟨t3 (List.mem_of_getElem? (i := 50) rfl), rfl⟩
def mX4_at : MI := (yX4_at, cX4_at, 3, (some .int))
theorem okX4_at : inT (.initialized mX4_at.1.cls) ∧ inT (.code mX4_at.1 mX4_at.2.1 mX4_at.2.2.1 mX4_at.2.2.2) := ⟨⟨t1 (List.mem_of_getElem? (i := 2) rfl), rfl⟩, ⟨t3 (List.mem_of_getElem? (i := 59) rfl), rfl⟩⟩
theorem imX4_at : inT (.instanceMethod mX4_at.1) := ⟨t3 (List.mem_of_getElem? (i := 57) rfl), rfl⟩
theorem seX4_at : inT (.selects mX4_at.1.cls mX4_at.1 mX4_at.1) := ⟨t3 (List.mem_of_getElem? (i := 58) rfl), rfl⟩
def mX4_costOf : MI := (yX4_costOf, cX4_costOf, 3, (some .int))
theorem okX4_costOf : inT (.initialized mX4_costOf.1.cls) ∧ inT (.code mX4_costOf.1 mX4_costOf.2.1 mX4_costOf.2.2.1 mX4_costOf.2.2.2) := ⟨⟨t1 (List.mem_of_getElem? (i := 2) rfl), rfl⟩, ⟨t3 (List.mem_of_getElem? (i := 68) rfl), rfl⟩⟩
theorem imX4_costOf : inT (.instanceMethod mX4_costOf.1) := ⟨t3 (List.mem_of_getElem? (i := 66) rfl), rfl⟩
theorem seX4_costOf : inT (.selects mX4_costOf.1.cls mX4_costOf.1 mX4_costOf.1) := ⟨t3 (List.mem_of_getElem? (i := 67) rfl), rfl⟩
def mX4_likeOf : MI := (yX4_likeOf, cX4_likeOf, 6, (some .int))
theorem okX4_likeOf : inT (.initialized mX4_likeOf.1.cls) ∧ inT (.code mX4_likeOf.1 mX4_likeOf.2.1 mX4_likeOf.2.2.1 mX4_likeOf.2.2.2) := ⟨⟨t1 (List.mem_of_getElem? (i := 2) rfl), rfl⟩, ⟨t2 (List.mem_of_getElem? (i := 230) rfl), rfl⟩⟩
theorem imX4_likeOf : inT (.instanceMethod mX4_likeOf.1) := ⟨t2 (List.mem_of_getElem? (i := 228) rfl), rfl⟩
theorem seX4_likeOf : inT (.selects mX4_likeOf.1.cls mX4_likeOf.1 mX4_likeOf.1) := ⟨t2 (List.mem_of_getElem? (i := 229) rfl), rfl⟩
def mX4_spell : MI := (yX4_spell, cX4_spell, 7, (some .int))
theorem okX4_spell : inT (.initialized mX4_spell.1.cls) ∧ inT (.code mX4_spell.1 mX4_spell.2.1 mX4_spell.2.2.1 mX4_spell.2.2.2) := ⟨⟨t1 (List.mem_of_getElem? (i := 2) rfl), rfl⟩, ⟨t2 (List.mem_of_getElem? (i := 234) rfl), rfl⟩⟩
theorem imX4_spell : inT (.instanceMethod mX4_spell.1) := ⟨t2 (List.mem_of_getElem? (i := 233) rfl), rfl⟩
theorem seX4_spell : inT (.selects mX4_spell.1.cls mX4_spell.1 mX4_spell.1) := ⟨t0 (q := (yX4_spell, 7)) (p2 (List.mem_of_getElem? (i := 1) rfl)), rfl⟩
def mX4_heard : MI := (yX4_heard, cX4_heard, 3, (some .int))
theorem okX4_heard : inT (.initialized mX4_heard.1.cls) ∧ inT (.code mX4_heard.1 mX4_heard.2.1 mX4_heard.2.2.1 mX4_heard.2.2.2) := ⟨⟨t1 (List.mem_of_getElem? (i := 2) rfl), rfl⟩, ⟨t2 (List.mem_of_getElem? (i := 238) rfl), rfl⟩⟩
theorem imX4_heard : inT (.instanceMethod mX4_heard.1) := ⟨t2 (List.mem_of_getElem? (i := 237) rfl), rfl⟩
theorem seX4_heard : inT (.selects mX4_heard.1.cls mX4_heard.1 mX4_heard.1) := ⟨t0 (q := (yX4_heard, 7)) (p2 (List.mem_of_getElem? (i := 2) rfl)), rfl⟩
def mX4_leastSum : MI := (yX4_leastSum, cX4_leastSum, 10, (some .int))
theorem okX4_leastSum : inT (.initialized mX4_leastSum.1.cls) ∧ inT (.code mX4_leastSum.1 mX4_leastSum.2.1 mX4_leastSum.2.2.1 mX4_leastSum.2.2.2) := ⟨⟨t1 (List.mem_of_getElem? (i := 2) rfl), rfl⟩, ⟨t3 (List.mem_of_getElem? (i := 3) rfl), rfl⟩⟩
theorem imX4_leastSum : inT (.instanceMethod mX4_leastSum.1) := ⟨t3 (List.mem_of_getElem? (i := 2) rfl), rfl⟩
theorem seX4_leastSum : inT (.selects mX4_leastSum.1.cls mX4_leastSum.1 mX4_leastSum.1) := ⟨t0 (q := (yX4_leastSum, 7)) (p2 (List.mem_of_getElem? (i := 3) rfl)), rfl⟩
def mX5_init : MI := (yX5_init, cX5_init, 1, none)
theorem okX5_init : inT (.initialized mX5_init.1.cls) ∧ inT (.code mX5_init.1 mX5_init.2.1 mX5_init.2.2.1 mX5_init.2.2.2) := ⟨⟨t1 (List.mem_of_getElem? (i := 6) rfl), rfl⟩, ⟨t1 (List.mem_of_getElem? (i := 109) rfl), rfl⟩⟩
theorem imX5_init : inT (.instanceMethod mX5_init.1) := ⟨t1 (List.mem_of_getElem? (i := 108) rfl), rfl⟩
def mX5_read : MI := (yX5_read, cX5_read, 6, none)
theorem okX5_read : inT (.initialized mX5_read.1.cls) ∧ inT (.code mX5_read.1 mX5_read.2.1 mX5_read.2.2.1 mX5_read.2.2.2) := ⟨⟨t1 (List.mem_of_getElem? (i := 6) rfl), rfl⟩, ⟨t2 (List.mem_of_getElem? (i := 112) rfl), rfl⟩⟩
theorem imX5_read : inT (.instanceMethod mX5_read.1) := ⟨t2 (List.mem_of_getElem? (i := 110) rfl), rfl⟩
theorem seX5_read : inT (.selects mX5_read.1.cls mX5_read.1 mX5_read.1) := ⟨t2 (List.mem_of_getElem? (i := 111) rfl), rfl⟩
def mX5_isEntered : MI := (yX5_isEntered, cX5_isEntered, 1, (some .boolean))
theorem okX5_isEntered : inT (.initialized mX5_isEntered.1.cls) ∧ inT (.code mX5_isEntered.1 mX5_isEntered.2.1 mX5_isEntered.2.2.1 mX5_isEntered.2.2.2) := ⟨⟨t1 (List.mem_of_getElem? (i := 6) rfl), rfl⟩, ⟨t2 (List.mem_of_getElem? (i := 148) rfl), rfl⟩⟩
theorem imX5_isEntered : inT (.instanceMethod mX5_isEntered.1) := ⟨t2 (List.mem_of_getElem? (i := 146) rfl), rfl⟩
theorem seX5_isEntered : inT (.selects mX5_isEntered.1.cls mX5_isEntered.1 mX5_isEntered.1) := ⟨t2 (List.mem_of_getElem? (i := 147) rfl), rfl⟩
def mX5_termEnd : MI := (yX5_termEnd, cX5_termEnd, 1, (some .int))
theorem okX5_termEnd : inT (.initialized mX5_termEnd.1.cls) ∧ inT (.code mX5_termEnd.1 mX5_termEnd.2.1 mX5_termEnd.2.2.1 mX5_termEnd.2.2.2) := ⟨⟨t1 (List.mem_of_getElem? (i := 6) rfl), rfl⟩, ⟨t2 (List.mem_of_getElem? (i := 164) rfl), rfl⟩⟩
theorem imX5_termEnd : inT (.instanceMethod mX5_termEnd.1) := ⟨t2 (List.mem_of_getElem? (i := 162) rfl), rfl⟩
theorem seX5_termEnd : inT (.selects mX5_termEnd.1.cls mX5_termEnd.1 mX5_termEnd.1) := ⟨t2 (List.mem_of_getElem? (i := 163) rfl), rfl⟩
def mX5_isLapsed : MI := (yX5_isLapsed, cX5_isLapsed, 1, (some .boolean))
theorem okX5_isLapsed : inT (.initialized mX5_isLapsed.1.cls) ∧ inT (.code mX5_isLapsed.1 mX5_isLapsed.2.1 mX5_isLapsed.2.2.1 mX5_isLapsed.2.2.2) := ⟨⟨t1 (List.mem_of_getElem? (i := 6) rfl), rfl⟩, ⟨t2 (List.mem_of_getElem? (i := 209) rfl), rfl⟩⟩
theorem imX5_isLapsed : inT (.instanceMethod mX5_isLapsed.1) := ⟨t2 (List.mem_of_getElem? (i := 207) rfl), rfl⟩
theorem seX5_isLapsed : inT (.selects mX5_isLapsed.1.cls mX5_isLapsed.1 mX5_isLapsed.1) := ⟨t2 (List.mem_of_getElem? (i := 208) rfl), rfl⟩
def mX5_isTimeToRenew : MI := (yX5_isTimeToRenew, cX5_isTimeToRenew, 1, (some .boolean))
theorem okX5_isTimeToRenew : inT (.initialized mX5_isTimeToRenew.1.cls) ∧ inT (.code mX5_isTimeToRenew.1 mX5_isTimeToRenew.2.1 mX5_isTimeToRenew.2.2.1 mX5_isTimeToRenew.2.2.2) := ⟨⟨t1 (List.mem_of_getElem? (i := 6) rfl), rfl⟩, ⟨t2 (List.mem_of_getElem? (i := 160) rfl), rfl⟩⟩
theorem imX5_isTimeToRenew : inT (.instanceMethod mX5_isTimeToRenew.1) := ⟨t2 (List.mem_of_getElem? (i := 158) rfl), rfl⟩
theorem seX5_isTimeToRenew : inT (.selects mX5_isTimeToRenew.1.cls mX5_isTimeToRenew.1 mX5_isTimeToRenew.1) := ⟨t2 (List.mem_of_getElem? (i := 159) rfl), rfl⟩
def mX5_find : MI := (yX5_find, cX5_find, 3, (some .int))
theorem okX5_find : inT (.initialized mX5_find.1.cls) ∧ inT (.code mX5_find.1 mX5_find.2.1 mX5_find.2.2.1 mX5_find.2.2.2) := ⟨⟨t1 (List.mem_of_getElem? (i := 6) rfl), rfl⟩, ⟨t2 (List.mem_of_getElem? (i := 128) rfl), rfl⟩⟩
theorem imX5_find : inT (.instanceMethod mX5_find.1) := ⟨t2 (List.mem_of_getElem? (i := 126) rfl), rfl⟩
theorem seX5_find : inT (.selects mX5_find.1.cls mX5_find.1 mX5_find.1) := ⟨t2 (List.mem_of_getElem? (i := 127) rfl), rfl⟩
def mX5_keeps : MI := (yX5_keeps, cX5_keeps, 3, (some .boolean))
theorem okX5_keeps : inT (.initialized mX5_keeps.1.cls) ∧ inT (.code mX5_keeps.1 mX5_keeps.2.1 mX5_keeps.2.2.1 mX5_keeps.2.2.2) := ⟨⟨t1 (List.mem_of_getElem? (i := 6) rfl), rfl⟩, ⟨t2 (List.mem_of_getElem? (i := 152) rfl), rfl⟩⟩
theorem imX5_keeps : inT (.instanceMethod mX5_keeps.1) := ⟨t2 (List.mem_of_getElem? (i := 150) rfl), rfl⟩
theorem seX5_keeps : inT (.selects mX5_keeps.1.cls mX5_keeps.1 mX5_keeps.1) := ⟨t2 (List.mem_of_getElem? (i := 151) rfl), rfl⟩
def mX5_sinceAt : MI := (yX5_sinceAt, cX5_sinceAt, 2, (some .int))
theorem okX5_sinceAt : inT (.initialized mX5_sinceAt.1.cls) ∧ inT (.code mX5_sinceAt.1 mX5_sinceAt.2.1 mX5_sinceAt.2.2.1 mX5_sinceAt.2.2.2) := ⟨⟨t1 (List.mem_of_getElem? (i := 6) rfl), rfl⟩, ⟨t3 (List.mem_of_getElem? (i := 76) rfl), rfl⟩⟩
theorem imX5_sinceAt : inT (.instanceMethod mX5_sinceAt.1) := ⟨t3 (List.mem_of_getElem? (i := 74) rfl), rfl⟩
theorem seX5_sinceAt : inT (.selects mX5_sinceAt.1.cls mX5_sinceAt.1 mX5_sinceAt.1) := ⟨t3 (List.mem_of_getElem? (i := 75) rfl), rfl⟩
def mX5_rightAt : MI := (yX5_rightAt, cX5_rightAt, 3, (some .int))
theorem okX5_rightAt : inT (.initialized mX5_rightAt.1.cls) ∧ inT (.code mX5_rightAt.1 mX5_rightAt.2.1 mX5_rightAt.2.2.1 mX5_rightAt.2.2.2) := ⟨⟨t1 (List.mem_of_getElem? (i := 6) rfl), rfl⟩, ⟨t2 (List.mem_of_getElem? (i := 201) rfl), rfl⟩⟩
theorem imX5_rightAt : inT (.instanceMethod mX5_rightAt.1) := ⟨t2 (List.mem_of_getElem? (i := 199) rfl), rfl⟩
theorem seX5_rightAt : inT (.selects mX5_rightAt.1.cls mX5_rightAt.1 mX5_rightAt.1) := ⟨t2 (List.mem_of_getElem? (i := 200) rfl), rfl⟩
def mX5_standsAt : MI := (yX5_standsAt, cX5_standsAt, 3, (some .boolean))
theorem okX5_standsAt : inT (.initialized mX5_standsAt.1.cls) ∧ inT (.code mX5_standsAt.1 mX5_standsAt.2.1 mX5_standsAt.2.2.1 mX5_standsAt.2.2.2) := ⟨⟨t1 (List.mem_of_getElem? (i := 6) rfl), rfl⟩, ⟨t2 (List.mem_of_getElem? (i := 197) rfl), rfl⟩⟩
theorem imX5_standsAt : inT (.instanceMethod mX5_standsAt.1) := ⟨t2 (List.mem_of_getElem? (i := 195) rfl), rfl⟩
theorem seX5_standsAt : inT (.selects mX5_standsAt.1.cls mX5_standsAt.1 mX5_standsAt.1) := ⟨t2 (List.mem_of_getElem? (i := 196) rfl), rfl⟩
def mX5_standsForAny : MI := (yX5_standsForAny, cX5_standsForAny, 2, (some .boolean))
theorem okX5_standsForAny : inT (.initialized mX5_standsForAny.1.cls) ∧ inT (.code mX5_standsForAny.1 mX5_standsForAny.2.1 mX5_standsForAny.2.2.1 mX5_standsForAny.2.2.2) := ⟨⟨t1 (List.mem_of_getElem? (i := 6) rfl), rfl⟩, ⟨t2 (List.mem_of_getElem? (i := 193) rfl), rfl⟩⟩
theorem imX5_standsForAny : inT (.instanceMethod mX5_standsForAny.1) := ⟨t2 (List.mem_of_getElem? (i := 191) rfl), rfl⟩
theorem seX5_standsForAny : inT (.selects mX5_standsForAny.1.cls mX5_standsForAny.1 mX5_standsForAny.1) := ⟨t2 (List.mem_of_getElem? (i := 192) rfl), rfl⟩
def mX5_clear : MI := (yX5_clear, cX5_clear, 2, none)
theorem okX5_clear : inT (.initialized mX5_clear.1.cls) ∧ inT (.code mX5_clear.1 mX5_clear.2.1 mX5_clear.2.2.1 mX5_clear.2.2.2) := ⟨⟨t1 (List.mem_of_getElem? (i := 6) rfl), rfl⟩, ⟨t2 (List.mem_of_getElem? (i := 116) rfl), rfl⟩⟩
theorem imX5_clear : inT (.instanceMethod mX5_clear.1) := ⟨t2 (List.mem_of_getElem? (i := 115) rfl), rfl⟩
theorem seX5_clear : inT (.selects mX5_clear.1.cls mX5_clear.1 mX5_clear.1) := ⟨t0 (q := (yX5_clear, 13)) (p1 (List.mem_of_getElem? (i := 5) rfl)), rfl⟩
def mX5_readPaper : MI := (yX5_readPaper, cX5_readPaper, 5, none)
theorem okX5_readPaper : inT (.initialized mX5_readPaper.1.cls) ∧ inT (.code mX5_readPaper.1 mX5_readPaper.2.1 mX5_readPaper.2.2.1 mX5_readPaper.2.2.2) := ⟨⟨t1 (List.mem_of_getElem? (i := 6) rfl), rfl⟩, ⟨t2 (List.mem_of_getElem? (i := 120) rfl), rfl⟩⟩
theorem imX5_readPaper : inT (.instanceMethod mX5_readPaper.1) := ⟨t2 (List.mem_of_getElem? (i := 119) rfl), rfl⟩
theorem seX5_readPaper : inT (.selects mX5_readPaper.1.cls mX5_readPaper.1 mX5_readPaper.1) := ⟨t0 (q := (yX5_readPaper, 13)) (p1 (List.mem_of_getElem? (i := 6) rfl)), rfl⟩
def mX5_readEnter : MI := (yX5_readEnter, cX5_readEnter, 4, none)
theorem okX5_readEnter : inT (.initialized mX5_readEnter.1.cls) ∧ inT (.code mX5_readEnter.1 mX5_readEnter.2.1 mX5_readEnter.2.2.1 mX5_readEnter.2.2.2) := ⟨⟨t1 (List.mem_of_getElem? (i := 6) rfl), rfl⟩, ⟨t2 (List.mem_of_getElem? (i := 132) rfl), rfl⟩⟩
theorem imX5_readEnter : inT (.instanceMethod mX5_readEnter.1) := ⟨t2 (List.mem_of_getElem? (i := 131) rfl), rfl⟩
theorem seX5_readEnter : inT (.selects mX5_readEnter.1.cls mX5_readEnter.1 mX5_readEnter.1) := ⟨t0 (q := (yX5_readEnter, 13)) (p1 (List.mem_of_getElem? (i := 8) rfl)), rfl⟩
def mX5_readGoods : MI := (yX5_readGoods, cX5_readGoods, 4, none)
theorem okX5_readGoods : inT (.initialized mX5_readGoods.1.cls) ∧ inT (.code mX5_readGoods.1 mX5_readGoods.2.1 mX5_readGoods.2.2.1 mX5_readGoods.2.2.2) := ⟨⟨t1 (List.mem_of_getElem? (i := 6) rfl), rfl⟩, ⟨t2 (List.mem_of_getElem? (i := 124) rfl), rfl⟩⟩
theorem imX5_readGoods : inT (.instanceMethod mX5_readGoods.1) := ⟨t2 (List.mem_of_getElem? (i := 123) rfl), rfl⟩
theorem seX5_readGoods : inT (.selects mX5_readGoods.1.cls mX5_readGoods.1 mX5_readGoods.1) := ⟨t0 (q := (yX5_readGoods, 13)) (p1 (List.mem_of_getElem? (i := 7) rfl)), rfl⟩
def mX5_readGive : MI := (yX5_readGive, cX5_readGive, 4, none)
theorem okX5_readGive : inT (.initialized mX5_readGive.1.cls) ∧ inT (.code mX5_readGive.1 mX5_readGive.2.1 mX5_readGive.2.2.1 mX5_readGive.2.2.2) := ⟨⟨t1 (List.mem_of_getElem? (i := 6) rfl), rfl⟩, ⟨t2 (List.mem_of_getElem? (i := 136) rfl), rfl⟩⟩
theorem imX5_readGive : inT (.instanceMethod mX5_readGive.1) := ⟨t2 (List.mem_of_getElem? (i := 135) rfl), rfl⟩
theorem seX5_readGive : inT (.selects mX5_readGive.1.cls mX5_readGive.1 mX5_readGive.1) := ⟨t0 (q := (yX5_readGive, 13)) (p1 (List.mem_of_getElem? (i := 9) rfl)), rfl⟩
def mX5_readUse : MI := (yX5_readUse, cX5_readUse, 4, none)
theorem okX5_readUse : inT (.initialized mX5_readUse.1.cls) ∧ inT (.code mX5_readUse.1 mX5_readUse.2.1 mX5_readUse.2.2.1 mX5_readUse.2.2.2) := ⟨⟨t1 (List.mem_of_getElem? (i := 6) rfl), rfl⟩, ⟨t2 (List.mem_of_getElem? (i := 140) rfl), rfl⟩⟩
theorem imX5_readUse : inT (.instanceMethod mX5_readUse.1) := ⟨t2 (List.mem_of_getElem? (i := 139) rfl), rfl⟩
theorem seX5_readUse : inT (.selects mX5_readUse.1.cls mX5_readUse.1 mX5_readUse.1) := ⟨t0 (q := (yX5_readUse, 13)) (p1 (List.mem_of_getElem? (i := 10) rfl)), rfl⟩
def mX6_init : MI := (yX6_init, cX6_init, 1, none)
theorem okX6_init : inT (.initialized mX6_init.1.cls) ∧ inT (.code mX6_init.1 mX6_init.2.1 mX6_init.2.2.1 mX6_init.2.2.2) := ⟨⟨t1 (List.mem_of_getElem? (i := 1) rfl), rfl⟩, ⟨t1 (List.mem_of_getElem? (i := 15) rfl), rfl⟩⟩
theorem imX6_init : inT (.instanceMethod mX6_init.1) := ⟨t1 (List.mem_of_getElem? (i := 14) rfl), rfl⟩
def mX6_row : MI := (yX6_row, cX6_row, 3, (some .boolean))
theorem okX6_row : inT (.initialized mX6_row.1.cls) ∧ inT (.code mX6_row.1 mX6_row.2.1 mX6_row.2.2.1 mX6_row.2.2.2) := ⟨⟨t1 (List.mem_of_getElem? (i := 1) rfl), rfl⟩, ⟨t1 (List.mem_of_getElem? (i := 211) rfl), rfl⟩⟩
theorem imX6_row : inT (.instanceMethod mX6_row.1) := ⟨t1 (List.mem_of_getElem? (i := 209) rfl), rfl⟩
theorem seX6_row : inT (.selects mX6_row.1.cls mX6_row.1 mX6_row.1) := ⟨t1 (List.mem_of_getElem? (i := 210) rfl), rfl⟩
def mX6_sound : MI := (yX6_sound, cX6_sound, 4, (some .boolean))
theorem okX6_sound : inT (.initialized mX6_sound.1.cls) ∧ inT (.code mX6_sound.1 mX6_sound.2.1 mX6_sound.2.2.1 mX6_sound.2.2.2) := ⟨⟨t1 (List.mem_of_getElem? (i := 1) rfl), rfl⟩, ⟨t1 (List.mem_of_getElem? (i := 222) rfl), rfl⟩⟩
theorem imX6_sound : inT (.instanceMethod mX6_sound.1) := ⟨t1 (List.mem_of_getElem? (i := 220) rfl), rfl⟩
theorem seX6_sound : inT (.selects mX6_sound.1.cls mX6_sound.1 mX6_sound.1) := ⟨t1 (List.mem_of_getElem? (i := 221) rfl), rfl⟩
def mX6_cost : MI := (yX6_cost, cX6_cost, 4, (some .boolean))
theorem okX6_cost : inT (.initialized mX6_cost.1.cls) ∧ inT (.code mX6_cost.1 mX6_cost.2.1 mX6_cost.2.2.1 mX6_cost.2.2.2) := ⟨⟨t1 (List.mem_of_getElem? (i := 1) rfl), rfl⟩, ⟨t1 (List.mem_of_getElem? (i := 234) rfl), rfl⟩⟩
theorem imX6_cost : inT (.instanceMethod mX6_cost.1) := ⟨t1 (List.mem_of_getElem? (i := 232) rfl), rfl⟩
theorem seX6_cost : inT (.selects mX6_cost.1.cls mX6_cost.1 mX6_cost.1) := ⟨t1 (List.mem_of_getElem? (i := 233) rfl), rfl⟩
def mX6_near : MI := (yX6_near, cX6_near, 4, (some .boolean))
theorem okX6_near : inT (.initialized mX6_near.1.cls) ∧ inT (.code mX6_near.1 mX6_near.2.1 mX6_near.2.2.1 mX6_near.2.2.2) := ⟨⟨t1 (List.mem_of_getElem? (i := 1) rfl), rfl⟩, ⟨t2 (List.mem_of_getElem? (i := 6) rfl), rfl⟩⟩
theorem imX6_near : inT (.instanceMethod mX6_near.1) := ⟨t2 (List.mem_of_getElem? (i := 4) rfl), rfl⟩
theorem seX6_near : inT (.selects mX6_near.1.cls mX6_near.1 mX6_near.1) := ⟨t2 (List.mem_of_getElem? (i := 5) rfl), rfl⟩
def mX6_levels : MI := (yX6_levels, cX6_levels, 3, (some .boolean))
theorem okX6_levels : inT (.initialized mX6_levels.1.cls) ∧ inT (.code mX6_levels.1 mX6_levels.2.1 mX6_levels.2.2.1 mX6_levels.2.2.2) := ⟨⟨t1 (List.mem_of_getElem? (i := 1) rfl), rfl⟩, ⟨t2 (List.mem_of_getElem? (i := 26) rfl), rfl⟩⟩
theorem imX6_levels : inT (.instanceMethod mX6_levels.1) := ⟨t2 (List.mem_of_getElem? (i := 24) rfl), rfl⟩
theorem seX6_levels : inT (.selects mX6_levels.1.cls mX6_levels.1 mX6_levels.1) := ⟨t2 (List.mem_of_getElem? (i := 25) rfl), rfl⟩
def mX6_mark : MI := (yX6_mark, cX6_mark, 3, (some .int))
theorem okX6_mark : inT (.initialized mX6_mark.1.cls) ∧ inT (.code mX6_mark.1 mX6_mark.2.1 mX6_mark.2.2.1 mX6_mark.2.2.2) := ⟨⟨t1 (List.mem_of_getElem? (i := 1) rfl), rfl⟩, ⟨t2 (List.mem_of_getElem? (i := 30) rfl), rfl⟩⟩
theorem imX6_mark : inT (.instanceMethod mX6_mark.1) := ⟨t2 (List.mem_of_getElem? (i := 28) rfl), rfl⟩
theorem seX6_mark : inT (.selects mX6_mark.1.cls mX6_mark.1 mX6_mark.1) := ⟨t2 (List.mem_of_getElem? (i := 29) rfl), rfl⟩
def mX6_letter : MI := (yX6_letter, cX6_letter, 4, (some .int))
theorem okX6_letter : inT (.initialized mX6_letter.1.cls) ∧ inT (.code mX6_letter.1 mX6_letter.2.1 mX6_letter.2.2.1 mX6_letter.2.2.2) := ⟨⟨t1 (List.mem_of_getElem? (i := 1) rfl), rfl⟩, ⟨t2 (List.mem_of_getElem? (i := 64) rfl), rfl⟩⟩
theorem imX6_letter : inT (.instanceMethod mX6_letter.1) := ⟨t2 (List.mem_of_getElem? (i := 62) rfl), rfl⟩
theorem seX6_letter : inT (.selects mX6_letter.1.cls mX6_letter.1 mX6_letter.1) := ⟨t2 (List.mem_of_getElem? (i := 63) rfl), rfl⟩
def mX6_code : MI := (yX6_code, cX6_code, 4, (some .int))
theorem okX6_code : inT (.initialized mX6_code.1.cls) ∧ inT (.code mX6_code.1 mX6_code.2.1 mX6_code.2.2.1 mX6_code.2.2.2) := ⟨⟨t1 (List.mem_of_getElem? (i := 1) rfl), rfl⟩, ⟨t2 (List.mem_of_getElem? (i := 80) rfl), rfl⟩⟩
theorem imX6_code : inT (.instanceMethod mX6_code.1) := ⟨t2 (List.mem_of_getElem? (i := 78) rfl), rfl⟩
theorem seX6_code : inT (.selects mX6_code.1.cls mX6_code.1 mX6_code.1) := ⟨t2 (List.mem_of_getElem? (i := 79) rfl), rfl⟩
def mX6_paper : MI := (yX6_paper, cX6_paper, 6, (some .int))
theorem okX6_paper : inT (.initialized mX6_paper.1.cls) ∧ inT (.code mX6_paper.1 mX6_paper.2.1 mX6_paper.2.2.1 mX6_paper.2.2.2) := ⟨⟨t1 (List.mem_of_getElem? (i := 1) rfl), rfl⟩, ⟨t2 (List.mem_of_getElem? (i := 93) rfl), rfl⟩⟩
theorem imX6_paper : inT (.instanceMethod mX6_paper.1) := ⟨t2 (List.mem_of_getElem? (i := 91) rfl), rfl⟩
theorem seX6_paper : inT (.selects mX6_paper.1.cls mX6_paper.1 mX6_paper.1) := ⟨t2 (List.mem_of_getElem? (i := 92) rfl), rfl⟩
def mX6_oppose : MI := (yX6_oppose, cX6_oppose, 5, (some .int))
theorem okX6_oppose : inT (.initialized mX6_oppose.1.cls) ∧ inT (.code mX6_oppose.1 mX6_oppose.2.1 mX6_oppose.2.2.1 mX6_oppose.2.2.2) := ⟨⟨t1 (List.mem_of_getElem? (i := 1) rfl), rfl⟩, ⟨t2 (List.mem_of_getElem? (i := 177) rfl), rfl⟩⟩
theorem imX6_oppose : inT (.instanceMethod mX6_oppose.1) := ⟨t2 (List.mem_of_getElem? (i := 175) rfl), rfl⟩
theorem seX6_oppose : inT (.selects mX6_oppose.1.cls mX6_oppose.1 mX6_oppose.1) := ⟨t2 (List.mem_of_getElem? (i := 176) rfl), rfl⟩
def mX6_undo : MI := (yX6_undo, cX6_undo, 1, (some .int))
theorem okX6_undo : inT (.initialized mX6_undo.1.cls) ∧ inT (.code mX6_undo.1 mX6_undo.2.1 mX6_undo.2.2.1 mX6_undo.2.2.2) := ⟨⟨t1 (List.mem_of_getElem? (i := 1) rfl), rfl⟩, ⟨t3 (List.mem_of_getElem? (i := 35) rfl), rfl⟩⟩
theorem imX6_undo : inT (.instanceMethod mX6_undo.1) := ⟨t3 (List.mem_of_getElem? (i := 33) rfl), rfl⟩
theorem seX6_undo : inT (.selects mX6_undo.1.cls mX6_undo.1 mX6_undo.1) := ⟨t3 (List.mem_of_getElem? (i := 34) rfl), rfl⟩
def mX6_paperOf : MI := (yX6_paperOf, cX6_paperOf, 3, (some .int))
theorem okX6_paperOf : inT (.initialized mX6_paperOf.1.cls) ∧ inT (.code mX6_paperOf.1 mX6_paperOf.2.1 mX6_paperOf.2.2.1 mX6_paperOf.2.2.2) := ⟨⟨t1 (List.mem_of_getElem? (i := 1) rfl), rfl⟩, ⟨t3 (List.mem_of_getElem? (i := 43) rfl), rfl⟩⟩
theorem imX6_paperOf : inT (.instanceMethod mX6_paperOf.1) := ⟨t3 (List.mem_of_getElem? (i := 41) rfl), rfl⟩
theorem seX6_paperOf : inT (.selects mX6_paperOf.1.cls mX6_paperOf.1 mX6_paperOf.1) := ⟨t3 (List.mem_of_getElem? (i := 42) rfl), rfl⟩
def mX6_markOf : MI := (yX6_markOf, cX6_markOf, 4, (some .int))
theorem okX6_markOf : inT (.initialized mX6_markOf.1.cls) ∧ inT (.code mX6_markOf.1 mX6_markOf.2.1 mX6_markOf.2.2.1 mX6_markOf.2.2.2) := ⟨⟨t1 (List.mem_of_getElem? (i := 1) rfl), rfl⟩, ⟨t3 (List.mem_of_getElem? (i := 47) rfl), rfl⟩⟩
theorem imX6_markOf : inT (.instanceMethod mX6_markOf.1) := ⟨t3 (List.mem_of_getElem? (i := 45) rfl), rfl⟩
theorem seX6_markOf : inT (.selects mX6_markOf.1.cls mX6_markOf.1 mX6_markOf.1) := ⟨t3 (List.mem_of_getElem? (i := 46) rfl), rfl⟩
def mX6_soundOf : MI := (yX6_soundOf, cX6_soundOf, 4, (some .int))
theorem okX6_soundOf : inT (.initialized mX6_soundOf.1.cls) ∧ inT (.code mX6_soundOf.1 mX6_soundOf.2.1 mX6_soundOf.2.2.1 mX6_soundOf.2.2.2) := ⟨⟨t1 (List.mem_of_getElem? (i := 1) rfl), rfl⟩, ⟨t3 (List.mem_of_getElem? (i := 55) rfl), rfl⟩⟩
theorem imX6_soundOf : inT (.instanceMethod mX6_soundOf.1) := ⟨t3 (List.mem_of_getElem? (i := 53) rfl), rfl⟩
theorem seX6_soundOf : inT (.selects mX6_soundOf.1.cls mX6_soundOf.1 mX6_soundOf.1) := ⟨t3 (List.mem_of_getElem? (i := 54) rfl), rfl⟩
def mX6_like : MI := (yX6_like, cX6_like, 6, (some .int))
theorem okX6_like : inT (.initialized mX6_like.1.cls) ∧ inT (.code mX6_like.1 mX6_like.2.1 mX6_like.2.2.1 mX6_like.2.2.2) := ⟨⟨t1 (List.mem_of_getElem? (i := 1) rfl), rfl⟩, ⟨t3 (List.mem_of_getElem? (i := 64) rfl), rfl⟩⟩
theorem imX6_like : inT (.instanceMethod mX6_like.1) := ⟨t3 (List.mem_of_getElem? (i := 62) rfl), rfl⟩
theorem seX6_like : inT (.selects mX6_like.1.cls mX6_like.1 mX6_like.1) := ⟨t3 (List.mem_of_getElem? (i := 63) rfl), rfl⟩
def mX6_right : MI := (yX6_right, cX6_right, 7, (some .int))
theorem okX6_right : inT (.initialized mX6_right.1.cls) ∧ inT (.code mX6_right.1 mX6_right.2.1 mX6_right.2.2.1 mX6_right.2.2.2) := ⟨⟨t1 (List.mem_of_getElem? (i := 1) rfl), rfl⟩, ⟨t3 (List.mem_of_getElem? (i := 72) rfl), rfl⟩⟩
theorem imX6_right : inT (.instanceMethod mX6_right.1) := ⟨t3 (List.mem_of_getElem? (i := 70) rfl), rfl⟩
theorem seX6_right : inT (.selects mX6_right.1.cls mX6_right.1 mX6_right.1) := ⟨t3 (List.mem_of_getElem? (i := 71) rfl), rfl⟩
def mX6_state : MI := (yX6_state, cX6_state, 4, (some .int))
theorem okX6_state : inT (.initialized mX6_state.1.cls) ∧ inT (.code mX6_state.1 mX6_state.2.1 mX6_state.2.2.1 mX6_state.2.2.2) := ⟨⟨t1 (List.mem_of_getElem? (i := 1) rfl), rfl⟩, ⟨t3 (List.mem_of_getElem? (i := 80) rfl), rfl⟩⟩
theorem imX6_state : inT (.instanceMethod mX6_state.1) := ⟨t3 (List.mem_of_getElem? (i := 78) rfl), rfl⟩
theorem seX6_state : inT (.selects mX6_state.1.cls mX6_state.1 mX6_state.1) := ⟨t3 (List.mem_of_getElem? (i := 79) rfl), rfl⟩
def mX6_clash : MI := (yX6_clash, cX6_clash, 5, (some .int))
theorem okX6_clash : inT (.initialized mX6_clash.1.cls) ∧ inT (.code mX6_clash.1 mX6_clash.2.1 mX6_clash.2.2.1 mX6_clash.2.2.2) := ⟨⟨t1 (List.mem_of_getElem? (i := 1) rfl), rfl⟩, ⟨t3 (List.mem_of_getElem? (i := 86) rfl), rfl⟩⟩
theorem imX6_clash : inT (.instanceMethod mX6_clash.1) := ⟨t3 (List.mem_of_getElem? (i := 84) rfl), rfl⟩
theorem seX6_clash : inT (.selects mX6_clash.1.cls mX6_clash.1 mX6_clash.1) := ⟨t3 (List.mem_of_getElem? (i := 85) rfl), rfl⟩
def mX6_first : MI := (yX6_first, cX6_first, 7, (some .int))
theorem okX6_first : inT (.initialized mX6_first.1.cls) ∧ inT (.code mX6_first.1 mX6_first.2.1 mX6_first.2.2.1 mX6_first.2.2.2) := ⟨⟨t1 (List.mem_of_getElem? (i := 1) rfl), rfl⟩, ⟨t3 (List.mem_of_getElem? (i := 90) rfl), rfl⟩⟩
theorem imX6_first : inT (.instanceMethod mX6_first.1) := ⟨t3 (List.mem_of_getElem? (i := 88) rfl), rfl⟩
theorem seX6_first : inT (.selects mX6_first.1.cls mX6_first.1 mX6_first.1) := ⟨t3 (List.mem_of_getElem? (i := 89) rfl), rfl⟩
def mX6_may : MI := (yX6_may, cX6_may, 12, (some .int))
theorem okX6_may : inT (.initialized mX6_may.1.cls) ∧ inT (.code mX6_may.1 mX6_may.2.1 mX6_may.2.2.1 mX6_may.2.2.2) := ⟨⟨t1 (List.mem_of_getElem? (i := 1) rfl), rfl⟩, ⟨t3 (List.mem_of_getElem? (i := 94) rfl), rfl⟩⟩
theorem imX6_may : inT (.instanceMethod mX6_may.1) := ⟨t3 (List.mem_of_getElem? (i := 92) rfl), rfl⟩
theorem seX6_may : inT (.selects mX6_may.1.cls mX6_may.1 mX6_may.1) := ⟨t3 (List.mem_of_getElem? (i := 93) rfl), rfl⟩
def mX6_watch : MI := (yX6_watch, cX6_watch, 8, (some .int))
theorem okX6_watch : inT (.initialized mX6_watch.1.cls) ∧ inT (.code mX6_watch.1 mX6_watch.2.1 mX6_watch.2.2.1 mX6_watch.2.2.2) := ⟨⟨t1 (List.mem_of_getElem? (i := 1) rfl), rfl⟩, ⟨t3 (List.mem_of_getElem? (i := 106) rfl), rfl⟩⟩
theorem imX6_watch : inT (.instanceMethod mX6_watch.1) := ⟨t3 (List.mem_of_getElem? (i := 104) rfl), rfl⟩
theorem seX6_watch : inT (.selects mX6_watch.1.cls mX6_watch.1 mX6_watch.1) := ⟨t3 (List.mem_of_getElem? (i := 105) rfl), rfl⟩
def mX6_about : MI := (yX6_about, cX6_about, 2, (some .int))
theorem okX6_about : inT (.initialized mX6_about.1.cls) ∧ inT (.code mX6_about.1 mX6_about.2.1 mX6_about.2.2.1 mX6_about.2.2.2) := ⟨⟨t1 (List.mem_of_getElem? (i := 1) rfl), rfl⟩, ⟨t3 (List.mem_of_getElem? (i := 118) rfl), rfl⟩⟩
theorem imX6_about : inT (.instanceMethod mX6_about.1) := ⟨t3 (List.mem_of_getElem? (i := 116) rfl), rfl⟩
theorem seX6_about : inT (.selects mX6_about.1.cls mX6_about.1 mX6_about.1) := ⟨t3 (List.mem_of_getElem? (i := 117) rfl), rfl⟩
def mX6_below : MI := (yX6_below, cX6_below, 2, (some .boolean))
theorem okX6_below : inT (.initialized mX6_below.1.cls) ∧ inT (.code mX6_below.1 mX6_below.2.1 mX6_below.2.2.1 mX6_below.2.2.2) := ⟨⟨t1 (List.mem_of_getElem? (i := 1) rfl), rfl⟩, ⟨t1 (List.mem_of_getElem? (i := 214) rfl), rfl⟩⟩
theorem stX6_below : inT (.static mX6_below.1) := ⟨t1 (List.mem_of_getElem? (i := 213) rfl), rfl⟩
def mX6_isDay : MI := (yX6_isDay, cX6_isDay, 1, (some .boolean))
theorem okX6_isDay : inT (.initialized mX6_isDay.1.cls) ∧ inT (.code mX6_isDay.1 mX6_isDay.2.1 mX6_isDay.2.2.1 mX6_isDay.2.2.2) := ⟨⟨t1 (List.mem_of_getElem? (i := 1) rfl), rfl⟩, ⟨t2 (List.mem_of_getElem? (i := 99) rfl), rfl⟩⟩
theorem stX6_isDay : inT (.static mX6_isDay.1) := ⟨t2 (List.mem_of_getElem? (i := 98) rfl), rfl⟩
def mX6_markAt : MI := (yX6_markAt, cX6_markAt, 2, (some (.object "MarksRegister$Mark")))
theorem okX6_markAt : inT (.initialized mX6_markAt.1.cls) ∧ inT (.code mX6_markAt.1 mX6_markAt.2.1 mX6_markAt.2.2.1 mX6_markAt.2.2.2) := ⟨⟨t1 (List.mem_of_getElem? (i := 1) rfl), rfl⟩, ⟨t2 (List.mem_of_getElem? (i := 68) rfl), rfl⟩⟩
theorem imX6_markAt : inT (.instanceMethod mX6_markAt.1) := ⟨t2 (List.mem_of_getElem? (i := 67) rfl), rfl⟩
theorem seX6_markAt : inT (.selects mX6_markAt.1.cls mX6_markAt.1 mX6_markAt.1) := ⟨t0 (q := (yX6_markAt, 11)) (p1 (List.mem_of_getElem? (i := 3) rfl)), rfl⟩
def mX6_boundOfX : MI := (yX6_boundOfX, cX6_boundOfX, 1, (some .int))
theorem okX6_boundOfX : inT (.initialized mX6_boundOfX.1.cls) ∧ inT (.code mX6_boundOfX.1 mX6_boundOfX.2.1 mX6_boundOfX.2.2.1 mX6_boundOfX.2.2.2) := ⟨⟨t1 (List.mem_of_getElem? (i := 1) rfl), rfl⟩, ⟨t2 (List.mem_of_getElem? (i := 96) rfl), rfl⟩⟩
theorem stX6_boundOfX : inT (.static mX6_boundOfX.1) := ⟨t2 (List.mem_of_getElem? (i := 95) rfl), rfl⟩
def mX6_canBe : MI := (yX6_canBe, cX6_canBe, 5, (some .boolean))
theorem okX6_canBe : inT (.initialized mX6_canBe.1.cls) ∧ inT (.code mX6_canBe.1 mX6_canBe.2.1 mX6_canBe.2.2.1 mX6_canBe.2.2.2) := ⟨⟨t1 (List.mem_of_getElem? (i := 1) rfl), rfl⟩, ⟨t2 (List.mem_of_getElem? (i := 144) rfl), rfl⟩⟩
theorem imX6_canBe : inT (.instanceMethod mX6_canBe.1) := ⟨t2 (List.mem_of_getElem? (i := 143) rfl), rfl⟩
theorem seX6_canBe : inT (.selects mX6_canBe.1.cls mX6_canBe.1 mX6_canBe.1) := ⟨t0 (q := (yX6_canBe, 11)) (p1 (List.mem_of_getElem? (i := 11) rfl)), rfl⟩
def mX6_isOfKind : MI := (yX6_isOfKind, cX6_isOfKind, 4, (some .boolean))
theorem okX6_isOfKind : inT (.initialized mX6_isOfKind.1.cls) ∧ inT (.code mX6_isOfKind.1 mX6_isOfKind.2.1 mX6_isOfKind.2.2.1 mX6_isOfKind.2.2.2) := ⟨⟨t1 (List.mem_of_getElem? (i := 1) rfl), rfl⟩, ⟨t2 (List.mem_of_getElem? (i := 169) rfl), rfl⟩⟩
theorem imX6_isOfKind : inT (.instanceMethod mX6_isOfKind.1) := ⟨t2 (List.mem_of_getElem? (i := 168) rfl), rfl⟩
theorem seX6_isOfKind : inT (.selects mX6_isOfKind.1.cls mX6_isOfKind.1 mX6_isOfKind.1) := ⟨t0 (q := (yX6_isOfKind, 11)) (p1 (List.mem_of_getElem? (i := 12) rfl)), rfl⟩
def mX6_haveOneOwner : MI := (yX6_haveOneOwner, cX6_haveOneOwner, 5, (some .boolean))
theorem okX6_haveOneOwner : inT (.initialized mX6_haveOneOwner.1.cls) ∧ inT (.code mX6_haveOneOwner.1 mX6_haveOneOwner.2.1 mX6_haveOneOwner.2.2.1 mX6_haveOneOwner.2.2.2) := ⟨⟨t1 (List.mem_of_getElem? (i := 1) rfl), rfl⟩, ⟨t2 (List.mem_of_getElem? (i := 189) rfl), rfl⟩⟩
theorem imX6_haveOneOwner : inT (.instanceMethod mX6_haveOneOwner.1) := ⟨t2 (List.mem_of_getElem? (i := 188) rfl), rfl⟩
theorem seX6_haveOneOwner : inT (.selects mX6_haveOneOwner.1.cls mX6_haveOneOwner.1 mX6_haveOneOwner.1) := ⟨t0 (q := (yX6_haveOneOwner, 11)) (p1 (List.mem_of_getElem? (i := 14) rfl)), rfl⟩
def mX6_likeOf : MI := (yX6_likeOf, cX6_likeOf, 5, (some .int))
theorem okX6_likeOf : inT (.initialized mX6_likeOf.1.cls) ∧ inT (.code mX6_likeOf.1 mX6_likeOf.2.1 mX6_likeOf.2.2.1 mX6_likeOf.2.2.2) := ⟨⟨t1 (List.mem_of_getElem? (i := 1) rfl), rfl⟩, ⟨t2 (List.mem_of_getElem? (i := 217) rfl), rfl⟩⟩
theorem imX6_likeOf : inT (.instanceMethod mX6_likeOf.1) := ⟨t2 (List.mem_of_getElem? (i := 216) rfl), rfl⟩
theorem seX6_likeOf : inT (.selects mX6_likeOf.1.cls mX6_likeOf.1 mX6_likeOf.1) := ⟨t0 (q := (yX6_likeOf, 11)) (p2 (List.mem_of_getElem? (i := 0) rfl)), rfl⟩
def mX6_areAlike : MI := (yX6_areAlike, cX6_areAlike, 5, (some .boolean))
theorem okX6_areAlike : inT (.initialized mX6_areAlike.1.cls) ∧ inT (.code mX6_areAlike.1 mX6_areAlike.2.1 mX6_areAlike.2.2.1 mX6_areAlike.2.2.2) := ⟨⟨t1 (List.mem_of_getElem? (i := 1) rfl), rfl⟩, ⟨t2 (List.mem_of_getElem? (i := 213) rfl), rfl⟩⟩
theorem imX6_areAlike : inT (.instanceMethod mX6_areAlike.1) := ⟨t2 (List.mem_of_getElem? (i := 212) rfl), rfl⟩
theorem seX6_areAlike : inT (.selects mX6_areAlike.1.cls mX6_areAlike.1 mX6_areAlike.1) := ⟨t0 (q := (yX6_areAlike, 11)) (p1 (List.mem_of_getElem? (i := 15) rfl)), rfl⟩
def mX6_isNear : MI := (yX6_isNear, cX6_isNear, 3, (some .boolean))
theorem okX6_isNear : inT (.initialized mX6_isNear.1.cls) ∧ inT (.code mX6_isNear.1 mX6_isNear.2.1 mX6_isNear.2.2.1 mX6_isNear.2.2.2) := ⟨⟨t1 (List.mem_of_getElem? (i := 1) rfl), rfl⟩, ⟨t3 (List.mem_of_getElem? (i := 17) rfl), rfl⟩⟩
theorem imX6_isNear : inT (.instanceMethod mX6_isNear.1) := ⟨t3 (List.mem_of_getElem? (i := 16) rfl), rfl⟩
theorem seX6_isNear : inT (.selects mX6_isNear.1.cls mX6_isNear.1 mX6_isNear.1) := ⟨t0 (q := (yX6_isNear, 11)) (p2 (List.mem_of_getElem? (i := 5) rfl)), rfl⟩
def mX6_earliestNear : MI := (yX6_earliestNear, cX6_earliestNear, 5, (some .int))
theorem okX6_earliestNear : inT (.initialized mX6_earliestNear.1.cls) ∧ inT (.code mX6_earliestNear.1 mX6_earliestNear.2.1 mX6_earliestNear.2.2.1 mX6_earliestNear.2.2.2) := ⟨⟨t1 (List.mem_of_getElem? (i := 1) rfl), rfl⟩, ⟨t3 (List.mem_of_getElem? (i := 98) rfl), rfl⟩⟩
theorem imX6_earliestNear : inT (.instanceMethod mX6_earliestNear.1) := ⟨t3 (List.mem_of_getElem? (i := 97) rfl), rfl⟩
theorem seX6_earliestNear : inT (.selects mX6_earliestNear.1.cls mX6_earliestNear.1 mX6_earliestNear.1) := ⟨t0 (q := (yX6_earliestNear, 11)) (p2 (List.mem_of_getElem? (i := 6) rfl)), rfl⟩
def mX6_standsNearYounger : MI := (yX6_standsNearYounger, cX6_standsNearYounger, 2, (some .boolean))
theorem okX6_standsNearYounger : inT (.initialized mX6_standsNearYounger.1.cls) ∧ inT (.code mX6_standsNearYounger.1 mX6_standsNearYounger.2.1 mX6_standsNearYounger.2.2.1 mX6_standsNearYounger.2.2.2) := ⟨⟨t1 (List.mem_of_getElem? (i := 1) rfl), rfl⟩, ⟨t3 (List.mem_of_getElem? (i := 114) rfl), rfl⟩⟩
theorem imX6_standsNearYounger : inT (.instanceMethod mX6_standsNearYounger.1) := ⟨t3 (List.mem_of_getElem? (i := 113) rfl), rfl⟩
theorem seX6_standsNearYounger : inT (.selects mX6_standsNearYounger.1.cls mX6_standsNearYounger.1 mX6_standsNearYounger.1) := ⟨t0 (q := (yX6_standsNearYounger, 11)) (p2 (List.mem_of_getElem? (i := 8) rfl)), rfl⟩
def mX6_claimOf : MI := (yX6_claimOf, cX6_claimOf, 5, (some .int))
theorem okX6_claimOf : inT (.initialized mX6_claimOf.1.cls) ∧ inT (.code mX6_claimOf.1 mX6_claimOf.2.1 mX6_claimOf.2.2.1 mX6_claimOf.2.2.2) := ⟨⟨t1 (List.mem_of_getElem? (i := 1) rfl), rfl⟩, ⟨t3 (List.mem_of_getElem? (i := 102) rfl), rfl⟩⟩
theorem imX6_claimOf : inT (.instanceMethod mX6_claimOf.1) := ⟨t3 (List.mem_of_getElem? (i := 101) rfl), rfl⟩
theorem seX6_claimOf : inT (.selects mX6_claimOf.1.cls mX6_claimOf.1 mX6_claimOf.1) := ⟨t0 (q := (yX6_claimOf, 11)) (p2 (List.mem_of_getElem? (i := 7) rfl)), rfl⟩
def mX6_findClash : MI := (yX6_findClash, cX6_findClash, 7, none)
theorem okX6_findClash : inT (.initialized mX6_findClash.1.cls) ∧ inT (.code mX6_findClash.1 mX6_findClash.2.1 mX6_findClash.2.2.1 mX6_findClash.2.2.2) := ⟨⟨t1 (List.mem_of_getElem? (i := 1) rfl), rfl⟩, ⟨t2 (List.mem_of_getElem? (i := 181) rfl), rfl⟩⟩
theorem imX6_findClash : inT (.instanceMethod mX6_findClash.1) := ⟨t2 (List.mem_of_getElem? (i := 180) rfl), rfl⟩
theorem seX6_findClash : inT (.selects mX6_findClash.1.cls mX6_findClash.1 mX6_findClash.1) := ⟨t0 (q := (yX6_findClash, 11)) (p1 (List.mem_of_getElem? (i := 13) rfl)), rfl⟩
def mX6_findClashOver : MI := (yX6_findClashOver, cX6_findClashOver, 11, none)
theorem okX6_findClashOver : inT (.initialized mX6_findClashOver.1.cls) ∧ inT (.code mX6_findClashOver.1 mX6_findClashOver.2.1 mX6_findClashOver.2.2.1 mX6_findClashOver.2.2.2) := ⟨⟨t1 (List.mem_of_getElem? (i := 1) rfl), rfl⟩, ⟨t3 (List.mem_of_getElem? (i := 12) rfl), rfl⟩⟩
theorem imX6_findClashOver : inT (.instanceMethod mX6_findClashOver.1) := ⟨t3 (List.mem_of_getElem? (i := 11) rfl), rfl⟩
theorem seX6_findClashOver : inT (.selects mX6_findClashOver.1.cls mX6_findClashOver.1 mX6_findClashOver.1) := ⟨t0 (q := (yX6_findClashOver, 11)) (p2 (List.mem_of_getElem? (i := 4) rfl)), rfl⟩
def mX7_init : MI := (yX7_init, cX7_init, 3, none)
theorem okX7_init : inT (.initialized mX7_init.1.cls) ∧ inT (.code mX7_init.1 mX7_init.2.1 mX7_init.2.2.1 mX7_init.2.2.2) := ⟨⟨t1 (List.mem_of_getElem? (i := 8) rfl), rfl⟩, ⟨t3 (List.mem_of_getElem? (i := 124) rfl), rfl⟩⟩
theorem imX7_init : inT (.instanceMethod mX7_init.1) := ⟨t3 (List.mem_of_getElem? (i := 123) rfl), rfl⟩
def mX7_in : MI := (yX7_in, cX7_in, 3, (some .boolean))
theorem okX7_in : inT (.initialized mX7_in.1.cls) ∧ inT (.code mX7_in.1 mX7_in.2.1 mX7_in.2.2.1 mX7_in.2.2.2) := ⟨⟨t1 (List.mem_of_getElem? (i := 8) rfl), rfl⟩, ⟨t3 (List.mem_of_getElem? (i := 214) rfl), rfl⟩⟩
theorem stX7_in : inT (.static mX7_in.1) := ⟨t3 (List.mem_of_getElem? (i := 213) rfl), rfl⟩
def mX7_isMark : MI := (yX7_isMark, cX7_isMark, 2, (some .boolean))
theorem okX7_isMark : inT (.initialized mX7_isMark.1.cls) ∧ inT (.code mX7_isMark.1 mX7_isMark.2.1 mX7_isMark.2.2.1 mX7_isMark.2.2.2) := ⟨⟨t1 (List.mem_of_getElem? (i := 8) rfl), rfl⟩, ⟨t4 (List.mem_of_getElem? (i := 12) rfl), rfl⟩⟩
theorem imX7_isMark : inT (.instanceMethod mX7_isMark.1) := ⟨t4 (List.mem_of_getElem? (i := 11) rfl), rfl⟩
theorem seX7_isMark : inT (.selects mX7_isMark.1.cls mX7_isMark.1 mX7_isMark.1) := ⟨t0 (q := (yX7_isMark, 27)) (p2 (List.mem_of_getElem? (i := 10) rfl)), rfl⟩
def mX7_isDay : MI := (yX7_isDay, cX7_isDay, 1, (some .boolean))
theorem okX7_isDay : inT (.initialized mX7_isDay.1.cls) ∧ inT (.code mX7_isDay.1 mX7_isDay.2.1 mX7_isDay.2.2.1 mX7_isDay.2.2.2) := ⟨⟨t1 (List.mem_of_getElem? (i := 8) rfl), rfl⟩, ⟨t4 (List.mem_of_getElem? (i := 37) rfl), rfl⟩⟩
theorem stX7_isDay : inT (.static mX7_isDay.1) := ⟨t4 (List.mem_of_getElem? (i := 36) rfl), rfl⟩
def mX7_isCountry : MI := (yX7_isCountry, cX7_isCountry, 1, (some .boolean))
theorem okX7_isCountry : inT (.initialized mX7_isCountry.1.cls) ∧ inT (.code mX7_isCountry.1 mX7_isCountry.2.1 mX7_isCountry.2.2.1 mX7_isCountry.2.2.2) := ⟨⟨t1 (List.mem_of_getElem? (i := 8) rfl), rfl⟩, ⟨t4 (List.mem_of_getElem? (i := 34) rfl), rfl⟩⟩
theorem stX7_isCountry : inT (.static mX7_isCountry.1) := ⟨t4 (List.mem_of_getElem? (i := 33) rfl), rfl⟩
def mX7_isGoods : MI := (yX7_isGoods, cX7_isGoods, 1, (some .boolean))
theorem okX7_isGoods : inT (.initialized mX7_isGoods.1.cls) ∧ inT (.code mX7_isGoods.1 mX7_isGoods.2.1 mX7_isGoods.2.2.1 mX7_isGoods.2.2.2) := ⟨⟨t1 (List.mem_of_getElem? (i := 8) rfl), rfl⟩, ⟨t3 (List.mem_of_getElem? (i := 229) rfl), rfl⟩⟩
theorem stX7_isGoods : inT (.static mX7_isGoods.1) := ⟨t3 (List.mem_of_getElem? (i := 228) rfl), rfl⟩
def mX7_isPerson : MI := (yX7_isPerson, cX7_isPerson, 1, (some .boolean))
theorem okX7_isPerson : inT (.initialized mX7_isPerson.1.cls) ∧ inT (.code mX7_isPerson.1 mX7_isPerson.2.1 mX7_isPerson.2.2.1 mX7_isPerson.2.2.2) := ⟨⟨t1 (List.mem_of_getElem? (i := 8) rfl), rfl⟩, ⟨t4 (List.mem_of_getElem? (i := 4) rfl), rfl⟩⟩
theorem stX7_isPerson : inT (.static mX7_isPerson.1) := ⟨t4 (List.mem_of_getElem? (i := 3) rfl), rfl⟩
def mX7_row : MI := (yX7_row, cX7_row, 4, (some .boolean))
theorem okX7_row : inT (.initialized mX7_row.1.cls) ∧ inT (.code mX7_row.1 mX7_row.2.1 mX7_row.2.2.1 mX7_row.2.2.2) := ⟨⟨t1 (List.mem_of_getElem? (i := 8) rfl), rfl⟩, ⟨t3 (List.mem_of_getElem? (i := 211) rfl), rfl⟩⟩
theorem imX7_row : inT (.instanceMethod mX7_row.1) := ⟨t3 (List.mem_of_getElem? (i := 209) rfl), rfl⟩
theorem seX7_row : inT (.selects mX7_row.1.cls mX7_row.1 mX7_row.1) := ⟨t3 (List.mem_of_getElem? (i := 210) rfl), rfl⟩
def mX7_sound : MI := (yX7_sound, cX7_sound, 4, (some .boolean))
theorem okX7_sound : inT (.initialized mX7_sound.1.cls) ∧ inT (.code mX7_sound.1 mX7_sound.2.1 mX7_sound.2.2.1 mX7_sound.2.2.2) := ⟨⟨t1 (List.mem_of_getElem? (i := 8) rfl), rfl⟩, ⟨t3 (List.mem_of_getElem? (i := 218) rfl), rfl⟩⟩
theorem imX7_sound : inT (.instanceMethod mX7_sound.1) := ⟨t3 (List.mem_of_getElem? (i := 216) rfl), rfl⟩
theorem seX7_sound : inT (.selects mX7_sound.1.cls mX7_sound.1 mX7_sound.1) := ⟨t3 (List.mem_of_getElem? (i := 217) rfl), rfl⟩
def mX7_cost : MI := (yX7_cost, cX7_cost, 4, (some .boolean))
theorem okX7_cost : inT (.initialized mX7_cost.1.cls) ∧ inT (.code mX7_cost.1 mX7_cost.2.1 mX7_cost.2.2.1 mX7_cost.2.2.2) := ⟨⟨t1 (List.mem_of_getElem? (i := 8) rfl), rfl⟩, ⟨t3 (List.mem_of_getElem? (i := 222) rfl), rfl⟩⟩
theorem imX7_cost : inT (.instanceMethod mX7_cost.1) := ⟨t3 (List.mem_of_getElem? (i := 220) rfl), rfl⟩
theorem seX7_cost : inT (.selects mX7_cost.1.cls mX7_cost.1 mX7_cost.1) := ⟨t3 (List.mem_of_getElem? (i := 221) rfl), rfl⟩
def mX7_pairOf : MI := (yX7_pairOf, cX7_pairOf, 7, (some .int))
theorem okX7_pairOf : inT (.initialized mX7_pairOf.1.cls) ∧ inT (.code mX7_pairOf.1 mX7_pairOf.2.1 mX7_pairOf.2.2.1 mX7_pairOf.2.2.2) := ⟨⟨t1 (List.mem_of_getElem? (i := 8) rfl), rfl⟩, ⟨t3 (List.mem_of_getElem? (i := 233) rfl), rfl⟩⟩
theorem imX7_pairOf : inT (.instanceMethod mX7_pairOf.1) := ⟨t3 (List.mem_of_getElem? (i := 232) rfl), rfl⟩
theorem seX7_pairOf : inT (.selects mX7_pairOf.1.cls mX7_pairOf.1 mX7_pairOf.1) := ⟨t0 (q := (yX7_pairOf, 27)) (p2 (List.mem_of_getElem? (i := 9) rfl)), rfl⟩
def mX7_near : MI := (yX7_near, cX7_near, 5, (some .boolean))
theorem okX7_near : inT (.initialized mX7_near.1.cls) ∧ inT (.code mX7_near.1 mX7_near.2.1 mX7_near.2.2.1 mX7_near.2.2.2) := ⟨⟨t1 (List.mem_of_getElem? (i := 8) rfl), rfl⟩, ⟨t3 (List.mem_of_getElem? (i := 226) rfl), rfl⟩⟩
theorem imX7_near : inT (.instanceMethod mX7_near.1) := ⟨t3 (List.mem_of_getElem? (i := 224) rfl), rfl⟩
theorem seX7_near : inT (.selects mX7_near.1.cls mX7_near.1 mX7_near.1) := ⟨t3 (List.mem_of_getElem? (i := 225) rfl), rfl⟩
def mX7_nearOf : MI := (yX7_nearOf, cX7_nearOf, 4, (some .int))
theorem okX7_nearOf : inT (.initialized mX7_nearOf.1.cls) ∧ inT (.code mX7_nearOf.1 mX7_nearOf.2.1 mX7_nearOf.2.2.1 mX7_nearOf.2.2.2) := ⟨⟨t1 (List.mem_of_getElem? (i := 8) rfl), rfl⟩, ⟨t4 (List.mem_of_getElem? (i := 131) rfl), rfl⟩⟩
theorem imX7_nearOf : inT (.instanceMethod mX7_nearOf.1) := ⟨t4 (List.mem_of_getElem? (i := 130) rfl), rfl⟩
theorem seX7_nearOf : inT (.selects mX7_nearOf.1.cls mX7_nearOf.1 mX7_nearOf.1) := ⟨t0 (q := (yX7_nearOf, 27)) (p4 (List.mem_of_getElem? (i := 2) rfl)), rfl⟩
def mX7_levels : MI := (yX7_levels, cX7_levels, 3, (some .boolean))
theorem okX7_levels : inT (.initialized mX7_levels.1.cls) ∧ inT (.code mX7_levels.1 mX7_levels.2.1 mX7_levels.2.2.1 mX7_levels.2.2.2) := ⟨⟨t1 (List.mem_of_getElem? (i := 8) rfl), rfl⟩, ⟨t3 (List.mem_of_getElem? (i := 237) rfl), rfl⟩⟩
theorem imX7_levels : inT (.instanceMethod mX7_levels.1) := ⟨t3 (List.mem_of_getElem? (i := 235) rfl), rfl⟩
theorem seX7_levels : inT (.selects mX7_levels.1.cls mX7_levels.1 mX7_levels.1) := ⟨t3 (List.mem_of_getElem? (i := 236) rfl), rfl⟩
def mX7_mark : MI := (yX7_mark, cX7_mark, 3, (some .int))
theorem okX7_mark : inT (.initialized mX7_mark.1.cls) ∧ inT (.code mX7_mark.1 mX7_mark.2.1 mX7_mark.2.2.1 mX7_mark.2.2.2) := ⟨⟨t1 (List.mem_of_getElem? (i := 8) rfl), rfl⟩, ⟨t4 (List.mem_of_getElem? (i := 1) rfl), rfl⟩⟩
theorem imX7_mark : inT (.instanceMethod mX7_mark.1) := ⟨t3 (List.mem_of_getElem? (i := 239) rfl), rfl⟩
theorem seX7_mark : inT (.selects mX7_mark.1.cls mX7_mark.1 mX7_mark.1) := ⟨t4 (List.mem_of_getElem? (i := 0) rfl), rfl⟩
def mX7_hasPaper : MI := (yX7_hasPaper, cX7_hasPaper, 4, (some .boolean))
theorem okX7_hasPaper : inT (.initialized mX7_hasPaper.1.cls) ∧ inT (.code mX7_hasPaper.1 mX7_hasPaper.2.1 mX7_hasPaper.2.2.1 mX7_hasPaper.2.2.2) := ⟨⟨t1 (List.mem_of_getElem? (i := 8) rfl), rfl⟩, ⟨t4 (List.mem_of_getElem? (i := 16) rfl), rfl⟩⟩
theorem imX7_hasPaper : inT (.instanceMethod mX7_hasPaper.1) := ⟨t4 (List.mem_of_getElem? (i := 15) rfl), rfl⟩
theorem seX7_hasPaper : inT (.selects mX7_hasPaper.1.cls mX7_hasPaper.1 mX7_hasPaper.1) := ⟨t0 (q := (yX7_hasPaper, 27)) (p2 (List.mem_of_getElem? (i := 11) rfl)), rfl⟩
def mX7_letter : MI := (yX7_letter, cX7_letter, 3, (some .int))
theorem okX7_letter : inT (.initialized mX7_letter.1.cls) ∧ inT (.code mX7_letter.1 mX7_letter.2.1 mX7_letter.2.2.1 mX7_letter.2.2.2) := ⟨⟨t1 (List.mem_of_getElem? (i := 8) rfl), rfl⟩, ⟨t4 (List.mem_of_getElem? (i := 8) rfl), rfl⟩⟩
theorem imX7_letter : inT (.instanceMethod mX7_letter.1) := ⟨t4 (List.mem_of_getElem? (i := 6) rfl), rfl⟩
theorem seX7_letter : inT (.selects mX7_letter.1.cls mX7_letter.1 mX7_letter.1) := ⟨t4 (List.mem_of_getElem? (i := 7) rfl), rfl⟩
def mX7_code : MI := (yX7_code, cX7_code, 3, (some .int))
theorem okX7_code : inT (.initialized mX7_code.1.cls) ∧ inT (.code mX7_code.1 mX7_code.2.1 mX7_code.2.2.1 mX7_code.2.2.2) := ⟨⟨t1 (List.mem_of_getElem? (i := 8) rfl), rfl⟩, ⟨t4 (List.mem_of_getElem? (i := 20) rfl), rfl⟩⟩
theorem imX7_code : inT (.instanceMethod mX7_code.1) := ⟨t4 (List.mem_of_getElem? (i := 18) rfl), rfl⟩
theorem seX7_code : inT (.selects mX7_code.1.cls mX7_code.1 mX7_code.1) := ⟨t4 (List.mem_of_getElem? (i := 19) rfl), rfl⟩
def mX7_hasCode : MI := (yX7_hasCode, cX7_hasCode, 5, (some .boolean))
theorem okX7_hasCode : inT (.initialized mX7_hasCode.1.cls) ∧ inT (.code mX7_hasCode.1 mX7_hasCode.2.1 mX7_hasCode.2.2.1 mX7_hasCode.2.2.2) := ⟨⟨t1 (List.mem_of_getElem? (i := 8) rfl), rfl⟩, ⟨t4 (List.mem_of_getElem? (i := 24) rfl), rfl⟩⟩
theorem imX7_hasCode : inT (.instanceMethod mX7_hasCode.1) := ⟨t4 (List.mem_of_getElem? (i := 23) rfl), rfl⟩
theorem seX7_hasCode : inT (.selects mX7_hasCode.1.cls mX7_hasCode.1 mX7_hasCode.1) := ⟨t0 (q := (yX7_hasCode, 27)) (p2 (List.mem_of_getElem? (i := 12) rfl)), rfl⟩
def mX7_soundOfLetter : MI := (yX7_soundOfLetter, cX7_soundOfLetter, 5, (some .int))
theorem okX7_soundOfLetter : inT (.initialized mX7_soundOfLetter.1.cls) ∧ inT (.code mX7_soundOfLetter.1 mX7_soundOfLetter.2.1 mX7_soundOfLetter.2.2.1 mX7_soundOfLetter.2.2.2) := ⟨⟨t1 (List.mem_of_getElem? (i := 8) rfl), rfl⟩, ⟨t4 (List.mem_of_getElem? (i := 118) rfl), rfl⟩⟩
theorem imX7_soundOfLetter : inT (.instanceMethod mX7_soundOfLetter.1) := ⟨t4 (List.mem_of_getElem? (i := 117) rfl), rfl⟩
theorem seX7_soundOfLetter : inT (.selects mX7_soundOfLetter.1.cls mX7_soundOfLetter.1 mX7_soundOfLetter.1) := ⟨t0 (q := (yX7_soundOfLetter, 27)) (p3 (List.mem_of_getElem? (i := 15) rfl)), rfl⟩
def mX7_soundsInto : MI := (yX7_soundsInto, cX7_soundsInto, 6, (some .int))
theorem okX7_soundsInto : inT (.initialized mX7_soundsInto.1.cls) ∧ inT (.code mX7_soundsInto.1 mX7_soundsInto.2.1 mX7_soundsInto.2.2.1 mX7_soundsInto.2.2.2) := ⟨⟨t1 (List.mem_of_getElem? (i := 8) rfl), rfl⟩, ⟨t4 (List.mem_of_getElem? (i := 114) rfl), rfl⟩⟩
theorem imX7_soundsInto : inT (.instanceMethod mX7_soundsInto.1) := ⟨t4 (List.mem_of_getElem? (i := 113) rfl), rfl⟩
theorem seX7_soundsInto : inT (.selects mX7_soundsInto.1.cls mX7_soundsInto.1 mX7_soundsInto.1) := ⟨t0 (q := (yX7_soundsInto, 27)) (p3 (List.mem_of_getElem? (i := 14) rfl)), rfl⟩
def mX7_costOf : MI := (yX7_costOf, cX7_costOf, 9, (some .int))
theorem okX7_costOf : inT (.initialized mX7_costOf.1.cls) ∧ inT (.code mX7_costOf.1 mX7_costOf.2.1 mX7_costOf.2.2.1 mX7_costOf.2.2.2) := ⟨⟨t1 (List.mem_of_getElem? (i := 8) rfl), rfl⟩, ⟨t4 (List.mem_of_getElem? (i := 110) rfl), rfl⟩⟩
theorem imX7_costOf : inT (.instanceMethod mX7_costOf.1) := ⟨t4 (List.mem_of_getElem? (i := 109) rfl), rfl⟩
theorem seX7_costOf : inT (.selects mX7_costOf.1.cls mX7_costOf.1 mX7_costOf.1) := ⟨t0 (q := (yX7_costOf, 27)) (p3 (List.mem_of_getElem? (i := 13) rfl)), rfl⟩
def mX7_wordsLike : MI := (yX7_wordsLike, cX7_wordsLike, 8, (some .int))
theorem okX7_wordsLike : inT (.initialized mX7_wordsLike.1.cls) ∧ inT (.code mX7_wordsLike.1 mX7_wordsLike.2.1 mX7_wordsLike.2.2.1 mX7_wordsLike.2.2.2) := ⟨⟨t1 (List.mem_of_getElem? (i := 8) rfl), rfl⟩, ⟨t4 (List.mem_of_getElem? (i := 106) rfl), rfl⟩⟩
theorem imX7_wordsLike : inT (.instanceMethod mX7_wordsLike.1) := ⟨t4 (List.mem_of_getElem? (i := 105) rfl), rfl⟩
theorem seX7_wordsLike : inT (.selects mX7_wordsLike.1.cls mX7_wordsLike.1 mX7_wordsLike.1) := ⟨t0 (q := (yX7_wordsLike, 27)) (p3 (List.mem_of_getElem? (i := 12) rfl)), rfl⟩
def mX7_codesLike : MI := (yX7_codesLike, cX7_codesLike, 5, (some .int))
theorem okX7_codesLike : inT (.initialized mX7_codesLike.1.cls) ∧ inT (.code mX7_codesLike.1 mX7_codesLike.2.1 mX7_codesLike.2.2.1 mX7_codesLike.2.2.2) := ⟨⟨t1 (List.mem_of_getElem? (i := 8) rfl), rfl⟩, ⟨t4 (List.mem_of_getElem? (i := 102) rfl), rfl⟩⟩
theorem imX7_codesLike : inT (.instanceMethod mX7_codesLike.1) := ⟨t4 (List.mem_of_getElem? (i := 101) rfl), rfl⟩
theorem seX7_codesLike : inT (.selects mX7_codesLike.1.cls mX7_codesLike.1 mX7_codesLike.1) := ⟨t0 (q := (yX7_codesLike, 27)) (p3 (List.mem_of_getElem? (i := 11) rfl)), rfl⟩
def mX7_likeOf : MI := (yX7_likeOf, cX7_likeOf, 9, (some .int))
theorem okX7_likeOf : inT (.initialized mX7_likeOf.1.cls) ∧ inT (.code mX7_likeOf.1 mX7_likeOf.2.1 mX7_likeOf.2.2.1 mX7_likeOf.2.2.2) := ⟨⟨t1 (List.mem_of_getElem? (i := 8) rfl), rfl⟩, ⟨t4 (List.mem_of_getElem? (i := 98) rfl), rfl⟩⟩
theorem imX7_likeOf : inT (.instanceMethod mX7_likeOf.1) := ⟨t4 (List.mem_of_getElem? (i := 97) rfl), rfl⟩
theorem seX7_likeOf : inT (.selects mX7_likeOf.1.cls mX7_likeOf.1 mX7_likeOf.1) := ⟨t0 (q := (yX7_likeOf, 27)) (p3 (List.mem_of_getElem? (i := 10) rfl)), rfl⟩
def mX7_isAlike : MI := (yX7_isAlike, cX7_isAlike, 3, (some .boolean))
theorem okX7_isAlike : inT (.initialized mX7_isAlike.1.cls) ∧ inT (.code mX7_isAlike.1 mX7_isAlike.2.1 mX7_isAlike.2.2.1 mX7_isAlike.2.2.2) := ⟨⟨t1 (List.mem_of_getElem? (i := 8) rfl), rfl⟩, ⟨t4 (List.mem_of_getElem? (i := 94) rfl), rfl⟩⟩
theorem imX7_isAlike : inT (.instanceMethod mX7_isAlike.1) := ⟨t4 (List.mem_of_getElem? (i := 93) rfl), rfl⟩
theorem seX7_isAlike : inT (.selects mX7_isAlike.1.cls mX7_isAlike.1 mX7_isAlike.1) := ⟨t0 (q := (yX7_isAlike, 27)) (p3 (List.mem_of_getElem? (i := 9) rfl)), rfl⟩
def mX7_latest : MI := (yX7_latest, cX7_latest, 7, (some .int))
theorem okX7_latest : inT (.initialized mX7_latest.1.cls) ∧ inT (.code mX7_latest.1 mX7_latest.2.1 mX7_latest.2.2.1 mX7_latest.2.2.2) := ⟨⟨t1 (List.mem_of_getElem? (i := 8) rfl), rfl⟩, ⟨t4 (List.mem_of_getElem? (i := 54) rfl), rfl⟩⟩
theorem imX7_latest : inT (.instanceMethod mX7_latest.1) := ⟨t4 (List.mem_of_getElem? (i := 53) rfl), rfl⟩
theorem seX7_latest : inT (.selects mX7_latest.1.cls mX7_latest.1 mX7_latest.1) := ⟨t0 (q := (yX7_latest, 27)) (p3 (List.mem_of_getElem? (i := 0) rfl)), rfl⟩
def mX7_earliest : MI := (yX7_earliest, cX7_earliest, 7, (some .int))
theorem okX7_earliest : inT (.initialized mX7_earliest.1.cls) ∧ inT (.code mX7_earliest.1 mX7_earliest.2.1 mX7_earliest.2.2.1 mX7_earliest.2.2.2) := ⟨⟨t1 (List.mem_of_getElem? (i := 8) rfl), rfl⟩, ⟨t4 (List.mem_of_getElem? (i := 50) rfl), rfl⟩⟩
theorem imX7_earliest : inT (.instanceMethod mX7_earliest.1) := ⟨t4 (List.mem_of_getElem? (i := 49) rfl), rfl⟩
theorem seX7_earliest : inT (.selects mX7_earliest.1.cls mX7_earliest.1 mX7_earliest.1) := ⟨t0 (q := (yX7_earliest, 27)) (p2 (List.mem_of_getElem? (i := 15) rfl)), rfl⟩
def mX7_countOf : MI := (yX7_countOf, cX7_countOf, 6, (some .int))
theorem okX7_countOf : inT (.initialized mX7_countOf.1.cls) ∧ inT (.code mX7_countOf.1 mX7_countOf.2.1 mX7_countOf.2.2.1 mX7_countOf.2.2.2) := ⟨⟨t1 (List.mem_of_getElem? (i := 8) rfl), rfl⟩, ⟨t4 (List.mem_of_getElem? (i := 70) rfl), rfl⟩⟩
theorem imX7_countOf : inT (.instanceMethod mX7_countOf.1) := ⟨t4 (List.mem_of_getElem? (i := 69) rfl), rfl⟩
theorem seX7_countOf : inT (.selects mX7_countOf.1.cls mX7_countOf.1 mX7_countOf.1) := ⟨t0 (q := (yX7_countOf, 27)) (p3 (List.mem_of_getElem? (i := 4) rfl)), rfl⟩
def mX7_since : MI := (yX7_since, cX7_since, 6, (some .int))
theorem okX7_since : inT (.initialized mX7_since.1.cls) ∧ inT (.code mX7_since.1 mX7_since.2.1 mX7_since.2.2.1 mX7_since.2.2.2) := ⟨⟨t1 (List.mem_of_getElem? (i := 8) rfl), rfl⟩, ⟨t4 (List.mem_of_getElem? (i := 62) rfl), rfl⟩⟩
theorem imX7_since : inT (.instanceMethod mX7_since.1) := ⟨t4 (List.mem_of_getElem? (i := 61) rfl), rfl⟩
theorem seX7_since : inT (.selects mX7_since.1.cls mX7_since.1 mX7_since.1) := ⟨t0 (q := (yX7_since, 27)) (p3 (List.mem_of_getElem? (i := 2) rfl)), rfl⟩
def mX7_firstOf : MI := (yX7_firstOf, cX7_firstOf, 4, (some .int))
theorem okX7_firstOf : inT (.initialized mX7_firstOf.1.cls) ∧ inT (.code mX7_firstOf.1 mX7_firstOf.2.1 mX7_firstOf.2.2.1 mX7_firstOf.2.2.2) := ⟨⟨t1 (List.mem_of_getElem? (i := 8) rfl), rfl⟩, ⟨t4 (List.mem_of_getElem? (i := 46) rfl), rfl⟩⟩
theorem imX7_firstOf : inT (.instanceMethod mX7_firstOf.1) := ⟨t4 (List.mem_of_getElem? (i := 45) rfl), rfl⟩
theorem seX7_firstOf : inT (.selects mX7_firstOf.1.cls mX7_firstOf.1 mX7_firstOf.1) := ⟨t0 (q := (yX7_firstOf, 27)) (p2 (List.mem_of_getElem? (i := 14) rfl)), rfl⟩
def mX7_termEnd : MI := (yX7_termEnd, cX7_termEnd, 3, (some .int))
theorem okX7_termEnd : inT (.initialized mX7_termEnd.1.cls) ∧ inT (.code mX7_termEnd.1 mX7_termEnd.2.1 mX7_termEnd.2.2.1 mX7_termEnd.2.2.2) := ⟨⟨t1 (List.mem_of_getElem? (i := 8) rfl), rfl⟩, ⟨t4 (List.mem_of_getElem? (i := 66) rfl), rfl⟩⟩
theorem imX7_termEnd : inT (.instanceMethod mX7_termEnd.1) := ⟨t4 (List.mem_of_getElem? (i := 65) rfl), rfl⟩
theorem seX7_termEnd : inT (.selects mX7_termEnd.1.cls mX7_termEnd.1 mX7_termEnd.1) := ⟨t0 (q := (yX7_termEnd, 27)) (p3 (List.mem_of_getElem? (i := 3) rfl)), rfl⟩
def mX7_hasLapsed : MI := (yX7_hasLapsed, cX7_hasLapsed, 3, (some .boolean))
theorem okX7_hasLapsed : inT (.initialized mX7_hasLapsed.1.cls) ∧ inT (.code mX7_hasLapsed.1 mX7_hasLapsed.2.1 mX7_hasLapsed.2.2.1 mX7_hasLapsed.2.2.2) := ⟨⟨t1 (List.mem_of_getElem? (i := 8) rfl), rfl⟩, ⟨t4 (List.mem_of_getElem? (i := 143) rfl), rfl⟩⟩
theorem imX7_hasLapsed : inT (.instanceMethod mX7_hasLapsed.1) := ⟨t4 (List.mem_of_getElem? (i := 142) rfl), rfl⟩
theorem seX7_hasLapsed : inT (.selects mX7_hasLapsed.1.cls mX7_hasLapsed.1 mX7_hasLapsed.1) := ⟨t0 (q := (yX7_hasLapsed, 27)) (p4 (List.mem_of_getElem? (i := 5) rfl)), rfl⟩
def mX7_isStruck : MI := (yX7_isStruck, cX7_isStruck, 3, (some .boolean))
theorem okX7_isStruck : inT (.initialized mX7_isStruck.1.cls) ∧ inT (.code mX7_isStruck.1 mX7_isStruck.2.1 mX7_isStruck.2.2.1 mX7_isStruck.2.2.2) := ⟨⟨t1 (List.mem_of_getElem? (i := 8) rfl), rfl⟩, ⟨t4 (List.mem_of_getElem? (i := 74) rfl), rfl⟩⟩
theorem imX7_isStruck : inT (.instanceMethod mX7_isStruck.1) := ⟨t4 (List.mem_of_getElem? (i := 73) rfl), rfl⟩
theorem seX7_isStruck : inT (.selects mX7_isStruck.1.cls mX7_isStruck.1 mX7_isStruck.1) := ⟨t0 (q := (yX7_isStruck, 27)) (p3 (List.mem_of_getElem? (i := 5) rfl)), rfl⟩
def mX7_rightOf : MI := (yX7_rightOf, cX7_rightOf, 9, (some .int))
theorem okX7_rightOf : inT (.initialized mX7_rightOf.1.cls) ∧ inT (.code mX7_rightOf.1 mX7_rightOf.2.1 mX7_rightOf.2.2.1 mX7_rightOf.2.2.2) := ⟨⟨t1 (List.mem_of_getElem? (i := 8) rfl), rfl⟩, ⟨t4 (List.mem_of_getElem? (i := 139) rfl), rfl⟩⟩
theorem imX7_rightOf : inT (.instanceMethod mX7_rightOf.1) := ⟨t4 (List.mem_of_getElem? (i := 138) rfl), rfl⟩
theorem seX7_rightOf : inT (.selects mX7_rightOf.1.cls mX7_rightOf.1 mX7_rightOf.1) := ⟨t0 (q := (yX7_rightOf, 27)) (p4 (List.mem_of_getElem? (i := 4) rfl)), rfl⟩
def mX7_stands : MI := (yX7_stands, cX7_stands, 8, (some .boolean))
theorem okX7_stands : inT (.initialized mX7_stands.1.cls) ∧ inT (.code mX7_stands.1 mX7_stands.2.1 mX7_stands.2.2.1 mX7_stands.2.2.2) := ⟨⟨t1 (List.mem_of_getElem? (i := 8) rfl), rfl⟩, ⟨t4 (List.mem_of_getElem? (i := 135) rfl), rfl⟩⟩
theorem imX7_stands : inT (.instanceMethod mX7_stands.1) := ⟨t4 (List.mem_of_getElem? (i := 134) rfl), rfl⟩
theorem seX7_stands : inT (.selects mX7_stands.1.cls mX7_stands.1 mX7_stands.1) := ⟨t0 (q := (yX7_stands, 27)) (p4 (List.mem_of_getElem? (i := 3) rfl)), rfl⟩
def mX7_goodsInto : MI := (yX7_goodsInto, cX7_goodsInto, 9, (some .int))
theorem okX7_goodsInto : inT (.initialized mX7_goodsInto.1.cls) ∧ inT (.code mX7_goodsInto.1 mX7_goodsInto.2.1 mX7_goodsInto.2.2.1 mX7_goodsInto.2.2.2) := ⟨⟨t1 (List.mem_of_getElem? (i := 8) rfl), rfl⟩, ⟨t4 (List.mem_of_getElem? (i := 58) rfl), rfl⟩⟩
theorem imX7_goodsInto : inT (.instanceMethod mX7_goodsInto.1) := ⟨t4 (List.mem_of_getElem? (i := 57) rfl), rfl⟩
theorem seX7_goodsInto : inT (.selects mX7_goodsInto.1.cls mX7_goodsInto.1 mX7_goodsInto.1) := ⟨t0 (q := (yX7_goodsInto, 27)) (p3 (List.mem_of_getElem? (i := 1) rfl)), rfl⟩
def mX7_isNear : MI := (yX7_isNear, cX7_isNear, 5, (some .boolean))
theorem okX7_isNear : inT (.initialized mX7_isNear.1.cls) ∧ inT (.code mX7_isNear.1 mX7_isNear.2.1 mX7_isNear.2.2.1 mX7_isNear.2.2.2) := ⟨⟨t1 (List.mem_of_getElem? (i := 8) rfl), rfl⟩, ⟨t4 (List.mem_of_getElem? (i := 127) rfl), rfl⟩⟩
theorem imX7_isNear : inT (.instanceMethod mX7_isNear.1) := ⟨t4 (List.mem_of_getElem? (i := 126) rfl), rfl⟩
theorem seX7_isNear : inT (.selects mX7_isNear.1.cls mX7_isNear.1 mX7_isNear.1) := ⟨t0 (q := (yX7_isNear, 27)) (p4 (List.mem_of_getElem? (i := 1) rfl)), rfl⟩
def mX7_hasLeave : MI := (yX7_hasLeave, cX7_hasLeave, 4, (some .boolean))
theorem okX7_hasLeave : inT (.initialized mX7_hasLeave.1.cls) ∧ inT (.code mX7_hasLeave.1 mX7_hasLeave.2.1 mX7_hasLeave.2.2.1 mX7_hasLeave.2.2.2) := ⟨⟨t1 (List.mem_of_getElem? (i := 8) rfl), rfl⟩, ⟨t4 (List.mem_of_getElem? (i := 78) rfl), rfl⟩⟩
theorem imX7_hasLeave : inT (.instanceMethod mX7_hasLeave.1) := ⟨t4 (List.mem_of_getElem? (i := 77) rfl), rfl⟩
theorem seX7_hasLeave : inT (.selects mX7_hasLeave.1.cls mX7_hasLeave.1 mX7_hasLeave.1) := ⟨t0 (q := (yX7_hasLeave, 27)) (p3 (List.mem_of_getElem? (i := 6) rfl)), rfl⟩
def mX7_mayClash : MI := (yX7_mayClash, cX7_mayClash, 4, (some .boolean))
theorem okX7_mayClash : inT (.initialized mX7_mayClash.1.cls) ∧ inT (.code mX7_mayClash.1 mX7_mayClash.2.1 mX7_mayClash.2.2.1 mX7_mayClash.2.2.2) := ⟨⟨t1 (List.mem_of_getElem? (i := 8) rfl), rfl⟩, ⟨t4 (List.mem_of_getElem? (i := 90) rfl), rfl⟩⟩
theorem imX7_mayClash : inT (.instanceMethod mX7_mayClash.1) := ⟨t4 (List.mem_of_getElem? (i := 89) rfl), rfl⟩
theorem seX7_mayClash : inT (.selects mX7_mayClash.1.cls mX7_mayClash.1 mX7_mayClash.1) := ⟨t0 (q := (yX7_mayClash, 27)) (p3 (List.mem_of_getElem? (i := 8) rfl)), rfl⟩
def mX7_clashes : MI := (yX7_clashes, cX7_clashes, 9, (some .boolean))
theorem okX7_clashes : inT (.initialized mX7_clashes.1.cls) ∧ inT (.code mX7_clashes.1 mX7_clashes.2.1 mX7_clashes.2.2.1 mX7_clashes.2.2.2) := ⟨⟨t1 (List.mem_of_getElem? (i := 8) rfl), rfl⟩, ⟨t4 (List.mem_of_getElem? (i := 123) rfl), rfl⟩⟩
theorem imX7_clashes : inT (.instanceMethod mX7_clashes.1) := ⟨t4 (List.mem_of_getElem? (i := 122) rfl), rfl⟩
theorem seX7_clashes : inT (.selects mX7_clashes.1.cls mX7_clashes.1 mX7_clashes.1) := ⟨t0 (q := (yX7_clashes, 27)) (p4 (List.mem_of_getElem? (i := 0) rfl)), rfl⟩
def mX7_clashOf : MI := (yX7_clashOf, cX7_clashOf, 9, (some .int))
theorem okX7_clashOf : inT (.initialized mX7_clashOf.1.cls) ∧ inT (.code mX7_clashOf.1 mX7_clashOf.2.1 mX7_clashOf.2.2.1 mX7_clashOf.2.2.2) := ⟨⟨t1 (List.mem_of_getElem? (i := 8) rfl), rfl⟩, ⟨t4 (List.mem_of_getElem? (i := 86) rfl), rfl⟩⟩
theorem imX7_clashOf : inT (.instanceMethod mX7_clashOf.1) := ⟨t4 (List.mem_of_getElem? (i := 85) rfl), rfl⟩
theorem seX7_clashOf : inT (.selects mX7_clashOf.1.cls mX7_clashOf.1 mX7_clashOf.1) := ⟨t0 (q := (yX7_clashOf, 27)) (p3 (List.mem_of_getElem? (i := 7) rfl)), rfl⟩
def mX7_clashRight : MI := (yX7_clashRight, cX7_clashRight, 11, (some .int))
theorem okX7_clashRight : inT (.initialized mX7_clashRight.1.cls) ∧ inT (.code mX7_clashRight.1 mX7_clashRight.2.1 mX7_clashRight.2.2.1 mX7_clashRight.2.2.2) := ⟨⟨t1 (List.mem_of_getElem? (i := 8) rfl), rfl⟩, ⟨t4 (List.mem_of_getElem? (i := 184) rfl), rfl⟩⟩
theorem imX7_clashRight : inT (.instanceMethod mX7_clashRight.1) := ⟨t4 (List.mem_of_getElem? (i := 183) rfl), rfl⟩
theorem seX7_clashRight : inT (.selects mX7_clashRight.1.cls mX7_clashRight.1 mX7_clashRight.1) := ⟨t0 (q := (yX7_clashRight, 27)) (p4 (List.mem_of_getElem? (i := 6) rfl)), rfl⟩
def mX7_isX : MI := (yX7_isX, cX7_isX, 2, (some .boolean))
theorem okX7_isX : inT (.initialized mX7_isX.1.cls) ∧ inT (.code mX7_isX.1 mX7_isX.2.1 mX7_isX.2.2.1 mX7_isX.2.2.2) := ⟨⟨t1 (List.mem_of_getElem? (i := 8) rfl), rfl⟩, ⟨t4 (List.mem_of_getElem? (i := 31) rfl), rfl⟩⟩
theorem stX7_isX : inT (.static mX7_isX.1) := ⟨t4 (List.mem_of_getElem? (i := 30) rfl), rfl⟩
def mX7_canBe : MI := (yX7_canBe, cX7_canBe, 9, (some .boolean))
theorem okX7_canBe : inT (.initialized mX7_canBe.1.cls) ∧ inT (.code mX7_canBe.1 mX7_canBe.2.1 mX7_canBe.2.2.1 mX7_canBe.2.2.2) := ⟨⟨t1 (List.mem_of_getElem? (i := 8) rfl), rfl⟩, ⟨t4 (List.mem_of_getElem? (i := 42) rfl), rfl⟩⟩
theorem imX7_canBe : inT (.instanceMethod mX7_canBe.1) := ⟨t4 (List.mem_of_getElem? (i := 41) rfl), rfl⟩
theorem seX7_canBe : inT (.selects mX7_canBe.1.cls mX7_canBe.1 mX7_canBe.1) := ⟨t0 (q := (yX7_canBe, 27)) (p2 (List.mem_of_getElem? (i := 13) rfl)), rfl⟩
def mX7_paper : MI := (yX7_paper, cX7_paper, 5, (some .int))
theorem okX7_paper : inT (.initialized mX7_paper.1.cls) ∧ inT (.code mX7_paper.1 mX7_paper.2.1 mX7_paper.2.2.1 mX7_paper.2.2.2) := ⟨⟨t1 (List.mem_of_getElem? (i := 8) rfl), rfl⟩, ⟨t4 (List.mem_of_getElem? (i := 28) rfl), rfl⟩⟩
theorem imX7_paper : inT (.instanceMethod mX7_paper.1) := ⟨t4 (List.mem_of_getElem? (i := 26) rfl), rfl⟩
theorem seX7_paper : inT (.selects mX7_paper.1.cls mX7_paper.1 mX7_paper.1) := ⟨t4 (List.mem_of_getElem? (i := 27) rfl), rfl⟩
def mX7_oppose : MI := (yX7_oppose, cX7_oppose, 7, (some .int))
theorem okX7_oppose : inT (.initialized mX7_oppose.1.cls) ∧ inT (.code mX7_oppose.1 mX7_oppose.2.1 mX7_oppose.2.2.1 mX7_oppose.2.2.2) := ⟨⟨t1 (List.mem_of_getElem? (i := 8) rfl), rfl⟩, ⟨t4 (List.mem_of_getElem? (i := 82) rfl), rfl⟩⟩
theorem imX7_oppose : inT (.instanceMethod mX7_oppose.1) := ⟨t4 (List.mem_of_getElem? (i := 80) rfl), rfl⟩
theorem seX7_oppose : inT (.selects mX7_oppose.1.cls mX7_oppose.1 mX7_oppose.1) := ⟨t4 (List.mem_of_getElem? (i := 81) rfl), rfl⟩
def mX7_undo : MI := (yX7_undo, cX7_undo, 1, (some .int))
theorem okX7_undo : inT (.initialized mX7_undo.1.cls) ∧ inT (.code mX7_undo.1 mX7_undo.2.1 mX7_undo.2.2.1 mX7_undo.2.2.2) := ⟨⟨t1 (List.mem_of_getElem? (i := 8) rfl), rfl⟩, ⟨t4 (List.mem_of_getElem? (i := 148) rfl), rfl⟩⟩
theorem imX7_undo : inT (.instanceMethod mX7_undo.1) := ⟨t4 (List.mem_of_getElem? (i := 146) rfl), rfl⟩
theorem seX7_undo : inT (.selects mX7_undo.1.cls mX7_undo.1 mX7_undo.1) := ⟨t4 (List.mem_of_getElem? (i := 147) rfl), rfl⟩
def mX7_paperOf : MI := (yX7_paperOf, cX7_paperOf, 3, (some .int))
theorem okX7_paperOf : inT (.initialized mX7_paperOf.1.cls) ∧ inT (.code mX7_paperOf.1 mX7_paperOf.2.1 mX7_paperOf.2.2.1 mX7_paperOf.2.2.2) := ⟨⟨t1 (List.mem_of_getElem? (i := 8) rfl), rfl⟩, ⟨t4 (List.mem_of_getElem? (i := 152) rfl), rfl⟩⟩
theorem imX7_paperOf : inT (.instanceMethod mX7_paperOf.1) := ⟨t4 (List.mem_of_getElem? (i := 150) rfl), rfl⟩
theorem seX7_paperOf : inT (.selects mX7_paperOf.1.cls mX7_paperOf.1 mX7_paperOf.1) := ⟨t4 (List.mem_of_getElem? (i := 151) rfl), rfl⟩
def mX7_markOf : MI := (yX7_markOf, cX7_markOf, 3, (some .int))
theorem okX7_markOf : inT (.initialized mX7_markOf.1.cls) ∧ inT (.code mX7_markOf.1 mX7_markOf.2.1 mX7_markOf.2.2.1 mX7_markOf.2.2.2) := ⟨⟨t1 (List.mem_of_getElem? (i := 8) rfl), rfl⟩, ⟨t4 (List.mem_of_getElem? (i := 156) rfl), rfl⟩⟩
theorem imX7_markOf : inT (.instanceMethod mX7_markOf.1) := ⟨t4 (List.mem_of_getElem? (i := 154) rfl), rfl⟩
theorem seX7_markOf : inT (.selects mX7_markOf.1.cls mX7_markOf.1 mX7_markOf.1) := ⟨t4 (List.mem_of_getElem? (i := 155) rfl), rfl⟩
def mX7_soundOf : MI := (yX7_soundOf, cX7_soundOf, 3, (some .int))
theorem okX7_soundOf : inT (.initialized mX7_soundOf.1.cls) ∧ inT (.code mX7_soundOf.1 mX7_soundOf.2.1 mX7_soundOf.2.2.1 mX7_soundOf.2.2.2) := ⟨⟨t1 (List.mem_of_getElem? (i := 8) rfl), rfl⟩, ⟨t4 (List.mem_of_getElem? (i := 160) rfl), rfl⟩⟩
theorem imX7_soundOf : inT (.instanceMethod mX7_soundOf.1) := ⟨t4 (List.mem_of_getElem? (i := 158) rfl), rfl⟩
theorem seX7_soundOf : inT (.selects mX7_soundOf.1.cls mX7_soundOf.1 mX7_soundOf.1) := ⟨t4 (List.mem_of_getElem? (i := 159) rfl), rfl⟩
def mX7_like : MI := (yX7_like, cX7_like, 4, (some .int))
theorem okX7_like : inT (.initialized mX7_like.1.cls) ∧ inT (.code mX7_like.1 mX7_like.2.1 mX7_like.2.2.1 mX7_like.2.2.2) := ⟨⟨t1 (List.mem_of_getElem? (i := 8) rfl), rfl⟩, ⟨t4 (List.mem_of_getElem? (i := 164) rfl), rfl⟩⟩
theorem imX7_like : inT (.instanceMethod mX7_like.1) := ⟨t4 (List.mem_of_getElem? (i := 162) rfl), rfl⟩
theorem seX7_like : inT (.selects mX7_like.1.cls mX7_like.1 mX7_like.1) := ⟨t4 (List.mem_of_getElem? (i := 163) rfl), rfl⟩
def mX7_right : MI := (yX7_right, cX7_right, 6, (some .int))
theorem okX7_right : inT (.initialized mX7_right.1.cls) ∧ inT (.code mX7_right.1 mX7_right.2.1 mX7_right.2.2.1 mX7_right.2.2.2) := ⟨⟨t1 (List.mem_of_getElem? (i := 8) rfl), rfl⟩, ⟨t4 (List.mem_of_getElem? (i := 168) rfl), rfl⟩⟩
theorem imX7_right : inT (.instanceMethod mX7_right.1) := ⟨t4 (List.mem_of_getElem? (i := 166) rfl), rfl⟩
theorem seX7_right : inT (.selects mX7_right.1.cls mX7_right.1 mX7_right.1) := ⟨t4 (List.mem_of_getElem? (i := 167) rfl), rfl⟩
def mX7_state : MI := (yX7_state, cX7_state, 5, (some .int))
theorem okX7_state : inT (.initialized mX7_state.1.cls) ∧ inT (.code mX7_state.1 mX7_state.2.1 mX7_state.2.2.1 mX7_state.2.2.2) := ⟨⟨t1 (List.mem_of_getElem? (i := 8) rfl), rfl⟩, ⟨t4 (List.mem_of_getElem? (i := 172) rfl), rfl⟩⟩
theorem imX7_state : inT (.instanceMethod mX7_state.1) := ⟨t4 (List.mem_of_getElem? (i := 170) rfl), rfl⟩
theorem seX7_state : inT (.selects mX7_state.1.cls mX7_state.1 mX7_state.1) := ⟨t4 (List.mem_of_getElem? (i := 171) rfl), rfl⟩
def mX7_clash : MI := (yX7_clash, cX7_clash, 5, (some .int))
theorem okX7_clash : inT (.initialized mX7_clash.1.cls) ∧ inT (.code mX7_clash.1 mX7_clash.2.1 mX7_clash.2.2.1 mX7_clash.2.2.2) := ⟨⟨t1 (List.mem_of_getElem? (i := 8) rfl), rfl⟩, ⟨t4 (List.mem_of_getElem? (i := 176) rfl), rfl⟩⟩
theorem imX7_clash : inT (.instanceMethod mX7_clash.1) := ⟨t4 (List.mem_of_getElem? (i := 174) rfl), rfl⟩
theorem seX7_clash : inT (.selects mX7_clash.1.cls mX7_clash.1 mX7_clash.1) := ⟨t4 (List.mem_of_getElem? (i := 175) rfl), rfl⟩
def mX7_first : MI := (yX7_first, cX7_first, 8, (some .int))
theorem okX7_first : inT (.initialized mX7_first.1.cls) ∧ inT (.code mX7_first.1 mX7_first.2.1 mX7_first.2.2.1 mX7_first.2.2.2) := ⟨⟨t1 (List.mem_of_getElem? (i := 8) rfl), rfl⟩, ⟨t4 (List.mem_of_getElem? (i := 180) rfl), rfl⟩⟩
theorem imX7_first : inT (.instanceMethod mX7_first.1) := ⟨t4 (List.mem_of_getElem? (i := 178) rfl), rfl⟩
theorem seX7_first : inT (.selects mX7_first.1.cls mX7_first.1 mX7_first.1) := ⟨t4 (List.mem_of_getElem? (i := 179) rfl), rfl⟩
def mX7_nearRight : MI := (yX7_nearRight, cX7_nearRight, 9, (some .int))
theorem okX7_nearRight : inT (.initialized mX7_nearRight.1.cls) ∧ inT (.code mX7_nearRight.1 mX7_nearRight.2.1 mX7_nearRight.2.2.1 mX7_nearRight.2.2.2) := ⟨⟨t1 (List.mem_of_getElem? (i := 8) rfl), rfl⟩, ⟨t4 (List.mem_of_getElem? (i := 192) rfl), rfl⟩⟩
theorem imX7_nearRight : inT (.instanceMethod mX7_nearRight.1) := ⟨t4 (List.mem_of_getElem? (i := 191) rfl), rfl⟩
theorem seX7_nearRight : inT (.selects mX7_nearRight.1.cls mX7_nearRight.1 mX7_nearRight.1) := ⟨t0 (q := (yX7_nearRight, 27)) (p4 (List.mem_of_getElem? (i := 7) rfl)), rfl⟩
def mX7_may : MI := (yX7_may, cX7_may, 13, (some .int))
theorem okX7_may : inT (.initialized mX7_may.1.cls) ∧ inT (.code mX7_may.1 mX7_may.2.1 mX7_may.2.2.1 mX7_may.2.2.2) := ⟨⟨t1 (List.mem_of_getElem? (i := 8) rfl), rfl⟩, ⟨t4 (List.mem_of_getElem? (i := 188) rfl), rfl⟩⟩
theorem imX7_may : inT (.instanceMethod mX7_may.1) := ⟨t4 (List.mem_of_getElem? (i := 186) rfl), rfl⟩
theorem seX7_may : inT (.selects mX7_may.1.cls mX7_may.1 mX7_may.1) := ⟨t4 (List.mem_of_getElem? (i := 187) rfl), rfl⟩
def mX7_watch : MI := (yX7_watch, cX7_watch, 6, (some .int))
theorem okX7_watch : inT (.initialized mX7_watch.1.cls) ∧ inT (.code mX7_watch.1 mX7_watch.2.1 mX7_watch.2.2.1 mX7_watch.2.2.2) := ⟨⟨t1 (List.mem_of_getElem? (i := 8) rfl), rfl⟩, ⟨t4 (List.mem_of_getElem? (i := 196) rfl), rfl⟩⟩
theorem imX7_watch : inT (.instanceMethod mX7_watch.1) := ⟨t4 (List.mem_of_getElem? (i := 194) rfl), rfl⟩
theorem seX7_watch : inT (.selects mX7_watch.1.cls mX7_watch.1 mX7_watch.1) := ⟨t4 (List.mem_of_getElem? (i := 195) rfl), rfl⟩
def mX7_comesNear : MI := (yX7_comesNear, cX7_comesNear, 8, (some .boolean))
theorem okX7_comesNear : inT (.initialized mX7_comesNear.1.cls) ∧ inT (.code mX7_comesNear.1 mX7_comesNear.2.1 mX7_comesNear.2.2.1 mX7_comesNear.2.2.2) := ⟨⟨t1 (List.mem_of_getElem? (i := 8) rfl), rfl⟩, ⟨t4 (List.mem_of_getElem? (i := 200) rfl), rfl⟩⟩
theorem imX7_comesNear : inT (.instanceMethod mX7_comesNear.1) := ⟨t4 (List.mem_of_getElem? (i := 199) rfl), rfl⟩
theorem seX7_comesNear : inT (.selects mX7_comesNear.1.cls mX7_comesNear.1 mX7_comesNear.1) := ⟨t0 (q := (yX7_comesNear, 27)) (p4 (List.mem_of_getElem? (i := 8) rfl)), rfl⟩
def mX7_about : MI := (yX7_about, cX7_about, 2, (some .int))
theorem okX7_about : inT (.initialized mX7_about.1.cls) ∧ inT (.code mX7_about.1 mX7_about.2.1 mX7_about.2.2.1 mX7_about.2.2.2) := ⟨⟨t1 (List.mem_of_getElem? (i := 8) rfl), rfl⟩, ⟨t4 (List.mem_of_getElem? (i := 204) rfl), rfl⟩⟩
theorem imX7_about : inT (.instanceMethod mX7_about.1) := ⟨t4 (List.mem_of_getElem? (i := 202) rfl), rfl⟩
theorem seX7_about : inT (.selects mX7_about.1.cls mX7_about.1 mX7_about.1) := ⟨t4 (List.mem_of_getElem? (i := 203) rfl), rfl⟩
def mJ9_max_7cf53 : MI := (yJ9_max_7cf53, cJ9_max_7cf53, 2, (some .int))
theorem okJ9_max_7cf53 : inT (.initialized mJ9_max_7cf53.1.cls) ∧ inT (.code mJ9_max_7cf53.1 mJ9_max_7cf53.2.1 mJ9_max_7cf53.2.2.1 mJ9_max_7cf53.2.2.2) := ⟨⟨t1 (List.mem_of_getElem? (i := 10) rfl), rfl⟩, ⟨t2 (List.mem_of_getElem? (i := 205) rfl), rfl⟩⟩
theorem stJ9_max_7cf53 : inT (.static mJ9_max_7cf53.1) := ⟨t2 (List.mem_of_getElem? (i := 204) rfl), rfl⟩
def mJ9_min_7cf53 : MI := (yJ9_min_7cf53, cJ9_min_7cf53, 2, (some .int))
theorem okJ9_min_7cf53 : inT (.initialized mJ9_min_7cf53.1.cls) ∧ inT (.code mJ9_min_7cf53.1 mJ9_min_7cf53.2.1 mJ9_min_7cf53.2.2.1 mJ9_min_7cf53.2.2.2) := ⟨⟨t1 (List.mem_of_getElem? (i := 10) rfl), rfl⟩, ⟨t3 (List.mem_of_getElem? (i := 6) rfl), rfl⟩⟩
theorem stJ9_min_7cf53 : inT (.static mJ9_min_7cf53.1) := ⟨t3 (List.mem_of_getElem? (i := 5) rfl), rfl⟩
def mJ7_fill_53178 : MI := (yJ7_fill_53178, cJ7_fill_53178, 4, none)
theorem okJ7_fill_53178 : inT (.initialized mJ7_fill_53178.1.cls) ∧ inT (.code mJ7_fill_53178.1 mJ7_fill_53178.2.1 mJ7_fill_53178.2.2.1 mJ7_fill_53178.2.2.2) := ⟨⟨t1 (List.mem_of_getElem? (i := 3) rfl), rfl⟩, ⟨t1 (List.mem_of_getElem? (i := 27) rfl), rfl⟩⟩
theorem stJ7_fill_53178 : inT (.static mJ7_fill_53178.1) := ⟨t1 (List.mem_of_getElem? (i := 26) rfl), rfl⟩
theorem iaX6 : inT (.instantiable RX6 11) := ⟨t1 (List.mem_of_getElem? (i := 12) rfl), rfl⟩
theorem mlX6_1 : inT (.methodLink RX6 1 objectInit) := ⟨t1 (List.mem_of_getElem? (i := 16) rfl), rfl⟩
theorem klX6_7 : inT (.classLink RX6 7 RX4) := ⟨t1 (List.mem_of_getElem? (i := 19) rfl), rfl⟩
theorem iaX4 : inT (.instantiable RX4 7) := ⟨t1 (List.mem_of_getElem? (i := 20) rfl), rfl⟩
theorem mlX6_9 : inT (.methodLink RX6 9 mX4_init.1) := ⟨t1 (List.mem_of_getElem? (i := 21) rfl), rfl⟩
theorem mlX4_3 : inT (.methodLink RX4 3 objectInit) := ⟨t1 (List.mem_of_getElem? (i := 24) rfl), rfl⟩
theorem mlX4_33 : inT (.methodLink RX4 33 mJ7_fill_53178.1) := ⟨t1 (List.mem_of_getElem? (i := 25) rfl), rfl⟩
theorem flX4_9 : inT (.fieldLink RX4 9 (TX4 0).1 (TX4 0).2.1 (TX4 0).2.2.1) := ⟨t1 (List.mem_of_getElem? (i := 28) rfl), rfl⟩
theorem flX4_15 : inT (.fieldLink RX4 15 (TX4 1).1 (TX4 1).2.1 (TX4 1).2.2.1) := ⟨t1 (List.mem_of_getElem? (i := 29) rfl), rfl⟩
theorem flX4_18 : inT (.fieldLink RX4 18 (TX4 2).1 (TX4 2).2.1 (TX4 2).2.2.1) := ⟨t1 (List.mem_of_getElem? (i := 30) rfl), rfl⟩
theorem flX4_21 : inT (.fieldLink RX4 21 (TX4 3).1 (TX4 3).2.1 (TX4 3).2.2.1) := ⟨t1 (List.mem_of_getElem? (i := 31) rfl), rfl⟩
theorem flX4_24 : inT (.fieldLink RX4 24 (TX4 4).1 (TX4 4).2.1 (TX4 4).2.2.1) := ⟨t1 (List.mem_of_getElem? (i := 32) rfl), rfl⟩
theorem flX4_27 : inT (.fieldLink RX4 27 (TX4 5).1 (TX4 5).2.1 (TX4 5).2.2.1) := ⟨t1 (List.mem_of_getElem? (i := 33) rfl), rfl⟩
theorem flX4_30 : inT (.fieldLink RX4 30 (TX4 6).1 (TX4 6).2.1 (TX4 6).2.2.1) := ⟨t1 (List.mem_of_getElem? (i := 34) rfl), rfl⟩
theorem klX6_16 : inT (.classLink RX6 16 RX2) := ⟨t1 (List.mem_of_getElem? (i := 51) rfl), rfl⟩
theorem iaX2 : inT (.instantiable RX2 4) := ⟨t1 (List.mem_of_getElem? (i := 52) rfl), rfl⟩
theorem mlX2_3 : inT (.methodLink RX2 3 objectInit) := ⟨t1 (List.mem_of_getElem? (i := 56) rfl), rfl⟩
theorem flX2_11 : inT (.fieldLink RX2 11 (TX2 0).1 (TX2 0).2.1 (TX2 0).2.2.1) := ⟨t1 (List.mem_of_getElem? (i := 57) rfl), rfl⟩
theorem flX2_15 : inT (.fieldLink RX2 15 (TX2 1).1 (TX2 1).2.1 (TX2 1).2.2.1) := ⟨t1 (List.mem_of_getElem? (i := 58) rfl), rfl⟩
theorem flX2_18 : inT (.fieldLink RX2 18 (TX2 2).1 (TX2 2).2.1 (TX2 2).2.2.1) := ⟨t1 (List.mem_of_getElem? (i := 59) rfl), rfl⟩
theorem flX2_21 : inT (.fieldLink RX2 21 (TX2 3).1 (TX2 3).2.1 (TX2 3).2.2.1) := ⟨t1 (List.mem_of_getElem? (i := 60) rfl), rfl⟩
theorem klX6_23 : inT (.classLink RX6 23 RX1) := ⟨t1 (List.mem_of_getElem? (i := 71) rfl), rfl⟩
theorem klX6_29 : inT (.classLink RX6 29 RX3) := ⟨t1 (List.mem_of_getElem? (i := 73) rfl), rfl⟩
theorem iaX3 : inT (.instantiable RX3 5) := ⟨t1 (List.mem_of_getElem? (i := 74) rfl), rfl⟩
theorem mlX3_3 : inT (.methodLink RX3 3 objectInit) := ⟨t1 (List.mem_of_getElem? (i := 78) rfl), rfl⟩
theorem flX3_11 : inT (.fieldLink RX3 11 (TX3 0).1 (TX3 0).2.1 (TX3 0).2.2.1) := ⟨t1 (List.mem_of_getElem? (i := 79) rfl), rfl⟩
theorem flX5_41 : inT (.fieldLink RX5 41 (TX3 0).1 (TX3 0).2.1 (TX3 0).2.2.1) := ⟨t1 (List.mem_of_getElem? (i := 80) rfl), rfl⟩
theorem flX6_154 : inT (.fieldLink RX6 154 (TX3 0).1 (TX3 0).2.1 (TX3 0).2.2.1) := ⟨t1 (List.mem_of_getElem? (i := 81) rfl), rfl⟩
theorem flX3_15 : inT (.fieldLink RX3 15 (TX3 1).1 (TX3 1).2.1 (TX3 1).2.2.1) := ⟨t1 (List.mem_of_getElem? (i := 82) rfl), rfl⟩
theorem flX5_38 : inT (.fieldLink RX5 38 (TX3 1).1 (TX3 1).2.1 (TX3 1).2.2.1) := ⟨t1 (List.mem_of_getElem? (i := 83) rfl), rfl⟩
theorem flX6_158 : inT (.fieldLink RX6 158 (TX3 1).1 (TX3 1).2.1 (TX3 1).2.2.1) := ⟨t1 (List.mem_of_getElem? (i := 84) rfl), rfl⟩
theorem flX3_18 : inT (.fieldLink RX3 18 (TX3 2).1 (TX3 2).2.1 (TX3 2).2.2.1) := ⟨t1 (List.mem_of_getElem? (i := 85) rfl), rfl⟩
theorem flX5_44 : inT (.fieldLink RX5 44 (TX3 2).1 (TX3 2).2.1 (TX3 2).2.2.1) := ⟨t1 (List.mem_of_getElem? (i := 86) rfl), rfl⟩
theorem flX6_160 : inT (.fieldLink RX6 160 (TX3 2).1 (TX3 2).2.1 (TX3 2).2.2.1) := ⟨t1 (List.mem_of_getElem? (i := 87) rfl), rfl⟩
theorem flX3_21 : inT (.fieldLink RX3 21 (TX3 3).1 (TX3 3).2.1 (TX3 3).2.2.1) := ⟨t1 (List.mem_of_getElem? (i := 88) rfl), rfl⟩
theorem flX5_35 : inT (.fieldLink RX5 35 (TX3 3).1 (TX3 3).2.1 (TX3 3).2.2.1) := ⟨t1 (List.mem_of_getElem? (i := 89) rfl), rfl⟩
theorem flX6_163 : inT (.fieldLink RX6 163 (TX3 3).1 (TX3 3).2.1 (TX3 3).2.2.1) := ⟨t1 (List.mem_of_getElem? (i := 90) rfl), rfl⟩
theorem flX3_24 : inT (.fieldLink RX3 24 (TX3 4).1 (TX3 4).2.1 (TX3 4).2.2.1) := ⟨t1 (List.mem_of_getElem? (i := 91) rfl), rfl⟩
theorem flX5_29 : inT (.fieldLink RX5 29 (TX3 4).1 (TX3 4).2.1 (TX3 4).2.2.1) := ⟨t1 (List.mem_of_getElem? (i := 92) rfl), rfl⟩
theorem flX6_151 : inT (.fieldLink RX6 151 (TX3 4).1 (TX3 4).2.1 (TX3 4).2.2.1) := ⟨t1 (List.mem_of_getElem? (i := 93) rfl), rfl⟩
theorem klX6_46 : inT (.classLink RX6 46 RX5) := ⟨t1 (List.mem_of_getElem? (i := 105) rfl), rfl⟩
theorem iaX5 : inT (.instantiable RX5 13) := ⟨t1 (List.mem_of_getElem? (i := 106) rfl), rfl⟩
theorem mlX5_3 : inT (.methodLink RX5 3 objectInit) := ⟨t1 (List.mem_of_getElem? (i := 110) rfl), rfl⟩
theorem flX5_61 : inT (.fieldLink RX5 61 (TX5 0).1 (TX5 0).2.1 (TX5 0).2.2.1) := ⟨t1 (List.mem_of_getElem? (i := 111) rfl), rfl⟩
theorem flX5_51 : inT (.fieldLink RX5 51 (TX5 1).1 (TX5 1).2.1 (TX5 1).2.2.1) := ⟨t1 (List.mem_of_getElem? (i := 112) rfl), rfl⟩
theorem flX6_134 : inT (.fieldLink RX6 134 (TX5 1).1 (TX5 1).2.1 (TX5 1).2.2.1) := ⟨t1 (List.mem_of_getElem? (i := 113) rfl), rfl⟩
theorem flX5_77 : inT (.fieldLink RX5 77 (TX5 2).1 (TX5 2).2.1 (TX5 2).2.2.1) := ⟨t1 (List.mem_of_getElem? (i := 114) rfl), rfl⟩
theorem flX5_100 : inT (.fieldLink RX5 100 (TX5 3).1 (TX5 3).2.1 (TX5 3).2.2.1) := ⟨t1 (List.mem_of_getElem? (i := 115) rfl), rfl⟩
theorem flX6_216 : inT (.fieldLink RX6 216 (TX5 3).1 (TX5 3).2.1 (TX5 3).2.2.1) := ⟨t1 (List.mem_of_getElem? (i := 116) rfl), rfl⟩
theorem flX5_58 : inT (.fieldLink RX5 58 (TX5 4).1 (TX5 4).2.1 (TX5 4).2.2.1) := ⟨t1 (List.mem_of_getElem? (i := 117) rfl), rfl⟩
theorem flX5_89 : inT (.fieldLink RX5 89 (TX5 5).1 (TX5 5).2.1 (TX5 5).2.2.1) := ⟨t1 (List.mem_of_getElem? (i := 118) rfl), rfl⟩
theorem flX6_211 : inT (.fieldLink RX6 211 (TX5 5).1 (TX5 5).2.1 (TX5 5).2.2.1) := ⟨t1 (List.mem_of_getElem? (i := 119) rfl), rfl⟩
theorem flX5_103 : inT (.fieldLink RX5 103 (TX5 6).1 (TX5 6).2.1 (TX5 6).2.2.1) := ⟨t1 (List.mem_of_getElem? (i := 120) rfl), rfl⟩
theorem flX6_263 : inT (.fieldLink RX6 263 (TX5 6).1 (TX5 6).2.1 (TX5 6).2.2.1) := ⟨t1 (List.mem_of_getElem? (i := 121) rfl), rfl⟩
theorem flX5_106 : inT (.fieldLink RX5 106 (TX5 7).1 (TX5 7).2.1 (TX5 7).2.2.1) := ⟨t1 (List.mem_of_getElem? (i := 122) rfl), rfl⟩
theorem flX6_252 : inT (.fieldLink RX6 252 (TX5 7).1 (TX5 7).2.1 (TX5 7).2.2.1) := ⟨t1 (List.mem_of_getElem? (i := 123) rfl), rfl⟩
theorem flX5_68 : inT (.fieldLink RX5 68 (TX5 8).1 (TX5 8).2.1 (TX5 8).2.2.1) := ⟨t1 (List.mem_of_getElem? (i := 124) rfl), rfl⟩
theorem flX6_215 : inT (.fieldLink RX6 215 (TX5 8).1 (TX5 8).2.1 (TX5 8).2.2.1) := ⟨t1 (List.mem_of_getElem? (i := 125) rfl), rfl⟩
theorem flX5_11 : inT (.fieldLink RX5 11 (TX5 9).1 (TX5 9).2.1 (TX5 9).2.2.1) := ⟨t1 (List.mem_of_getElem? (i := 126) rfl), rfl⟩
theorem flX6_282 : inT (.fieldLink RX6 282 (TX5 9).1 (TX5 9).2.1 (TX5 9).2.2.1) := ⟨t1 (List.mem_of_getElem? (i := 127) rfl), rfl⟩
theorem flX5_15 : inT (.fieldLink RX5 15 (TX5 10).1 (TX5 10).2.1 (TX5 10).2.2.1) := ⟨t1 (List.mem_of_getElem? (i := 128) rfl), rfl⟩
theorem flX5_18 : inT (.fieldLink RX5 18 (TX5 11).1 (TX5 11).2.1 (TX5 11).2.2.1) := ⟨t1 (List.mem_of_getElem? (i := 129) rfl), rfl⟩
theorem flX5_21 : inT (.fieldLink RX5 21 (TX5 12).1 (TX5 12).2.1 (TX5 12).2.2.1) := ⟨t1 (List.mem_of_getElem? (i := 130) rfl), rfl⟩
theorem klX6_59 : inT (.classLink RX6 59 RX0) := ⟨t1 (List.mem_of_getElem? (i := 159) rfl), rfl⟩
theorem iaX0 : inT (.instantiable RX0 2) := ⟨t1 (List.mem_of_getElem? (i := 160) rfl), rfl⟩
theorem mlX0_3 : inT (.methodLink RX0 3 objectInit) := ⟨t1 (List.mem_of_getElem? (i := 164) rfl), rfl⟩
theorem flX0_9 : inT (.fieldLink RX0 9 (TX0 0).1 (TX0 0).2.1 (TX0 0).2.2.1) := ⟨t1 (List.mem_of_getElem? (i := 165) rfl), rfl⟩
theorem flX6_219 : inT (.fieldLink RX6 219 (TX0 0).1 (TX0 0).2.1 (TX0 0).2.2.1) := ⟨t1 (List.mem_of_getElem? (i := 166) rfl), rfl⟩
theorem flX0_15 : inT (.fieldLink RX0 15 (TX0 1).1 (TX0 1).2.1 (TX0 1).2.2.1) := ⟨t1 (List.mem_of_getElem? (i := 167) rfl), rfl⟩
theorem flX6_222 : inT (.fieldLink RX6 222 (TX0 1).1 (TX0 1).2.1 (TX0 1).2.2.1) := ⟨t1 (List.mem_of_getElem? (i := 168) rfl), rfl⟩
theorem flX6_10 : inT (.fieldLink RX6 10 (TX6 0).1 (TX6 0).2.1 (TX6 0).2.2.1) := ⟨t1 (List.mem_of_getElem? (i := 174) rfl), rfl⟩
theorem flX6_19 : inT (.fieldLink RX6 19 (TX6 1).1 (TX6 1).2.1 (TX6 1).2.2.1) := ⟨t1 (List.mem_of_getElem? (i := 175) rfl), rfl⟩
theorem flX6_25 : inT (.fieldLink RX6 25 (TX6 2).1 (TX6 2).2.1 (TX6 2).2.2.1) := ⟨t1 (List.mem_of_getElem? (i := 176) rfl), rfl⟩
theorem flX6_32 : inT (.fieldLink RX6 32 (TX6 3).1 (TX6 3).2.1 (TX6 3).2.2.1) := ⟨t1 (List.mem_of_getElem? (i := 177) rfl), rfl⟩
theorem flX6_36 : inT (.fieldLink RX6 36 (TX6 4).1 (TX6 4).2.1 (TX6 4).2.2.1) := ⟨t1 (List.mem_of_getElem? (i := 178) rfl), rfl⟩
theorem flX6_40 : inT (.fieldLink RX6 40 (TX6 5).1 (TX6 5).2.1 (TX6 5).2.2.1) := ⟨t1 (List.mem_of_getElem? (i := 179) rfl), rfl⟩
theorem flX6_43 : inT (.fieldLink RX6 43 (TX6 6).1 (TX6 6).2.1 (TX6 6).2.2.1) := ⟨t1 (List.mem_of_getElem? (i := 180) rfl), rfl⟩
theorem flX6_49 : inT (.fieldLink RX6 49 (TX6 7).1 (TX6 7).2.1 (TX6 7).2.2.1) := ⟨t1 (List.mem_of_getElem? (i := 181) rfl), rfl⟩
theorem flX6_53 : inT (.fieldLink RX6 53 (TX6 8).1 (TX6 8).2.1 (TX6 8).2.2.1) := ⟨t1 (List.mem_of_getElem? (i := 182) rfl), rfl⟩
theorem flX6_56 : inT (.fieldLink RX6 56 (TX6 9).1 (TX6 9).2.1 (TX6 9).2.2.1) := ⟨t1 (List.mem_of_getElem? (i := 183) rfl), rfl⟩
theorem flX6_62 : inT (.fieldLink RX6 62 (TX6 10).1 (TX6 10).2.1 (TX6 10).2.2.1) := ⟨t1 (List.mem_of_getElem? (i := 184) rfl), rfl⟩
theorem mlX6_66 : inT (.methodLink RX6 66 mX6_below.1) := ⟨t1 (List.mem_of_getElem? (i := 212) rfl), rfl⟩
theorem mlX6_70 : inT (.methodLink RX6 70 mX4_setPlaces.1) := ⟨t1 (List.mem_of_getElem? (i := 215) rfl), rfl⟩
theorem mlX6_74 : inT (.methodLink RX6 74 mX4_placesOf.1) := ⟨t1 (List.mem_of_getElem? (i := 223) rfl), rfl⟩
theorem mlX6_78 : inT (.methodLink RX6 78 mX4_setPlace.1) := ⟨t1 (List.mem_of_getElem? (i := 227) rfl), rfl⟩
theorem mlX6_82 : inT (.methodLink RX6 82 mX4_setPutCost.1) := ⟨t1 (List.mem_of_getElem? (i := 235) rfl), rfl⟩
theorem mlX6_85 : inT (.methodLink RX6 85 mX4_setChangeCost.1) := ⟨t1 (List.mem_of_getElem? (i := 239) rfl), rfl⟩
theorem mlX6_88 : inT (.methodLink RX6 88 mX2_tell.1) := ⟨t2 (List.mem_of_getElem? (i := 7) rfl), rfl⟩
theorem mlX2_25 : inT (.methodLink RX2 25 mX2_find.1) := ⟨t2 (List.mem_of_getElem? (i := 11) rfl), rfl⟩
theorem mlX2_29 : inT (.methodLink RX2 29 mX2_forget.1) := ⟨t2 (List.mem_of_getElem? (i := 15) rfl), rfl⟩
theorem mlX2_33 : inT (.methodLink RX2 33 mX2_append.1) := ⟨t2 (List.mem_of_getElem? (i := 19) rfl), rfl⟩
theorem iaX1 : inT (.instantiable RX1 6) := ⟨t2 (List.mem_of_getElem? (i := 31) rfl), rfl⟩
theorem mlX6_92 : inT (.methodLink RX6 92 mX1_init.1) := ⟨t2 (List.mem_of_getElem? (i := 32) rfl), rfl⟩
theorem mlX1_3 : inT (.methodLink RX1 3 objectInit) := ⟨t2 (List.mem_of_getElem? (i := 35) rfl), rfl⟩
theorem flX1_22 : inT (.fieldLink RX1 22 (TX1 0).1 (TX1 0).2.1 (TX1 0).2.2.1) := ⟨t2 (List.mem_of_getElem? (i := 36) rfl), rfl⟩
theorem flX6_166 : inT (.fieldLink RX6 166 (TX1 0).1 (TX1 0).2.1 (TX1 0).2.2.1) := ⟨t2 (List.mem_of_getElem? (i := 37) rfl), rfl⟩
theorem flX1_25 : inT (.fieldLink RX1 25 (TX1 1).1 (TX1 1).2.1 (TX1 1).2.2.1) := ⟨t2 (List.mem_of_getElem? (i := 38) rfl), rfl⟩
theorem flX6_169 : inT (.fieldLink RX6 169 (TX1 1).1 (TX1 1).2.1 (TX1 1).2.2.1) := ⟨t2 (List.mem_of_getElem? (i := 39) rfl), rfl⟩
theorem flX1_9 : inT (.fieldLink RX1 9 (TX1 2).1 (TX1 2).2.1 (TX1 2).2.2.1) := ⟨t2 (List.mem_of_getElem? (i := 40) rfl), rfl⟩
theorem flX4_62 : inT (.fieldLink RX4 62 (TX1 2).1 (TX1 2).2.1 (TX1 2).2.2.1) := ⟨t2 (List.mem_of_getElem? (i := 41) rfl), rfl⟩
theorem flX1_28 : inT (.fieldLink RX1 28 (TX1 3).1 (TX1 3).2.1 (TX1 3).2.2.1) := ⟨t2 (List.mem_of_getElem? (i := 42) rfl), rfl⟩
theorem flX1_15 : inT (.fieldLink RX1 15 (TX1 4).1 (TX1 4).2.1 (TX1 4).2.2.1) := ⟨t2 (List.mem_of_getElem? (i := 43) rfl), rfl⟩
theorem flX4_56 : inT (.fieldLink RX4 56 (TX1 4).1 (TX1 4).2.1 (TX1 4).2.2.1) := ⟨t2 (List.mem_of_getElem? (i := 44) rfl), rfl⟩
theorem flX6_172 : inT (.fieldLink RX6 172 (TX1 4).1 (TX1 4).2.1 (TX1 4).2.2.1) := ⟨t2 (List.mem_of_getElem? (i := 45) rfl), rfl⟩
theorem flX1_19 : inT (.fieldLink RX1 19 (TX1 5).1 (TX1 5).2.1 (TX1 5).2.2.1) := ⟨t2 (List.mem_of_getElem? (i := 46) rfl), rfl⟩
theorem flX6_179 : inT (.fieldLink RX6 179 (TX1 5).1 (TX1 5).2.1 (TX1 5).2.2.1) := ⟨t2 (List.mem_of_getElem? (i := 47) rfl), rfl⟩
theorem mlX6_94 : inT (.methodLink RX6 94 mX6_markAt.1) := ⟨t2 (List.mem_of_getElem? (i := 65) rfl), rfl⟩
theorem mlX6_98 : inT (.methodLink RX6 98 mX3_areOf.1) := ⟨t2 (List.mem_of_getElem? (i := 69) rfl), rfl⟩
theorem mlX6_102 : inT (.methodLink RX6 102 mX1_addLetter.1) := ⟨t2 (List.mem_of_getElem? (i := 73) rfl), rfl⟩
theorem cnX6_105 : inT (.constant RX6 105 32768) := ⟨t2 (List.mem_of_getElem? (i := 81) rfl), rfl⟩
theorem mlX6_106 : inT (.methodLink RX6 106 mX1_addCode.1) := ⟨t2 (List.mem_of_getElem? (i := 82) rfl), rfl⟩
theorem mlX1_31 : inT (.methodLink RX1 31 mX1_hasCode.1) := ⟨t2 (List.mem_of_getElem? (i := 86) rfl), rfl⟩
theorem mlX6_109 : inT (.methodLink RX6 109 mX6_boundOfX.1) := ⟨t2 (List.mem_of_getElem? (i := 94) rfl), rfl⟩
theorem mlX6_112 : inT (.methodLink RX6 112 mX6_isDay.1) := ⟨t2 (List.mem_of_getElem? (i := 97) rfl), rfl⟩
theorem cnX6_248 : inT (.constant RX6 248 60000) := ⟨t2 (List.mem_of_getElem? (i := 100) rfl), rfl⟩
theorem mlX6_115 : inT (.methodLink RX6 115 mX3_take.1) := ⟨t2 (List.mem_of_getElem? (i := 101) rfl), rfl⟩
theorem mlX3_28 : inT (.methodLink RX3 28 mX3_latestDay.1) := ⟨t2 (List.mem_of_getElem? (i := 105) rfl), rfl⟩
theorem mlX6_118 : inT (.methodLink RX6 118 mX5_read.1) := ⟨t2 (List.mem_of_getElem? (i := 109) rfl), rfl⟩
theorem mlX5_25 : inT (.methodLink RX5 25 mX5_clear.1) := ⟨t2 (List.mem_of_getElem? (i := 113) rfl), rfl⟩
theorem mlX5_47 : inT (.methodLink RX5 47 mX5_readPaper.1) := ⟨t2 (List.mem_of_getElem? (i := 117) rfl), rfl⟩
theorem mlX5_109 : inT (.methodLink RX5 109 mX5_readGoods.1) := ⟨t2 (List.mem_of_getElem? (i := 121) rfl), rfl⟩
theorem mlX5_69 : inT (.methodLink RX5 69 mX5_find.1) := ⟨t2 (List.mem_of_getElem? (i := 125) rfl), rfl⟩
theorem mlX5_113 : inT (.methodLink RX5 113 mX5_readEnter.1) := ⟨t2 (List.mem_of_getElem? (i := 129) rfl), rfl⟩
theorem mlX5_117 : inT (.methodLink RX5 117 mX5_readGive.1) := ⟨t2 (List.mem_of_getElem? (i := 133) rfl), rfl⟩
theorem mlX5_120 : inT (.methodLink RX5 120 mX5_readUse.1) := ⟨t2 (List.mem_of_getElem? (i := 137) rfl), rfl⟩
theorem mlX6_122 : inT (.methodLink RX6 122 mX6_canBe.1) := ⟨t2 (List.mem_of_getElem? (i := 141) rfl), rfl⟩
theorem mlX6_130 : inT (.methodLink RX6 130 mX5_isEntered.1) := ⟨t2 (List.mem_of_getElem? (i := 145) rfl), rfl⟩
theorem mlX6_249 : inT (.methodLink RX6 249 mX5_keeps.1) := ⟨t2 (List.mem_of_getElem? (i := 149) rfl), rfl⟩
theorem mlX6_255 : inT (.methodLink RX6 255 mX3_tell.1) := ⟨t2 (List.mem_of_getElem? (i := 153) rfl), rfl⟩
theorem mlX6_257 : inT (.methodLink RX6 257 mX5_isTimeToRenew.1) := ⟨t2 (List.mem_of_getElem? (i := 157) rfl), rfl⟩
theorem mlX5_64 : inT (.methodLink RX5 64 mX5_termEnd.1) := ⟨t2 (List.mem_of_getElem? (i := 161) rfl), rfl⟩
theorem mlX5_54 : inT (.methodLink RX5 54 mX5_isEntered.1) := ⟨t2 (List.mem_of_getElem? (i := 165) rfl), rfl⟩
theorem mlX6_260 : inT (.methodLink RX6 260 mX6_isOfKind.1) := ⟨t2 (List.mem_of_getElem? (i := 166) rfl), rfl⟩
theorem mlX6_126 : inT (.methodLink RX6 126 mX3_add.1) := ⟨t2 (List.mem_of_getElem? (i := 170) rfl), rfl⟩
theorem mlX6_137 : inT (.methodLink RX6 137 mX6_findClash.1) := ⟨t2 (List.mem_of_getElem? (i := 178) rfl), rfl⟩
theorem mlX6_288 : inT (.methodLink RX6 288 mX0_clear.1) := ⟨t2 (List.mem_of_getElem? (i := 182) rfl), rfl⟩
theorem mlX6_238 : inT (.methodLink RX6 238 mX6_haveOneOwner.1) := ⟨t2 (List.mem_of_getElem? (i := 186) rfl), rfl⟩
theorem mlX6_291 : inT (.methodLink RX6 291 mX5_standsForAny.1) := ⟨t2 (List.mem_of_getElem? (i := 190) rfl), rfl⟩
theorem mlX5_96 : inT (.methodLink RX5 96 mX5_standsAt.1) := ⟨t2 (List.mem_of_getElem? (i := 194) rfl), rfl⟩
theorem mlX5_86 : inT (.methodLink RX5 86 mX5_rightAt.1) := ⟨t2 (List.mem_of_getElem? (i := 198) rfl), rfl⟩
theorem mlX5_80 : inT (.methodLink RX5 80 mJ9_max_7cf53.1) := ⟨t2 (List.mem_of_getElem? (i := 203) rfl), rfl⟩
theorem mlX5_93 : inT (.methodLink RX5 93 mX5_isLapsed.1) := ⟨t2 (List.mem_of_getElem? (i := 206) rfl), rfl⟩
theorem mlX6_228 : inT (.methodLink RX6 228 mX6_areAlike.1) := ⟨t2 (List.mem_of_getElem? (i := 210) rfl), rfl⟩
theorem mlX6_186 : inT (.methodLink RX6 186 mX6_likeOf.1) := ⟨t2 (List.mem_of_getElem? (i := 214) rfl), rfl⟩
theorem mlX6_266 : inT (.methodLink RX6 266 mX1_hasPicture.1) := ⟨t2 (List.mem_of_getElem? (i := 218) rfl), rfl⟩
theorem mlX6_269 : inT (.methodLink RX6 269 mX1_likeOfPictures.1) := ⟨t2 (List.mem_of_getElem? (i := 222) rfl), rfl⟩
theorem mlX1_35 : inT (.methodLink RX1 35 mJ9_max_7cf53.1) := ⟨t2 (List.mem_of_getElem? (i := 226) rfl), rfl⟩
theorem mlX6_272 : inT (.methodLink RX6 272 mX4_likeOf.1) := ⟨t2 (List.mem_of_getElem? (i := 227) rfl), rfl⟩
theorem mlX4_39 : inT (.methodLink RX4 39 mX4_spell.1) := ⟨t2 (List.mem_of_getElem? (i := 231) rfl), rfl⟩
theorem mlX4_65 : inT (.methodLink RX4 65 mX4_heard.1) := ⟨t2 (List.mem_of_getElem? (i := 235) rfl), rfl⟩
theorem mlX4_51 : inT (.methodLink RX4 51 mJ9_max_7cf53.1) := ⟨t2 (List.mem_of_getElem? (i := 239) rfl), rfl⟩
theorem mlX4_47 : inT (.methodLink RX4 47 mX4_leastSum.1) := ⟨t3 (List.mem_of_getElem? (i := 0) rfl), rfl⟩
theorem mlX4_68 : inT (.methodLink RX4 68 mJ9_min_7cf53.1) := ⟨t3 (List.mem_of_getElem? (i := 4) rfl), rfl⟩
theorem mlX6_273 : inT (.methodLink RX6 273 mJ9_max_7cf53.1) := ⟨t3 (List.mem_of_getElem? (i := 7) rfl), rfl⟩
theorem mlX6_202 : inT (.methodLink RX6 202 mX5_standsAt.1) := ⟨t3 (List.mem_of_getElem? (i := 8) rfl), rfl⟩
theorem mlX6_294 : inT (.methodLink RX6 294 mX6_findClashOver.1) := ⟨t3 (List.mem_of_getElem? (i := 9) rfl), rfl⟩
theorem mlX6_199 : inT (.methodLink RX6 199 mX5_rightAt.1) := ⟨t3 (List.mem_of_getElem? (i := 13) rfl), rfl⟩
theorem mlX6_285 : inT (.methodLink RX6 285 mX6_isNear.1) := ⟨t3 (List.mem_of_getElem? (i := 14) rfl), rfl⟩
theorem mlX6_279 : inT (.methodLink RX6 279 mX2_nearOf.1) := ⟨t3 (List.mem_of_getElem? (i := 18) rfl), rfl⟩
theorem mlX6_193 : inT (.methodLink RX6 193 mX5_find.1) := ⟨t3 (List.mem_of_getElem? (i := 22) rfl), rfl⟩
theorem mlX6_297 : inT (.methodLink RX6 297 mX0_add.1) := ⟨t3 (List.mem_of_getElem? (i := 23) rfl), rfl⟩
theorem mlX6_141 : inT (.methodLink RX6 141 mX0_isThere.1) := ⟨t3 (List.mem_of_getElem? (i := 27) rfl), rfl⟩
theorem mlX6_144 : inT (.methodLink RX6 144 mX6_paper.1) := ⟨t3 (List.mem_of_getElem? (i := 31) rfl), rfl⟩
theorem mlX6_147 : inT (.methodLink RX6 147 mX3_takeBack.1) := ⟨t3 (List.mem_of_getElem? (i := 36) rfl), rfl⟩
theorem mlX6_175 : inT (.methodLink RX6 175 mX4_countOf.1) := ⟨t3 (List.mem_of_getElem? (i := 48) rfl), rfl⟩
theorem mlX6_182 : inT (.methodLink RX6 182 mX4_at.1) := ⟨t3 (List.mem_of_getElem? (i := 56) rfl), rfl⟩
theorem mlX6_190 : inT (.methodLink RX6 190 mX4_costOf.1) := ⟨t3 (List.mem_of_getElem? (i := 65) rfl), rfl⟩
theorem mlX6_196 : inT (.methodLink RX6 196 mX5_sinceAt.1) := ⟨t3 (List.mem_of_getElem? (i := 73) rfl), rfl⟩
theorem mlX6_205 : inT (.methodLink RX6 205 mX5_termEnd.1) := ⟨t3 (List.mem_of_getElem? (i := 81) rfl), rfl⟩
theorem mlX6_208 : inT (.methodLink RX6 208 mX5_isLapsed.1) := ⟨t3 (List.mem_of_getElem? (i := 82) rfl), rfl⟩
theorem mlX6_225 : inT (.methodLink RX6 225 mX6_earliestNear.1) := ⟨t3 (List.mem_of_getElem? (i := 95) rfl), rfl⟩
theorem mlX6_231 : inT (.methodLink RX6 231 mX6_claimOf.1) := ⟨t3 (List.mem_of_getElem? (i := 99) rfl), rfl⟩
theorem mlX6_235 : inT (.methodLink RX6 235 mX3_latest.1) := ⟨t3 (List.mem_of_getElem? (i := 107) rfl), rfl⟩
theorem mlX6_241 : inT (.methodLink RX6 241 mX6_standsNearYounger.1) := ⟨t3 (List.mem_of_getElem? (i := 111) rfl), rfl⟩
theorem mlX6_244 : inT (.methodLink RX6 244 mX3_latestDay.1) := ⟨t3 (List.mem_of_getElem? (i := 119) rfl), rfl⟩
theorem iaX7 : inT (.instantiable RX7 27) := ⟨t3 (List.mem_of_getElem? (i := 121) rfl), rfl⟩
theorem mlX7_1 : inT (.methodLink RX7 1 objectInit) := ⟨t3 (List.mem_of_getElem? (i := 125) rfl), rfl⟩
theorem flX7_7 : inT (.fieldLink RX7 7 (TX7 0).1 (TX7 0).2.1 (TX7 0).2.2.1) := ⟨t3 (List.mem_of_getElem? (i := 126) rfl), rfl⟩
theorem flX7_13 : inT (.fieldLink RX7 13 (TX7 1).1 (TX7 1).2.1 (TX7 1).2.2.1) := ⟨t3 (List.mem_of_getElem? (i := 127) rfl), rfl⟩
theorem flX7_16 : inT (.fieldLink RX7 16 (TX7 2).1 (TX7 2).2.1 (TX7 2).2.2.1) := ⟨t3 (List.mem_of_getElem? (i := 128) rfl), rfl⟩
theorem flX7_19 : inT (.fieldLink RX7 19 (TX7 3).1 (TX7 3).2.1 (TX7 3).2.2.1) := ⟨t3 (List.mem_of_getElem? (i := 129) rfl), rfl⟩
theorem flX7_22 : inT (.fieldLink RX7 22 (TX7 4).1 (TX7 4).2.1 (TX7 4).2.2.1) := ⟨t3 (List.mem_of_getElem? (i := 130) rfl), rfl⟩
theorem flX7_25 : inT (.fieldLink RX7 25 (TX7 5).1 (TX7 5).2.1 (TX7 5).2.2.1) := ⟨t3 (List.mem_of_getElem? (i := 131) rfl), rfl⟩
theorem flX7_28 : inT (.fieldLink RX7 28 (TX7 6).1 (TX7 6).2.1 (TX7 6).2.2.1) := ⟨t3 (List.mem_of_getElem? (i := 132) rfl), rfl⟩
theorem flX7_91 : inT (.fieldLink RX7 91 (TX7 7).1 (TX7 7).2.1 (TX7 7).2.2.1) := ⟨t3 (List.mem_of_getElem? (i := 133) rfl), rfl⟩
theorem flX7_76 : inT (.fieldLink RX7 76 (TX7 8).1 (TX7 8).2.1 (TX7 8).2.2.1) := ⟨t3 (List.mem_of_getElem? (i := 134) rfl), rfl⟩
theorem flX7_80 : inT (.fieldLink RX7 80 (TX7 9).1 (TX7 9).2.1 (TX7 9).2.2.1) := ⟨t3 (List.mem_of_getElem? (i := 135) rfl), rfl⟩
theorem flX7_83 : inT (.fieldLink RX7 83 (TX7 10).1 (TX7 10).2.1 (TX7 10).2.2.1) := ⟨t3 (List.mem_of_getElem? (i := 136) rfl), rfl⟩
theorem flX7_31 : inT (.fieldLink RX7 31 (TX7 11).1 (TX7 11).2.1 (TX7 11).2.2.1) := ⟨t3 (List.mem_of_getElem? (i := 137) rfl), rfl⟩
theorem flX7_34 : inT (.fieldLink RX7 34 (TX7 12).1 (TX7 12).2.1 (TX7 12).2.2.1) := ⟨t3 (List.mem_of_getElem? (i := 138) rfl), rfl⟩
theorem flX7_37 : inT (.fieldLink RX7 37 (TX7 13).1 (TX7 13).2.1 (TX7 13).2.2.1) := ⟨t3 (List.mem_of_getElem? (i := 139) rfl), rfl⟩
theorem flX7_40 : inT (.fieldLink RX7 40 (TX7 14).1 (TX7 14).2.1 (TX7 14).2.2.1) := ⟨t3 (List.mem_of_getElem? (i := 140) rfl), rfl⟩
theorem flX7_43 : inT (.fieldLink RX7 43 (TX7 15).1 (TX7 15).2.1 (TX7 15).2.2.1) := ⟨t3 (List.mem_of_getElem? (i := 141) rfl), rfl⟩
theorem flX7_46 : inT (.fieldLink RX7 46 (TX7 16).1 (TX7 16).2.1 (TX7 16).2.2.1) := ⟨t3 (List.mem_of_getElem? (i := 142) rfl), rfl⟩
theorem flX7_105 : inT (.fieldLink RX7 105 (TX7 17).1 (TX7 17).2.1 (TX7 17).2.2.1) := ⟨t3 (List.mem_of_getElem? (i := 143) rfl), rfl⟩
theorem flX7_49 : inT (.fieldLink RX7 49 (TX7 18).1 (TX7 18).2.1 (TX7 18).2.2.1) := ⟨t3 (List.mem_of_getElem? (i := 144) rfl), rfl⟩
theorem flX7_52 : inT (.fieldLink RX7 52 (TX7 19).1 (TX7 19).2.1 (TX7 19).2.2.1) := ⟨t3 (List.mem_of_getElem? (i := 145) rfl), rfl⟩
theorem flX7_55 : inT (.fieldLink RX7 55 (TX7 20).1 (TX7 20).2.1 (TX7 20).2.2.1) := ⟨t3 (List.mem_of_getElem? (i := 146) rfl), rfl⟩
theorem flX7_58 : inT (.fieldLink RX7 58 (TX7 21).1 (TX7 21).2.1 (TX7 21).2.2.1) := ⟨t3 (List.mem_of_getElem? (i := 147) rfl), rfl⟩
theorem flX7_61 : inT (.fieldLink RX7 61 (TX7 22).1 (TX7 22).2.1 (TX7 22).2.2.1) := ⟨t3 (List.mem_of_getElem? (i := 148) rfl), rfl⟩
theorem flX7_64 : inT (.fieldLink RX7 64 (TX7 23).1 (TX7 23).2.1 (TX7 23).2.2.1) := ⟨t3 (List.mem_of_getElem? (i := 149) rfl), rfl⟩
theorem flX7_67 : inT (.fieldLink RX7 67 (TX7 24).1 (TX7 24).2.1 (TX7 24).2.2.1) := ⟨t3 (List.mem_of_getElem? (i := 150) rfl), rfl⟩
theorem flX7_70 : inT (.fieldLink RX7 70 (TX7 25).1 (TX7 25).2.1 (TX7 25).2.2.1) := ⟨t3 (List.mem_of_getElem? (i := 151) rfl), rfl⟩
theorem flX7_73 : inT (.fieldLink RX7 73 (TX7 26).1 (TX7 26).2.1 (TX7 26).2.2.1) := ⟨t3 (List.mem_of_getElem? (i := 152) rfl), rfl⟩
theorem mlX7_86 : inT (.methodLink RX7 86 mX7_in.1) := ⟨t3 (List.mem_of_getElem? (i := 212) rfl), rfl⟩
theorem mlX7_94 : inT (.methodLink RX7 94 mX7_isGoods.1) := ⟨t3 (List.mem_of_getElem? (i := 227) rfl), rfl⟩
theorem mlX7_98 : inT (.methodLink RX7 98 mX7_pairOf.1) := ⟨t3 (List.mem_of_getElem? (i := 230) rfl), rfl⟩
theorem mlX7_102 : inT (.methodLink RX7 102 mX7_isPerson.1) := ⟨t4 (List.mem_of_getElem? (i := 2) rfl), rfl⟩
theorem mlX7_108 : inT (.methodLink RX7 108 mX7_isMark.1) := ⟨t4 (List.mem_of_getElem? (i := 9) rfl), rfl⟩
theorem mlX7_111 : inT (.methodLink RX7 111 mX7_hasPaper.1) := ⟨t4 (List.mem_of_getElem? (i := 13) rfl), rfl⟩
theorem mlX7_114 : inT (.methodLink RX7 114 mX7_hasCode.1) := ⟨t4 (List.mem_of_getElem? (i := 21) rfl), rfl⟩
theorem mlX7_197 : inT (.methodLink RX7 197 mX7_isX.1) := ⟨t4 (List.mem_of_getElem? (i := 29) rfl), rfl⟩
theorem mlX7_194 : inT (.methodLink RX7 194 mX7_isCountry.1) := ⟨t4 (List.mem_of_getElem? (i := 32) rfl), rfl⟩
theorem mlX7_200 : inT (.methodLink RX7 200 mX7_isDay.1) := ⟨t4 (List.mem_of_getElem? (i := 35) rfl), rfl⟩
theorem cnX7_90 : inT (.constant RX7 90 60000) := ⟨t4 (List.mem_of_getElem? (i := 38) rfl), rfl⟩
theorem mlX7_203 : inT (.methodLink RX7 203 mX7_canBe.1) := ⟨t4 (List.mem_of_getElem? (i := 39) rfl), rfl⟩
theorem mlX7_145 : inT (.methodLink RX7 145 mX7_firstOf.1) := ⟨t4 (List.mem_of_getElem? (i := 43) rfl), rfl⟩
theorem mlX7_142 : inT (.methodLink RX7 142 mX7_earliest.1) := ⟨t4 (List.mem_of_getElem? (i := 47) rfl), rfl⟩
theorem mlX7_138 : inT (.methodLink RX7 138 mX7_latest.1) := ⟨t4 (List.mem_of_getElem? (i := 51) rfl), rfl⟩
theorem mlX7_186 : inT (.methodLink RX7 186 mX7_goodsInto.1) := ⟨t4 (List.mem_of_getElem? (i := 55) rfl), rfl⟩
theorem mlX7_155 : inT (.methodLink RX7 155 mX7_since.1) := ⟨t4 (List.mem_of_getElem? (i := 59) rfl), rfl⟩
theorem mlX7_152 : inT (.methodLink RX7 152 mX7_termEnd.1) := ⟨t4 (List.mem_of_getElem? (i := 63) rfl), rfl⟩
theorem mlX7_148 : inT (.methodLink RX7 148 mX7_countOf.1) := ⟨t4 (List.mem_of_getElem? (i := 67) rfl), rfl⟩
theorem mlX7_164 : inT (.methodLink RX7 164 mX7_isStruck.1) := ⟨t4 (List.mem_of_getElem? (i := 71) rfl), rfl⟩
theorem mlX7_170 : inT (.methodLink RX7 170 mX7_hasLeave.1) := ⟨t4 (List.mem_of_getElem? (i := 75) rfl), rfl⟩
theorem mlX7_206 : inT (.methodLink RX7 206 mX7_clashOf.1) := ⟨t4 (List.mem_of_getElem? (i := 83) rfl), rfl⟩
theorem mlX7_183 : inT (.methodLink RX7 183 mX7_mayClash.1) := ⟨t4 (List.mem_of_getElem? (i := 87) rfl), rfl⟩
theorem mlX7_173 : inT (.methodLink RX7 173 mX7_isAlike.1) := ⟨t4 (List.mem_of_getElem? (i := 91) rfl), rfl⟩
theorem mlX7_135 : inT (.methodLink RX7 135 mX7_likeOf.1) := ⟨t4 (List.mem_of_getElem? (i := 95) rfl), rfl⟩
theorem mlX7_129 : inT (.methodLink RX7 129 mX7_codesLike.1) := ⟨t4 (List.mem_of_getElem? (i := 99) rfl), rfl⟩
theorem mlX7_132 : inT (.methodLink RX7 132 mX7_wordsLike.1) := ⟨t4 (List.mem_of_getElem? (i := 103) rfl), rfl⟩
theorem mlX7_126 : inT (.methodLink RX7 126 mX7_costOf.1) := ⟨t4 (List.mem_of_getElem? (i := 107) rfl), rfl⟩
theorem mlX7_121 : inT (.methodLink RX7 121 mX7_soundsInto.1) := ⟨t4 (List.mem_of_getElem? (i := 111) rfl), rfl⟩
theorem mlX7_118 : inT (.methodLink RX7 118 mX7_soundOfLetter.1) := ⟨t4 (List.mem_of_getElem? (i := 115) rfl), rfl⟩
theorem cnX7_125 : inT (.constant RX7 125 2147483647) := ⟨t4 (List.mem_of_getElem? (i := 119) rfl), rfl⟩
theorem mlX7_190 : inT (.methodLink RX7 190 mX7_clashes.1) := ⟨t4 (List.mem_of_getElem? (i := 120) rfl), rfl⟩
theorem mlX7_176 : inT (.methodLink RX7 176 mX7_isNear.1) := ⟨t4 (List.mem_of_getElem? (i := 124) rfl), rfl⟩
theorem mlX7_167 : inT (.methodLink RX7 167 mX7_nearOf.1) := ⟨t4 (List.mem_of_getElem? (i := 128) rfl), rfl⟩
theorem mlX7_180 : inT (.methodLink RX7 180 mX7_stands.1) := ⟨t4 (List.mem_of_getElem? (i := 132) rfl), rfl⟩
theorem mlX7_158 : inT (.methodLink RX7 158 mX7_rightOf.1) := ⟨t4 (List.mem_of_getElem? (i := 136) rfl), rfl⟩
theorem mlX7_161 : inT (.methodLink RX7 161 mX7_hasLapsed.1) := ⟨t4 (List.mem_of_getElem? (i := 140) rfl), rfl⟩
theorem mlX7_209 : inT (.methodLink RX7 209 mX7_paper.1) := ⟨t4 (List.mem_of_getElem? (i := 144) rfl), rfl⟩
theorem mlX7_212 : inT (.methodLink RX7 212 mX7_clashRight.1) := ⟨t4 (List.mem_of_getElem? (i := 181) rfl), rfl⟩
theorem mlX7_215 : inT (.methodLink RX7 215 mX7_nearRight.1) := ⟨t4 (List.mem_of_getElem? (i := 189) rfl), rfl⟩
theorem mlX7_218 : inT (.methodLink RX7 218 mX7_comesNear.1) := ⟨t4 (List.mem_of_getElem? (i := 197) rfl), rfl⟩
theorem acI : inT (.arrayClass .int) := ⟨t1 (List.mem_of_getElem? (i := 50) rfl), rfl⟩
theorem acZ : inT (.arrayClass .boolean) := ⟨t1 (List.mem_of_getElem? (i := 158) rfl), rfl⟩
theorem obI : inT (.instanceMethod objectInit) := ⟨t1 (List.mem_of_getElem? (i := 17) rfl), rfl⟩
theorem obC : inT (.code objectInit ⟨#[0xb1]⟩ 1 none) := ⟨t1 (List.mem_of_getElem? (i := 18) rfl), rfl⟩
theorem ly0 : ∀ k, k < 2 → inT (u_lay RX0 TX0 k) := by
  intro k hk
  match k, hk with
  | 0, _ => exact ⟨t1 (List.mem_of_getElem? (i := 169) rfl), rfl⟩
  | 1, _ => exact ⟨t1 (List.mem_of_getElem? (i := 171) rfl), rfl⟩
theorem lz0 : ∀ w ∈ u_ws RX0 TX0 2, inT w := fun w hw => by
  obtain ⟨k, hk, rfl⟩ := List.mem_map.mp hw
  exact ly0 k (List.mem_range.mp hk)
theorem ly1 : ∀ k, k < 6 → inT (u_lay RX1 TX1 k) := by
  intro k hk
  match k, hk with
  | 0, _ => exact ⟨t2 (List.mem_of_getElem? (i := 48) rfl), rfl⟩
  | 1, _ => exact ⟨t2 (List.mem_of_getElem? (i := 50) rfl), rfl⟩
  | 2, _ => exact ⟨t2 (List.mem_of_getElem? (i := 52) rfl), rfl⟩
  | 3, _ => exact ⟨t2 (List.mem_of_getElem? (i := 54) rfl), rfl⟩
  | 4, _ => exact ⟨t2 (List.mem_of_getElem? (i := 56) rfl), rfl⟩
  | 5, _ => exact ⟨t2 (List.mem_of_getElem? (i := 58) rfl), rfl⟩
theorem lz1 : ∀ w ∈ u_ws RX1 TX1 6, inT w := fun w hw => by
  obtain ⟨k, hk, rfl⟩ := List.mem_map.mp hw
  exact ly1 k (List.mem_range.mp hk)
theorem ly2 : ∀ k, k < 4 → inT (u_lay RX2 TX2 k) := by
  intro k hk
  match k, hk with
  | 0, _ => exact ⟨t1 (List.mem_of_getElem? (i := 62) rfl), rfl⟩
  | 1, _ => exact ⟨t1 (List.mem_of_getElem? (i := 64) rfl), rfl⟩
  | 2, _ => exact ⟨t1 (List.mem_of_getElem? (i := 66) rfl), rfl⟩
  | 3, _ => exact ⟨t1 (List.mem_of_getElem? (i := 68) rfl), rfl⟩
theorem lz2 : ∀ w ∈ u_ws RX2 TX2 4, inT w := fun w hw => by
  obtain ⟨k, hk, rfl⟩ := List.mem_map.mp hw
  exact ly2 k (List.mem_range.mp hk)
theorem ly3 : ∀ k, k < 5 → inT (u_lay RX3 TX3 k) := by
  intro k hk
  match k, hk with
  | 0, _ => exact ⟨t1 (List.mem_of_getElem? (i := 94) rfl), rfl⟩
  | 1, _ => exact ⟨t1 (List.mem_of_getElem? (i := 96) rfl), rfl⟩
  | 2, _ => exact ⟨t1 (List.mem_of_getElem? (i := 98) rfl), rfl⟩
  | 3, _ => exact ⟨t1 (List.mem_of_getElem? (i := 100) rfl), rfl⟩
  | 4, _ => exact ⟨t1 (List.mem_of_getElem? (i := 102) rfl), rfl⟩
theorem lz3 : ∀ w ∈ u_ws RX3 TX3 5, inT w := fun w hw => by
  obtain ⟨k, hk, rfl⟩ := List.mem_map.mp hw
  exact ly3 k (List.mem_range.mp hk)
theorem ly4 : ∀ k, k < 7 → inT (u_lay RX4 TX4 k) := by
  intro k hk
  match k, hk with
  | 0, _ => exact ⟨t1 (List.mem_of_getElem? (i := 35) rfl), rfl⟩
  | 1, _ => exact ⟨t1 (List.mem_of_getElem? (i := 37) rfl), rfl⟩
  | 2, _ => exact ⟨t1 (List.mem_of_getElem? (i := 39) rfl), rfl⟩
  | 3, _ => exact ⟨t1 (List.mem_of_getElem? (i := 41) rfl), rfl⟩
  | 4, _ => exact ⟨t1 (List.mem_of_getElem? (i := 43) rfl), rfl⟩
  | 5, _ => exact ⟨t1 (List.mem_of_getElem? (i := 45) rfl), rfl⟩
  | 6, _ => exact ⟨t1 (List.mem_of_getElem? (i := 47) rfl), rfl⟩
theorem lz4 : ∀ w ∈ u_ws RX4 TX4 7, inT w := fun w hw => by
  obtain ⟨k, hk, rfl⟩ := List.mem_map.mp hw
  exact ly4 k (List.mem_range.mp hk)
theorem ly5 : ∀ k, k < 13 → inT (u_lay RX5 TX5 k) := by
  intro k hk
  match k, hk with
  | 0, _ => exact ⟨t1 (List.mem_of_getElem? (i := 131) rfl), rfl⟩
  | 1, _ => exact ⟨t1 (List.mem_of_getElem? (i := 133) rfl), rfl⟩
  | 2, _ => exact ⟨t1 (List.mem_of_getElem? (i := 135) rfl), rfl⟩
  | 3, _ => exact ⟨t1 (List.mem_of_getElem? (i := 137) rfl), rfl⟩
  | 4, _ => exact ⟨t1 (List.mem_of_getElem? (i := 139) rfl), rfl⟩
  | 5, _ => exact ⟨t1 (List.mem_of_getElem? (i := 141) rfl), rfl⟩
  | 6, _ => exact ⟨t1 (List.mem_of_getElem? (i := 143) rfl), rfl⟩
  | 7, _ => exact ⟨t1 (List.mem_of_getElem? (i := 145) rfl), rfl⟩
  | 8, _ => exact ⟨t1 (List.mem_of_getElem? (i := 147) rfl), rfl⟩
  | 9, _ => exact ⟨t1 (List.mem_of_getElem? (i := 149) rfl), rfl⟩
  | 10, _ => exact ⟨t1 (List.mem_of_getElem? (i := 151) rfl), rfl⟩
  | 11, _ => exact ⟨t1 (List.mem_of_getElem? (i := 153) rfl), rfl⟩
  | 12, _ => exact ⟨t1 (List.mem_of_getElem? (i := 155) rfl), rfl⟩
theorem lz5 : ∀ w ∈ u_ws RX5 TX5 13, inT w := fun w hw => by
  obtain ⟨k, hk, rfl⟩ := List.mem_map.mp hw
  exact ly5 k (List.mem_range.mp hk)
theorem ly6 : ∀ k, k < 11 → inT (u_lay RX6 TX6 k) := by
  intro k hk
  match k, hk with
  | 0, _ => exact ⟨t1 (List.mem_of_getElem? (i := 185) rfl), rfl⟩
  | 1, _ => exact ⟨t1 (List.mem_of_getElem? (i := 187) rfl), rfl⟩
  | 2, _ => exact ⟨t1 (List.mem_of_getElem? (i := 189) rfl), rfl⟩
  | 3, _ => exact ⟨t1 (List.mem_of_getElem? (i := 191) rfl), rfl⟩
  | 4, _ => exact ⟨t1 (List.mem_of_getElem? (i := 193) rfl), rfl⟩
  | 5, _ => exact ⟨t1 (List.mem_of_getElem? (i := 195) rfl), rfl⟩
  | 6, _ => exact ⟨t1 (List.mem_of_getElem? (i := 197) rfl), rfl⟩
  | 7, _ => exact ⟨t1 (List.mem_of_getElem? (i := 199) rfl), rfl⟩
  | 8, _ => exact ⟨t1 (List.mem_of_getElem? (i := 201) rfl), rfl⟩
  | 9, _ => exact ⟨t1 (List.mem_of_getElem? (i := 203) rfl), rfl⟩
  | 10, _ => exact ⟨t1 (List.mem_of_getElem? (i := 205) rfl), rfl⟩
theorem lz6 : ∀ w ∈ u_ws RX6 TX6 11, inT w := fun w hw => by
  obtain ⟨k, hk, rfl⟩ := List.mem_map.mp hw
  exact ly6 k (List.mem_range.mp hk)
theorem ly7 : ∀ k, k < 27 → inT (u_lay RX7 TX7 k) := by
  intro k hk
  match k, hk with
  | 0, _ => exact ⟨t3 (List.mem_of_getElem? (i := 153) rfl), rfl⟩
  | 1, _ => exact ⟨t3 (List.mem_of_getElem? (i := 155) rfl), rfl⟩
  | 2, _ => exact ⟨t3 (List.mem_of_getElem? (i := 157) rfl), rfl⟩
  | 3, _ => exact ⟨t3 (List.mem_of_getElem? (i := 159) rfl), rfl⟩
  | 4, _ => exact ⟨t3 (List.mem_of_getElem? (i := 161) rfl), rfl⟩
  | 5, _ => exact ⟨t3 (List.mem_of_getElem? (i := 163) rfl), rfl⟩
  | 6, _ => exact ⟨t3 (List.mem_of_getElem? (i := 165) rfl), rfl⟩
  | 7, _ => exact ⟨t3 (List.mem_of_getElem? (i := 167) rfl), rfl⟩
  | 8, _ => exact ⟨t3 (List.mem_of_getElem? (i := 169) rfl), rfl⟩
  | 9, _ => exact ⟨t3 (List.mem_of_getElem? (i := 171) rfl), rfl⟩
  | 10, _ => exact ⟨t3 (List.mem_of_getElem? (i := 173) rfl), rfl⟩
  | 11, _ => exact ⟨t3 (List.mem_of_getElem? (i := 175) rfl), rfl⟩
  | 12, _ => exact ⟨t3 (List.mem_of_getElem? (i := 177) rfl), rfl⟩
  | 13, _ => exact ⟨t3 (List.mem_of_getElem? (i := 179) rfl), rfl⟩
  | 14, _ => exact ⟨t3 (List.mem_of_getElem? (i := 181) rfl), rfl⟩
  | 15, _ => exact ⟨t3 (List.mem_of_getElem? (i := 183) rfl), rfl⟩
  | 16, _ => exact ⟨t3 (List.mem_of_getElem? (i := 185) rfl), rfl⟩
  | 17, _ => exact ⟨t3 (List.mem_of_getElem? (i := 187) rfl), rfl⟩
  | 18, _ => exact ⟨t3 (List.mem_of_getElem? (i := 189) rfl), rfl⟩
  | 19, _ => exact ⟨t3 (List.mem_of_getElem? (i := 191) rfl), rfl⟩
  | 20, _ => exact ⟨t3 (List.mem_of_getElem? (i := 193) rfl), rfl⟩
  | 21, _ => exact ⟨t3 (List.mem_of_getElem? (i := 195) rfl), rfl⟩
  | 22, _ => exact ⟨t3 (List.mem_of_getElem? (i := 197) rfl), rfl⟩
  | 23, _ => exact ⟨t3 (List.mem_of_getElem? (i := 199) rfl), rfl⟩
  | 24, _ => exact ⟨t3 (List.mem_of_getElem? (i := 201) rfl), rfl⟩
  | 25, _ => exact ⟨t3 (List.mem_of_getElem? (i := 203) rfl), rfl⟩
  | 26, _ => exact ⟨t3 (List.mem_of_getElem? (i := 205) rfl), rfl⟩
  | n + 27, h => exact absurd h (by omega)
theorem lz7 : ∀ w ∈ u_ws RX7 TX7 27, inT w := fun w hw => by
  obtain ⟨k, hk, rfl⟩ := List.mem_map.mp hw
  exact ly7 k (List.mem_range.mp hk)
end
section
theorem dX0_init_0 : decode cX0_init 0 = .ok (.aload_n 0, 1) := by decide +kernel
theorem dX0_init_1 : decode cX0_init 1 = .ok (.invokespecial 3, 3) := by decide +kernel
theorem dX0_init_4 : decode cX0_init 4 = .ok (.return_, 1) := by decide +kernel
theorem dX0_clear_0 : decode cX0_clear 0 = .ok (.aload_n 0, 1) := by decide +kernel
theorem dX0_clear_1 : decode cX0_clear 1 = .ok (.iconst (-1), 1) := by decide +kernel
theorem dX0_clear_2 : decode cX0_clear 2 = .ok (.putfield 9, 3) := by decide +kernel
theorem dX0_clear_5 : decode cX0_clear 5 = .ok (.aload_n 0, 1) := by decide +kernel
theorem dX0_clear_6 : decode cX0_clear 6 = .ok (.iconst (-1), 1) := by decide +kernel
theorem dX0_clear_7 : decode cX0_clear 7 = .ok (.putfield 15, 3) := by decide +kernel
theorem dX0_clear_10 : decode cX0_clear 10 = .ok (.return_, 1) := by decide +kernel
theorem dX0_isThere_0 : decode cX0_isThere 0 = .ok (.aload_n 0, 1) := by decide +kernel
theorem dX0_isThere_1 : decode cX0_isThere 1 = .ok (.getfield 9, 3) := by decide +kernel
theorem dX0_isThere_4 : decode cX0_isThere 4 = .ok (.iconst (-1), 1) := by decide +kernel
theorem dX0_isThere_5 : decode cX0_isThere 5 = .ok (.if_icmp .eq 7, 3) := by decide +kernel
theorem dX0_isThere_8 : decode cX0_isThere 8 = .ok (.iconst 1, 1) := by decide +kernel
theorem dX0_isThere_9 : decode cX0_isThere 9 = .ok (.goto 4, 3) := by decide +kernel
theorem dX0_isThere_12 : decode cX0_isThere 12 = .ok (.iconst 0, 1) := by decide +kernel
theorem dX0_isThere_13 : decode cX0_isThere 13 = .ok (.ireturn, 1) := by decide +kernel
theorem dX0_add_0 : decode cX0_add 0 = .ok (.sipush 360, 3) := by decide +kernel
theorem dX0_add_3 : decode cX0_add 3 = .ok (.iload_n 1, 1) := by decide +kernel
theorem dX0_add_4 : decode cX0_add 4 = .ok (.imul, 1) := by decide +kernel
theorem dX0_add_5 : decode cX0_add 5 = .ok (.iload_n 2, 1) := by decide +kernel
theorem dX0_add_6 : decode cX0_add 6 = .ok (.iadd, 1) := by decide +kernel
theorem dX0_add_7 : decode cX0_add 7 = .ok (.istore 4, 2) := by decide +kernel
theorem dX0_add_9 : decode cX0_add 9 = .ok (.aload_n 0, 1) := by decide +kernel
theorem dX0_add_10 : decode cX0_add 10 = .ok (.getfield 9, 3) := by decide +kernel
theorem dX0_add_13 : decode cX0_add 13 = .ok (.iconst (-1), 1) := by decide +kernel
theorem dX0_add_14 : decode cX0_add 14 = .ok (.if_icmp .eq 12, 3) := by decide +kernel
theorem dX0_add_17 : decode cX0_add 17 = .ok (.iload 4, 2) := by decide +kernel
theorem dX0_add_19 : decode cX0_add 19 = .ok (.aload_n 0, 1) := by decide +kernel
theorem dX0_add_20 : decode cX0_add 20 = .ok (.getfield 9, 3) := by decide +kernel
theorem dX0_add_23 : decode cX0_add 23 = .ok (.if_icmp .ge 9, 3) := by decide +kernel
theorem dX0_add_26 : decode cX0_add 26 = .ok (.aload_n 0, 1) := by decide +kernel
theorem dX0_add_27 : decode cX0_add 27 = .ok (.iload 4, 2) := by decide +kernel
theorem dX0_add_29 : decode cX0_add 29 = .ok (.putfield 9, 3) := by decide +kernel
theorem dX0_add_32 : decode cX0_add 32 = .ok (.aload_n 0, 1) := by decide +kernel
theorem dX0_add_33 : decode cX0_add 33 = .ok (.getfield 15, 3) := by decide +kernel
theorem dX0_add_36 : decode cX0_add 36 = .ok (.iconst (-1), 1) := by decide +kernel
theorem dX0_add_37 : decode cX0_add 37 = .ok (.if_icmp .eq 11, 3) := by decide +kernel
theorem dX0_add_40 : decode cX0_add 40 = .ok (.iload_n 3, 1) := by decide +kernel
theorem dX0_add_41 : decode cX0_add 41 = .ok (.aload_n 0, 1) := by decide +kernel
theorem dX0_add_42 : decode cX0_add 42 = .ok (.getfield 15, 3) := by decide +kernel
theorem dX0_add_45 : decode cX0_add 45 = .ok (.if_icmp .ge 8, 3) := by decide +kernel
theorem dX0_add_48 : decode cX0_add 48 = .ok (.aload_n 0, 1) := by decide +kernel
theorem dX0_add_49 : decode cX0_add 49 = .ok (.iload_n 3, 1) := by decide +kernel
theorem dX0_add_50 : decode cX0_add 50 = .ok (.putfield 15, 3) := by decide +kernel
theorem dX0_add_53 : decode cX0_add 53 = .ok (.return_, 1) := by decide +kernel
theorem dX1_init_0 : decode cX1_init 0 = .ok (.aload_n 0, 1) := by decide +kernel
theorem dX1_init_1 : decode cX1_init 1 = .ok (.invokespecial 3, 3) := by decide +kernel
theorem dX1_init_4 : decode cX1_init 4 = .ok (.aload_n 0, 1) := by decide +kernel
theorem dX1_init_5 : decode cX1_init 5 = .ok (.bipush 40, 2) := by decide +kernel
theorem dX1_init_7 : decode cX1_init 7 = .ok (.newarray .int, 2) := by decide +kernel
theorem dX1_init_9 : decode cX1_init 9 = .ok (.putfield 9, 3) := by decide +kernel
theorem dX1_init_12 : decode cX1_init 12 = .ok (.aload_n 0, 1) := by decide +kernel
theorem dX1_init_13 : decode cX1_init 13 = .ok (.iconst 0, 1) := by decide +kernel
theorem dX1_init_14 : decode cX1_init 14 = .ok (.putfield 15, 3) := by decide +kernel
theorem dX1_init_17 : decode cX1_init 17 = .ok (.aload_n 0, 1) := by decide +kernel
theorem dX1_init_18 : decode cX1_init 18 = .ok (.iconst 0, 1) := by decide +kernel
theorem dX1_init_19 : decode cX1_init 19 = .ok (.putfield 19, 3) := by decide +kernel
theorem dX1_init_22 : decode cX1_init 22 = .ok (.aload_n 0, 1) := by decide +kernel
theorem dX1_init_23 : decode cX1_init 23 = .ok (.iload_n 1, 1) := by decide +kernel
theorem dX1_init_24 : decode cX1_init 24 = .ok (.putfield 22, 3) := by decide +kernel
theorem dX1_init_27 : decode cX1_init 27 = .ok (.aload_n 0, 1) := by decide +kernel
theorem dX1_init_28 : decode cX1_init 28 = .ok (.iload_n 2, 1) := by decide +kernel
theorem dX1_init_29 : decode cX1_init 29 = .ok (.putfield 25, 3) := by decide +kernel
theorem dX1_init_32 : decode cX1_init 32 = .ok (.aload_n 0, 1) := by decide +kernel
theorem dX1_init_33 : decode cX1_init 33 = .ok (.iload_n 1, 1) := by decide +kernel
theorem dX1_init_34 : decode cX1_init 34 = .ok (.iconst 1, 1) := by decide +kernel
theorem dX1_init_35 : decode cX1_init 35 = .ok (.if_icmp .eq 8, 3) := by decide +kernel
theorem dX1_init_38 : decode cX1_init 38 = .ok (.iload_n 1, 1) := by decide +kernel
theorem dX1_init_39 : decode cX1_init 39 = .ok (.iconst 2, 1) := by decide +kernel
theorem dX1_init_40 : decode cX1_init 40 = .ok (.if_icmp .ne 8, 3) := by decide +kernel
theorem dX1_init_43 : decode cX1_init 43 = .ok (.bipush 12, 2) := by decide +kernel
theorem dX1_init_45 : decode cX1_init 45 = .ok (.goto 4, 3) := by decide +kernel
theorem dX1_init_48 : decode cX1_init 48 = .ok (.iconst 0, 1) := by decide +kernel
theorem dX1_init_49 : decode cX1_init 49 = .ok (.newarray .int, 2) := by decide +kernel
theorem dX1_init_51 : decode cX1_init 51 = .ok (.putfield 28, 3) := by decide +kernel
theorem dX1_init_54 : decode cX1_init 54 = .ok (.return_, 1) := by decide +kernel
theorem dX1_hasPicture_0 : decode cX1_hasPicture 0 = .ok (.aload_n 0, 1) := by decide +kernel
theorem dX1_hasPicture_1 : decode cX1_hasPicture 1 = .ok (.getfield 22, 3) := by decide +kernel
theorem dX1_hasPicture_4 : decode cX1_hasPicture 4 = .ok (.iconst 1, 1) := by decide +kernel
theorem dX1_hasPicture_5 : decode cX1_hasPicture 5 = .ok (.if_icmp .eq 11, 3) := by decide +kernel
theorem dX1_hasPicture_8 : decode cX1_hasPicture 8 = .ok (.aload_n 0, 1) := by decide +kernel
theorem dX1_hasPicture_9 : decode cX1_hasPicture 9 = .ok (.getfield 22, 3) := by decide +kernel
theorem dX1_hasPicture_12 : decode cX1_hasPicture 12 = .ok (.iconst 2, 1) := by decide +kernel
theorem dX1_hasPicture_13 : decode cX1_hasPicture 13 = .ok (.if_icmp .ne 7, 3) := by decide +kernel
theorem dX1_hasPicture_16 : decode cX1_hasPicture 16 = .ok (.iconst 1, 1) := by decide +kernel
theorem dX1_hasPicture_17 : decode cX1_hasPicture 17 = .ok (.goto 4, 3) := by decide +kernel
theorem dX1_hasPicture_20 : decode cX1_hasPicture 20 = .ok (.iconst 0, 1) := by decide +kernel
theorem dX1_hasPicture_21 : decode cX1_hasPicture 21 = .ok (.ireturn, 1) := by decide +kernel
theorem dX1_addLetter_0 : decode cX1_addLetter 0 = .ok (.aload_n 0, 1) := by decide +kernel
theorem dX1_addLetter_1 : decode cX1_addLetter 1 = .ok (.getfield 15, 3) := by decide +kernel
theorem dX1_addLetter_4 : decode cX1_addLetter 4 = .ok (.aload_n 0, 1) := by decide +kernel
theorem dX1_addLetter_5 : decode cX1_addLetter 5 = .ok (.getfield 9, 3) := by decide +kernel
theorem dX1_addLetter_8 : decode cX1_addLetter 8 = .ok (.arraylength, 1) := by decide +kernel
theorem dX1_addLetter_9 : decode cX1_addLetter 9 = .ok (.if_icmp .lt 5, 3) := by decide +kernel
theorem dX1_addLetter_12 : decode cX1_addLetter 12 = .ok (.iconst (-1), 1) := by decide +kernel
theorem dX1_addLetter_13 : decode cX1_addLetter 13 = .ok (.ireturn, 1) := by decide +kernel
theorem dX1_addLetter_14 : decode cX1_addLetter 14 = .ok (.aload_n 0, 1) := by decide +kernel
theorem dX1_addLetter_15 : decode cX1_addLetter 15 = .ok (.getfield 9, 3) := by decide +kernel
theorem dX1_addLetter_18 : decode cX1_addLetter 18 = .ok (.aload_n 0, 1) := by decide +kernel
theorem dX1_addLetter_19 : decode cX1_addLetter 19 = .ok (.getfield 15, 3) := by decide +kernel
theorem dX1_addLetter_22 : decode cX1_addLetter 22 = .ok (.iload_n 1, 1) := by decide +kernel
theorem dX1_addLetter_23 : decode cX1_addLetter 23 = .ok (.iastore, 1) := by decide +kernel
theorem dX1_addLetter_24 : decode cX1_addLetter 24 = .ok (.aload_n 0, 1) := by decide +kernel
theorem dX1_addLetter_25 : decode cX1_addLetter 25 = .ok (.dup, 1) := by decide +kernel
theorem dX1_addLetter_26 : decode cX1_addLetter 26 = .ok (.getfield 15, 3) := by decide +kernel
theorem dX1_addLetter_29 : decode cX1_addLetter 29 = .ok (.iconst 1, 1) := by decide +kernel
theorem dX1_addLetter_30 : decode cX1_addLetter 30 = .ok (.iadd, 1) := by decide +kernel
theorem dX1_addLetter_31 : decode cX1_addLetter 31 = .ok (.putfield 15, 3) := by decide +kernel
theorem dX1_addLetter_34 : decode cX1_addLetter 34 = .ok (.aload_n 0, 1) := by decide +kernel
theorem dX1_addLetter_35 : decode cX1_addLetter 35 = .ok (.getfield 15, 3) := by decide +kernel
theorem dX1_addLetter_38 : decode cX1_addLetter 38 = .ok (.ireturn, 1) := by decide +kernel
theorem dX1_addCode_0 : decode cX1_addCode 0 = .ok (.aload_n 0, 1) := by decide +kernel
theorem dX1_addCode_1 : decode cX1_addCode 1 = .ok (.getfield 19, 3) := by decide +kernel
theorem dX1_addCode_4 : decode cX1_addCode 4 = .ok (.aload_n 0, 1) := by decide +kernel
theorem dX1_addCode_5 : decode cX1_addCode 5 = .ok (.getfield 28, 3) := by decide +kernel
theorem dX1_addCode_8 : decode cX1_addCode 8 = .ok (.arraylength, 1) := by decide +kernel
theorem dX1_addCode_9 : decode cX1_addCode 9 = .ok (.if_icmp .ge 11, 3) := by decide +kernel
theorem dX1_addCode_12 : decode cX1_addCode 12 = .ok (.aload_n 0, 1) := by decide +kernel
theorem dX1_addCode_13 : decode cX1_addCode 13 = .ok (.iload_n 1, 1) := by decide +kernel
theorem dX1_addCode_14 : decode cX1_addCode 14 = .ok (.invokevirtual 31, 3) := by decide +kernel
theorem dX1_addCode_17 : decode cX1_addCode 17 = .ok (.ifCond .eq 5, 3) := by decide +kernel
theorem dX1_addCode_20 : decode cX1_addCode 20 = .ok (.iconst (-1), 1) := by decide +kernel
theorem dX1_addCode_21 : decode cX1_addCode 21 = .ok (.ireturn, 1) := by decide +kernel
theorem dX1_addCode_22 : decode cX1_addCode 22 = .ok (.aload_n 0, 1) := by decide +kernel
theorem dX1_addCode_23 : decode cX1_addCode 23 = .ok (.getfield 28, 3) := by decide +kernel
theorem dX1_addCode_26 : decode cX1_addCode 26 = .ok (.aload_n 0, 1) := by decide +kernel
theorem dX1_addCode_27 : decode cX1_addCode 27 = .ok (.getfield 19, 3) := by decide +kernel
theorem dX1_addCode_30 : decode cX1_addCode 30 = .ok (.iload_n 1, 1) := by decide +kernel
theorem dX1_addCode_31 : decode cX1_addCode 31 = .ok (.iastore, 1) := by decide +kernel
theorem dX1_addCode_32 : decode cX1_addCode 32 = .ok (.aload_n 0, 1) := by decide +kernel
theorem dX1_addCode_33 : decode cX1_addCode 33 = .ok (.dup, 1) := by decide +kernel
theorem dX1_addCode_34 : decode cX1_addCode 34 = .ok (.getfield 19, 3) := by decide +kernel
theorem dX1_addCode_37 : decode cX1_addCode 37 = .ok (.iconst 1, 1) := by decide +kernel
theorem dX1_addCode_38 : decode cX1_addCode 38 = .ok (.iadd, 1) := by decide +kernel
theorem dX1_addCode_39 : decode cX1_addCode 39 = .ok (.putfield 19, 3) := by decide +kernel
theorem dX1_addCode_42 : decode cX1_addCode 42 = .ok (.aload_n 0, 1) := by decide +kernel
theorem dX1_addCode_43 : decode cX1_addCode 43 = .ok (.getfield 19, 3) := by decide +kernel
theorem dX1_addCode_46 : decode cX1_addCode 46 = .ok (.ireturn, 1) := by decide +kernel
theorem dX1_likeOfPictures_0 : decode cX1_likeOfPictures 0 = .ok (.aload_n 0, 1) := by decide +kernel
theorem dX1_likeOfPictures_1 : decode cX1_likeOfPictures 1 = .ok (.getfield 19, 3) := by decide +kernel
theorem dX1_likeOfPictures_4 : decode cX1_likeOfPictures 4 = .ok (.aload_n 1, 1) := by decide +kernel
theorem dX1_likeOfPictures_5 : decode cX1_likeOfPictures 5 = .ok (.getfield 19, 3) := by decide +kernel
theorem dX1_likeOfPictures_8 : decode cX1_likeOfPictures 8 = .ok (.invokestatic 35, 3) := by decide +kernel
theorem dX1_likeOfPictures_11 : decode cX1_likeOfPictures 11 = .ok (.istore_n 2, 1) := by decide +kernel
theorem dX1_likeOfPictures_12 : decode cX1_likeOfPictures 12 = .ok (.iload_n 2, 1) := by decide +kernel
theorem dX1_likeOfPictures_13 : decode cX1_likeOfPictures 13 = .ok (.ifCond .ne 5, 3) := by decide +kernel
theorem dX1_likeOfPictures_16 : decode cX1_likeOfPictures 16 = .ok (.iconst 0, 1) := by decide +kernel
theorem dX1_likeOfPictures_17 : decode cX1_likeOfPictures 17 = .ok (.ireturn, 1) := by decide +kernel
theorem dX1_likeOfPictures_18 : decode cX1_likeOfPictures 18 = .ok (.iconst 0, 1) := by decide +kernel
theorem dX1_likeOfPictures_19 : decode cX1_likeOfPictures 19 = .ok (.istore_n 3, 1) := by decide +kernel
theorem dX1_likeOfPictures_20 : decode cX1_likeOfPictures 20 = .ok (.iconst 0, 1) := by decide +kernel
theorem dX1_likeOfPictures_21 : decode cX1_likeOfPictures 21 = .ok (.istore 4, 2) := by decide +kernel
theorem dX1_likeOfPictures_23 : decode cX1_likeOfPictures 23 = .ok (.iload 4, 2) := by decide +kernel
theorem dX1_likeOfPictures_25 : decode cX1_likeOfPictures 25 = .ok (.aload_n 0, 1) := by decide +kernel
theorem dX1_likeOfPictures_26 : decode cX1_likeOfPictures 26 = .ok (.getfield 19, 3) := by decide +kernel
theorem dX1_likeOfPictures_29 : decode cX1_likeOfPictures 29 = .ok (.if_icmp .ge 26, 3) := by decide +kernel
theorem dX1_likeOfPictures_32 : decode cX1_likeOfPictures 32 = .ok (.aload_n 1, 1) := by decide +kernel
theorem dX1_likeOfPictures_33 : decode cX1_likeOfPictures 33 = .ok (.aload_n 0, 1) := by decide +kernel
theorem dX1_likeOfPictures_34 : decode cX1_likeOfPictures 34 = .ok (.getfield 28, 3) := by decide +kernel
theorem dX1_likeOfPictures_37 : decode cX1_likeOfPictures 37 = .ok (.iload 4, 2) := by decide +kernel
theorem dX1_likeOfPictures_39 : decode cX1_likeOfPictures 39 = .ok (.iaload, 1) := by decide +kernel
theorem dX1_likeOfPictures_40 : decode cX1_likeOfPictures 40 = .ok (.invokevirtual 31, 3) := by decide +kernel
theorem dX1_likeOfPictures_43 : decode cX1_likeOfPictures 43 = .ok (.ifCond .eq 6, 3) := by decide +kernel
theorem dX1_likeOfPictures_46 : decode cX1_likeOfPictures 46 = .ok (.iinc 3 1, 3) := by decide +kernel
theorem dX1_likeOfPictures_49 : decode cX1_likeOfPictures 49 = .ok (.iinc 4 1, 3) := by decide +kernel
theorem dX1_likeOfPictures_52 : decode cX1_likeOfPictures 52 = .ok (.goto (-29), 3) := by decide +kernel
theorem dX1_likeOfPictures_55 : decode cX1_likeOfPictures 55 = .ok (.sipush 1000, 3) := by decide +kernel
theorem dX1_likeOfPictures_58 : decode cX1_likeOfPictures 58 = .ok (.iload_n 3, 1) := by decide +kernel
theorem dX1_likeOfPictures_59 : decode cX1_likeOfPictures 59 = .ok (.imul, 1) := by decide +kernel
theorem dX1_likeOfPictures_60 : decode cX1_likeOfPictures 60 = .ok (.iload_n 2, 1) := by decide +kernel
theorem dX1_likeOfPictures_61 : decode cX1_likeOfPictures 61 = .ok (.idiv, 1) := by decide +kernel
theorem dX1_likeOfPictures_62 : decode cX1_likeOfPictures 62 = .ok (.ireturn, 1) := by decide +kernel
theorem dX1_hasCode_0 : decode cX1_hasCode 0 = .ok (.iconst 0, 1) := by decide +kernel
theorem dX1_hasCode_1 : decode cX1_hasCode 1 = .ok (.istore_n 2, 1) := by decide +kernel
theorem dX1_hasCode_2 : decode cX1_hasCode 2 = .ok (.iload_n 2, 1) := by decide +kernel
theorem dX1_hasCode_3 : decode cX1_hasCode 3 = .ok (.aload_n 0, 1) := by decide +kernel
theorem dX1_hasCode_4 : decode cX1_hasCode 4 = .ok (.getfield 19, 3) := by decide +kernel
theorem dX1_hasCode_7 : decode cX1_hasCode 7 = .ok (.if_icmp .ge 21, 3) := by decide +kernel
theorem dX1_hasCode_10 : decode cX1_hasCode 10 = .ok (.aload_n 0, 1) := by decide +kernel
theorem dX1_hasCode_11 : decode cX1_hasCode 11 = .ok (.getfield 28, 3) := by decide +kernel
theorem dX1_hasCode_14 : decode cX1_hasCode 14 = .ok (.iload_n 2, 1) := by decide +kernel
theorem dX1_hasCode_15 : decode cX1_hasCode 15 = .ok (.iaload, 1) := by decide +kernel
theorem dX1_hasCode_16 : decode cX1_hasCode 16 = .ok (.iload_n 1, 1) := by decide +kernel
theorem dX1_hasCode_17 : decode cX1_hasCode 17 = .ok (.if_icmp .ne 5, 3) := by decide +kernel
theorem dX1_hasCode_20 : decode cX1_hasCode 20 = .ok (.iconst 1, 1) := by decide +kernel
theorem dX1_hasCode_21 : decode cX1_hasCode 21 = .ok (.ireturn, 1) := by decide +kernel
theorem dX1_hasCode_22 : decode cX1_hasCode 22 = .ok (.iinc 2 1, 3) := by decide +kernel
theorem dX1_hasCode_25 : decode cX1_hasCode 25 = .ok (.goto (-23), 3) := by decide +kernel
theorem dX1_hasCode_28 : decode cX1_hasCode 28 = .ok (.iconst 0, 1) := by decide +kernel
theorem dX1_hasCode_29 : decode cX1_hasCode 29 = .ok (.ireturn, 1) := by decide +kernel
theorem dX2_init_0 : decode cX2_init 0 = .ok (.aload_n 0, 1) := by decide +kernel
theorem dX2_init_1 : decode cX2_init 1 = .ok (.invokespecial 3, 3) := by decide +kernel
theorem dX2_init_4 : decode cX2_init 4 = .ok (.aload_n 0, 1) := by decide +kernel
theorem dX2_init_5 : decode cX2_init 5 = .ok (.bipush 100, 2) := by decide +kernel
theorem dX2_init_7 : decode cX2_init 7 = .ok (.newarray .int, 2) := by decide +kernel
theorem dX2_init_9 : decode cX2_init 9 = .ok (.putfield 11, 3) := by decide +kernel
theorem dX2_init_12 : decode cX2_init 12 = .ok (.aload_n 0, 1) := by decide +kernel
theorem dX2_init_13 : decode cX2_init 13 = .ok (.bipush 100, 2) := by decide +kernel
theorem dX2_init_15 : decode cX2_init 15 = .ok (.newarray .int, 2) := by decide +kernel
theorem dX2_init_17 : decode cX2_init 17 = .ok (.putfield 15, 3) := by decide +kernel
theorem dX2_init_20 : decode cX2_init 20 = .ok (.aload_n 0, 1) := by decide +kernel
theorem dX2_init_21 : decode cX2_init 21 = .ok (.bipush 100, 2) := by decide +kernel
theorem dX2_init_23 : decode cX2_init 23 = .ok (.newarray .int, 2) := by decide +kernel
theorem dX2_init_25 : decode cX2_init 25 = .ok (.putfield 18, 3) := by decide +kernel
theorem dX2_init_28 : decode cX2_init 28 = .ok (.aload_n 0, 1) := by decide +kernel
theorem dX2_init_29 : decode cX2_init 29 = .ok (.iconst 0, 1) := by decide +kernel
theorem dX2_init_30 : decode cX2_init 30 = .ok (.putfield 21, 3) := by decide +kernel
theorem dX2_init_33 : decode cX2_init 33 = .ok (.return_, 1) := by decide +kernel
theorem dX2_nearOf_0 : decode cX2_nearOf 0 = .ok (.iload_n 1, 1) := by decide +kernel
theorem dX2_nearOf_1 : decode cX2_nearOf 1 = .ok (.iload_n 2, 1) := by decide +kernel
theorem dX2_nearOf_2 : decode cX2_nearOf 2 = .ok (.if_icmp .ne 7, 3) := by decide +kernel
theorem dX2_nearOf_5 : decode cX2_nearOf 5 = .ok (.sipush 1000, 3) := by decide +kernel
theorem dX2_nearOf_8 : decode cX2_nearOf 8 = .ok (.ireturn, 1) := by decide +kernel
theorem dX2_nearOf_9 : decode cX2_nearOf 9 = .ok (.aload_n 0, 1) := by decide +kernel
theorem dX2_nearOf_10 : decode cX2_nearOf 10 = .ok (.iload_n 1, 1) := by decide +kernel
theorem dX2_nearOf_11 : decode cX2_nearOf 11 = .ok (.iload_n 2, 1) := by decide +kernel
theorem dX2_nearOf_12 : decode cX2_nearOf 12 = .ok (.invokevirtual 25, 3) := by decide +kernel
theorem dX2_nearOf_15 : decode cX2_nearOf 15 = .ok (.istore_n 3, 1) := by decide +kernel
theorem dX2_nearOf_16 : decode cX2_nearOf 16 = .ok (.iload_n 3, 1) := by decide +kernel
theorem dX2_nearOf_17 : decode cX2_nearOf 17 = .ok (.iconst (-1), 1) := by decide +kernel
theorem dX2_nearOf_18 : decode cX2_nearOf 18 = .ok (.if_icmp .ne 7, 3) := by decide +kernel
theorem dX2_nearOf_21 : decode cX2_nearOf 21 = .ok (.iconst 0, 1) := by decide +kernel
theorem dX2_nearOf_22 : decode cX2_nearOf 22 = .ok (.goto 9, 3) := by decide +kernel
theorem dX2_nearOf_25 : decode cX2_nearOf 25 = .ok (.aload_n 0, 1) := by decide +kernel
theorem dX2_nearOf_26 : decode cX2_nearOf 26 = .ok (.getfield 18, 3) := by decide +kernel
theorem dX2_nearOf_29 : decode cX2_nearOf 29 = .ok (.iload_n 3, 1) := by decide +kernel
theorem dX2_nearOf_30 : decode cX2_nearOf 30 = .ok (.iaload, 1) := by decide +kernel
theorem dX2_nearOf_31 : decode cX2_nearOf 31 = .ok (.ireturn, 1) := by decide +kernel
theorem dX2_tell_0 : decode cX2_tell 0 = .ok (.aload_n 0, 1) := by decide +kernel
theorem dX2_tell_1 : decode cX2_tell 1 = .ok (.iload_n 1, 1) := by decide +kernel
theorem dX2_tell_2 : decode cX2_tell 2 = .ok (.iload_n 2, 1) := by decide +kernel
theorem dX2_tell_3 : decode cX2_tell 3 = .ok (.invokevirtual 25, 3) := by decide +kernel
theorem dX2_tell_6 : decode cX2_tell 6 = .ok (.istore 4, 2) := by decide +kernel
theorem dX2_tell_8 : decode cX2_tell 8 = .ok (.iload_n 3, 1) := by decide +kernel
theorem dX2_tell_9 : decode cX2_tell 9 = .ok (.ifCond .ne 11, 3) := by decide +kernel
theorem dX2_tell_12 : decode cX2_tell 12 = .ok (.aload_n 0, 1) := by decide +kernel
theorem dX2_tell_13 : decode cX2_tell 13 = .ok (.iload 4, 2) := by decide +kernel
theorem dX2_tell_15 : decode cX2_tell 15 = .ok (.invokevirtual 29, 3) := by decide +kernel
theorem dX2_tell_18 : decode cX2_tell 18 = .ok (.iconst 1, 1) := by decide +kernel
theorem dX2_tell_19 : decode cX2_tell 19 = .ok (.ireturn, 1) := by decide +kernel
theorem dX2_tell_20 : decode cX2_tell 20 = .ok (.iload 4, 2) := by decide +kernel
theorem dX2_tell_22 : decode cX2_tell 22 = .ok (.iconst (-1), 1) := by decide +kernel
theorem dX2_tell_23 : decode cX2_tell 23 = .ok (.if_icmp .ne 11, 3) := by decide +kernel
theorem dX2_tell_26 : decode cX2_tell 26 = .ok (.aload_n 0, 1) := by decide +kernel
theorem dX2_tell_27 : decode cX2_tell 27 = .ok (.iload_n 1, 1) := by decide +kernel
theorem dX2_tell_28 : decode cX2_tell 28 = .ok (.iload_n 2, 1) := by decide +kernel
theorem dX2_tell_29 : decode cX2_tell 29 = .ok (.iload_n 3, 1) := by decide +kernel
theorem dX2_tell_30 : decode cX2_tell 30 = .ok (.invokevirtual 33, 3) := by decide +kernel
theorem dX2_tell_33 : decode cX2_tell 33 = .ok (.ireturn, 1) := by decide +kernel
theorem dX2_tell_34 : decode cX2_tell 34 = .ok (.aload_n 0, 1) := by decide +kernel
theorem dX2_tell_35 : decode cX2_tell 35 = .ok (.getfield 18, 3) := by decide +kernel
theorem dX2_tell_38 : decode cX2_tell 38 = .ok (.iload 4, 2) := by decide +kernel
theorem dX2_tell_40 : decode cX2_tell 40 = .ok (.iload_n 3, 1) := by decide +kernel
theorem dX2_tell_41 : decode cX2_tell 41 = .ok (.iastore, 1) := by decide +kernel
theorem dX2_tell_42 : decode cX2_tell 42 = .ok (.iconst 1, 1) := by decide +kernel
theorem dX2_tell_43 : decode cX2_tell 43 = .ok (.ireturn, 1) := by decide +kernel
theorem dX2_find_0 : decode cX2_find 0 = .ok (.iconst 0, 1) := by decide +kernel
theorem dX2_find_1 : decode cX2_find 1 = .ok (.istore_n 3, 1) := by decide +kernel
theorem dX2_find_2 : decode cX2_find 2 = .ok (.iload_n 3, 1) := by decide +kernel
theorem dX2_find_3 : decode cX2_find 3 = .ok (.aload_n 0, 1) := by decide +kernel
theorem dX2_find_4 : decode cX2_find 4 = .ok (.getfield 21, 3) := by decide +kernel
theorem dX2_find_7 : decode cX2_find 7 = .ok (.if_icmp .ge 51, 3) := by decide +kernel
theorem dX2_find_10 : decode cX2_find 10 = .ok (.aload_n 0, 1) := by decide +kernel
theorem dX2_find_11 : decode cX2_find 11 = .ok (.getfield 11, 3) := by decide +kernel
theorem dX2_find_14 : decode cX2_find 14 = .ok (.iload_n 3, 1) := by decide +kernel
theorem dX2_find_15 : decode cX2_find 15 = .ok (.iaload, 1) := by decide +kernel
theorem dX2_find_16 : decode cX2_find 16 = .ok (.iload_n 1, 1) := by decide +kernel
theorem dX2_find_17 : decode cX2_find 17 = .ok (.if_icmp .ne 13, 3) := by decide +kernel
theorem dX2_find_20 : decode cX2_find 20 = .ok (.aload_n 0, 1) := by decide +kernel
theorem dX2_find_21 : decode cX2_find 21 = .ok (.getfield 15, 3) := by decide +kernel
theorem dX2_find_24 : decode cX2_find 24 = .ok (.iload_n 3, 1) := by decide +kernel
theorem dX2_find_25 : decode cX2_find 25 = .ok (.iaload, 1) := by decide +kernel
theorem dX2_find_26 : decode cX2_find 26 = .ok (.iload_n 2, 1) := by decide +kernel
theorem dX2_find_27 : decode cX2_find 27 = .ok (.if_icmp .eq 23, 3) := by decide +kernel
theorem dX2_find_30 : decode cX2_find 30 = .ok (.aload_n 0, 1) := by decide +kernel
theorem dX2_find_31 : decode cX2_find 31 = .ok (.getfield 11, 3) := by decide +kernel
theorem dX2_find_34 : decode cX2_find 34 = .ok (.iload_n 3, 1) := by decide +kernel
theorem dX2_find_35 : decode cX2_find 35 = .ok (.iaload, 1) := by decide +kernel
theorem dX2_find_36 : decode cX2_find 36 = .ok (.iload_n 2, 1) := by decide +kernel
theorem dX2_find_37 : decode cX2_find 37 = .ok (.if_icmp .ne 15, 3) := by decide +kernel
theorem dX2_find_40 : decode cX2_find 40 = .ok (.aload_n 0, 1) := by decide +kernel
theorem dX2_find_41 : decode cX2_find 41 = .ok (.getfield 15, 3) := by decide +kernel
theorem dX2_find_44 : decode cX2_find 44 = .ok (.iload_n 3, 1) := by decide +kernel
theorem dX2_find_45 : decode cX2_find 45 = .ok (.iaload, 1) := by decide +kernel
theorem dX2_find_46 : decode cX2_find 46 = .ok (.iload_n 1, 1) := by decide +kernel
theorem dX2_find_47 : decode cX2_find 47 = .ok (.if_icmp .ne 5, 3) := by decide +kernel
theorem dX2_find_50 : decode cX2_find 50 = .ok (.iload_n 3, 1) := by decide +kernel
theorem dX2_find_51 : decode cX2_find 51 = .ok (.ireturn, 1) := by decide +kernel
theorem dX2_find_52 : decode cX2_find 52 = .ok (.iinc 3 1, 3) := by decide +kernel
theorem dX2_find_55 : decode cX2_find 55 = .ok (.goto (-53), 3) := by decide +kernel
theorem dX2_find_58 : decode cX2_find 58 = .ok (.iconst (-1), 1) := by decide +kernel
theorem dX2_find_59 : decode cX2_find 59 = .ok (.ireturn, 1) := by decide +kernel
theorem dX2_append_0 : decode cX2_append 0 = .ok (.aload_n 0, 1) := by decide +kernel
theorem dX2_append_1 : decode cX2_append 1 = .ok (.getfield 21, 3) := by decide +kernel
theorem dX2_append_4 : decode cX2_append 4 = .ok (.bipush 100, 2) := by decide +kernel
theorem dX2_append_6 : decode cX2_append 6 = .ok (.if_icmp .lt 5, 3) := by decide +kernel
theorem dX2_append_9 : decode cX2_append 9 = .ok (.iconst 0, 1) := by decide +kernel
theorem dX2_append_10 : decode cX2_append 10 = .ok (.ireturn, 1) := by decide +kernel
theorem dX2_append_11 : decode cX2_append 11 = .ok (.aload_n 0, 1) := by decide +kernel
theorem dX2_append_12 : decode cX2_append 12 = .ok (.getfield 11, 3) := by decide +kernel
theorem dX2_append_15 : decode cX2_append 15 = .ok (.aload_n 0, 1) := by decide +kernel
theorem dX2_append_16 : decode cX2_append 16 = .ok (.getfield 21, 3) := by decide +kernel
theorem dX2_append_19 : decode cX2_append 19 = .ok (.iload_n 1, 1) := by decide +kernel
theorem dX2_append_20 : decode cX2_append 20 = .ok (.iastore, 1) := by decide +kernel
theorem dX2_append_21 : decode cX2_append 21 = .ok (.aload_n 0, 1) := by decide +kernel
theorem dX2_append_22 : decode cX2_append 22 = .ok (.getfield 15, 3) := by decide +kernel
theorem dX2_append_25 : decode cX2_append 25 = .ok (.aload_n 0, 1) := by decide +kernel
theorem dX2_append_26 : decode cX2_append 26 = .ok (.getfield 21, 3) := by decide +kernel
theorem dX2_append_29 : decode cX2_append 29 = .ok (.iload_n 2, 1) := by decide +kernel
theorem dX2_append_30 : decode cX2_append 30 = .ok (.iastore, 1) := by decide +kernel
theorem dX2_append_31 : decode cX2_append 31 = .ok (.aload_n 0, 1) := by decide +kernel
theorem dX2_append_32 : decode cX2_append 32 = .ok (.getfield 18, 3) := by decide +kernel
theorem dX2_append_35 : decode cX2_append 35 = .ok (.aload_n 0, 1) := by decide +kernel
theorem dX2_append_36 : decode cX2_append 36 = .ok (.getfield 21, 3) := by decide +kernel
theorem dX2_append_39 : decode cX2_append 39 = .ok (.iload_n 3, 1) := by decide +kernel
theorem dX2_append_40 : decode cX2_append 40 = .ok (.iastore, 1) := by decide +kernel
theorem dX2_append_41 : decode cX2_append 41 = .ok (.aload_n 0, 1) := by decide +kernel
theorem dX2_append_42 : decode cX2_append 42 = .ok (.dup, 1) := by decide +kernel
theorem dX2_append_43 : decode cX2_append 43 = .ok (.getfield 21, 3) := by decide +kernel
theorem dX2_append_46 : decode cX2_append 46 = .ok (.iconst 1, 1) := by decide +kernel
theorem dX2_append_47 : decode cX2_append 47 = .ok (.iadd, 1) := by decide +kernel
theorem dX2_append_48 : decode cX2_append 48 = .ok (.putfield 21, 3) := by decide +kernel
theorem dX2_append_51 : decode cX2_append 51 = .ok (.iconst 1, 1) := by decide +kernel
theorem dX2_append_52 : decode cX2_append 52 = .ok (.ireturn, 1) := by decide +kernel
theorem dX2_forget_0 : decode cX2_forget 0 = .ok (.iload_n 1, 1) := by decide +kernel
theorem dX2_forget_1 : decode cX2_forget 1 = .ok (.iconst (-1), 1) := by decide +kernel
theorem dX2_forget_2 : decode cX2_forget 2 = .ok (.if_icmp .ne 4, 3) := by decide +kernel
theorem dX2_forget_5 : decode cX2_forget 5 = .ok (.return_, 1) := by decide +kernel
theorem dX2_forget_6 : decode cX2_forget 6 = .ok (.aload_n 0, 1) := by decide +kernel
theorem dX2_forget_7 : decode cX2_forget 7 = .ok (.dup, 1) := by decide +kernel
theorem dX2_forget_8 : decode cX2_forget 8 = .ok (.getfield 21, 3) := by decide +kernel
theorem dX2_forget_11 : decode cX2_forget 11 = .ok (.iconst 1, 1) := by decide +kernel
theorem dX2_forget_12 : decode cX2_forget 12 = .ok (.isub, 1) := by decide +kernel
theorem dX2_forget_13 : decode cX2_forget 13 = .ok (.putfield 21, 3) := by decide +kernel
theorem dX2_forget_16 : decode cX2_forget 16 = .ok (.aload_n 0, 1) := by decide +kernel
theorem dX2_forget_17 : decode cX2_forget 17 = .ok (.getfield 11, 3) := by decide +kernel
theorem dX2_forget_20 : decode cX2_forget 20 = .ok (.iload_n 1, 1) := by decide +kernel
theorem dX2_forget_21 : decode cX2_forget 21 = .ok (.aload_n 0, 1) := by decide +kernel
theorem dX2_forget_22 : decode cX2_forget 22 = .ok (.getfield 11, 3) := by decide +kernel
theorem dX2_forget_25 : decode cX2_forget 25 = .ok (.aload_n 0, 1) := by decide +kernel
theorem dX2_forget_26 : decode cX2_forget 26 = .ok (.getfield 21, 3) := by decide +kernel
theorem dX2_forget_29 : decode cX2_forget 29 = .ok (.iaload, 1) := by decide +kernel
theorem dX2_forget_30 : decode cX2_forget 30 = .ok (.iastore, 1) := by decide +kernel
theorem dX2_forget_31 : decode cX2_forget 31 = .ok (.aload_n 0, 1) := by decide +kernel
theorem dX2_forget_32 : decode cX2_forget 32 = .ok (.getfield 15, 3) := by decide +kernel
theorem dX2_forget_35 : decode cX2_forget 35 = .ok (.iload_n 1, 1) := by decide +kernel
theorem dX2_forget_36 : decode cX2_forget 36 = .ok (.aload_n 0, 1) := by decide +kernel
theorem dX2_forget_37 : decode cX2_forget 37 = .ok (.getfield 15, 3) := by decide +kernel
theorem dX2_forget_40 : decode cX2_forget 40 = .ok (.aload_n 0, 1) := by decide +kernel
theorem dX2_forget_41 : decode cX2_forget 41 = .ok (.getfield 21, 3) := by decide +kernel
theorem dX2_forget_44 : decode cX2_forget 44 = .ok (.iaload, 1) := by decide +kernel
theorem dX2_forget_45 : decode cX2_forget 45 = .ok (.iastore, 1) := by decide +kernel
theorem dX2_forget_46 : decode cX2_forget 46 = .ok (.aload_n 0, 1) := by decide +kernel
theorem dX2_forget_47 : decode cX2_forget 47 = .ok (.getfield 18, 3) := by decide +kernel
theorem dX2_forget_50 : decode cX2_forget 50 = .ok (.iload_n 1, 1) := by decide +kernel
theorem dX2_forget_51 : decode cX2_forget 51 = .ok (.aload_n 0, 1) := by decide +kernel
theorem dX2_forget_52 : decode cX2_forget 52 = .ok (.getfield 18, 3) := by decide +kernel
theorem dX2_forget_55 : decode cX2_forget 55 = .ok (.aload_n 0, 1) := by decide +kernel
theorem dX2_forget_56 : decode cX2_forget 56 = .ok (.getfield 21, 3) := by decide +kernel
theorem dX2_forget_59 : decode cX2_forget 59 = .ok (.iaload, 1) := by decide +kernel
theorem dX2_forget_60 : decode cX2_forget 60 = .ok (.iastore, 1) := by decide +kernel
theorem dX2_forget_61 : decode cX2_forget 61 = .ok (.return_, 1) := by decide +kernel
theorem dX3_init_0 : decode cX3_init 0 = .ok (.aload_n 0, 1) := by decide +kernel
theorem dX3_init_1 : decode cX3_init 1 = .ok (.invokespecial 3, 3) := by decide +kernel
theorem dX3_init_4 : decode cX3_init 4 = .ok (.aload_n 0, 1) := by decide +kernel
theorem dX3_init_5 : decode cX3_init 5 = .ok (.sipush 400, 3) := by decide +kernel
theorem dX3_init_8 : decode cX3_init 8 = .ok (.newarray .int, 2) := by decide +kernel
theorem dX3_init_10 : decode cX3_init 10 = .ok (.putfield 11, 3) := by decide +kernel
theorem dX3_init_13 : decode cX3_init 13 = .ok (.aload_n 0, 1) := by decide +kernel
theorem dX3_init_14 : decode cX3_init 14 = .ok (.sipush 400, 3) := by decide +kernel
theorem dX3_init_17 : decode cX3_init 17 = .ok (.newarray .int, 2) := by decide +kernel
theorem dX3_init_19 : decode cX3_init 19 = .ok (.putfield 15, 3) := by decide +kernel
theorem dX3_init_22 : decode cX3_init 22 = .ok (.aload_n 0, 1) := by decide +kernel
theorem dX3_init_23 : decode cX3_init 23 = .ok (.sipush 400, 3) := by decide +kernel
theorem dX3_init_26 : decode cX3_init 26 = .ok (.newarray .int, 2) := by decide +kernel
theorem dX3_init_28 : decode cX3_init 28 = .ok (.putfield 18, 3) := by decide +kernel
theorem dX3_init_31 : decode cX3_init 31 = .ok (.aload_n 0, 1) := by decide +kernel
theorem dX3_init_32 : decode cX3_init 32 = .ok (.sipush 400, 3) := by decide +kernel
theorem dX3_init_35 : decode cX3_init 35 = .ok (.newarray .int, 2) := by decide +kernel
theorem dX3_init_37 : decode cX3_init 37 = .ok (.putfield 21, 3) := by decide +kernel
theorem dX3_init_40 : decode cX3_init 40 = .ok (.aload_n 0, 1) := by decide +kernel
theorem dX3_init_41 : decode cX3_init 41 = .ok (.iconst 0, 1) := by decide +kernel
theorem dX3_init_42 : decode cX3_init 42 = .ok (.putfield 24, 3) := by decide +kernel
theorem dX3_init_45 : decode cX3_init 45 = .ok (.return_, 1) := by decide +kernel
theorem dX3_latestDay_0 : decode cX3_latestDay 0 = .ok (.aload_n 0, 1) := by decide +kernel
theorem dX3_latestDay_1 : decode cX3_latestDay 1 = .ok (.getfield 24, 3) := by decide +kernel
theorem dX3_latestDay_4 : decode cX3_latestDay 4 = .ok (.ifCond .ne 7, 3) := by decide +kernel
theorem dX3_latestDay_7 : decode cX3_latestDay 7 = .ok (.iconst 0, 1) := by decide +kernel
theorem dX3_latestDay_8 : decode cX3_latestDay 8 = .ok (.goto 14, 3) := by decide +kernel
theorem dX3_latestDay_11 : decode cX3_latestDay 11 = .ok (.aload_n 0, 1) := by decide +kernel
theorem dX3_latestDay_12 : decode cX3_latestDay 12 = .ok (.getfield 21, 3) := by decide +kernel
theorem dX3_latestDay_15 : decode cX3_latestDay 15 = .ok (.aload_n 0, 1) := by decide +kernel
theorem dX3_latestDay_16 : decode cX3_latestDay 16 = .ok (.getfield 24, 3) := by decide +kernel
theorem dX3_latestDay_19 : decode cX3_latestDay 19 = .ok (.iconst 1, 1) := by decide +kernel
theorem dX3_latestDay_20 : decode cX3_latestDay 20 = .ok (.isub, 1) := by decide +kernel
theorem dX3_latestDay_21 : decode cX3_latestDay 21 = .ok (.iaload, 1) := by decide +kernel
theorem dX3_latestDay_22 : decode cX3_latestDay 22 = .ok (.ireturn, 1) := by decide +kernel
theorem dX3_take_0 : decode cX3_take 0 = .ok (.aload_n 0, 1) := by decide +kernel
theorem dX3_take_1 : decode cX3_take 1 = .ok (.getfield 24, 3) := by decide +kernel
theorem dX3_take_4 : decode cX3_take 4 = .ok (.sipush 400, 3) := by decide +kernel
theorem dX3_take_7 : decode cX3_take 7 = .ok (.if_icmp .ge 15, 3) := by decide +kernel
theorem dX3_take_10 : decode cX3_take 10 = .ok (.iload_n 1, 1) := by decide +kernel
theorem dX3_take_11 : decode cX3_take 11 = .ok (.aload_n 0, 1) := by decide +kernel
theorem dX3_take_12 : decode cX3_take 12 = .ok (.invokevirtual 28, 3) := by decide +kernel
theorem dX3_take_15 : decode cX3_take 15 = .ok (.if_icmp .lt 7, 3) := by decide +kernel
theorem dX3_take_18 : decode cX3_take 18 = .ok (.iconst 1, 1) := by decide +kernel
theorem dX3_take_19 : decode cX3_take 19 = .ok (.goto 4, 3) := by decide +kernel
theorem dX3_take_22 : decode cX3_take 22 = .ok (.iconst 0, 1) := by decide +kernel
theorem dX3_take_23 : decode cX3_take 23 = .ok (.ireturn, 1) := by decide +kernel
theorem dX3_add_0 : decode cX3_add 0 = .ok (.aload_n 0, 1) := by decide +kernel
theorem dX3_add_1 : decode cX3_add 1 = .ok (.getfield 24, 3) := by decide +kernel
theorem dX3_add_4 : decode cX3_add 4 = .ok (.sipush 400, 3) := by decide +kernel
theorem dX3_add_7 : decode cX3_add 7 = .ok (.if_icmp .lt 5, 3) := by decide +kernel
theorem dX3_add_10 : decode cX3_add 10 = .ok (.iconst (-1), 1) := by decide +kernel
theorem dX3_add_11 : decode cX3_add 11 = .ok (.ireturn, 1) := by decide +kernel
theorem dX3_add_12 : decode cX3_add 12 = .ok (.aload_n 0, 1) := by decide +kernel
theorem dX3_add_13 : decode cX3_add 13 = .ok (.getfield 11, 3) := by decide +kernel
theorem dX3_add_16 : decode cX3_add 16 = .ok (.aload_n 0, 1) := by decide +kernel
theorem dX3_add_17 : decode cX3_add 17 = .ok (.getfield 24, 3) := by decide +kernel
theorem dX3_add_20 : decode cX3_add 20 = .ok (.iload_n 1, 1) := by decide +kernel
theorem dX3_add_21 : decode cX3_add 21 = .ok (.iastore, 1) := by decide +kernel
theorem dX3_add_22 : decode cX3_add 22 = .ok (.aload_n 0, 1) := by decide +kernel
theorem dX3_add_23 : decode cX3_add 23 = .ok (.getfield 15, 3) := by decide +kernel
theorem dX3_add_26 : decode cX3_add 26 = .ok (.aload_n 0, 1) := by decide +kernel
theorem dX3_add_27 : decode cX3_add 27 = .ok (.getfield 24, 3) := by decide +kernel
theorem dX3_add_30 : decode cX3_add 30 = .ok (.iload_n 2, 1) := by decide +kernel
theorem dX3_add_31 : decode cX3_add 31 = .ok (.iastore, 1) := by decide +kernel
theorem dX3_add_32 : decode cX3_add 32 = .ok (.aload_n 0, 1) := by decide +kernel
theorem dX3_add_33 : decode cX3_add 33 = .ok (.getfield 18, 3) := by decide +kernel
theorem dX3_add_36 : decode cX3_add 36 = .ok (.aload_n 0, 1) := by decide +kernel
theorem dX3_add_37 : decode cX3_add 37 = .ok (.getfield 24, 3) := by decide +kernel
theorem dX3_add_40 : decode cX3_add 40 = .ok (.iload_n 3, 1) := by decide +kernel
theorem dX3_add_41 : decode cX3_add 41 = .ok (.iastore, 1) := by decide +kernel
theorem dX3_add_42 : decode cX3_add 42 = .ok (.aload_n 0, 1) := by decide +kernel
theorem dX3_add_43 : decode cX3_add 43 = .ok (.getfield 21, 3) := by decide +kernel
theorem dX3_add_46 : decode cX3_add 46 = .ok (.aload_n 0, 1) := by decide +kernel
theorem dX3_add_47 : decode cX3_add 47 = .ok (.getfield 24, 3) := by decide +kernel
theorem dX3_add_50 : decode cX3_add 50 = .ok (.iload 4, 2) := by decide +kernel
theorem dX3_add_52 : decode cX3_add 52 = .ok (.iastore, 1) := by decide +kernel
theorem dX3_add_53 : decode cX3_add 53 = .ok (.aload_n 0, 1) := by decide +kernel
theorem dX3_add_54 : decode cX3_add 54 = .ok (.dup, 1) := by decide +kernel
theorem dX3_add_55 : decode cX3_add 55 = .ok (.getfield 24, 3) := by decide +kernel
theorem dX3_add_58 : decode cX3_add 58 = .ok (.iconst 1, 1) := by decide +kernel
theorem dX3_add_59 : decode cX3_add 59 = .ok (.iadd, 1) := by decide +kernel
theorem dX3_add_60 : decode cX3_add 60 = .ok (.putfield 24, 3) := by decide +kernel
theorem dX3_add_63 : decode cX3_add 63 = .ok (.aload_n 0, 1) := by decide +kernel
theorem dX3_add_64 : decode cX3_add 64 = .ok (.getfield 24, 3) := by decide +kernel
theorem dX3_add_67 : decode cX3_add 67 = .ok (.iconst 1, 1) := by decide +kernel
theorem dX3_add_68 : decode cX3_add 68 = .ok (.isub, 1) := by decide +kernel
theorem dX3_add_69 : decode cX3_add 69 = .ok (.ireturn, 1) := by decide +kernel
theorem dX3_takeBack_0 : decode cX3_takeBack 0 = .ok (.aload_n 0, 1) := by decide +kernel
theorem dX3_takeBack_1 : decode cX3_takeBack 1 = .ok (.getfield 24, 3) := by decide +kernel
theorem dX3_takeBack_4 : decode cX3_takeBack 4 = .ok (.ifCond .ne 5, 3) := by decide +kernel
theorem dX3_takeBack_7 : decode cX3_takeBack 7 = .ok (.iconst (-1), 1) := by decide +kernel
theorem dX3_takeBack_8 : decode cX3_takeBack 8 = .ok (.ireturn, 1) := by decide +kernel
theorem dX3_takeBack_9 : decode cX3_takeBack 9 = .ok (.aload_n 0, 1) := by decide +kernel
theorem dX3_takeBack_10 : decode cX3_takeBack 10 = .ok (.dup, 1) := by decide +kernel
theorem dX3_takeBack_11 : decode cX3_takeBack 11 = .ok (.getfield 24, 3) := by decide +kernel
theorem dX3_takeBack_14 : decode cX3_takeBack 14 = .ok (.iconst 1, 1) := by decide +kernel
theorem dX3_takeBack_15 : decode cX3_takeBack 15 = .ok (.isub, 1) := by decide +kernel
theorem dX3_takeBack_16 : decode cX3_takeBack 16 = .ok (.putfield 24, 3) := by decide +kernel
theorem dX3_takeBack_19 : decode cX3_takeBack 19 = .ok (.aload_n 0, 1) := by decide +kernel
theorem dX3_takeBack_20 : decode cX3_takeBack 20 = .ok (.getfield 24, 3) := by decide +kernel
theorem dX3_takeBack_23 : decode cX3_takeBack 23 = .ok (.ireturn, 1) := by decide +kernel
theorem dX3_areOf_0 : decode cX3_areOf 0 = .ok (.iconst 0, 1) := by decide +kernel
theorem dX3_areOf_1 : decode cX3_areOf 1 = .ok (.istore_n 2, 1) := by decide +kernel
theorem dX3_areOf_2 : decode cX3_areOf 2 = .ok (.iload_n 2, 1) := by decide +kernel
theorem dX3_areOf_3 : decode cX3_areOf 3 = .ok (.aload_n 0, 1) := by decide +kernel
theorem dX3_areOf_4 : decode cX3_areOf 4 = .ok (.getfield 24, 3) := by decide +kernel
theorem dX3_areOf_7 : decode cX3_areOf 7 = .ok (.if_icmp .ge 21, 3) := by decide +kernel
theorem dX3_areOf_10 : decode cX3_areOf 10 = .ok (.aload_n 0, 1) := by decide +kernel
theorem dX3_areOf_11 : decode cX3_areOf 11 = .ok (.getfield 15, 3) := by decide +kernel
theorem dX3_areOf_14 : decode cX3_areOf 14 = .ok (.iload_n 2, 1) := by decide +kernel
theorem dX3_areOf_15 : decode cX3_areOf 15 = .ok (.iaload, 1) := by decide +kernel
theorem dX3_areOf_16 : decode cX3_areOf 16 = .ok (.iload_n 1, 1) := by decide +kernel
theorem dX3_areOf_17 : decode cX3_areOf 17 = .ok (.if_icmp .ne 5, 3) := by decide +kernel
theorem dX3_areOf_20 : decode cX3_areOf 20 = .ok (.iconst 1, 1) := by decide +kernel
theorem dX3_areOf_21 : decode cX3_areOf 21 = .ok (.ireturn, 1) := by decide +kernel
theorem dX3_areOf_22 : decode cX3_areOf 22 = .ok (.iinc 2 1, 3) := by decide +kernel
theorem dX3_areOf_25 : decode cX3_areOf 25 = .ok (.goto (-23), 3) := by decide +kernel
theorem dX3_areOf_28 : decode cX3_areOf 28 = .ok (.iconst 0, 1) := by decide +kernel
theorem dX3_areOf_29 : decode cX3_areOf 29 = .ok (.ireturn, 1) := by decide +kernel
theorem dX3_tell_0 : decode cX3_tell 0 = .ok (.iconst 0, 1) := by decide +kernel
theorem dX3_tell_1 : decode cX3_tell 1 = .ok (.istore 5, 2) := by decide +kernel
theorem dX3_tell_3 : decode cX3_tell 3 = .ok (.iload 5, 2) := by decide +kernel
theorem dX3_tell_5 : decode cX3_tell 5 = .ok (.aload_n 0, 1) := by decide +kernel
theorem dX3_tell_6 : decode cX3_tell 6 = .ok (.getfield 24, 3) := by decide +kernel
theorem dX3_tell_9 : decode cX3_tell 9 = .ok (.if_icmp .ge 56, 3) := by decide +kernel
theorem dX3_tell_12 : decode cX3_tell 12 = .ok (.aload_n 0, 1) := by decide +kernel
theorem dX3_tell_13 : decode cX3_tell 13 = .ok (.getfield 21, 3) := by decide +kernel
theorem dX3_tell_16 : decode cX3_tell 16 = .ok (.iload 5, 2) := by decide +kernel
theorem dX3_tell_18 : decode cX3_tell 18 = .ok (.iaload, 1) := by decide +kernel
theorem dX3_tell_19 : decode cX3_tell 19 = .ok (.iload 4, 2) := by decide +kernel
theorem dX3_tell_21 : decode cX3_tell 21 = .ok (.if_icmp .gt 44, 3) := by decide +kernel
theorem dX3_tell_24 : decode cX3_tell 24 = .ok (.aload_n 0, 1) := by decide +kernel
theorem dX3_tell_25 : decode cX3_tell 25 = .ok (.getfield 11, 3) := by decide +kernel
theorem dX3_tell_28 : decode cX3_tell 28 = .ok (.iload 5, 2) := by decide +kernel
theorem dX3_tell_30 : decode cX3_tell 30 = .ok (.iaload, 1) := by decide +kernel
theorem dX3_tell_31 : decode cX3_tell 31 = .ok (.iload_n 1, 1) := by decide +kernel
theorem dX3_tell_32 : decode cX3_tell 32 = .ok (.if_icmp .ne 27, 3) := by decide +kernel
theorem dX3_tell_35 : decode cX3_tell 35 = .ok (.aload_n 0, 1) := by decide +kernel
theorem dX3_tell_36 : decode cX3_tell 36 = .ok (.getfield 15, 3) := by decide +kernel
theorem dX3_tell_39 : decode cX3_tell 39 = .ok (.iload 5, 2) := by decide +kernel
theorem dX3_tell_41 : decode cX3_tell 41 = .ok (.iaload, 1) := by decide +kernel
theorem dX3_tell_42 : decode cX3_tell 42 = .ok (.iload_n 2, 1) := by decide +kernel
theorem dX3_tell_43 : decode cX3_tell 43 = .ok (.if_icmp .ne 16, 3) := by decide +kernel
theorem dX3_tell_46 : decode cX3_tell 46 = .ok (.aload_n 0, 1) := by decide +kernel
theorem dX3_tell_47 : decode cX3_tell 47 = .ok (.getfield 18, 3) := by decide +kernel
theorem dX3_tell_50 : decode cX3_tell 50 = .ok (.iload 5, 2) := by decide +kernel
theorem dX3_tell_52 : decode cX3_tell 52 = .ok (.iaload, 1) := by decide +kernel
theorem dX3_tell_53 : decode cX3_tell 53 = .ok (.iload_n 3, 1) := by decide +kernel
theorem dX3_tell_54 : decode cX3_tell 54 = .ok (.if_icmp .ne 5, 3) := by decide +kernel
theorem dX3_tell_57 : decode cX3_tell 57 = .ok (.iconst 1, 1) := by decide +kernel
theorem dX3_tell_58 : decode cX3_tell 58 = .ok (.ireturn, 1) := by decide +kernel
theorem dX3_tell_59 : decode cX3_tell 59 = .ok (.iinc 5 1, 3) := by decide +kernel
theorem dX3_tell_62 : decode cX3_tell 62 = .ok (.goto (-59), 3) := by decide +kernel
theorem dX3_tell_65 : decode cX3_tell 65 = .ok (.iconst 0, 1) := by decide +kernel
theorem dX3_tell_66 : decode cX3_tell 66 = .ok (.ireturn, 1) := by decide +kernel
theorem dX3_latest_0 : decode cX3_latest 0 = .ok (.aload_n 0, 1) := by decide +kernel
theorem dX3_latest_1 : decode cX3_latest 1 = .ok (.getfield 24, 3) := by decide +kernel
theorem dX3_latest_4 : decode cX3_latest 4 = .ok (.iconst 1, 1) := by decide +kernel
theorem dX3_latest_5 : decode cX3_latest 5 = .ok (.isub, 1) := by decide +kernel
theorem dX3_latest_6 : decode cX3_latest 6 = .ok (.istore_n 2, 1) := by decide +kernel
theorem dX3_latest_7 : decode cX3_latest 7 = .ok (.iload_n 2, 1) := by decide +kernel
theorem dX3_latest_8 : decode cX3_latest 8 = .ok (.ifCond .lt 21, 3) := by decide +kernel
theorem dX3_latest_11 : decode cX3_latest 11 = .ok (.aload_n 0, 1) := by decide +kernel
theorem dX3_latest_12 : decode cX3_latest 12 = .ok (.getfield 11, 3) := by decide +kernel
theorem dX3_latest_15 : decode cX3_latest 15 = .ok (.iload_n 2, 1) := by decide +kernel
theorem dX3_latest_16 : decode cX3_latest 16 = .ok (.iaload, 1) := by decide +kernel
theorem dX3_latest_17 : decode cX3_latest 17 = .ok (.iload_n 1, 1) := by decide +kernel
theorem dX3_latest_18 : decode cX3_latest 18 = .ok (.if_icmp .ne 5, 3) := by decide +kernel
theorem dX3_latest_21 : decode cX3_latest 21 = .ok (.iload_n 2, 1) := by decide +kernel
theorem dX3_latest_22 : decode cX3_latest 22 = .ok (.ireturn, 1) := by decide +kernel
theorem dX3_latest_23 : decode cX3_latest 23 = .ok (.iinc 2 (-1), 3) := by decide +kernel
theorem dX3_latest_26 : decode cX3_latest 26 = .ok (.goto (-19), 3) := by decide +kernel
theorem dX3_latest_29 : decode cX3_latest 29 = .ok (.iconst (-1), 1) := by decide +kernel
theorem dX3_latest_30 : decode cX3_latest 30 = .ok (.ireturn, 1) := by decide +kernel
theorem dX4_init_0 : decode cX4_init 0 = .ok (.aload_n 0, 1) := by decide +kernel
theorem dX4_init_1 : decode cX4_init 1 = .ok (.invokespecial 3, 3) := by decide +kernel
theorem dX4_init_4 : decode cX4_init 4 = .ok (.aload_n 0, 1) := by decide +kernel
theorem dX4_init_5 : decode cX4_init 5 = .ok (.bipush 26, 2) := by decide +kernel
theorem dX4_init_7 : decode cX4_init 7 = .ok (.newarray .int, 2) := by decide +kernel
theorem dX4_init_9 : decode cX4_init 9 = .ok (.putfield 9, 3) := by decide +kernel
theorem dX4_init_12 : decode cX4_init 12 = .ok (.aload_n 0, 1) := by decide +kernel
theorem dX4_init_13 : decode cX4_init 13 = .ok (.sipush 702, 3) := by decide +kernel
theorem dX4_init_16 : decode cX4_init 16 = .ok (.newarray .int, 2) := by decide +kernel
theorem dX4_init_18 : decode cX4_init 18 = .ok (.putfield 15, 3) := by decide +kernel
theorem dX4_init_21 : decode cX4_init 21 = .ok (.aload_n 0, 1) := by decide +kernel
theorem dX4_init_22 : decode cX4_init 22 = .ok (.bipush 66, 2) := by decide +kernel
theorem dX4_init_24 : decode cX4_init 24 = .ok (.newarray .int, 2) := by decide +kernel
theorem dX4_init_26 : decode cX4_init 26 = .ok (.putfield 18, 3) := by decide +kernel
theorem dX4_init_29 : decode cX4_init 29 = .ok (.aload_n 0, 1) := by decide +kernel
theorem dX4_init_30 : decode cX4_init 30 = .ok (.sipush 4356, 3) := by decide +kernel
theorem dX4_init_33 : decode cX4_init 33 = .ok (.newarray .int, 2) := by decide +kernel
theorem dX4_init_35 : decode cX4_init 35 = .ok (.putfield 21, 3) := by decide +kernel
theorem dX4_init_38 : decode cX4_init 38 = .ok (.aload_n 0, 1) := by decide +kernel
theorem dX4_init_39 : decode cX4_init 39 = .ok (.bipush 40, 2) := by decide +kernel
theorem dX4_init_41 : decode cX4_init 41 = .ok (.newarray .int, 2) := by decide +kernel
theorem dX4_init_43 : decode cX4_init 43 = .ok (.putfield 24, 3) := by decide +kernel
theorem dX4_init_46 : decode cX4_init 46 = .ok (.aload_n 0, 1) := by decide +kernel
theorem dX4_init_47 : decode cX4_init 47 = .ok (.bipush 40, 2) := by decide +kernel
theorem dX4_init_49 : decode cX4_init 49 = .ok (.newarray .int, 2) := by decide +kernel
theorem dX4_init_51 : decode cX4_init 51 = .ok (.putfield 27, 3) := by decide +kernel
theorem dX4_init_54 : decode cX4_init 54 = .ok (.aload_n 0, 1) := by decide +kernel
theorem dX4_init_55 : decode cX4_init 55 = .ok (.bipush 41, 2) := by decide +kernel
theorem dX4_init_57 : decode cX4_init 57 = .ok (.newarray .int, 2) := by decide +kernel
theorem dX4_init_59 : decode cX4_init 59 = .ok (.putfield 30, 3) := by decide +kernel
theorem dX4_init_62 : decode cX4_init 62 = .ok (.aload_n 0, 1) := by decide +kernel
theorem dX4_init_63 : decode cX4_init 63 = .ok (.getfield 9, 3) := by decide +kernel
theorem dX4_init_66 : decode cX4_init 66 = .ok (.iconst (-1), 1) := by decide +kernel
theorem dX4_init_67 : decode cX4_init 67 = .ok (.invokestatic 33, 3) := by decide +kernel
theorem dX4_init_70 : decode cX4_init 70 = .ok (.aload_n 0, 1) := by decide +kernel
theorem dX4_init_71 : decode cX4_init 71 = .ok (.getfield 18, 3) := by decide +kernel
theorem dX4_init_74 : decode cX4_init 74 = .ok (.bipush 10, 2) := by decide +kernel
theorem dX4_init_76 : decode cX4_init 76 = .ok (.invokestatic 33, 3) := by decide +kernel
theorem dX4_init_79 : decode cX4_init 79 = .ok (.aload_n 0, 1) := by decide +kernel
theorem dX4_init_80 : decode cX4_init 80 = .ok (.getfield 21, 3) := by decide +kernel
theorem dX4_init_83 : decode cX4_init 83 = .ok (.bipush 10, 2) := by decide +kernel
theorem dX4_init_85 : decode cX4_init 85 = .ok (.invokestatic 33, 3) := by decide +kernel
theorem dX4_init_88 : decode cX4_init 88 = .ok (.iconst 0, 1) := by decide +kernel
theorem dX4_init_89 : decode cX4_init 89 = .ok (.istore_n 1, 1) := by decide +kernel
theorem dX4_init_90 : decode cX4_init 90 = .ok (.iload_n 1, 1) := by decide +kernel
theorem dX4_init_91 : decode cX4_init 91 = .ok (.bipush 66, 2) := by decide +kernel
theorem dX4_init_93 : decode cX4_init 93 = .ok (.if_icmp .ge 21, 3) := by decide +kernel
theorem dX4_init_96 : decode cX4_init 96 = .ok (.aload_n 0, 1) := by decide +kernel
theorem dX4_init_97 : decode cX4_init 97 = .ok (.getfield 21, 3) := by decide +kernel
theorem dX4_init_100 : decode cX4_init 100 = .ok (.iload_n 1, 1) := by decide +kernel
theorem dX4_init_101 : decode cX4_init 101 = .ok (.bipush 66, 2) := by decide +kernel
theorem dX4_init_103 : decode cX4_init 103 = .ok (.imul, 1) := by decide +kernel
theorem dX4_init_104 : decode cX4_init 104 = .ok (.iload_n 1, 1) := by decide +kernel
theorem dX4_init_105 : decode cX4_init 105 = .ok (.iadd, 1) := by decide +kernel
theorem dX4_init_106 : decode cX4_init 106 = .ok (.iconst 0, 1) := by decide +kernel
theorem dX4_init_107 : decode cX4_init 107 = .ok (.iastore, 1) := by decide +kernel
theorem dX4_init_108 : decode cX4_init 108 = .ok (.iinc 1 1, 3) := by decide +kernel
theorem dX4_init_111 : decode cX4_init 111 = .ok (.goto (-21), 3) := by decide +kernel
theorem dX4_init_114 : decode cX4_init 114 = .ok (.return_, 1) := by decide +kernel
theorem dX4_placesOf_0 : decode cX4_placesOf 0 = .ok (.aload_n 0, 1) := by decide +kernel
theorem dX4_placesOf_1 : decode cX4_placesOf 1 = .ok (.getfield 9, 3) := by decide +kernel
theorem dX4_placesOf_4 : decode cX4_placesOf 4 = .ok (.iload_n 1, 1) := by decide +kernel
theorem dX4_placesOf_5 : decode cX4_placesOf 5 = .ok (.iaload, 1) := by decide +kernel
theorem dX4_placesOf_6 : decode cX4_placesOf 6 = .ok (.ireturn, 1) := by decide +kernel
theorem dX4_setPlaces_0 : decode cX4_setPlaces 0 = .ok (.aload_n 0, 1) := by decide +kernel
theorem dX4_setPlaces_1 : decode cX4_setPlaces 1 = .ok (.getfield 9, 3) := by decide +kernel
theorem dX4_setPlaces_4 : decode cX4_setPlaces 4 = .ok (.iload_n 1, 1) := by decide +kernel
theorem dX4_setPlaces_5 : decode cX4_setPlaces 5 = .ok (.iload_n 2, 1) := by decide +kernel
theorem dX4_setPlaces_6 : decode cX4_setPlaces 6 = .ok (.iastore, 1) := by decide +kernel
theorem dX4_setPlaces_7 : decode cX4_setPlaces 7 = .ok (.iconst 0, 1) := by decide +kernel
theorem dX4_setPlaces_8 : decode cX4_setPlaces 8 = .ok (.istore_n 3, 1) := by decide +kernel
theorem dX4_setPlaces_9 : decode cX4_setPlaces 9 = .ok (.iload_n 3, 1) := by decide +kernel
theorem dX4_setPlaces_10 : decode cX4_setPlaces 10 = .ok (.bipush 27, 2) := by decide +kernel
theorem dX4_setPlaces_12 : decode cX4_setPlaces 12 = .ok (.if_icmp .ge 21, 3) := by decide +kernel
theorem dX4_setPlaces_15 : decode cX4_setPlaces 15 = .ok (.aload_n 0, 1) := by decide +kernel
theorem dX4_setPlaces_16 : decode cX4_setPlaces 16 = .ok (.getfield 15, 3) := by decide +kernel
theorem dX4_setPlaces_19 : decode cX4_setPlaces 19 = .ok (.iload_n 1, 1) := by decide +kernel
theorem dX4_setPlaces_20 : decode cX4_setPlaces 20 = .ok (.bipush 27, 2) := by decide +kernel
theorem dX4_setPlaces_22 : decode cX4_setPlaces 22 = .ok (.imul, 1) := by decide +kernel
theorem dX4_setPlaces_23 : decode cX4_setPlaces 23 = .ok (.iload_n 3, 1) := by decide +kernel
theorem dX4_setPlaces_24 : decode cX4_setPlaces 24 = .ok (.iadd, 1) := by decide +kernel
theorem dX4_setPlaces_25 : decode cX4_setPlaces 25 = .ok (.iconst 0, 1) := by decide +kernel
theorem dX4_setPlaces_26 : decode cX4_setPlaces 26 = .ok (.iastore, 1) := by decide +kernel
theorem dX4_setPlaces_27 : decode cX4_setPlaces 27 = .ok (.iinc 3 1, 3) := by decide +kernel
theorem dX4_setPlaces_30 : decode cX4_setPlaces 30 = .ok (.goto (-21), 3) := by decide +kernel
theorem dX4_setPlaces_33 : decode cX4_setPlaces 33 = .ok (.return_, 1) := by decide +kernel
theorem dX4_setPlace_0 : decode cX4_setPlace 0 = .ok (.aload_n 0, 1) := by decide +kernel
theorem dX4_setPlace_1 : decode cX4_setPlace 1 = .ok (.getfield 15, 3) := by decide +kernel
theorem dX4_setPlace_4 : decode cX4_setPlace 4 = .ok (.iload_n 1, 1) := by decide +kernel
theorem dX4_setPlace_5 : decode cX4_setPlace 5 = .ok (.bipush 27, 2) := by decide +kernel
theorem dX4_setPlace_7 : decode cX4_setPlace 7 = .ok (.imul, 1) := by decide +kernel
theorem dX4_setPlace_8 : decode cX4_setPlace 8 = .ok (.iload_n 2, 1) := by decide +kernel
theorem dX4_setPlace_9 : decode cX4_setPlace 9 = .ok (.iadd, 1) := by decide +kernel
theorem dX4_setPlace_10 : decode cX4_setPlace 10 = .ok (.iload_n 3, 1) := by decide +kernel
theorem dX4_setPlace_11 : decode cX4_setPlace 11 = .ok (.iastore, 1) := by decide +kernel
theorem dX4_setPlace_12 : decode cX4_setPlace 12 = .ok (.return_, 1) := by decide +kernel
theorem dX4_setPutCost_0 : decode cX4_setPutCost 0 = .ok (.aload_n 0, 1) := by decide +kernel
theorem dX4_setPutCost_1 : decode cX4_setPutCost 1 = .ok (.getfield 18, 3) := by decide +kernel
theorem dX4_setPutCost_4 : decode cX4_setPutCost 4 = .ok (.iload_n 1, 1) := by decide +kernel
theorem dX4_setPutCost_5 : decode cX4_setPutCost 5 = .ok (.iload_n 2, 1) := by decide +kernel
theorem dX4_setPutCost_6 : decode cX4_setPutCost 6 = .ok (.iastore, 1) := by decide +kernel
theorem dX4_setPutCost_7 : decode cX4_setPutCost 7 = .ok (.return_, 1) := by decide +kernel
theorem dX4_setChangeCost_0 : decode cX4_setChangeCost 0 = .ok (.aload_n 0, 1) := by decide +kernel
theorem dX4_setChangeCost_1 : decode cX4_setChangeCost 1 = .ok (.getfield 21, 3) := by decide +kernel
theorem dX4_setChangeCost_4 : decode cX4_setChangeCost 4 = .ok (.iload_n 1, 1) := by decide +kernel
theorem dX4_setChangeCost_5 : decode cX4_setChangeCost 5 = .ok (.bipush 66, 2) := by decide +kernel
theorem dX4_setChangeCost_7 : decode cX4_setChangeCost 7 = .ok (.imul, 1) := by decide +kernel
theorem dX4_setChangeCost_8 : decode cX4_setChangeCost 8 = .ok (.iload_n 2, 1) := by decide +kernel
theorem dX4_setChangeCost_9 : decode cX4_setChangeCost 9 = .ok (.iadd, 1) := by decide +kernel
theorem dX4_setChangeCost_10 : decode cX4_setChangeCost 10 = .ok (.iload_n 3, 1) := by decide +kernel
theorem dX4_setChangeCost_11 : decode cX4_setChangeCost 11 = .ok (.iastore, 1) := by decide +kernel
theorem dX4_setChangeCost_12 : decode cX4_setChangeCost 12 = .ok (.aload_n 0, 1) := by decide +kernel
theorem dX4_setChangeCost_13 : decode cX4_setChangeCost 13 = .ok (.getfield 21, 3) := by decide +kernel
theorem dX4_setChangeCost_16 : decode cX4_setChangeCost 16 = .ok (.iload_n 2, 1) := by decide +kernel
theorem dX4_setChangeCost_17 : decode cX4_setChangeCost 17 = .ok (.bipush 66, 2) := by decide +kernel
theorem dX4_setChangeCost_19 : decode cX4_setChangeCost 19 = .ok (.imul, 1) := by decide +kernel
theorem dX4_setChangeCost_20 : decode cX4_setChangeCost 20 = .ok (.iload_n 1, 1) := by decide +kernel
theorem dX4_setChangeCost_21 : decode cX4_setChangeCost 21 = .ok (.iadd, 1) := by decide +kernel
theorem dX4_setChangeCost_22 : decode cX4_setChangeCost 22 = .ok (.iload_n 3, 1) := by decide +kernel
theorem dX4_setChangeCost_23 : decode cX4_setChangeCost 23 = .ok (.iastore, 1) := by decide +kernel
theorem dX4_setChangeCost_24 : decode cX4_setChangeCost 24 = .ok (.return_, 1) := by decide +kernel
theorem dX4_countOf_0 : decode cX4_countOf 0 = .ok (.aload_n 0, 1) := by decide +kernel
theorem dX4_countOf_1 : decode cX4_countOf 1 = .ok (.aload_n 1, 1) := by decide +kernel
theorem dX4_countOf_2 : decode cX4_countOf 2 = .ok (.aload_n 0, 1) := by decide +kernel
theorem dX4_countOf_3 : decode cX4_countOf 3 = .ok (.getfield 24, 3) := by decide +kernel
theorem dX4_countOf_6 : decode cX4_countOf 6 = .ok (.invokevirtual 39, 3) := by decide +kernel
theorem dX4_countOf_9 : decode cX4_countOf 9 = .ok (.ireturn, 1) := by decide +kernel
theorem dX4_at_0 : decode cX4_at 0 = .ok (.iload_n 2, 1) := by decide +kernel
theorem dX4_at_1 : decode cX4_at 1 = .ok (.aload_n 0, 1) := by decide +kernel
theorem dX4_at_2 : decode cX4_at 2 = .ok (.aload_n 1, 1) := by decide +kernel
theorem dX4_at_3 : decode cX4_at 3 = .ok (.aload_n 0, 1) := by decide +kernel
theorem dX4_at_4 : decode cX4_at 4 = .ok (.getfield 24, 3) := by decide +kernel
theorem dX4_at_7 : decode cX4_at 7 = .ok (.invokevirtual 39, 3) := by decide +kernel
theorem dX4_at_10 : decode cX4_at 10 = .ok (.invokestatic 43, 3) := by decide +kernel
theorem dX4_at_13 : decode cX4_at 13 = .ok (.ifCond .eq 12, 3) := by decide +kernel
theorem dX4_at_16 : decode cX4_at 16 = .ok (.aload_n 0, 1) := by decide +kernel
theorem dX4_at_17 : decode cX4_at 17 = .ok (.getfield 24, 3) := by decide +kernel
theorem dX4_at_20 : decode cX4_at 20 = .ok (.iload_n 2, 1) := by decide +kernel
theorem dX4_at_21 : decode cX4_at 21 = .ok (.iaload, 1) := by decide +kernel
theorem dX4_at_22 : decode cX4_at 22 = .ok (.goto 4, 3) := by decide +kernel
theorem dX4_at_25 : decode cX4_at 25 = .ok (.iconst (-1), 1) := by decide +kernel
theorem dX4_at_26 : decode cX4_at 26 = .ok (.ireturn, 1) := by decide +kernel
theorem dX4_costOf_0 : decode cX4_costOf 0 = .ok (.aload_n 0, 1) := by decide +kernel
theorem dX4_costOf_1 : decode cX4_costOf 1 = .ok (.aload_n 0, 1) := by decide +kernel
theorem dX4_costOf_2 : decode cX4_costOf 2 = .ok (.aload_n 1, 1) := by decide +kernel
theorem dX4_costOf_3 : decode cX4_costOf 3 = .ok (.aload_n 0, 1) := by decide +kernel
theorem dX4_costOf_4 : decode cX4_costOf 4 = .ok (.getfield 24, 3) := by decide +kernel
theorem dX4_costOf_7 : decode cX4_costOf 7 = .ok (.invokevirtual 39, 3) := by decide +kernel
theorem dX4_costOf_10 : decode cX4_costOf 10 = .ok (.aload_n 0, 1) := by decide +kernel
theorem dX4_costOf_11 : decode cX4_costOf 11 = .ok (.aload_n 2, 1) := by decide +kernel
theorem dX4_costOf_12 : decode cX4_costOf 12 = .ok (.aload_n 0, 1) := by decide +kernel
theorem dX4_costOf_13 : decode cX4_costOf 13 = .ok (.getfield 27, 3) := by decide +kernel
theorem dX4_costOf_16 : decode cX4_costOf 16 = .ok (.invokevirtual 39, 3) := by decide +kernel
theorem dX4_costOf_19 : decode cX4_costOf 19 = .ok (.invokevirtual 47, 3) := by decide +kernel
theorem dX4_costOf_22 : decode cX4_costOf 22 = .ok (.ireturn, 1) := by decide +kernel
theorem dX4_likeOf_0 : decode cX4_likeOf 0 = .ok (.aload_n 0, 1) := by decide +kernel
theorem dX4_likeOf_1 : decode cX4_likeOf 1 = .ok (.aload_n 1, 1) := by decide +kernel
theorem dX4_likeOf_2 : decode cX4_likeOf 2 = .ok (.aload_n 0, 1) := by decide +kernel
theorem dX4_likeOf_3 : decode cX4_likeOf 3 = .ok (.getfield 24, 3) := by decide +kernel
theorem dX4_likeOf_6 : decode cX4_likeOf 6 = .ok (.invokevirtual 39, 3) := by decide +kernel
theorem dX4_likeOf_9 : decode cX4_likeOf 9 = .ok (.istore_n 3, 1) := by decide +kernel
theorem dX4_likeOf_10 : decode cX4_likeOf 10 = .ok (.aload_n 0, 1) := by decide +kernel
theorem dX4_likeOf_11 : decode cX4_likeOf 11 = .ok (.aload_n 2, 1) := by decide +kernel
theorem dX4_likeOf_12 : decode cX4_likeOf 12 = .ok (.aload_n 0, 1) := by decide +kernel
theorem dX4_likeOf_13 : decode cX4_likeOf 13 = .ok (.getfield 27, 3) := by decide +kernel
theorem dX4_likeOf_16 : decode cX4_likeOf 16 = .ok (.invokevirtual 39, 3) := by decide +kernel
theorem dX4_likeOf_19 : decode cX4_likeOf 19 = .ok (.istore 4, 2) := by decide +kernel
theorem dX4_likeOf_21 : decode cX4_likeOf 21 = .ok (.iload_n 3, 1) := by decide +kernel
theorem dX4_likeOf_22 : decode cX4_likeOf 22 = .ok (.iload 4, 2) := by decide +kernel
theorem dX4_likeOf_24 : decode cX4_likeOf 24 = .ok (.invokestatic 51, 3) := by decide +kernel
theorem dX4_likeOf_27 : decode cX4_likeOf 27 = .ok (.istore 5, 2) := by decide +kernel
theorem dX4_likeOf_29 : decode cX4_likeOf 29 = .ok (.iload 5, 2) := by decide +kernel
theorem dX4_likeOf_31 : decode cX4_likeOf 31 = .ok (.ifCond .ne 7, 3) := by decide +kernel
theorem dX4_likeOf_34 : decode cX4_likeOf 34 = .ok (.sipush 1000, 3) := by decide +kernel
theorem dX4_likeOf_37 : decode cX4_likeOf 37 = .ok (.ireturn, 1) := by decide +kernel
theorem dX4_likeOf_38 : decode cX4_likeOf 38 = .ok (.iconst 0, 1) := by decide +kernel
theorem dX4_likeOf_39 : decode cX4_likeOf 39 = .ok (.sipush 1000, 3) := by decide +kernel
theorem dX4_likeOf_42 : decode cX4_likeOf 42 = .ok (.bipush 100, 2) := by decide +kernel
theorem dX4_likeOf_44 : decode cX4_likeOf 44 = .ok (.aload_n 0, 1) := by decide +kernel
theorem dX4_likeOf_45 : decode cX4_likeOf 45 = .ok (.iload_n 3, 1) := by decide +kernel
theorem dX4_likeOf_46 : decode cX4_likeOf 46 = .ok (.iload 4, 2) := by decide +kernel
theorem dX4_likeOf_48 : decode cX4_likeOf 48 = .ok (.invokevirtual 47, 3) := by decide +kernel
theorem dX4_likeOf_51 : decode cX4_likeOf 51 = .ok (.imul, 1) := by decide +kernel
theorem dX4_likeOf_52 : decode cX4_likeOf 52 = .ok (.iload 5, 2) := by decide +kernel
theorem dX4_likeOf_54 : decode cX4_likeOf 54 = .ok (.idiv, 1) := by decide +kernel
theorem dX4_likeOf_55 : decode cX4_likeOf 55 = .ok (.isub, 1) := by decide +kernel
theorem dX4_likeOf_56 : decode cX4_likeOf 56 = .ok (.invokestatic 51, 3) := by decide +kernel
theorem dX4_likeOf_59 : decode cX4_likeOf 59 = .ok (.ireturn, 1) := by decide +kernel
theorem dX4_spell_0 : decode cX4_spell 0 = .ok (.iconst 0, 1) := by decide +kernel
theorem dX4_spell_1 : decode cX4_spell 1 = .ok (.istore_n 3, 1) := by decide +kernel
theorem dX4_spell_2 : decode cX4_spell 2 = .ok (.iconst 0, 1) := by decide +kernel
theorem dX4_spell_3 : decode cX4_spell 3 = .ok (.istore 4, 2) := by decide +kernel
theorem dX4_spell_5 : decode cX4_spell 5 = .ok (.iload 4, 2) := by decide +kernel
theorem dX4_spell_7 : decode cX4_spell 7 = .ok (.aload_n 1, 1) := by decide +kernel
theorem dX4_spell_8 : decode cX4_spell 8 = .ok (.getfield 56, 3) := by decide +kernel
theorem dX4_spell_11 : decode cX4_spell 11 = .ok (.if_icmp .ge 65, 3) := by decide +kernel
theorem dX4_spell_14 : decode cX4_spell 14 = .ok (.iload 4, 2) := by decide +kernel
theorem dX4_spell_16 : decode cX4_spell 16 = .ok (.iconst 1, 1) := by decide +kernel
theorem dX4_spell_17 : decode cX4_spell 17 = .ok (.iadd, 1) := by decide +kernel
theorem dX4_spell_18 : decode cX4_spell 18 = .ok (.aload_n 1, 1) := by decide +kernel
theorem dX4_spell_19 : decode cX4_spell 19 = .ok (.getfield 56, 3) := by decide +kernel
theorem dX4_spell_22 : decode cX4_spell 22 = .ok (.if_icmp .ge 15, 3) := by decide +kernel
theorem dX4_spell_25 : decode cX4_spell 25 = .ok (.aload_n 1, 1) := by decide +kernel
theorem dX4_spell_26 : decode cX4_spell 26 = .ok (.getfield 62, 3) := by decide +kernel
theorem dX4_spell_29 : decode cX4_spell 29 = .ok (.iload 4, 2) := by decide +kernel
theorem dX4_spell_31 : decode cX4_spell 31 = .ok (.iconst 1, 1) := by decide +kernel
theorem dX4_spell_32 : decode cX4_spell 32 = .ok (.iadd, 1) := by decide +kernel
theorem dX4_spell_33 : decode cX4_spell 33 = .ok (.iaload, 1) := by decide +kernel
theorem dX4_spell_34 : decode cX4_spell 34 = .ok (.goto 5, 3) := by decide +kernel
theorem dX4_spell_37 : decode cX4_spell 37 = .ok (.bipush 26, 2) := by decide +kernel
theorem dX4_spell_39 : decode cX4_spell 39 = .ok (.istore 5, 2) := by decide +kernel
theorem dX4_spell_41 : decode cX4_spell 41 = .ok (.aload_n 0, 1) := by decide +kernel
theorem dX4_spell_42 : decode cX4_spell 42 = .ok (.aload_n 1, 1) := by decide +kernel
theorem dX4_spell_43 : decode cX4_spell 43 = .ok (.getfield 62, 3) := by decide +kernel
theorem dX4_spell_46 : decode cX4_spell 46 = .ok (.iload 4, 2) := by decide +kernel
theorem dX4_spell_48 : decode cX4_spell 48 = .ok (.iaload, 1) := by decide +kernel
theorem dX4_spell_49 : decode cX4_spell 49 = .ok (.iload 5, 2) := by decide +kernel
theorem dX4_spell_51 : decode cX4_spell 51 = .ok (.invokevirtual 65, 3) := by decide +kernel
theorem dX4_spell_54 : decode cX4_spell 54 = .ok (.istore 6, 2) := by decide +kernel
theorem dX4_spell_56 : decode cX4_spell 56 = .ok (.iload 6, 2) := by decide +kernel
theorem dX4_spell_58 : decode cX4_spell 58 = .ok (.iconst (-1), 1) := by decide +kernel
theorem dX4_spell_59 : decode cX4_spell 59 = .ok (.if_icmp .eq 11, 3) := by decide +kernel
theorem dX4_spell_62 : decode cX4_spell 62 = .ok (.aload_n 2, 1) := by decide +kernel
theorem dX4_spell_63 : decode cX4_spell 63 = .ok (.iload_n 3, 1) := by decide +kernel
theorem dX4_spell_64 : decode cX4_spell 64 = .ok (.iload 6, 2) := by decide +kernel
theorem dX4_spell_66 : decode cX4_spell 66 = .ok (.iastore, 1) := by decide +kernel
theorem dX4_spell_67 : decode cX4_spell 67 = .ok (.iinc 3 1, 3) := by decide +kernel
theorem dX4_spell_70 : decode cX4_spell 70 = .ok (.iinc 4 1, 3) := by decide +kernel
theorem dX4_spell_73 : decode cX4_spell 73 = .ok (.goto (-68), 3) := by decide +kernel
theorem dX4_spell_76 : decode cX4_spell 76 = .ok (.iload_n 3, 1) := by decide +kernel
theorem dX4_spell_77 : decode cX4_spell 77 = .ok (.ireturn, 1) := by decide +kernel
theorem dX4_heard_0 : decode cX4_heard 0 = .ok (.aload_n 0, 1) := by decide +kernel
theorem dX4_heard_1 : decode cX4_heard 1 = .ok (.getfield 9, 3) := by decide +kernel
theorem dX4_heard_4 : decode cX4_heard 4 = .ok (.iload_n 1, 1) := by decide +kernel
theorem dX4_heard_5 : decode cX4_heard 5 = .ok (.iaload, 1) := by decide +kernel
theorem dX4_heard_6 : decode cX4_heard 6 = .ok (.iconst (-1), 1) := by decide +kernel
theorem dX4_heard_7 : decode cX4_heard 7 = .ok (.if_icmp .ne 8, 3) := by decide +kernel
theorem dX4_heard_10 : decode cX4_heard 10 = .ok (.bipush 40, 2) := by decide +kernel
theorem dX4_heard_12 : decode cX4_heard 12 = .ok (.iload_n 1, 1) := by decide +kernel
theorem dX4_heard_13 : decode cX4_heard 13 = .ok (.iadd, 1) := by decide +kernel
theorem dX4_heard_14 : decode cX4_heard 14 = .ok (.ireturn, 1) := by decide +kernel
theorem dX4_heard_15 : decode cX4_heard 15 = .ok (.iload_n 2, 1) := by decide +kernel
theorem dX4_heard_16 : decode cX4_heard 16 = .ok (.aload_n 0, 1) := by decide +kernel
theorem dX4_heard_17 : decode cX4_heard 17 = .ok (.getfield 9, 3) := by decide +kernel
theorem dX4_heard_20 : decode cX4_heard 20 = .ok (.iload_n 1, 1) := by decide +kernel
theorem dX4_heard_21 : decode cX4_heard 21 = .ok (.iaload, 1) := by decide +kernel
theorem dX4_heard_22 : decode cX4_heard 22 = .ok (.if_icmp .ge 17, 3) := by decide +kernel
theorem dX4_heard_25 : decode cX4_heard 25 = .ok (.aload_n 0, 1) := by decide +kernel
theorem dX4_heard_26 : decode cX4_heard 26 = .ok (.getfield 15, 3) := by decide +kernel
theorem dX4_heard_29 : decode cX4_heard 29 = .ok (.iload_n 1, 1) := by decide +kernel
theorem dX4_heard_30 : decode cX4_heard 30 = .ok (.bipush 27, 2) := by decide +kernel
theorem dX4_heard_32 : decode cX4_heard 32 = .ok (.imul, 1) := by decide +kernel
theorem dX4_heard_33 : decode cX4_heard 33 = .ok (.iload_n 2, 1) := by decide +kernel
theorem dX4_heard_34 : decode cX4_heard 34 = .ok (.iadd, 1) := by decide +kernel
theorem dX4_heard_35 : decode cX4_heard 35 = .ok (.iaload, 1) := by decide +kernel
theorem dX4_heard_36 : decode cX4_heard 36 = .ok (.goto 4, 3) := by decide +kernel
theorem dX4_heard_39 : decode cX4_heard 39 = .ok (.iconst (-1), 1) := by decide +kernel
theorem dX4_heard_40 : decode cX4_heard 40 = .ok (.ireturn, 1) := by decide +kernel
theorem dX4_leastSum_0 : decode cX4_leastSum 0 = .ok (.aload_n 0, 1) := by decide +kernel
theorem dX4_leastSum_1 : decode cX4_leastSum 1 = .ok (.getfield 30, 3) := by decide +kernel
theorem dX4_leastSum_4 : decode cX4_leastSum 4 = .ok (.iconst 0, 1) := by decide +kernel
theorem dX4_leastSum_5 : decode cX4_leastSum 5 = .ok (.iconst 0, 1) := by decide +kernel
theorem dX4_leastSum_6 : decode cX4_leastSum 6 = .ok (.iastore, 1) := by decide +kernel
theorem dX4_leastSum_7 : decode cX4_leastSum 7 = .ok (.iconst 0, 1) := by decide +kernel
theorem dX4_leastSum_8 : decode cX4_leastSum 8 = .ok (.istore_n 3, 1) := by decide +kernel
theorem dX4_leastSum_9 : decode cX4_leastSum 9 = .ok (.iload_n 3, 1) := by decide +kernel
theorem dX4_leastSum_10 : decode cX4_leastSum 10 = .ok (.iload_n 2, 1) := by decide +kernel
theorem dX4_leastSum_11 : decode cX4_leastSum 11 = .ok (.if_icmp .ge 35, 3) := by decide +kernel
theorem dX4_leastSum_14 : decode cX4_leastSum 14 = .ok (.aload_n 0, 1) := by decide +kernel
theorem dX4_leastSum_15 : decode cX4_leastSum 15 = .ok (.getfield 30, 3) := by decide +kernel
theorem dX4_leastSum_18 : decode cX4_leastSum 18 = .ok (.iload_n 3, 1) := by decide +kernel
theorem dX4_leastSum_19 : decode cX4_leastSum 19 = .ok (.iconst 1, 1) := by decide +kernel
theorem dX4_leastSum_20 : decode cX4_leastSum 20 = .ok (.iadd, 1) := by decide +kernel
theorem dX4_leastSum_21 : decode cX4_leastSum 21 = .ok (.aload_n 0, 1) := by decide +kernel
theorem dX4_leastSum_22 : decode cX4_leastSum 22 = .ok (.getfield 30, 3) := by decide +kernel
theorem dX4_leastSum_25 : decode cX4_leastSum 25 = .ok (.iload_n 3, 1) := by decide +kernel
theorem dX4_leastSum_26 : decode cX4_leastSum 26 = .ok (.iaload, 1) := by decide +kernel
theorem dX4_leastSum_27 : decode cX4_leastSum 27 = .ok (.aload_n 0, 1) := by decide +kernel
theorem dX4_leastSum_28 : decode cX4_leastSum 28 = .ok (.getfield 18, 3) := by decide +kernel
theorem dX4_leastSum_31 : decode cX4_leastSum 31 = .ok (.aload_n 0, 1) := by decide +kernel
theorem dX4_leastSum_32 : decode cX4_leastSum 32 = .ok (.getfield 27, 3) := by decide +kernel
theorem dX4_leastSum_35 : decode cX4_leastSum 35 = .ok (.iload_n 3, 1) := by decide +kernel
theorem dX4_leastSum_36 : decode cX4_leastSum 36 = .ok (.iaload, 1) := by decide +kernel
theorem dX4_leastSum_37 : decode cX4_leastSum 37 = .ok (.iaload, 1) := by decide +kernel
theorem dX4_leastSum_38 : decode cX4_leastSum 38 = .ok (.iadd, 1) := by decide +kernel
theorem dX4_leastSum_39 : decode cX4_leastSum 39 = .ok (.iastore, 1) := by decide +kernel
theorem dX4_leastSum_40 : decode cX4_leastSum 40 = .ok (.iinc 3 1, 3) := by decide +kernel
theorem dX4_leastSum_43 : decode cX4_leastSum 43 = .ok (.goto (-34), 3) := by decide +kernel
theorem dX4_leastSum_46 : decode cX4_leastSum 46 = .ok (.iconst 0, 1) := by decide +kernel
theorem dX4_leastSum_47 : decode cX4_leastSum 47 = .ok (.istore_n 3, 1) := by decide +kernel
theorem dX4_leastSum_48 : decode cX4_leastSum 48 = .ok (.iload_n 3, 1) := by decide +kernel
theorem dX4_leastSum_49 : decode cX4_leastSum 49 = .ok (.iload_n 1, 1) := by decide +kernel
theorem dX4_leastSum_50 : decode cX4_leastSum 50 = .ok (.if_icmp .ge 152, 3) := by decide +kernel
theorem dX4_leastSum_53 : decode cX4_leastSum 53 = .ok (.aload_n 0, 1) := by decide +kernel
theorem dX4_leastSum_54 : decode cX4_leastSum 54 = .ok (.getfield 24, 3) := by decide +kernel
theorem dX4_leastSum_57 : decode cX4_leastSum 57 = .ok (.iload_n 3, 1) := by decide +kernel
theorem dX4_leastSum_58 : decode cX4_leastSum 58 = .ok (.iaload, 1) := by decide +kernel
theorem dX4_leastSum_59 : decode cX4_leastSum 59 = .ok (.istore 4, 2) := by decide +kernel
theorem dX4_leastSum_61 : decode cX4_leastSum 61 = .ok (.aload_n 0, 1) := by decide +kernel
theorem dX4_leastSum_62 : decode cX4_leastSum 62 = .ok (.getfield 30, 3) := by decide +kernel
theorem dX4_leastSum_65 : decode cX4_leastSum 65 = .ok (.iconst 0, 1) := by decide +kernel
theorem dX4_leastSum_66 : decode cX4_leastSum 66 = .ok (.iaload, 1) := by decide +kernel
theorem dX4_leastSum_67 : decode cX4_leastSum 67 = .ok (.istore 5, 2) := by decide +kernel
theorem dX4_leastSum_69 : decode cX4_leastSum 69 = .ok (.aload_n 0, 1) := by decide +kernel
theorem dX4_leastSum_70 : decode cX4_leastSum 70 = .ok (.getfield 30, 3) := by decide +kernel
theorem dX4_leastSum_73 : decode cX4_leastSum 73 = .ok (.iconst 0, 1) := by decide +kernel
theorem dX4_leastSum_74 : decode cX4_leastSum 74 = .ok (.dup2, 1) := by decide +kernel
theorem dX4_leastSum_75 : decode cX4_leastSum 75 = .ok (.iaload, 1) := by decide +kernel
theorem dX4_leastSum_76 : decode cX4_leastSum 76 = .ok (.aload_n 0, 1) := by decide +kernel
theorem dX4_leastSum_77 : decode cX4_leastSum 77 = .ok (.getfield 18, 3) := by decide +kernel
theorem dX4_leastSum_80 : decode cX4_leastSum 80 = .ok (.iload 4, 2) := by decide +kernel
theorem dX4_leastSum_82 : decode cX4_leastSum 82 = .ok (.iaload, 1) := by decide +kernel
theorem dX4_leastSum_83 : decode cX4_leastSum 83 = .ok (.iadd, 1) := by decide +kernel
theorem dX4_leastSum_84 : decode cX4_leastSum 84 = .ok (.iastore, 1) := by decide +kernel
theorem dX4_leastSum_85 : decode cX4_leastSum 85 = .ok (.iconst 0, 1) := by decide +kernel
theorem dX4_leastSum_86 : decode cX4_leastSum 86 = .ok (.istore 6, 2) := by decide +kernel
theorem dX4_leastSum_88 : decode cX4_leastSum 88 = .ok (.iload 6, 2) := by decide +kernel
theorem dX4_leastSum_90 : decode cX4_leastSum 90 = .ok (.iload_n 2, 1) := by decide +kernel
theorem dX4_leastSum_91 : decode cX4_leastSum 91 = .ok (.if_icmp .ge 105, 3) := by decide +kernel
theorem dX4_leastSum_94 : decode cX4_leastSum 94 = .ok (.iload 5, 2) := by decide +kernel
theorem dX4_leastSum_96 : decode cX4_leastSum 96 = .ok (.aload_n 0, 1) := by decide +kernel
theorem dX4_leastSum_97 : decode cX4_leastSum 97 = .ok (.getfield 21, 3) := by decide +kernel
theorem dX4_leastSum_100 : decode cX4_leastSum 100 = .ok (.iload 4, 2) := by decide +kernel
theorem dX4_leastSum_102 : decode cX4_leastSum 102 = .ok (.bipush 66, 2) := by decide +kernel
theorem dX4_leastSum_104 : decode cX4_leastSum 104 = .ok (.imul, 1) := by decide +kernel
theorem dX4_leastSum_105 : decode cX4_leastSum 105 = .ok (.aload_n 0, 1) := by decide +kernel
theorem dX4_leastSum_106 : decode cX4_leastSum 106 = .ok (.getfield 27, 3) := by decide +kernel
theorem dX4_leastSum_109 : decode cX4_leastSum 109 = .ok (.iload 6, 2) := by decide +kernel
theorem dX4_leastSum_111 : decode cX4_leastSum 111 = .ok (.iaload, 1) := by decide +kernel
theorem dX4_leastSum_112 : decode cX4_leastSum 112 = .ok (.iadd, 1) := by decide +kernel
theorem dX4_leastSum_113 : decode cX4_leastSum 113 = .ok (.iaload, 1) := by decide +kernel
theorem dX4_leastSum_114 : decode cX4_leastSum 114 = .ok (.iadd, 1) := by decide +kernel
theorem dX4_leastSum_115 : decode cX4_leastSum 115 = .ok (.istore 7, 2) := by decide +kernel
theorem dX4_leastSum_117 : decode cX4_leastSum 117 = .ok (.aload_n 0, 1) := by decide +kernel
theorem dX4_leastSum_118 : decode cX4_leastSum 118 = .ok (.getfield 30, 3) := by decide +kernel
theorem dX4_leastSum_121 : decode cX4_leastSum 121 = .ok (.iload 6, 2) := by decide +kernel
theorem dX4_leastSum_123 : decode cX4_leastSum 123 = .ok (.iconst 1, 1) := by decide +kernel
theorem dX4_leastSum_124 : decode cX4_leastSum 124 = .ok (.iadd, 1) := by decide +kernel
theorem dX4_leastSum_125 : decode cX4_leastSum 125 = .ok (.iaload, 1) := by decide +kernel
theorem dX4_leastSum_126 : decode cX4_leastSum 126 = .ok (.aload_n 0, 1) := by decide +kernel
theorem dX4_leastSum_127 : decode cX4_leastSum 127 = .ok (.getfield 18, 3) := by decide +kernel
theorem dX4_leastSum_130 : decode cX4_leastSum 130 = .ok (.iload 4, 2) := by decide +kernel
theorem dX4_leastSum_132 : decode cX4_leastSum 132 = .ok (.iaload, 1) := by decide +kernel
theorem dX4_leastSum_133 : decode cX4_leastSum 133 = .ok (.iadd, 1) := by decide +kernel
theorem dX4_leastSum_134 : decode cX4_leastSum 134 = .ok (.istore 8, 2) := by decide +kernel
theorem dX4_leastSum_136 : decode cX4_leastSum 136 = .ok (.aload_n 0, 1) := by decide +kernel
theorem dX4_leastSum_137 : decode cX4_leastSum 137 = .ok (.getfield 30, 3) := by decide +kernel
theorem dX4_leastSum_140 : decode cX4_leastSum 140 = .ok (.iload 6, 2) := by decide +kernel
theorem dX4_leastSum_142 : decode cX4_leastSum 142 = .ok (.iaload, 1) := by decide +kernel
theorem dX4_leastSum_143 : decode cX4_leastSum 143 = .ok (.aload_n 0, 1) := by decide +kernel
theorem dX4_leastSum_144 : decode cX4_leastSum 144 = .ok (.getfield 18, 3) := by decide +kernel
theorem dX4_leastSum_147 : decode cX4_leastSum 147 = .ok (.aload_n 0, 1) := by decide +kernel
theorem dX4_leastSum_148 : decode cX4_leastSum 148 = .ok (.getfield 27, 3) := by decide +kernel
theorem dX4_leastSum_151 : decode cX4_leastSum 151 = .ok (.iload 6, 2) := by decide +kernel
theorem dX4_leastSum_153 : decode cX4_leastSum 153 = .ok (.iaload, 1) := by decide +kernel
theorem dX4_leastSum_154 : decode cX4_leastSum 154 = .ok (.iaload, 1) := by decide +kernel
theorem dX4_leastSum_155 : decode cX4_leastSum 155 = .ok (.iadd, 1) := by decide +kernel
theorem dX4_leastSum_156 : decode cX4_leastSum 156 = .ok (.istore 9, 2) := by decide +kernel
theorem dX4_leastSum_158 : decode cX4_leastSum 158 = .ok (.aload_n 0, 1) := by decide +kernel
theorem dX4_leastSum_159 : decode cX4_leastSum 159 = .ok (.getfield 30, 3) := by decide +kernel
theorem dX4_leastSum_162 : decode cX4_leastSum 162 = .ok (.iload 6, 2) := by decide +kernel
theorem dX4_leastSum_164 : decode cX4_leastSum 164 = .ok (.iconst 1, 1) := by decide +kernel
theorem dX4_leastSum_165 : decode cX4_leastSum 165 = .ok (.iadd, 1) := by decide +kernel
theorem dX4_leastSum_166 : decode cX4_leastSum 166 = .ok (.iaload, 1) := by decide +kernel
theorem dX4_leastSum_167 : decode cX4_leastSum 167 = .ok (.istore 5, 2) := by decide +kernel
theorem dX4_leastSum_169 : decode cX4_leastSum 169 = .ok (.aload_n 0, 1) := by decide +kernel
theorem dX4_leastSum_170 : decode cX4_leastSum 170 = .ok (.getfield 30, 3) := by decide +kernel
theorem dX4_leastSum_173 : decode cX4_leastSum 173 = .ok (.iload 6, 2) := by decide +kernel
theorem dX4_leastSum_175 : decode cX4_leastSum 175 = .ok (.iconst 1, 1) := by decide +kernel
theorem dX4_leastSum_176 : decode cX4_leastSum 176 = .ok (.iadd, 1) := by decide +kernel
theorem dX4_leastSum_177 : decode cX4_leastSum 177 = .ok (.iload 7, 2) := by decide +kernel
theorem dX4_leastSum_179 : decode cX4_leastSum 179 = .ok (.iload 8, 2) := by decide +kernel
theorem dX4_leastSum_181 : decode cX4_leastSum 181 = .ok (.iload 9, 2) := by decide +kernel
theorem dX4_leastSum_183 : decode cX4_leastSum 183 = .ok (.invokestatic 68, 3) := by decide +kernel
theorem dX4_leastSum_186 : decode cX4_leastSum 186 = .ok (.invokestatic 68, 3) := by decide +kernel
theorem dX4_leastSum_189 : decode cX4_leastSum 189 = .ok (.iastore, 1) := by decide +kernel
theorem dX4_leastSum_190 : decode cX4_leastSum 190 = .ok (.iinc 6 1, 3) := by decide +kernel
theorem dX4_leastSum_193 : decode cX4_leastSum 193 = .ok (.goto (-105), 3) := by decide +kernel
theorem dX4_leastSum_196 : decode cX4_leastSum 196 = .ok (.iinc 3 1, 3) := by decide +kernel
theorem dX4_leastSum_199 : decode cX4_leastSum 199 = .ok (.goto (-151), 3) := by decide +kernel
theorem dX4_leastSum_202 : decode cX4_leastSum 202 = .ok (.aload_n 0, 1) := by decide +kernel
theorem dX4_leastSum_203 : decode cX4_leastSum 203 = .ok (.getfield 30, 3) := by decide +kernel
theorem dX4_leastSum_206 : decode cX4_leastSum 206 = .ok (.iload_n 2, 1) := by decide +kernel
theorem dX4_leastSum_207 : decode cX4_leastSum 207 = .ok (.iaload, 1) := by decide +kernel
theorem dX4_leastSum_208 : decode cX4_leastSum 208 = .ok (.ireturn, 1) := by decide +kernel
theorem dX5_init_0 : decode cX5_init 0 = .ok (.aload_n 0, 1) := by decide +kernel
theorem dX5_init_1 : decode cX5_init 1 = .ok (.invokespecial 3, 3) := by decide +kernel
theorem dX5_init_4 : decode cX5_init 4 = .ok (.aload_n 0, 1) := by decide +kernel
theorem dX5_init_5 : decode cX5_init 5 = .ok (.bipush 20, 2) := by decide +kernel
theorem dX5_init_7 : decode cX5_init 7 = .ok (.newarray .int, 2) := by decide +kernel
theorem dX5_init_9 : decode cX5_init 9 = .ok (.putfield 11, 3) := by decide +kernel
theorem dX5_init_12 : decode cX5_init 12 = .ok (.aload_n 0, 1) := by decide +kernel
theorem dX5_init_13 : decode cX5_init 13 = .ok (.bipush 20, 2) := by decide +kernel
theorem dX5_init_15 : decode cX5_init 15 = .ok (.newarray .int, 2) := by decide +kernel
theorem dX5_init_17 : decode cX5_init 17 = .ok (.putfield 15, 3) := by decide +kernel
theorem dX5_init_20 : decode cX5_init 20 = .ok (.aload_n 0, 1) := by decide +kernel
theorem dX5_init_21 : decode cX5_init 21 = .ok (.bipush 20, 2) := by decide +kernel
theorem dX5_init_23 : decode cX5_init 23 = .ok (.newarray .int, 2) := by decide +kernel
theorem dX5_init_25 : decode cX5_init 25 = .ok (.putfield 18, 3) := by decide +kernel
theorem dX5_init_28 : decode cX5_init 28 = .ok (.aload_n 0, 1) := by decide +kernel
theorem dX5_init_29 : decode cX5_init 29 = .ok (.bipush 20, 2) := by decide +kernel
theorem dX5_init_31 : decode cX5_init 31 = .ok (.newarray .boolean, 2) := by decide +kernel
theorem dX5_init_33 : decode cX5_init 33 = .ok (.putfield 21, 3) := by decide +kernel
theorem dX5_init_36 : decode cX5_init 36 = .ok (.return_, 1) := by decide +kernel
theorem dX5_read_0 : decode cX5_read 0 = .ok (.aload_n 0, 1) := by decide +kernel
theorem dX5_read_1 : decode cX5_read 1 = .ok (.iload 4, 2) := by decide +kernel
theorem dX5_read_3 : decode cX5_read 3 = .ok (.invokevirtual 25, 3) := by decide +kernel
theorem dX5_read_6 : decode cX5_read 6 = .ok (.iconst 0, 1) := by decide +kernel
theorem dX5_read_7 : decode cX5_read 7 = .ok (.istore 5, 2) := by decide +kernel
theorem dX5_read_9 : decode cX5_read 9 = .ok (.iload 5, 2) := by decide +kernel
theorem dX5_read_11 : decode cX5_read 11 = .ok (.aload_n 1, 1) := by decide +kernel
theorem dX5_read_12 : decode cX5_read 12 = .ok (.getfield 29, 3) := by decide +kernel
theorem dX5_read_15 : decode cX5_read 15 = .ok (.if_icmp .ge 58, 3) := by decide +kernel
theorem dX5_read_18 : decode cX5_read 18 = .ok (.aload_n 1, 1) := by decide +kernel
theorem dX5_read_19 : decode cX5_read 19 = .ok (.getfield 35, 3) := by decide +kernel
theorem dX5_read_22 : decode cX5_read 22 = .ok (.iload 5, 2) := by decide +kernel
theorem dX5_read_24 : decode cX5_read 24 = .ok (.iaload, 1) := by decide +kernel
theorem dX5_read_25 : decode cX5_read 25 = .ok (.iload 4, 2) := by decide +kernel
theorem dX5_read_27 : decode cX5_read 27 = .ok (.if_icmp .gt 46, 3) := by decide +kernel
theorem dX5_read_30 : decode cX5_read 30 = .ok (.aload_n 1, 1) := by decide +kernel
theorem dX5_read_31 : decode cX5_read 31 = .ok (.getfield 38, 3) := by decide +kernel
theorem dX5_read_34 : decode cX5_read 34 = .ok (.iload 5, 2) := by decide +kernel
theorem dX5_read_36 : decode cX5_read 36 = .ok (.iaload, 1) := by decide +kernel
theorem dX5_read_37 : decode cX5_read 37 = .ok (.iload_n 2, 1) := by decide +kernel
theorem dX5_read_38 : decode cX5_read 38 = .ok (.if_icmp .ne 29, 3) := by decide +kernel
theorem dX5_read_41 : decode cX5_read 41 = .ok (.aload_n 0, 1) := by decide +kernel
theorem dX5_read_42 : decode cX5_read 42 = .ok (.aload_n 1, 1) := by decide +kernel
theorem dX5_read_43 : decode cX5_read 43 = .ok (.getfield 41, 3) := by decide +kernel
theorem dX5_read_46 : decode cX5_read 46 = .ok (.iload 5, 2) := by decide +kernel
theorem dX5_read_48 : decode cX5_read 48 = .ok (.iaload, 1) := by decide +kernel
theorem dX5_read_49 : decode cX5_read 49 = .ok (.aload_n 1, 1) := by decide +kernel
theorem dX5_read_50 : decode cX5_read 50 = .ok (.getfield 44, 3) := by decide +kernel
theorem dX5_read_53 : decode cX5_read 53 = .ok (.iload 5, 2) := by decide +kernel
theorem dX5_read_55 : decode cX5_read 55 = .ok (.iaload, 1) := by decide +kernel
theorem dX5_read_56 : decode cX5_read 56 = .ok (.aload_n 1, 1) := by decide +kernel
theorem dX5_read_57 : decode cX5_read 57 = .ok (.getfield 35, 3) := by decide +kernel
theorem dX5_read_60 : decode cX5_read 60 = .ok (.iload 5, 2) := by decide +kernel
theorem dX5_read_62 : decode cX5_read 62 = .ok (.iaload, 1) := by decide +kernel
theorem dX5_read_63 : decode cX5_read 63 = .ok (.iload_n 3, 1) := by decide +kernel
theorem dX5_read_64 : decode cX5_read 64 = .ok (.invokevirtual 47, 3) := by decide +kernel
theorem dX5_read_67 : decode cX5_read 67 = .ok (.iinc 5 1, 3) := by decide +kernel
theorem dX5_read_70 : decode cX5_read 70 = .ok (.goto (-61), 3) := by decide +kernel
theorem dX5_read_73 : decode cX5_read 73 = .ok (.return_, 1) := by decide +kernel
theorem dX5_isEntered_0 : decode cX5_isEntered 0 = .ok (.aload_n 0, 1) := by decide +kernel
theorem dX5_isEntered_1 : decode cX5_isEntered 1 = .ok (.getfield 51, 3) := by decide +kernel
theorem dX5_isEntered_4 : decode cX5_isEntered 4 = .ok (.iconst (-1), 1) := by decide +kernel
theorem dX5_isEntered_5 : decode cX5_isEntered 5 = .ok (.if_icmp .eq 7, 3) := by decide +kernel
theorem dX5_isEntered_8 : decode cX5_isEntered 8 = .ok (.iconst 1, 1) := by decide +kernel
theorem dX5_isEntered_9 : decode cX5_isEntered 9 = .ok (.goto 4, 3) := by decide +kernel
theorem dX5_isEntered_12 : decode cX5_isEntered 12 = .ok (.iconst 0, 1) := by decide +kernel
theorem dX5_isEntered_13 : decode cX5_isEntered 13 = .ok (.ireturn, 1) := by decide +kernel
theorem dX5_termEnd_0 : decode cX5_termEnd 0 = .ok (.aload_n 0, 1) := by decide +kernel
theorem dX5_termEnd_1 : decode cX5_termEnd 1 = .ok (.invokevirtual 54, 3) := by decide +kernel
theorem dX5_termEnd_4 : decode cX5_termEnd 4 = .ok (.ifCond .eq 21, 3) := by decide +kernel
theorem dX5_termEnd_7 : decode cX5_termEnd 7 = .ok (.aload_n 0, 1) := by decide +kernel
theorem dX5_termEnd_8 : decode cX5_termEnd 8 = .ok (.getfield 51, 3) := by decide +kernel
theorem dX5_termEnd_11 : decode cX5_termEnd 11 = .ok (.sipush 3650, 3) := by decide +kernel
theorem dX5_termEnd_14 : decode cX5_termEnd 14 = .ok (.iconst 1, 1) := by decide +kernel
theorem dX5_termEnd_15 : decode cX5_termEnd 15 = .ok (.aload_n 0, 1) := by decide +kernel
theorem dX5_termEnd_16 : decode cX5_termEnd 16 = .ok (.getfield 58, 3) := by decide +kernel
theorem dX5_termEnd_19 : decode cX5_termEnd 19 = .ok (.iadd, 1) := by decide +kernel
theorem dX5_termEnd_20 : decode cX5_termEnd 20 = .ok (.imul, 1) := by decide +kernel
theorem dX5_termEnd_21 : decode cX5_termEnd 21 = .ok (.iadd, 1) := by decide +kernel
theorem dX5_termEnd_22 : decode cX5_termEnd 22 = .ok (.goto 4, 3) := by decide +kernel
theorem dX5_termEnd_25 : decode cX5_termEnd 25 = .ok (.iconst (-1), 1) := by decide +kernel
theorem dX5_termEnd_26 : decode cX5_termEnd 26 = .ok (.ireturn, 1) := by decide +kernel
theorem dX5_isLapsed_0 : decode cX5_isLapsed 0 = .ok (.aload_n 0, 1) := by decide +kernel
theorem dX5_isLapsed_1 : decode cX5_isLapsed 1 = .ok (.invokevirtual 54, 3) := by decide +kernel
theorem dX5_isLapsed_4 : decode cX5_isLapsed 4 = .ok (.ifCond .eq 22, 3) := by decide +kernel
theorem dX5_isLapsed_7 : decode cX5_isLapsed 7 = .ok (.aload_n 0, 1) := by decide +kernel
theorem dX5_isLapsed_8 : decode cX5_isLapsed 8 = .ok (.getfield 61, 3) := by decide +kernel
theorem dX5_isLapsed_11 : decode cX5_isLapsed 11 = .ok (.aload_n 0, 1) := by decide +kernel
theorem dX5_isLapsed_12 : decode cX5_isLapsed 12 = .ok (.invokevirtual 64, 3) := by decide +kernel
theorem dX5_isLapsed_15 : decode cX5_isLapsed 15 = .ok (.sipush 180, 3) := by decide +kernel
theorem dX5_isLapsed_18 : decode cX5_isLapsed 18 = .ok (.iadd, 1) := by decide +kernel
theorem dX5_isLapsed_19 : decode cX5_isLapsed 19 = .ok (.if_icmp .le 7, 3) := by decide +kernel
theorem dX5_isLapsed_22 : decode cX5_isLapsed 22 = .ok (.iconst 1, 1) := by decide +kernel
theorem dX5_isLapsed_23 : decode cX5_isLapsed 23 = .ok (.goto 4, 3) := by decide +kernel
theorem dX5_isLapsed_26 : decode cX5_isLapsed 26 = .ok (.iconst 0, 1) := by decide +kernel
theorem dX5_isLapsed_27 : decode cX5_isLapsed 27 = .ok (.ireturn, 1) := by decide +kernel
theorem dX5_isTimeToRenew_0 : decode cX5_isTimeToRenew 0 = .ok (.aload_n 0, 1) := by decide +kernel
theorem dX5_isTimeToRenew_1 : decode cX5_isTimeToRenew 1 = .ok (.getfield 61, 3) := by decide +kernel
theorem dX5_isTimeToRenew_4 : decode cX5_isTimeToRenew 4 = .ok (.aload_n 0, 1) := by decide +kernel
theorem dX5_isTimeToRenew_5 : decode cX5_isTimeToRenew 5 = .ok (.invokevirtual 64, 3) := by decide +kernel
theorem dX5_isTimeToRenew_8 : decode cX5_isTimeToRenew 8 = .ok (.sipush 365, 3) := by decide +kernel
theorem dX5_isTimeToRenew_11 : decode cX5_isTimeToRenew 11 = .ok (.isub, 1) := by decide +kernel
theorem dX5_isTimeToRenew_12 : decode cX5_isTimeToRenew 12 = .ok (.if_icmp .lt 22, 3) := by decide +kernel
theorem dX5_isTimeToRenew_15 : decode cX5_isTimeToRenew 15 = .ok (.aload_n 0, 1) := by decide +kernel
theorem dX5_isTimeToRenew_16 : decode cX5_isTimeToRenew 16 = .ok (.getfield 61, 3) := by decide +kernel
theorem dX5_isTimeToRenew_19 : decode cX5_isTimeToRenew 19 = .ok (.aload_n 0, 1) := by decide +kernel
theorem dX5_isTimeToRenew_20 : decode cX5_isTimeToRenew 20 = .ok (.invokevirtual 64, 3) := by decide +kernel
theorem dX5_isTimeToRenew_23 : decode cX5_isTimeToRenew 23 = .ok (.sipush 180, 3) := by decide +kernel
theorem dX5_isTimeToRenew_26 : decode cX5_isTimeToRenew 26 = .ok (.iadd, 1) := by decide +kernel
theorem dX5_isTimeToRenew_27 : decode cX5_isTimeToRenew 27 = .ok (.if_icmp .gt 7, 3) := by decide +kernel
theorem dX5_isTimeToRenew_30 : decode cX5_isTimeToRenew 30 = .ok (.iconst 1, 1) := by decide +kernel
theorem dX5_isTimeToRenew_31 : decode cX5_isTimeToRenew 31 = .ok (.goto 4, 3) := by decide +kernel
theorem dX5_isTimeToRenew_34 : decode cX5_isTimeToRenew 34 = .ok (.iconst 0, 1) := by decide +kernel
theorem dX5_isTimeToRenew_35 : decode cX5_isTimeToRenew 35 = .ok (.ireturn, 1) := by decide +kernel
theorem dX5_find_0 : decode cX5_find 0 = .ok (.iconst 0, 1) := by decide +kernel
theorem dX5_find_1 : decode cX5_find 1 = .ok (.istore_n 2, 1) := by decide +kernel
theorem dX5_find_2 : decode cX5_find 2 = .ok (.iload_n 2, 1) := by decide +kernel
theorem dX5_find_3 : decode cX5_find 3 = .ok (.aload_n 0, 1) := by decide +kernel
theorem dX5_find_4 : decode cX5_find 4 = .ok (.getfield 68, 3) := by decide +kernel
theorem dX5_find_7 : decode cX5_find 7 = .ok (.if_icmp .ge 21, 3) := by decide +kernel
theorem dX5_find_10 : decode cX5_find 10 = .ok (.aload_n 0, 1) := by decide +kernel
theorem dX5_find_11 : decode cX5_find 11 = .ok (.getfield 11, 3) := by decide +kernel
theorem dX5_find_14 : decode cX5_find 14 = .ok (.iload_n 2, 1) := by decide +kernel
theorem dX5_find_15 : decode cX5_find 15 = .ok (.iaload, 1) := by decide +kernel
theorem dX5_find_16 : decode cX5_find 16 = .ok (.iload_n 1, 1) := by decide +kernel
theorem dX5_find_17 : decode cX5_find 17 = .ok (.if_icmp .ne 5, 3) := by decide +kernel
theorem dX5_find_20 : decode cX5_find 20 = .ok (.iload_n 2, 1) := by decide +kernel
theorem dX5_find_21 : decode cX5_find 21 = .ok (.ireturn, 1) := by decide +kernel
theorem dX5_find_22 : decode cX5_find 22 = .ok (.iinc 2 1, 3) := by decide +kernel
theorem dX5_find_25 : decode cX5_find 25 = .ok (.goto (-23), 3) := by decide +kernel
theorem dX5_find_28 : decode cX5_find 28 = .ok (.iconst (-1), 1) := by decide +kernel
theorem dX5_find_29 : decode cX5_find 29 = .ok (.ireturn, 1) := by decide +kernel
theorem dX5_keeps_0 : decode cX5_keeps 0 = .ok (.aload_n 0, 1) := by decide +kernel
theorem dX5_keeps_1 : decode cX5_keeps 1 = .ok (.iload_n 1, 1) := by decide +kernel
theorem dX5_keeps_2 : decode cX5_keeps 2 = .ok (.invokevirtual 69, 3) := by decide +kernel
theorem dX5_keeps_5 : decode cX5_keeps 5 = .ok (.istore_n 2, 1) := by decide +kernel
theorem dX5_keeps_6 : decode cX5_keeps 6 = .ok (.iload_n 2, 1) := by decide +kernel
theorem dX5_keeps_7 : decode cX5_keeps 7 = .ok (.iconst (-1), 1) := by decide +kernel
theorem dX5_keeps_8 : decode cX5_keeps 8 = .ok (.if_icmp .eq 16, 3) := by decide +kernel
theorem dX5_keeps_11 : decode cX5_keeps 11 = .ok (.aload_n 0, 1) := by decide +kernel
theorem dX5_keeps_12 : decode cX5_keeps 12 = .ok (.getfield 21, 3) := by decide +kernel
theorem dX5_keeps_15 : decode cX5_keeps 15 = .ok (.iload_n 2, 1) := by decide +kernel
theorem dX5_keeps_16 : decode cX5_keeps 16 = .ok (.baload, 1) := by decide +kernel
theorem dX5_keeps_17 : decode cX5_keeps 17 = .ok (.ifCond .ne 7, 3) := by decide +kernel
theorem dX5_keeps_20 : decode cX5_keeps 20 = .ok (.iconst 1, 1) := by decide +kernel
theorem dX5_keeps_21 : decode cX5_keeps 21 = .ok (.goto 4, 3) := by decide +kernel
theorem dX5_keeps_24 : decode cX5_keeps 24 = .ok (.iconst 0, 1) := by decide +kernel
theorem dX5_keeps_25 : decode cX5_keeps 25 = .ok (.ireturn, 1) := by decide +kernel
theorem dX5_sinceAt_0 : decode cX5_sinceAt 0 = .ok (.iload_n 1, 1) := by decide +kernel
theorem dX5_sinceAt_1 : decode cX5_sinceAt 1 = .ok (.aload_n 0, 1) := by decide +kernel
theorem dX5_sinceAt_2 : decode cX5_sinceAt 2 = .ok (.getfield 68, 3) := by decide +kernel
theorem dX5_sinceAt_5 : decode cX5_sinceAt 5 = .ok (.invokestatic 73, 3) := by decide +kernel
theorem dX5_sinceAt_8 : decode cX5_sinceAt 8 = .ok (.ifCond .eq 12, 3) := by decide +kernel
theorem dX5_sinceAt_11 : decode cX5_sinceAt 11 = .ok (.aload_n 0, 1) := by decide +kernel
theorem dX5_sinceAt_12 : decode cX5_sinceAt 12 = .ok (.getfield 15, 3) := by decide +kernel
theorem dX5_sinceAt_15 : decode cX5_sinceAt 15 = .ok (.iload_n 1, 1) := by decide +kernel
theorem dX5_sinceAt_16 : decode cX5_sinceAt 16 = .ok (.iaload, 1) := by decide +kernel
theorem dX5_sinceAt_17 : decode cX5_sinceAt 17 = .ok (.goto 4, 3) := by decide +kernel
theorem dX5_sinceAt_20 : decode cX5_sinceAt 20 = .ok (.iconst (-1), 1) := by decide +kernel
theorem dX5_sinceAt_21 : decode cX5_sinceAt 21 = .ok (.ireturn, 1) := by decide +kernel
theorem dX5_rightAt_0 : decode cX5_rightAt 0 = .ok (.iload_n 1, 1) := by decide +kernel
theorem dX5_rightAt_1 : decode cX5_rightAt 1 = .ok (.aload_n 0, 1) := by decide +kernel
theorem dX5_rightAt_2 : decode cX5_rightAt 2 = .ok (.getfield 68, 3) := by decide +kernel
theorem dX5_rightAt_5 : decode cX5_rightAt 5 = .ok (.invokestatic 73, 3) := by decide +kernel
theorem dX5_rightAt_8 : decode cX5_rightAt 8 = .ok (.ifCond .eq 11, 3) := by decide +kernel
theorem dX5_rightAt_11 : decode cX5_rightAt 11 = .ok (.aload_n 0, 1) := by decide +kernel
theorem dX5_rightAt_12 : decode cX5_rightAt 12 = .ok (.getfield 77, 3) := by decide +kernel
theorem dX5_rightAt_15 : decode cX5_rightAt 15 = .ok (.iconst (-1), 1) := by decide +kernel
theorem dX5_rightAt_16 : decode cX5_rightAt 16 = .ok (.if_icmp .ne 5, 3) := by decide +kernel
theorem dX5_rightAt_19 : decode cX5_rightAt 19 = .ok (.iconst (-1), 1) := by decide +kernel
theorem dX5_rightAt_20 : decode cX5_rightAt 20 = .ok (.ireturn, 1) := by decide +kernel
theorem dX5_rightAt_21 : decode cX5_rightAt 21 = .ok (.aload_n 0, 1) := by decide +kernel
theorem dX5_rightAt_22 : decode cX5_rightAt 22 = .ok (.getfield 77, 3) := by decide +kernel
theorem dX5_rightAt_25 : decode cX5_rightAt 25 = .ok (.aload_n 0, 1) := by decide +kernel
theorem dX5_rightAt_26 : decode cX5_rightAt 26 = .ok (.getfield 51, 3) := by decide +kernel
theorem dX5_rightAt_29 : decode cX5_rightAt 29 = .ok (.isub, 1) := by decide +kernel
theorem dX5_rightAt_30 : decode cX5_rightAt 30 = .ok (.sipush 182, 3) := by decide +kernel
theorem dX5_rightAt_33 : decode cX5_rightAt 33 = .ok (.if_icmp .gt 20, 3) := by decide +kernel
theorem dX5_rightAt_36 : decode cX5_rightAt 36 = .ok (.aload_n 0, 1) := by decide +kernel
theorem dX5_rightAt_37 : decode cX5_rightAt 37 = .ok (.getfield 15, 3) := by decide +kernel
theorem dX5_rightAt_40 : decode cX5_rightAt 40 = .ok (.iload_n 1, 1) := by decide +kernel
theorem dX5_rightAt_41 : decode cX5_rightAt 41 = .ok (.iaload, 1) := by decide +kernel
theorem dX5_rightAt_42 : decode cX5_rightAt 42 = .ok (.aload_n 0, 1) := by decide +kernel
theorem dX5_rightAt_43 : decode cX5_rightAt 43 = .ok (.getfield 51, 3) := by decide +kernel
theorem dX5_rightAt_46 : decode cX5_rightAt 46 = .ok (.if_icmp .gt 7, 3) := by decide +kernel
theorem dX5_rightAt_49 : decode cX5_rightAt 49 = .ok (.iconst 1, 1) := by decide +kernel
theorem dX5_rightAt_50 : decode cX5_rightAt 50 = .ok (.goto 4, 3) := by decide +kernel
theorem dX5_rightAt_53 : decode cX5_rightAt 53 = .ok (.iconst 0, 1) := by decide +kernel
theorem dX5_rightAt_54 : decode cX5_rightAt 54 = .ok (.istore_n 2, 1) := by decide +kernel
theorem dX5_rightAt_55 : decode cX5_rightAt 55 = .ok (.iload_n 2, 1) := by decide +kernel
theorem dX5_rightAt_56 : decode cX5_rightAt 56 = .ok (.ifCond .eq 10, 3) := by decide +kernel
theorem dX5_rightAt_59 : decode cX5_rightAt 59 = .ok (.aload_n 0, 1) := by decide +kernel
theorem dX5_rightAt_60 : decode cX5_rightAt 60 = .ok (.getfield 51, 3) := by decide +kernel
theorem dX5_rightAt_63 : decode cX5_rightAt 63 = .ok (.goto 7, 3) := by decide +kernel
theorem dX5_rightAt_66 : decode cX5_rightAt 66 = .ok (.aload_n 0, 1) := by decide +kernel
theorem dX5_rightAt_67 : decode cX5_rightAt 67 = .ok (.getfield 77, 3) := by decide +kernel
theorem dX5_rightAt_70 : decode cX5_rightAt 70 = .ok (.aload_n 0, 1) := by decide +kernel
theorem dX5_rightAt_71 : decode cX5_rightAt 71 = .ok (.getfield 15, 3) := by decide +kernel
theorem dX5_rightAt_74 : decode cX5_rightAt 74 = .ok (.iload_n 1, 1) := by decide +kernel
theorem dX5_rightAt_75 : decode cX5_rightAt 75 = .ok (.iaload, 1) := by decide +kernel
theorem dX5_rightAt_76 : decode cX5_rightAt 76 = .ok (.invokestatic 80, 3) := by decide +kernel
theorem dX5_rightAt_79 : decode cX5_rightAt 79 = .ok (.ireturn, 1) := by decide +kernel
theorem dX5_standsAt_0 : decode cX5_standsAt 0 = .ok (.aload_n 0, 1) := by decide +kernel
theorem dX5_standsAt_1 : decode cX5_standsAt 1 = .ok (.iload_n 1, 1) := by decide +kernel
theorem dX5_standsAt_2 : decode cX5_standsAt 2 = .ok (.invokevirtual 86, 3) := by decide +kernel
theorem dX5_standsAt_5 : decode cX5_standsAt 5 = .ok (.istore_n 2, 1) := by decide +kernel
theorem dX5_standsAt_6 : decode cX5_standsAt 6 = .ok (.iload_n 2, 1) := by decide +kernel
theorem dX5_standsAt_7 : decode cX5_standsAt 7 = .ok (.iconst (-1), 1) := by decide +kernel
theorem dX5_standsAt_8 : decode cX5_standsAt 8 = .ok (.if_icmp .eq 17, 3) := by decide +kernel
theorem dX5_standsAt_11 : decode cX5_standsAt 11 = .ok (.aload_n 0, 1) := by decide +kernel
theorem dX5_standsAt_12 : decode cX5_standsAt 12 = .ok (.getfield 89, 3) := by decide +kernel
theorem dX5_standsAt_15 : decode cX5_standsAt 15 = .ok (.ifCond .ne 10, 3) := by decide +kernel
theorem dX5_standsAt_18 : decode cX5_standsAt 18 = .ok (.aload_n 0, 1) := by decide +kernel
theorem dX5_standsAt_19 : decode cX5_standsAt 19 = .ok (.invokevirtual 93, 3) := by decide +kernel
theorem dX5_standsAt_22 : decode cX5_standsAt 22 = .ok (.ifCond .eq 5, 3) := by decide +kernel
theorem dX5_standsAt_25 : decode cX5_standsAt 25 = .ok (.iconst 0, 1) := by decide +kernel
theorem dX5_standsAt_26 : decode cX5_standsAt 26 = .ok (.ireturn, 1) := by decide +kernel
theorem dX5_standsAt_27 : decode cX5_standsAt 27 = .ok (.aload_n 0, 1) := by decide +kernel
theorem dX5_standsAt_28 : decode cX5_standsAt 28 = .ok (.getfield 61, 3) := by decide +kernel
theorem dX5_standsAt_31 : decode cX5_standsAt 31 = .ok (.iload_n 2, 1) := by decide +kernel
theorem dX5_standsAt_32 : decode cX5_standsAt 32 = .ok (.aload_n 0, 1) := by decide +kernel
theorem dX5_standsAt_33 : decode cX5_standsAt 33 = .ok (.getfield 18, 3) := by decide +kernel
theorem dX5_standsAt_36 : decode cX5_standsAt 36 = .ok (.iload_n 1, 1) := by decide +kernel
theorem dX5_standsAt_37 : decode cX5_standsAt 37 = .ok (.iaload, 1) := by decide +kernel
theorem dX5_standsAt_38 : decode cX5_standsAt 38 = .ok (.invokestatic 80, 3) := by decide +kernel
theorem dX5_standsAt_41 : decode cX5_standsAt 41 = .ok (.isub, 1) := by decide +kernel
theorem dX5_standsAt_42 : decode cX5_standsAt 42 = .ok (.sipush 1825, 3) := by decide +kernel
theorem dX5_standsAt_45 : decode cX5_standsAt 45 = .ok (.if_icmp .gt 7, 3) := by decide +kernel
theorem dX5_standsAt_48 : decode cX5_standsAt 48 = .ok (.iconst 1, 1) := by decide +kernel
theorem dX5_standsAt_49 : decode cX5_standsAt 49 = .ok (.goto 4, 3) := by decide +kernel
theorem dX5_standsAt_52 : decode cX5_standsAt 52 = .ok (.iconst 0, 1) := by decide +kernel
theorem dX5_standsAt_53 : decode cX5_standsAt 53 = .ok (.ireturn, 1) := by decide +kernel
theorem dX5_standsForAny_0 : decode cX5_standsForAny 0 = .ok (.iconst 0, 1) := by decide +kernel
theorem dX5_standsForAny_1 : decode cX5_standsForAny 1 = .ok (.istore_n 1, 1) := by decide +kernel
theorem dX5_standsForAny_2 : decode cX5_standsForAny 2 = .ok (.iload_n 1, 1) := by decide +kernel
theorem dX5_standsForAny_3 : decode cX5_standsForAny 3 = .ok (.aload_n 0, 1) := by decide +kernel
theorem dX5_standsForAny_4 : decode cX5_standsForAny 4 = .ok (.getfield 68, 3) := by decide +kernel
theorem dX5_standsForAny_7 : decode cX5_standsForAny 7 = .ok (.if_icmp .ge 19, 3) := by decide +kernel
theorem dX5_standsForAny_10 : decode cX5_standsForAny 10 = .ok (.aload_n 0, 1) := by decide +kernel
theorem dX5_standsForAny_11 : decode cX5_standsForAny 11 = .ok (.iload_n 1, 1) := by decide +kernel
theorem dX5_standsForAny_12 : decode cX5_standsForAny 12 = .ok (.invokevirtual 96, 3) := by decide +kernel
theorem dX5_standsForAny_15 : decode cX5_standsForAny 15 = .ok (.ifCond .eq 5, 3) := by decide +kernel
theorem dX5_standsForAny_18 : decode cX5_standsForAny 18 = .ok (.iconst 1, 1) := by decide +kernel
theorem dX5_standsForAny_19 : decode cX5_standsForAny 19 = .ok (.ireturn, 1) := by decide +kernel
theorem dX5_standsForAny_20 : decode cX5_standsForAny 20 = .ok (.iinc 1 1, 3) := by decide +kernel
theorem dX5_standsForAny_23 : decode cX5_standsForAny 23 = .ok (.goto (-21), 3) := by decide +kernel
theorem dX5_standsForAny_26 : decode cX5_standsForAny 26 = .ok (.iconst 0, 1) := by decide +kernel
theorem dX5_standsForAny_27 : decode cX5_standsForAny 27 = .ok (.ireturn, 1) := by decide +kernel
theorem dX5_clear_0 : decode cX5_clear 0 = .ok (.aload_n 0, 1) := by decide +kernel
theorem dX5_clear_1 : decode cX5_clear 1 = .ok (.iload_n 1, 1) := by decide +kernel
theorem dX5_clear_2 : decode cX5_clear 2 = .ok (.putfield 61, 3) := by decide +kernel
theorem dX5_clear_5 : decode cX5_clear 5 = .ok (.aload_n 0, 1) := by decide +kernel
theorem dX5_clear_6 : decode cX5_clear 6 = .ok (.iconst (-1), 1) := by decide +kernel
theorem dX5_clear_7 : decode cX5_clear 7 = .ok (.putfield 51, 3) := by decide +kernel
theorem dX5_clear_10 : decode cX5_clear 10 = .ok (.aload_n 0, 1) := by decide +kernel
theorem dX5_clear_11 : decode cX5_clear 11 = .ok (.iconst (-1), 1) := by decide +kernel
theorem dX5_clear_12 : decode cX5_clear 12 = .ok (.putfield 77, 3) := by decide +kernel
theorem dX5_clear_15 : decode cX5_clear 15 = .ok (.aload_n 0, 1) := by decide +kernel
theorem dX5_clear_16 : decode cX5_clear 16 = .ok (.iconst 0, 1) := by decide +kernel
theorem dX5_clear_17 : decode cX5_clear 17 = .ok (.putfield 100, 3) := by decide +kernel
theorem dX5_clear_20 : decode cX5_clear 20 = .ok (.aload_n 0, 1) := by decide +kernel
theorem dX5_clear_21 : decode cX5_clear 21 = .ok (.iconst 0, 1) := by decide +kernel
theorem dX5_clear_22 : decode cX5_clear 22 = .ok (.putfield 58, 3) := by decide +kernel
theorem dX5_clear_25 : decode cX5_clear 25 = .ok (.aload_n 0, 1) := by decide +kernel
theorem dX5_clear_26 : decode cX5_clear 26 = .ok (.iconst 0, 1) := by decide +kernel
theorem dX5_clear_27 : decode cX5_clear 27 = .ok (.putfield 89, 3) := by decide +kernel
theorem dX5_clear_30 : decode cX5_clear 30 = .ok (.aload_n 0, 1) := by decide +kernel
theorem dX5_clear_31 : decode cX5_clear 31 = .ok (.iconst 0, 1) := by decide +kernel
theorem dX5_clear_32 : decode cX5_clear 32 = .ok (.putfield 103, 3) := by decide +kernel
theorem dX5_clear_35 : decode cX5_clear 35 = .ok (.aload_n 0, 1) := by decide +kernel
theorem dX5_clear_36 : decode cX5_clear 36 = .ok (.iconst 0, 1) := by decide +kernel
theorem dX5_clear_37 : decode cX5_clear 37 = .ok (.putfield 106, 3) := by decide +kernel
theorem dX5_clear_40 : decode cX5_clear 40 = .ok (.aload_n 0, 1) := by decide +kernel
theorem dX5_clear_41 : decode cX5_clear 41 = .ok (.iconst 0, 1) := by decide +kernel
theorem dX5_clear_42 : decode cX5_clear 42 = .ok (.putfield 68, 3) := by decide +kernel
theorem dX5_clear_45 : decode cX5_clear 45 = .ok (.return_, 1) := by decide +kernel
theorem dX5_readPaper_0 : decode cX5_readPaper 0 = .ok (.iload_n 1, 1) := by decide +kernel
theorem dX5_readPaper_1 : decode cX5_readPaper 1 = .ok (.tableswitch 114 0 7 #[47, 56, 67, 80, 89, 114, 97, 106], 47) := by decide +kernel
theorem dX5_readPaper_48 : decode cX5_readPaper 48 = .ok (.aload_n 0, 1) := by decide +kernel
theorem dX5_readPaper_49 : decode cX5_readPaper 49 = .ok (.iload_n 2, 1) := by decide +kernel
theorem dX5_readPaper_50 : decode cX5_readPaper 50 = .ok (.iload_n 3, 1) := by decide +kernel
theorem dX5_readPaper_51 : decode cX5_readPaper 51 = .ok (.invokevirtual 109, 3) := by decide +kernel
theorem dX5_readPaper_54 : decode cX5_readPaper 54 = .ok (.goto 61, 3) := by decide +kernel
theorem dX5_readPaper_57 : decode cX5_readPaper 57 = .ok (.aload_n 0, 1) := by decide +kernel
theorem dX5_readPaper_58 : decode cX5_readPaper 58 = .ok (.iload_n 2, 1) := by decide +kernel
theorem dX5_readPaper_59 : decode cX5_readPaper 59 = .ok (.iload_n 3, 1) := by decide +kernel
theorem dX5_readPaper_60 : decode cX5_readPaper 60 = .ok (.iload 4, 2) := by decide +kernel
theorem dX5_readPaper_62 : decode cX5_readPaper 62 = .ok (.invokevirtual 113, 3) := by decide +kernel
theorem dX5_readPaper_65 : decode cX5_readPaper 65 = .ok (.goto 50, 3) := by decide +kernel
theorem dX5_readPaper_68 : decode cX5_readPaper 68 = .ok (.aload_n 0, 1) := by decide +kernel
theorem dX5_readPaper_69 : decode cX5_readPaper 69 = .ok (.dup, 1) := by decide +kernel
theorem dX5_readPaper_70 : decode cX5_readPaper 70 = .ok (.getfield 58, 3) := by decide +kernel
theorem dX5_readPaper_73 : decode cX5_readPaper 73 = .ok (.iconst 1, 1) := by decide +kernel
theorem dX5_readPaper_74 : decode cX5_readPaper 74 = .ok (.iadd, 1) := by decide +kernel
theorem dX5_readPaper_75 : decode cX5_readPaper 75 = .ok (.putfield 58, 3) := by decide +kernel
theorem dX5_readPaper_78 : decode cX5_readPaper 78 = .ok (.goto 37, 3) := by decide +kernel
theorem dX5_readPaper_81 : decode cX5_readPaper 81 = .ok (.aload_n 0, 1) := by decide +kernel
theorem dX5_readPaper_82 : decode cX5_readPaper 82 = .ok (.iload_n 2, 1) := by decide +kernel
theorem dX5_readPaper_83 : decode cX5_readPaper 83 = .ok (.iload_n 3, 1) := by decide +kernel
theorem dX5_readPaper_84 : decode cX5_readPaper 84 = .ok (.invokevirtual 117, 3) := by decide +kernel
theorem dX5_readPaper_87 : decode cX5_readPaper 87 = .ok (.goto 28, 3) := by decide +kernel
theorem dX5_readPaper_90 : decode cX5_readPaper 90 = .ok (.aload_n 0, 1) := by decide +kernel
theorem dX5_readPaper_91 : decode cX5_readPaper 91 = .ok (.iconst 1, 1) := by decide +kernel
theorem dX5_readPaper_92 : decode cX5_readPaper 92 = .ok (.putfield 89, 3) := by decide +kernel
theorem dX5_readPaper_95 : decode cX5_readPaper 95 = .ok (.goto 20, 3) := by decide +kernel
theorem dX5_readPaper_98 : decode cX5_readPaper 98 = .ok (.aload_n 0, 1) := by decide +kernel
theorem dX5_readPaper_99 : decode cX5_readPaper 99 = .ok (.iload_n 2, 1) := by decide +kernel
theorem dX5_readPaper_100 : decode cX5_readPaper 100 = .ok (.iload_n 3, 1) := by decide +kernel
theorem dX5_readPaper_101 : decode cX5_readPaper 101 = .ok (.invokevirtual 120, 3) := by decide +kernel
theorem dX5_readPaper_104 : decode cX5_readPaper 104 = .ok (.goto 11, 3) := by decide +kernel
theorem dX5_readPaper_107 : decode cX5_readPaper 107 = .ok (.aload_n 0, 1) := by decide +kernel
theorem dX5_readPaper_108 : decode cX5_readPaper 108 = .ok (.iconst 1, 1) := by decide +kernel
theorem dX5_readPaper_109 : decode cX5_readPaper 109 = .ok (.putfield 103, 3) := by decide +kernel
theorem dX5_readPaper_112 : decode cX5_readPaper 112 = .ok (.goto 3, 3) := by decide +kernel
theorem dX5_readPaper_115 : decode cX5_readPaper 115 = .ok (.return_, 1) := by decide +kernel
theorem dX5_readEnter_0 : decode cX5_readEnter 0 = .ok (.aload_n 0, 1) := by decide +kernel
theorem dX5_readEnter_1 : decode cX5_readEnter 1 = .ok (.dup, 1) := by decide +kernel
theorem dX5_readEnter_2 : decode cX5_readEnter 2 = .ok (.getfield 100, 3) := by decide +kernel
theorem dX5_readEnter_5 : decode cX5_readEnter 5 = .ok (.iconst 1, 1) := by decide +kernel
theorem dX5_readEnter_6 : decode cX5_readEnter 6 = .ok (.iadd, 1) := by decide +kernel
theorem dX5_readEnter_7 : decode cX5_readEnter 7 = .ok (.putfield 100, 3) := by decide +kernel
theorem dX5_readEnter_10 : decode cX5_readEnter 10 = .ok (.aload_n 0, 1) := by decide +kernel
theorem dX5_readEnter_11 : decode cX5_readEnter 11 = .ok (.getfield 51, 3) := by decide +kernel
theorem dX5_readEnter_14 : decode cX5_readEnter 14 = .ok (.iconst (-1), 1) := by decide +kernel
theorem dX5_readEnter_15 : decode cX5_readEnter 15 = .ok (.if_icmp .ne 8, 3) := by decide +kernel
theorem dX5_readEnter_18 : decode cX5_readEnter 18 = .ok (.aload_n 0, 1) := by decide +kernel
theorem dX5_readEnter_19 : decode cX5_readEnter 19 = .ok (.iload_n 2, 1) := by decide +kernel
theorem dX5_readEnter_20 : decode cX5_readEnter 20 = .ok (.putfield 51, 3) := by decide +kernel
theorem dX5_readEnter_23 : decode cX5_readEnter 23 = .ok (.iload_n 1, 1) := by decide +kernel
theorem dX5_readEnter_24 : decode cX5_readEnter 24 = .ok (.iload_n 3, 1) := by decide +kernel
theorem dX5_readEnter_25 : decode cX5_readEnter 25 = .ok (.if_icmp .ne 8, 3) := by decide +kernel
theorem dX5_readEnter_28 : decode cX5_readEnter 28 = .ok (.aload_n 0, 1) := by decide +kernel
theorem dX5_readEnter_29 : decode cX5_readEnter 29 = .ok (.iload_n 2, 1) := by decide +kernel
theorem dX5_readEnter_30 : decode cX5_readEnter 30 = .ok (.putfield 77, 3) := by decide +kernel
theorem dX5_readEnter_33 : decode cX5_readEnter 33 = .ok (.return_, 1) := by decide +kernel
theorem dX5_readGoods_0 : decode cX5_readGoods 0 = .ok (.aload_n 0, 1) := by decide +kernel
theorem dX5_readGoods_1 : decode cX5_readGoods 1 = .ok (.iconst 1, 1) := by decide +kernel
theorem dX5_readGoods_2 : decode cX5_readGoods 2 = .ok (.putfield 106, 3) := by decide +kernel
theorem dX5_readGoods_5 : decode cX5_readGoods 5 = .ok (.aload_n 0, 1) := by decide +kernel
theorem dX5_readGoods_6 : decode cX5_readGoods 6 = .ok (.iload_n 1, 1) := by decide +kernel
theorem dX5_readGoods_7 : decode cX5_readGoods 7 = .ok (.invokevirtual 69, 3) := by decide +kernel
theorem dX5_readGoods_10 : decode cX5_readGoods 10 = .ok (.istore_n 3, 1) := by decide +kernel
theorem dX5_readGoods_11 : decode cX5_readGoods 11 = .ok (.iload_n 3, 1) := by decide +kernel
theorem dX5_readGoods_12 : decode cX5_readGoods 12 = .ok (.iconst (-1), 1) := by decide +kernel
theorem dX5_readGoods_13 : decode cX5_readGoods 13 = .ok (.if_icmp .ne 42, 3) := by decide +kernel
theorem dX5_readGoods_16 : decode cX5_readGoods 16 = .ok (.aload_n 0, 1) := by decide +kernel
theorem dX5_readGoods_17 : decode cX5_readGoods 17 = .ok (.getfield 68, 3) := by decide +kernel
theorem dX5_readGoods_20 : decode cX5_readGoods 20 = .ok (.bipush 20, 2) := by decide +kernel
theorem dX5_readGoods_22 : decode cX5_readGoods 22 = .ok (.if_icmp .lt 4, 3) := by decide +kernel
theorem dX5_readGoods_25 : decode cX5_readGoods 25 = .ok (.return_, 1) := by decide +kernel
theorem dX5_readGoods_26 : decode cX5_readGoods 26 = .ok (.aload_n 0, 1) := by decide +kernel
theorem dX5_readGoods_27 : decode cX5_readGoods 27 = .ok (.getfield 68, 3) := by decide +kernel
theorem dX5_readGoods_30 : decode cX5_readGoods 30 = .ok (.istore_n 3, 1) := by decide +kernel
theorem dX5_readGoods_31 : decode cX5_readGoods 31 = .ok (.aload_n 0, 1) := by decide +kernel
theorem dX5_readGoods_32 : decode cX5_readGoods 32 = .ok (.dup, 1) := by decide +kernel
theorem dX5_readGoods_33 : decode cX5_readGoods 33 = .ok (.getfield 68, 3) := by decide +kernel
theorem dX5_readGoods_36 : decode cX5_readGoods 36 = .ok (.iconst 1, 1) := by decide +kernel
theorem dX5_readGoods_37 : decode cX5_readGoods 37 = .ok (.iadd, 1) := by decide +kernel
theorem dX5_readGoods_38 : decode cX5_readGoods 38 = .ok (.putfield 68, 3) := by decide +kernel
theorem dX5_readGoods_41 : decode cX5_readGoods 41 = .ok (.aload_n 0, 1) := by decide +kernel
theorem dX5_readGoods_42 : decode cX5_readGoods 42 = .ok (.getfield 11, 3) := by decide +kernel
theorem dX5_readGoods_45 : decode cX5_readGoods 45 = .ok (.iload_n 3, 1) := by decide +kernel
theorem dX5_readGoods_46 : decode cX5_readGoods 46 = .ok (.iload_n 1, 1) := by decide +kernel
theorem dX5_readGoods_47 : decode cX5_readGoods 47 = .ok (.iastore, 1) := by decide +kernel
theorem dX5_readGoods_48 : decode cX5_readGoods 48 = .ok (.aload_n 0, 1) := by decide +kernel
theorem dX5_readGoods_49 : decode cX5_readGoods 49 = .ok (.getfield 18, 3) := by decide +kernel
theorem dX5_readGoods_52 : decode cX5_readGoods 52 = .ok (.iload_n 3, 1) := by decide +kernel
theorem dX5_readGoods_53 : decode cX5_readGoods 53 = .ok (.iconst (-1), 1) := by decide +kernel
theorem dX5_readGoods_54 : decode cX5_readGoods 54 = .ok (.iastore, 1) := by decide +kernel
theorem dX5_readGoods_55 : decode cX5_readGoods 55 = .ok (.aload_n 0, 1) := by decide +kernel
theorem dX5_readGoods_56 : decode cX5_readGoods 56 = .ok (.getfield 15, 3) := by decide +kernel
theorem dX5_readGoods_59 : decode cX5_readGoods 59 = .ok (.iload_n 3, 1) := by decide +kernel
theorem dX5_readGoods_60 : decode cX5_readGoods 60 = .ok (.iload_n 2, 1) := by decide +kernel
theorem dX5_readGoods_61 : decode cX5_readGoods 61 = .ok (.iastore, 1) := by decide +kernel
theorem dX5_readGoods_62 : decode cX5_readGoods 62 = .ok (.aload_n 0, 1) := by decide +kernel
theorem dX5_readGoods_63 : decode cX5_readGoods 63 = .ok (.getfield 21, 3) := by decide +kernel
theorem dX5_readGoods_66 : decode cX5_readGoods 66 = .ok (.iload_n 3, 1) := by decide +kernel
theorem dX5_readGoods_67 : decode cX5_readGoods 67 = .ok (.iconst 0, 1) := by decide +kernel
theorem dX5_readGoods_68 : decode cX5_readGoods 68 = .ok (.bastore, 1) := by decide +kernel
theorem dX5_readGoods_69 : decode cX5_readGoods 69 = .ok (.return_, 1) := by decide +kernel
theorem dX5_readGive_0 : decode cX5_readGive 0 = .ok (.aload_n 0, 1) := by decide +kernel
theorem dX5_readGive_1 : decode cX5_readGive 1 = .ok (.iload_n 1, 1) := by decide +kernel
theorem dX5_readGive_2 : decode cX5_readGive 2 = .ok (.invokevirtual 69, 3) := by decide +kernel
theorem dX5_readGive_5 : decode cX5_readGive 5 = .ok (.istore_n 3, 1) := by decide +kernel
theorem dX5_readGive_6 : decode cX5_readGive 6 = .ok (.iload_n 3, 1) := by decide +kernel
theorem dX5_readGive_7 : decode cX5_readGive 7 = .ok (.iconst (-1), 1) := by decide +kernel
theorem dX5_readGive_8 : decode cX5_readGive 8 = .ok (.if_icmp .ne 4, 3) := by decide +kernel
theorem dX5_readGive_11 : decode cX5_readGive 11 = .ok (.return_, 1) := by decide +kernel
theorem dX5_readGive_12 : decode cX5_readGive 12 = .ok (.iload_n 2, 1) := by decide +kernel
theorem dX5_readGive_13 : decode cX5_readGive 13 = .ok (.aload_n 0, 1) := by decide +kernel
theorem dX5_readGive_14 : decode cX5_readGive 14 = .ok (.getfield 61, 3) := by decide +kernel
theorem dX5_readGive_17 : decode cX5_readGive 17 = .ok (.if_icmp .ne 11, 3) := by decide +kernel
theorem dX5_readGive_20 : decode cX5_readGive 20 = .ok (.aload_n 0, 1) := by decide +kernel
theorem dX5_readGive_21 : decode cX5_readGive 21 = .ok (.getfield 21, 3) := by decide +kernel
theorem dX5_readGive_24 : decode cX5_readGive 24 = .ok (.iload_n 3, 1) := by decide +kernel
theorem dX5_readGive_25 : decode cX5_readGive 25 = .ok (.iconst 1, 1) := by decide +kernel
theorem dX5_readGive_26 : decode cX5_readGive 26 = .ok (.bastore, 1) := by decide +kernel
theorem dX5_readGive_27 : decode cX5_readGive 27 = .ok (.return_, 1) := by decide +kernel
theorem dX5_readGive_28 : decode cX5_readGive 28 = .ok (.aload_n 0, 1) := by decide +kernel
theorem dX5_readGive_29 : decode cX5_readGive 29 = .ok (.dup, 1) := by decide +kernel
theorem dX5_readGive_30 : decode cX5_readGive 30 = .ok (.getfield 68, 3) := by decide +kernel
theorem dX5_readGive_33 : decode cX5_readGive 33 = .ok (.iconst 1, 1) := by decide +kernel
theorem dX5_readGive_34 : decode cX5_readGive 34 = .ok (.isub, 1) := by decide +kernel
theorem dX5_readGive_35 : decode cX5_readGive 35 = .ok (.putfield 68, 3) := by decide +kernel
theorem dX5_readGive_38 : decode cX5_readGive 38 = .ok (.aload_n 0, 1) := by decide +kernel
theorem dX5_readGive_39 : decode cX5_readGive 39 = .ok (.getfield 11, 3) := by decide +kernel
theorem dX5_readGive_42 : decode cX5_readGive 42 = .ok (.iload_n 3, 1) := by decide +kernel
theorem dX5_readGive_43 : decode cX5_readGive 43 = .ok (.aload_n 0, 1) := by decide +kernel
theorem dX5_readGive_44 : decode cX5_readGive 44 = .ok (.getfield 11, 3) := by decide +kernel
theorem dX5_readGive_47 : decode cX5_readGive 47 = .ok (.aload_n 0, 1) := by decide +kernel
theorem dX5_readGive_48 : decode cX5_readGive 48 = .ok (.getfield 68, 3) := by decide +kernel
theorem dX5_readGive_51 : decode cX5_readGive 51 = .ok (.iaload, 1) := by decide +kernel
theorem dX5_readGive_52 : decode cX5_readGive 52 = .ok (.iastore, 1) := by decide +kernel
theorem dX5_readGive_53 : decode cX5_readGive 53 = .ok (.aload_n 0, 1) := by decide +kernel
theorem dX5_readGive_54 : decode cX5_readGive 54 = .ok (.getfield 15, 3) := by decide +kernel
theorem dX5_readGive_57 : decode cX5_readGive 57 = .ok (.iload_n 3, 1) := by decide +kernel
theorem dX5_readGive_58 : decode cX5_readGive 58 = .ok (.aload_n 0, 1) := by decide +kernel
theorem dX5_readGive_59 : decode cX5_readGive 59 = .ok (.getfield 15, 3) := by decide +kernel
theorem dX5_readGive_62 : decode cX5_readGive 62 = .ok (.aload_n 0, 1) := by decide +kernel
theorem dX5_readGive_63 : decode cX5_readGive 63 = .ok (.getfield 68, 3) := by decide +kernel
theorem dX5_readGive_66 : decode cX5_readGive 66 = .ok (.iaload, 1) := by decide +kernel
theorem dX5_readGive_67 : decode cX5_readGive 67 = .ok (.iastore, 1) := by decide +kernel
theorem dX5_readGive_68 : decode cX5_readGive 68 = .ok (.aload_n 0, 1) := by decide +kernel
theorem dX5_readGive_69 : decode cX5_readGive 69 = .ok (.getfield 18, 3) := by decide +kernel
theorem dX5_readGive_72 : decode cX5_readGive 72 = .ok (.iload_n 3, 1) := by decide +kernel
theorem dX5_readGive_73 : decode cX5_readGive 73 = .ok (.aload_n 0, 1) := by decide +kernel
theorem dX5_readGive_74 : decode cX5_readGive 74 = .ok (.getfield 18, 3) := by decide +kernel
theorem dX5_readGive_77 : decode cX5_readGive 77 = .ok (.aload_n 0, 1) := by decide +kernel
theorem dX5_readGive_78 : decode cX5_readGive 78 = .ok (.getfield 68, 3) := by decide +kernel
theorem dX5_readGive_81 : decode cX5_readGive 81 = .ok (.iaload, 1) := by decide +kernel
theorem dX5_readGive_82 : decode cX5_readGive 82 = .ok (.iastore, 1) := by decide +kernel
theorem dX5_readGive_83 : decode cX5_readGive 83 = .ok (.aload_n 0, 1) := by decide +kernel
theorem dX5_readGive_84 : decode cX5_readGive 84 = .ok (.getfield 21, 3) := by decide +kernel
theorem dX5_readGive_87 : decode cX5_readGive 87 = .ok (.iload_n 3, 1) := by decide +kernel
theorem dX5_readGive_88 : decode cX5_readGive 88 = .ok (.aload_n 0, 1) := by decide +kernel
theorem dX5_readGive_89 : decode cX5_readGive 89 = .ok (.getfield 21, 3) := by decide +kernel
theorem dX5_readGive_92 : decode cX5_readGive 92 = .ok (.aload_n 0, 1) := by decide +kernel
theorem dX5_readGive_93 : decode cX5_readGive 93 = .ok (.getfield 68, 3) := by decide +kernel
theorem dX5_readGive_96 : decode cX5_readGive 96 = .ok (.baload, 1) := by decide +kernel
theorem dX5_readGive_97 : decode cX5_readGive 97 = .ok (.bastore, 1) := by decide +kernel
theorem dX5_readGive_98 : decode cX5_readGive 98 = .ok (.return_, 1) := by decide +kernel
theorem dX5_readUse_0 : decode cX5_readUse 0 = .ok (.aload_n 0, 1) := by decide +kernel
theorem dX5_readUse_1 : decode cX5_readUse 1 = .ok (.iload_n 1, 1) := by decide +kernel
theorem dX5_readUse_2 : decode cX5_readUse 2 = .ok (.invokevirtual 69, 3) := by decide +kernel
theorem dX5_readUse_5 : decode cX5_readUse 5 = .ok (.istore_n 3, 1) := by decide +kernel
theorem dX5_readUse_6 : decode cX5_readUse 6 = .ok (.iload_n 3, 1) := by decide +kernel
theorem dX5_readUse_7 : decode cX5_readUse 7 = .ok (.iconst (-1), 1) := by decide +kernel
theorem dX5_readUse_8 : decode cX5_readUse 8 = .ok (.if_icmp .eq 10, 3) := by decide +kernel
theorem dX5_readUse_11 : decode cX5_readUse 11 = .ok (.aload_n 0, 1) := by decide +kernel
theorem dX5_readUse_12 : decode cX5_readUse 12 = .ok (.getfield 18, 3) := by decide +kernel
theorem dX5_readUse_15 : decode cX5_readUse 15 = .ok (.iload_n 3, 1) := by decide +kernel
theorem dX5_readUse_16 : decode cX5_readUse 16 = .ok (.iload_n 2, 1) := by decide +kernel
theorem dX5_readUse_17 : decode cX5_readUse 17 = .ok (.iastore, 1) := by decide +kernel
theorem dX5_readUse_18 : decode cX5_readUse 18 = .ok (.return_, 1) := by decide +kernel
theorem dX6_init_0 : decode cX6_init 0 = .ok (.aload_n 0, 1) := by decide +kernel
theorem dX6_init_1 : decode cX6_init 1 = .ok (.invokespecial 1, 3) := by decide +kernel
theorem dX6_init_4 : decode cX6_init 4 = .ok (.aload_n 0, 1) := by decide +kernel
theorem dX6_init_5 : decode cX6_init 5 = .ok (.new 7, 3) := by decide +kernel
theorem dX6_init_8 : decode cX6_init 8 = .ok (.dup, 1) := by decide +kernel
theorem dX6_init_9 : decode cX6_init 9 = .ok (.invokespecial 9, 3) := by decide +kernel
theorem dX6_init_12 : decode cX6_init 12 = .ok (.putfield 10, 3) := by decide +kernel
theorem dX6_init_15 : decode cX6_init 15 = .ok (.aload_n 0, 1) := by decide +kernel
theorem dX6_init_16 : decode cX6_init 16 = .ok (.new 16, 3) := by decide +kernel
theorem dX6_init_19 : decode cX6_init 19 = .ok (.dup, 1) := by decide +kernel
theorem dX6_init_20 : decode cX6_init 20 = .ok (.invokespecial 18, 3) := by decide +kernel
theorem dX6_init_23 : decode cX6_init 23 = .ok (.putfield 19, 3) := by decide +kernel
theorem dX6_init_26 : decode cX6_init 26 = .ok (.aload_n 0, 1) := by decide +kernel
theorem dX6_init_27 : decode cX6_init 27 = .ok (.bipush 120, 2) := by decide +kernel
theorem dX6_init_29 : decode cX6_init 29 = .ok (.anewarray 23, 3) := by decide +kernel
theorem dX6_init_32 : decode cX6_init 32 = .ok (.putfield 25, 3) := by decide +kernel
theorem dX6_init_35 : decode cX6_init 35 = .ok (.aload_n 0, 1) := by decide +kernel
theorem dX6_init_36 : decode cX6_init 36 = .ok (.new 29, 3) := by decide +kernel
theorem dX6_init_39 : decode cX6_init 39 = .ok (.dup, 1) := by decide +kernel
end
section
theorem dX6_init_40 : decode cX6_init 40 = .ok (.invokespecial 31, 3) := by decide +kernel
theorem dX6_init_43 : decode cX6_init 43 = .ok (.putfield 32, 3) := by decide +kernel
theorem dX6_init_46 : decode cX6_init 46 = .ok (.aload_n 0, 1) := by decide +kernel
theorem dX6_init_47 : decode cX6_init 47 = .ok (.iconst 0, 1) := by decide +kernel
theorem dX6_init_48 : decode cX6_init 48 = .ok (.putfield 36, 3) := by decide +kernel
theorem dX6_init_51 : decode cX6_init 51 = .ok (.aload_n 0, 1) := by decide +kernel
theorem dX6_init_52 : decode cX6_init 52 = .ok (.sipush 700, 3) := by decide +kernel
theorem dX6_init_55 : decode cX6_init 55 = .ok (.putfield 40, 3) := by decide +kernel
theorem dX6_init_58 : decode cX6_init 58 = .ok (.aload_n 0, 1) := by decide +kernel
theorem dX6_init_59 : decode cX6_init 59 = .ok (.sipush 500, 3) := by decide +kernel
theorem dX6_init_62 : decode cX6_init 62 = .ok (.putfield 43, 3) := by decide +kernel
theorem dX6_init_65 : decode cX6_init 65 = .ok (.aload_n 0, 1) := by decide +kernel
theorem dX6_init_66 : decode cX6_init 66 = .ok (.new 46, 3) := by decide +kernel
theorem dX6_init_69 : decode cX6_init 69 = .ok (.dup, 1) := by decide +kernel
theorem dX6_init_70 : decode cX6_init 70 = .ok (.invokespecial 48, 3) := by decide +kernel
theorem dX6_init_73 : decode cX6_init 73 = .ok (.putfield 49, 3) := by decide +kernel
theorem dX6_init_76 : decode cX6_init 76 = .ok (.aload_n 0, 1) := by decide +kernel
theorem dX6_init_77 : decode cX6_init 77 = .ok (.new 46, 3) := by decide +kernel
theorem dX6_init_80 : decode cX6_init 80 = .ok (.dup, 1) := by decide +kernel
theorem dX6_init_81 : decode cX6_init 81 = .ok (.invokespecial 48, 3) := by decide +kernel
theorem dX6_init_84 : decode cX6_init 84 = .ok (.putfield 53, 3) := by decide +kernel
theorem dX6_init_87 : decode cX6_init 87 = .ok (.aload_n 0, 1) := by decide +kernel
theorem dX6_init_88 : decode cX6_init 88 = .ok (.new 46, 3) := by decide +kernel
theorem dX6_init_91 : decode cX6_init 91 = .ok (.dup, 1) := by decide +kernel
theorem dX6_init_92 : decode cX6_init 92 = .ok (.invokespecial 48, 3) := by decide +kernel
theorem dX6_init_95 : decode cX6_init 95 = .ok (.putfield 56, 3) := by decide +kernel
theorem dX6_init_98 : decode cX6_init 98 = .ok (.aload_n 0, 1) := by decide +kernel
theorem dX6_init_99 : decode cX6_init 99 = .ok (.new 59, 3) := by decide +kernel
theorem dX6_init_102 : decode cX6_init 102 = .ok (.dup, 1) := by decide +kernel
theorem dX6_init_103 : decode cX6_init 103 = .ok (.invokespecial 61, 3) := by decide +kernel
theorem dX6_init_106 : decode cX6_init 106 = .ok (.putfield 62, 3) := by decide +kernel
theorem dX6_init_109 : decode cX6_init 109 = .ok (.return_, 1) := by decide +kernel
theorem dX6_row_0 : decode cX6_row 0 = .ok (.iload_n 1, 1) := by decide +kernel
theorem dX6_row_1 : decode cX6_row 1 = .ok (.bipush 26, 2) := by decide +kernel
theorem dX6_row_3 : decode cX6_row 3 = .ok (.invokestatic 66, 3) := by decide +kernel
theorem dX6_row_6 : decode cX6_row 6 = .ok (.ifCond .eq 14, 3) := by decide +kernel
theorem dX6_row_9 : decode cX6_row 9 = .ok (.iload_n 2, 1) := by decide +kernel
theorem dX6_row_10 : decode cX6_row 10 = .ok (.iconst (-1), 1) := by decide +kernel
theorem dX6_row_11 : decode cX6_row 11 = .ok (.if_icmp .lt 9, 3) := by decide +kernel
theorem dX6_row_14 : decode cX6_row 14 = .ok (.iload_n 2, 1) := by decide +kernel
theorem dX6_row_15 : decode cX6_row 15 = .ok (.bipush 27, 2) := by decide +kernel
theorem dX6_row_17 : decode cX6_row 17 = .ok (.if_icmp .le 5, 3) := by decide +kernel
theorem dX6_row_20 : decode cX6_row 20 = .ok (.iconst 0, 1) := by decide +kernel
theorem dX6_row_21 : decode cX6_row 21 = .ok (.ireturn, 1) := by decide +kernel
theorem dX6_row_22 : decode cX6_row 22 = .ok (.aload_n 0, 1) := by decide +kernel
theorem dX6_row_23 : decode cX6_row 23 = .ok (.getfield 10, 3) := by decide +kernel
theorem dX6_row_26 : decode cX6_row 26 = .ok (.iload_n 1, 1) := by decide +kernel
theorem dX6_row_27 : decode cX6_row 27 = .ok (.iload_n 2, 1) := by decide +kernel
theorem dX6_row_28 : decode cX6_row 28 = .ok (.invokevirtual 70, 3) := by decide +kernel
theorem dX6_row_31 : decode cX6_row 31 = .ok (.iconst 1, 1) := by decide +kernel
theorem dX6_row_32 : decode cX6_row 32 = .ok (.ireturn, 1) := by decide +kernel
theorem dX6_sound_0 : decode cX6_sound 0 = .ok (.iload_n 1, 1) := by decide +kernel
theorem dX6_sound_1 : decode cX6_sound 1 = .ok (.bipush 26, 2) := by decide +kernel
theorem dX6_sound_3 : decode cX6_sound 3 = .ok (.invokestatic 66, 3) := by decide +kernel
theorem dX6_sound_6 : decode cX6_sound 6 = .ok (.ifCond .eq 27, 3) := by decide +kernel
theorem dX6_sound_9 : decode cX6_sound 9 = .ok (.iload_n 2, 1) := by decide +kernel
theorem dX6_sound_10 : decode cX6_sound 10 = .ok (.aload_n 0, 1) := by decide +kernel
theorem dX6_sound_11 : decode cX6_sound 11 = .ok (.getfield 10, 3) := by decide +kernel
theorem dX6_sound_14 : decode cX6_sound 14 = .ok (.iload_n 1, 1) := by decide +kernel
theorem dX6_sound_15 : decode cX6_sound 15 = .ok (.invokevirtual 74, 3) := by decide +kernel
theorem dX6_sound_18 : decode cX6_sound 18 = .ok (.invokestatic 66, 3) := by decide +kernel
theorem dX6_sound_21 : decode cX6_sound 21 = .ok (.ifCond .eq 12, 3) := by decide +kernel
theorem dX6_sound_24 : decode cX6_sound 24 = .ok (.iload_n 3, 1) := by decide +kernel
theorem dX6_sound_25 : decode cX6_sound 25 = .ok (.bipush 40, 2) := by decide +kernel
theorem dX6_sound_27 : decode cX6_sound 27 = .ok (.invokestatic 66, 3) := by decide +kernel
theorem dX6_sound_30 : decode cX6_sound 30 = .ok (.ifCond .ne 5, 3) := by decide +kernel
theorem dX6_sound_33 : decode cX6_sound 33 = .ok (.iconst 0, 1) := by decide +kernel
theorem dX6_sound_34 : decode cX6_sound 34 = .ok (.ireturn, 1) := by decide +kernel
theorem dX6_sound_35 : decode cX6_sound 35 = .ok (.aload_n 0, 1) := by decide +kernel
theorem dX6_sound_36 : decode cX6_sound 36 = .ok (.getfield 10, 3) := by decide +kernel
theorem dX6_sound_39 : decode cX6_sound 39 = .ok (.iload_n 1, 1) := by decide +kernel
theorem dX6_sound_40 : decode cX6_sound 40 = .ok (.iload_n 2, 1) := by decide +kernel
theorem dX6_sound_41 : decode cX6_sound 41 = .ok (.iload_n 3, 1) := by decide +kernel
theorem dX6_sound_42 : decode cX6_sound 42 = .ok (.invokevirtual 78, 3) := by decide +kernel
theorem dX6_sound_45 : decode cX6_sound 45 = .ok (.iconst 1, 1) := by decide +kernel
theorem dX6_sound_46 : decode cX6_sound 46 = .ok (.ireturn, 1) := by decide +kernel
theorem dX6_cost_0 : decode cX6_cost 0 = .ok (.iload_n 1, 1) := by decide +kernel
theorem dX6_cost_1 : decode cX6_cost 1 = .ok (.bipush 66, 2) := by decide +kernel
theorem dX6_cost_3 : decode cX6_cost 3 = .ok (.invokestatic 66, 3) := by decide +kernel
theorem dX6_cost_6 : decode cX6_cost 6 = .ok (.ifCond .eq 19, 3) := by decide +kernel
theorem dX6_cost_9 : decode cX6_cost 9 = .ok (.iload_n 1, 1) := by decide +kernel
theorem dX6_cost_10 : decode cX6_cost 10 = .ok (.iload_n 2, 1) := by decide +kernel
theorem dX6_cost_11 : decode cX6_cost 11 = .ok (.if_icmp .eq 14, 3) := by decide +kernel
theorem dX6_cost_14 : decode cX6_cost 14 = .ok (.iload_n 3, 1) := by decide +kernel
theorem dX6_cost_15 : decode cX6_cost 15 = .ok (.iconst 1, 1) := by decide +kernel
theorem dX6_cost_16 : decode cX6_cost 16 = .ok (.if_icmp .lt 9, 3) := by decide +kernel
theorem dX6_cost_19 : decode cX6_cost 19 = .ok (.iload_n 3, 1) := by decide +kernel
theorem dX6_cost_20 : decode cX6_cost 20 = .ok (.bipush 100, 2) := by decide +kernel
theorem dX6_cost_22 : decode cX6_cost 22 = .ok (.if_icmp .le 5, 3) := by decide +kernel
theorem dX6_cost_25 : decode cX6_cost 25 = .ok (.iconst 0, 1) := by decide +kernel
theorem dX6_cost_26 : decode cX6_cost 26 = .ok (.ireturn, 1) := by decide +kernel
theorem dX6_cost_27 : decode cX6_cost 27 = .ok (.iload_n 2, 1) := by decide +kernel
theorem dX6_cost_28 : decode cX6_cost 28 = .ok (.iconst (-1), 1) := by decide +kernel
theorem dX6_cost_29 : decode cX6_cost 29 = .ok (.if_icmp .ne 14, 3) := by decide +kernel
theorem dX6_cost_32 : decode cX6_cost 32 = .ok (.aload_n 0, 1) := by decide +kernel
theorem dX6_cost_33 : decode cX6_cost 33 = .ok (.getfield 10, 3) := by decide +kernel
theorem dX6_cost_36 : decode cX6_cost 36 = .ok (.iload_n 1, 1) := by decide +kernel
theorem dX6_cost_37 : decode cX6_cost 37 = .ok (.iload_n 3, 1) := by decide +kernel
theorem dX6_cost_38 : decode cX6_cost 38 = .ok (.invokevirtual 82, 3) := by decide +kernel
theorem dX6_cost_41 : decode cX6_cost 41 = .ok (.iconst 1, 1) := by decide +kernel
theorem dX6_cost_42 : decode cX6_cost 42 = .ok (.ireturn, 1) := by decide +kernel
theorem dX6_cost_43 : decode cX6_cost 43 = .ok (.iload_n 2, 1) := by decide +kernel
theorem dX6_cost_44 : decode cX6_cost 44 = .ok (.bipush 66, 2) := by decide +kernel
theorem dX6_cost_46 : decode cX6_cost 46 = .ok (.invokestatic 66, 3) := by decide +kernel
theorem dX6_cost_49 : decode cX6_cost 49 = .ok (.ifCond .ne 5, 3) := by decide +kernel
theorem dX6_cost_52 : decode cX6_cost 52 = .ok (.iconst 0, 1) := by decide +kernel
theorem dX6_cost_53 : decode cX6_cost 53 = .ok (.ireturn, 1) := by decide +kernel
theorem dX6_cost_54 : decode cX6_cost 54 = .ok (.aload_n 0, 1) := by decide +kernel
theorem dX6_cost_55 : decode cX6_cost 55 = .ok (.getfield 10, 3) := by decide +kernel
theorem dX6_cost_58 : decode cX6_cost 58 = .ok (.iload_n 1, 1) := by decide +kernel
theorem dX6_cost_59 : decode cX6_cost 59 = .ok (.iload_n 2, 1) := by decide +kernel
theorem dX6_cost_60 : decode cX6_cost 60 = .ok (.iload_n 3, 1) := by decide +kernel
theorem dX6_cost_61 : decode cX6_cost 61 = .ok (.invokevirtual 85, 3) := by decide +kernel
theorem dX6_cost_64 : decode cX6_cost 64 = .ok (.iconst 1, 1) := by decide +kernel
theorem dX6_cost_65 : decode cX6_cost 65 = .ok (.ireturn, 1) := by decide +kernel
theorem dX6_near_0 : decode cX6_near 0 = .ok (.iload_n 1, 1) := by decide +kernel
theorem dX6_near_1 : decode cX6_near 1 = .ok (.sipush 360, 3) := by decide +kernel
theorem dX6_near_4 : decode cX6_near 4 = .ok (.invokestatic 66, 3) := by decide +kernel
theorem dX6_near_7 : decode cX6_near 7 = .ok (.ifCond .eq 28, 3) := by decide +kernel
theorem dX6_near_10 : decode cX6_near 10 = .ok (.iload_n 2, 1) := by decide +kernel
theorem dX6_near_11 : decode cX6_near 11 = .ok (.sipush 360, 3) := by decide +kernel
theorem dX6_near_14 : decode cX6_near 14 = .ok (.invokestatic 66, 3) := by decide +kernel
theorem dX6_near_17 : decode cX6_near 17 = .ok (.ifCond .eq 18, 3) := by decide +kernel
theorem dX6_near_20 : decode cX6_near 20 = .ok (.iload_n 1, 1) := by decide +kernel
theorem dX6_near_21 : decode cX6_near 21 = .ok (.iload_n 2, 1) := by decide +kernel
theorem dX6_near_22 : decode cX6_near 22 = .ok (.if_icmp .eq 13, 3) := by decide +kernel
theorem dX6_near_25 : decode cX6_near 25 = .ok (.iload_n 3, 1) := by decide +kernel
theorem dX6_near_26 : decode cX6_near 26 = .ok (.sipush 1000, 3) := by decide +kernel
theorem dX6_near_29 : decode cX6_near 29 = .ok (.invokestatic 66, 3) := by decide +kernel
theorem dX6_near_32 : decode cX6_near 32 = .ok (.ifCond .ne 5, 3) := by decide +kernel
theorem dX6_near_35 : decode cX6_near 35 = .ok (.iconst 0, 1) := by decide +kernel
theorem dX6_near_36 : decode cX6_near 36 = .ok (.ireturn, 1) := by decide +kernel
theorem dX6_near_37 : decode cX6_near 37 = .ok (.aload_n 0, 1) := by decide +kernel
theorem dX6_near_38 : decode cX6_near 38 = .ok (.getfield 19, 3) := by decide +kernel
theorem dX6_near_41 : decode cX6_near 41 = .ok (.iload_n 1, 1) := by decide +kernel
theorem dX6_near_42 : decode cX6_near 42 = .ok (.iload_n 2, 1) := by decide +kernel
theorem dX6_near_43 : decode cX6_near 43 = .ok (.iload_n 3, 1) := by decide +kernel
theorem dX6_near_44 : decode cX6_near 44 = .ok (.invokevirtual 88, 3) := by decide +kernel
theorem dX6_near_47 : decode cX6_near 47 = .ok (.ireturn, 1) := by decide +kernel
theorem dX6_levels_0 : decode cX6_levels 0 = .ok (.iload_n 1, 1) := by decide +kernel
theorem dX6_levels_1 : decode cX6_levels 1 = .ok (.iconst 1, 1) := by decide +kernel
theorem dX6_levels_2 : decode cX6_levels 2 = .ok (.if_icmp .lt 22, 3) := by decide +kernel
theorem dX6_levels_5 : decode cX6_levels 5 = .ok (.iload_n 1, 1) := by decide +kernel
theorem dX6_levels_6 : decode cX6_levels 6 = .ok (.sipush 1000, 3) := by decide +kernel
theorem dX6_levels_9 : decode cX6_levels 9 = .ok (.if_icmp .gt 15, 3) := by decide +kernel
theorem dX6_levels_12 : decode cX6_levels 12 = .ok (.iload_n 2, 1) := by decide +kernel
theorem dX6_levels_13 : decode cX6_levels 13 = .ok (.iconst 1, 1) := by decide +kernel
theorem dX6_levels_14 : decode cX6_levels 14 = .ok (.if_icmp .lt 10, 3) := by decide +kernel
theorem dX6_levels_17 : decode cX6_levels 17 = .ok (.iload_n 2, 1) := by decide +kernel
theorem dX6_levels_18 : decode cX6_levels 18 = .ok (.sipush 1000, 3) := by decide +kernel
theorem dX6_levels_21 : decode cX6_levels 21 = .ok (.if_icmp .le 5, 3) := by decide +kernel
theorem dX6_levels_24 : decode cX6_levels 24 = .ok (.iconst 0, 1) := by decide +kernel
theorem dX6_levels_25 : decode cX6_levels 25 = .ok (.ireturn, 1) := by decide +kernel
theorem dX6_levels_26 : decode cX6_levels 26 = .ok (.aload_n 0, 1) := by decide +kernel
theorem dX6_levels_27 : decode cX6_levels 27 = .ok (.iload_n 1, 1) := by decide +kernel
theorem dX6_levels_28 : decode cX6_levels 28 = .ok (.putfield 40, 3) := by decide +kernel
theorem dX6_levels_31 : decode cX6_levels 31 = .ok (.aload_n 0, 1) := by decide +kernel
theorem dX6_levels_32 : decode cX6_levels 32 = .ok (.iload_n 2, 1) := by decide +kernel
theorem dX6_levels_33 : decode cX6_levels 33 = .ok (.putfield 43, 3) := by decide +kernel
theorem dX6_levels_36 : decode cX6_levels 36 = .ok (.iconst 1, 1) := by decide +kernel
theorem dX6_levels_37 : decode cX6_levels 37 = .ok (.ireturn, 1) := by decide +kernel
theorem dX6_mark_0 : decode cX6_mark 0 = .ok (.iload_n 1, 1) := by decide +kernel
theorem dX6_mark_1 : decode cX6_mark 1 = .ok (.iconst 5, 1) := by decide +kernel
theorem dX6_mark_2 : decode cX6_mark 2 = .ok (.invokestatic 66, 3) := by decide +kernel
theorem dX6_mark_5 : decode cX6_mark 5 = .ok (.ifCond .eq 21, 3) := by decide +kernel
theorem dX6_mark_8 : decode cX6_mark 8 = .ok (.iload_n 2, 1) := by decide +kernel
theorem dX6_mark_9 : decode cX6_mark 9 = .ok (.bipush 100, 2) := by decide +kernel
theorem dX6_mark_11 : decode cX6_mark 11 = .ok (.invokestatic 66, 3) := by decide +kernel
theorem dX6_mark_14 : decode cX6_mark 14 = .ok (.ifCond .eq 12, 3) := by decide +kernel
theorem dX6_mark_17 : decode cX6_mark 17 = .ok (.aload_n 0, 1) := by decide +kernel
theorem dX6_mark_18 : decode cX6_mark 18 = .ok (.getfield 36, 3) := by decide +kernel
theorem dX6_mark_21 : decode cX6_mark 21 = .ok (.bipush 120, 2) := by decide +kernel
theorem dX6_mark_23 : decode cX6_mark 23 = .ok (.if_icmp .lt 5, 3) := by decide +kernel
theorem dX6_mark_26 : decode cX6_mark 26 = .ok (.iconst (-1), 1) := by decide +kernel
theorem dX6_mark_27 : decode cX6_mark 27 = .ok (.ireturn, 1) := by decide +kernel
theorem dX6_mark_28 : decode cX6_mark 28 = .ok (.aload_n 0, 1) := by decide +kernel
theorem dX6_mark_29 : decode cX6_mark 29 = .ok (.getfield 25, 3) := by decide +kernel
theorem dX6_mark_32 : decode cX6_mark 32 = .ok (.aload_n 0, 1) := by decide +kernel
theorem dX6_mark_33 : decode cX6_mark 33 = .ok (.getfield 36, 3) := by decide +kernel
theorem dX6_mark_36 : decode cX6_mark 36 = .ok (.new 23, 3) := by decide +kernel
theorem dX6_mark_39 : decode cX6_mark 39 = .ok (.dup, 1) := by decide +kernel
theorem dX6_mark_40 : decode cX6_mark 40 = .ok (.iload_n 1, 1) := by decide +kernel
theorem dX6_mark_41 : decode cX6_mark 41 = .ok (.iload_n 2, 1) := by decide +kernel
theorem dX6_mark_42 : decode cX6_mark 42 = .ok (.invokespecial 92, 3) := by decide +kernel
theorem dX6_mark_45 : decode cX6_mark 45 = .ok (.aastore, 1) := by decide +kernel
theorem dX6_mark_46 : decode cX6_mark 46 = .ok (.aload_n 0, 1) := by decide +kernel
theorem dX6_mark_47 : decode cX6_mark 47 = .ok (.dup, 1) := by decide +kernel
theorem dX6_mark_48 : decode cX6_mark 48 = .ok (.getfield 36, 3) := by decide +kernel
theorem dX6_mark_51 : decode cX6_mark 51 = .ok (.iconst 1, 1) := by decide +kernel
theorem dX6_mark_52 : decode cX6_mark 52 = .ok (.iadd, 1) := by decide +kernel
theorem dX6_mark_53 : decode cX6_mark 53 = .ok (.putfield 36, 3) := by decide +kernel
theorem dX6_mark_56 : decode cX6_mark 56 = .ok (.aload_n 0, 1) := by decide +kernel
theorem dX6_mark_57 : decode cX6_mark 57 = .ok (.getfield 36, 3) := by decide +kernel
theorem dX6_mark_60 : decode cX6_mark 60 = .ok (.iconst 1, 1) := by decide +kernel
theorem dX6_mark_61 : decode cX6_mark 61 = .ok (.isub, 1) := by decide +kernel
theorem dX6_mark_62 : decode cX6_mark 62 = .ok (.ireturn, 1) := by decide +kernel
theorem dX6_letter_0 : decode cX6_letter 0 = .ok (.aload_n 0, 1) := by decide +kernel
theorem dX6_letter_1 : decode cX6_letter 1 = .ok (.iload_n 1, 1) := by decide +kernel
theorem dX6_letter_2 : decode cX6_letter 2 = .ok (.invokevirtual 94, 3) := by decide +kernel
theorem dX6_letter_5 : decode cX6_letter 5 = .ok (.astore_n 3, 1) := by decide +kernel
theorem dX6_letter_6 : decode cX6_letter 6 = .ok (.aload_n 3, 1) := by decide +kernel
theorem dX6_letter_7 : decode cX6_letter 7 = .ok (.ifnull 23, 3) := by decide +kernel
theorem dX6_letter_10 : decode cX6_letter 10 = .ok (.iload_n 2, 1) := by decide +kernel
theorem dX6_letter_11 : decode cX6_letter 11 = .ok (.bipush 26, 2) := by decide +kernel
theorem dX6_letter_13 : decode cX6_letter 13 = .ok (.invokestatic 66, 3) := by decide +kernel
theorem dX6_letter_16 : decode cX6_letter 16 = .ok (.ifCond .eq 14, 3) := by decide +kernel
theorem dX6_letter_19 : decode cX6_letter 19 = .ok (.aload_n 0, 1) := by decide +kernel
theorem dX6_letter_20 : decode cX6_letter 20 = .ok (.getfield 32, 3) := by decide +kernel
theorem dX6_letter_23 : decode cX6_letter 23 = .ok (.iload_n 1, 1) := by decide +kernel
theorem dX6_letter_24 : decode cX6_letter 24 = .ok (.invokevirtual 98, 3) := by decide +kernel
theorem dX6_letter_27 : decode cX6_letter 27 = .ok (.ifCond .eq 5, 3) := by decide +kernel
theorem dX6_letter_30 : decode cX6_letter 30 = .ok (.iconst (-1), 1) := by decide +kernel
theorem dX6_letter_31 : decode cX6_letter 31 = .ok (.ireturn, 1) := by decide +kernel
theorem dX6_letter_32 : decode cX6_letter 32 = .ok (.aload_n 3, 1) := by decide +kernel
theorem dX6_letter_33 : decode cX6_letter 33 = .ok (.iload_n 2, 1) := by decide +kernel
theorem dX6_letter_34 : decode cX6_letter 34 = .ok (.invokevirtual 102, 3) := by decide +kernel
theorem dX6_letter_37 : decode cX6_letter 37 = .ok (.ireturn, 1) := by decide +kernel
theorem dX6_code_0 : decode cX6_code 0 = .ok (.aload_n 0, 1) := by decide +kernel
theorem dX6_code_1 : decode cX6_code 1 = .ok (.iload_n 1, 1) := by decide +kernel
theorem dX6_code_2 : decode cX6_code 2 = .ok (.invokevirtual 94, 3) := by decide +kernel
theorem dX6_code_5 : decode cX6_code 5 = .ok (.astore_n 3, 1) := by decide +kernel
theorem dX6_code_6 : decode cX6_code 6 = .ok (.aload_n 3, 1) := by decide +kernel
theorem dX6_code_7 : decode cX6_code 7 = .ok (.ifnull 23, 3) := by decide +kernel
theorem dX6_code_10 : decode cX6_code 10 = .ok (.iload_n 2, 1) := by decide +kernel
theorem dX6_code_11 : decode cX6_code 11 = .ok (.ldc 105, 2) := by decide +kernel
theorem dX6_code_13 : decode cX6_code 13 = .ok (.invokestatic 66, 3) := by decide +kernel
theorem dX6_code_16 : decode cX6_code 16 = .ok (.ifCond .eq 14, 3) := by decide +kernel
theorem dX6_code_19 : decode cX6_code 19 = .ok (.aload_n 0, 1) := by decide +kernel
theorem dX6_code_20 : decode cX6_code 20 = .ok (.getfield 32, 3) := by decide +kernel
theorem dX6_code_23 : decode cX6_code 23 = .ok (.iload_n 1, 1) := by decide +kernel
theorem dX6_code_24 : decode cX6_code 24 = .ok (.invokevirtual 98, 3) := by decide +kernel
theorem dX6_code_27 : decode cX6_code 27 = .ok (.ifCond .eq 5, 3) := by decide +kernel
theorem dX6_code_30 : decode cX6_code 30 = .ok (.iconst (-1), 1) := by decide +kernel
theorem dX6_code_31 : decode cX6_code 31 = .ok (.ireturn, 1) := by decide +kernel
theorem dX6_code_32 : decode cX6_code 32 = .ok (.aload_n 3, 1) := by decide +kernel
theorem dX6_code_33 : decode cX6_code 33 = .ok (.iload_n 2, 1) := by decide +kernel
theorem dX6_code_34 : decode cX6_code 34 = .ok (.invokevirtual 106, 3) := by decide +kernel
theorem dX6_code_37 : decode cX6_code 37 = .ok (.ireturn, 1) := by decide +kernel
theorem dX6_paper_0 : decode cX6_paper 0 = .ok (.aload_n 0, 1) := by decide +kernel
theorem dX6_paper_1 : decode cX6_paper 1 = .ok (.iload_n 2, 1) := by decide +kernel
theorem dX6_paper_2 : decode cX6_paper 2 = .ok (.invokevirtual 94, 3) := by decide +kernel
theorem dX6_paper_5 : decode cX6_paper 5 = .ok (.astore 5, 2) := by decide +kernel
theorem dX6_paper_7 : decode cX6_paper 7 = .ok (.aload 5, 2) := by decide +kernel
theorem dX6_paper_9 : decode cX6_paper 9 = .ok (.ifnull 34, 3) := by decide +kernel
theorem dX6_paper_12 : decode cX6_paper 12 = .ok (.iload_n 3, 1) := by decide +kernel
theorem dX6_paper_13 : decode cX6_paper 13 = .ok (.iload_n 1, 1) := by decide +kernel
theorem dX6_paper_14 : decode cX6_paper 14 = .ok (.invokestatic 109, 3) := by decide +kernel
theorem dX6_paper_17 : decode cX6_paper 17 = .ok (.invokestatic 66, 3) := by decide +kernel
theorem dX6_paper_20 : decode cX6_paper 20 = .ok (.ifCond .eq 23, 3) := by decide +kernel
theorem dX6_paper_23 : decode cX6_paper 23 = .ok (.iload 4, 2) := by decide +kernel
theorem dX6_paper_25 : decode cX6_paper 25 = .ok (.invokestatic 112, 3) := by decide +kernel
theorem dX6_paper_28 : decode cX6_paper 28 = .ok (.ifCond .eq 15, 3) := by decide +kernel
theorem dX6_paper_31 : decode cX6_paper 31 = .ok (.aload_n 0, 1) := by decide +kernel
theorem dX6_paper_32 : decode cX6_paper 32 = .ok (.getfield 32, 3) := by decide +kernel
theorem dX6_paper_35 : decode cX6_paper 35 = .ok (.iload 4, 2) := by decide +kernel
theorem dX6_paper_37 : decode cX6_paper 37 = .ok (.invokevirtual 115, 3) := by decide +kernel
theorem dX6_paper_40 : decode cX6_paper 40 = .ok (.ifCond .ne 5, 3) := by decide +kernel
theorem dX6_paper_43 : decode cX6_paper 43 = .ok (.iconst (-1), 1) := by decide +kernel
theorem dX6_paper_44 : decode cX6_paper 44 = .ok (.ireturn, 1) := by decide +kernel
theorem dX6_paper_45 : decode cX6_paper 45 = .ok (.aload_n 0, 1) := by decide +kernel
theorem dX6_paper_46 : decode cX6_paper 46 = .ok (.getfield 49, 3) := by decide +kernel
theorem dX6_paper_49 : decode cX6_paper 49 = .ok (.aload_n 0, 1) := by decide +kernel
theorem dX6_paper_50 : decode cX6_paper 50 = .ok (.getfield 32, 3) := by decide +kernel
theorem dX6_paper_53 : decode cX6_paper 53 = .ok (.iload_n 2, 1) := by decide +kernel
theorem dX6_paper_54 : decode cX6_paper 54 = .ok (.iconst (-1), 1) := by decide +kernel
theorem dX6_paper_55 : decode cX6_paper 55 = .ok (.iload 4, 2) := by decide +kernel
theorem dX6_paper_57 : decode cX6_paper 57 = .ok (.invokevirtual 118, 3) := by decide +kernel
theorem dX6_paper_60 : decode cX6_paper 60 = .ok (.aload_n 0, 1) := by decide +kernel
theorem dX6_paper_61 : decode cX6_paper 61 = .ok (.iload_n 1, 1) := by decide +kernel
theorem dX6_paper_62 : decode cX6_paper 62 = .ok (.iload_n 2, 1) := by decide +kernel
theorem dX6_paper_63 : decode cX6_paper 63 = .ok (.iload_n 3, 1) := by decide +kernel
theorem dX6_paper_64 : decode cX6_paper 64 = .ok (.iload 4, 2) := by decide +kernel
theorem dX6_paper_66 : decode cX6_paper 66 = .ok (.invokevirtual 122, 3) := by decide +kernel
theorem dX6_paper_69 : decode cX6_paper 69 = .ok (.ifCond .ne 5, 3) := by decide +kernel
theorem dX6_paper_72 : decode cX6_paper 72 = .ok (.iconst (-1), 1) := by decide +kernel
theorem dX6_paper_73 : decode cX6_paper 73 = .ok (.ireturn, 1) := by decide +kernel
theorem dX6_paper_74 : decode cX6_paper 74 = .ok (.aload_n 0, 1) := by decide +kernel
theorem dX6_paper_75 : decode cX6_paper 75 = .ok (.getfield 32, 3) := by decide +kernel
theorem dX6_paper_78 : decode cX6_paper 78 = .ok (.iload_n 1, 1) := by decide +kernel
theorem dX6_paper_79 : decode cX6_paper 79 = .ok (.iload_n 2, 1) := by decide +kernel
theorem dX6_paper_80 : decode cX6_paper 80 = .ok (.iload_n 3, 1) := by decide +kernel
theorem dX6_paper_81 : decode cX6_paper 81 = .ok (.iload 4, 2) := by decide +kernel
theorem dX6_paper_83 : decode cX6_paper 83 = .ok (.invokevirtual 126, 3) := by decide +kernel
theorem dX6_paper_86 : decode cX6_paper 86 = .ok (.ireturn, 1) := by decide +kernel
theorem dX6_oppose_0 : decode cX6_oppose 0 = .ok (.aload_n 0, 1) := by decide +kernel
theorem dX6_oppose_1 : decode cX6_oppose 1 = .ok (.iload_n 1, 1) := by decide +kernel
theorem dX6_oppose_2 : decode cX6_oppose 2 = .ok (.invokevirtual 94, 3) := by decide +kernel
theorem dX6_oppose_5 : decode cX6_oppose 5 = .ok (.ifnull 18, 3) := by decide +kernel
theorem dX6_oppose_8 : decode cX6_oppose 8 = .ok (.aload_n 0, 1) := by decide +kernel
theorem dX6_oppose_9 : decode cX6_oppose 9 = .ok (.iload_n 2, 1) := by decide +kernel
theorem dX6_oppose_10 : decode cX6_oppose 10 = .ok (.invokevirtual 94, 3) := by decide +kernel
theorem dX6_oppose_13 : decode cX6_oppose 13 = .ok (.ifnull 10, 3) := by decide +kernel
theorem dX6_oppose_16 : decode cX6_oppose 16 = .ok (.iload_n 3, 1) := by decide +kernel
theorem dX6_oppose_17 : decode cX6_oppose 17 = .ok (.invokestatic 112, 3) := by decide +kernel
theorem dX6_oppose_20 : decode cX6_oppose 20 = .ok (.ifCond .ne 5, 3) := by decide +kernel
theorem dX6_oppose_23 : decode cX6_oppose 23 = .ok (.iconst (-1), 1) := by decide +kernel
theorem dX6_oppose_24 : decode cX6_oppose 24 = .ok (.ireturn, 1) := by decide +kernel
theorem dX6_oppose_25 : decode cX6_oppose 25 = .ok (.aload_n 0, 1) := by decide +kernel
theorem dX6_oppose_26 : decode cX6_oppose 26 = .ok (.getfield 49, 3) := by decide +kernel
theorem dX6_oppose_29 : decode cX6_oppose 29 = .ok (.aload_n 0, 1) := by decide +kernel
theorem dX6_oppose_30 : decode cX6_oppose 30 = .ok (.getfield 32, 3) := by decide +kernel
theorem dX6_oppose_33 : decode cX6_oppose 33 = .ok (.iload_n 1, 1) := by decide +kernel
theorem dX6_oppose_34 : decode cX6_oppose 34 = .ok (.iconst (-1), 1) := by decide +kernel
theorem dX6_oppose_35 : decode cX6_oppose 35 = .ok (.iload_n 3, 1) := by decide +kernel
theorem dX6_oppose_36 : decode cX6_oppose 36 = .ok (.invokevirtual 118, 3) := by decide +kernel
theorem dX6_oppose_39 : decode cX6_oppose 39 = .ok (.aload_n 0, 1) := by decide +kernel
theorem dX6_oppose_40 : decode cX6_oppose 40 = .ok (.getfield 49, 3) := by decide +kernel
theorem dX6_oppose_43 : decode cX6_oppose 43 = .ok (.invokevirtual 130, 3) := by decide +kernel
theorem dX6_oppose_46 : decode cX6_oppose 46 = .ok (.ifCond .eq 17, 3) := by decide +kernel
theorem dX6_oppose_49 : decode cX6_oppose 49 = .ok (.iload_n 3, 1) := by decide +kernel
theorem dX6_oppose_50 : decode cX6_oppose 50 = .ok (.aload_n 0, 1) := by decide +kernel
theorem dX6_oppose_51 : decode cX6_oppose 51 = .ok (.getfield 49, 3) := by decide +kernel
theorem dX6_oppose_54 : decode cX6_oppose 54 = .ok (.getfield 134, 3) := by decide +kernel
theorem dX6_oppose_57 : decode cX6_oppose 57 = .ok (.isub, 1) := by decide +kernel
theorem dX6_oppose_58 : decode cX6_oppose 58 = .ok (.bipush 90, 2) := by decide +kernel
theorem dX6_oppose_60 : decode cX6_oppose 60 = .ok (.if_icmp .le 5, 3) := by decide +kernel
theorem dX6_oppose_63 : decode cX6_oppose 63 = .ok (.iconst (-1), 1) := by decide +kernel
theorem dX6_oppose_64 : decode cX6_oppose 64 = .ok (.ireturn, 1) := by decide +kernel
theorem dX6_oppose_65 : decode cX6_oppose 65 = .ok (.iconst 0, 1) := by decide +kernel
theorem dX6_oppose_66 : decode cX6_oppose 66 = .ok (.istore 4, 2) := by decide +kernel
theorem dX6_oppose_68 : decode cX6_oppose 68 = .ok (.iload 4, 2) := by decide +kernel
theorem dX6_oppose_70 : decode cX6_oppose 70 = .ok (.bipush 16, 2) := by decide +kernel
theorem dX6_oppose_72 : decode cX6_oppose 72 = .ok (.if_icmp .ge 37, 3) := by decide +kernel
theorem dX6_oppose_75 : decode cX6_oppose 75 = .ok (.aload_n 0, 1) := by decide +kernel
theorem dX6_oppose_76 : decode cX6_oppose 76 = .ok (.iload_n 2, 1) := by decide +kernel
theorem dX6_oppose_77 : decode cX6_oppose 77 = .ok (.iload_n 1, 1) := by decide +kernel
theorem dX6_oppose_78 : decode cX6_oppose 78 = .ok (.iload 4, 2) := by decide +kernel
theorem dX6_oppose_80 : decode cX6_oppose 80 = .ok (.iload_n 3, 1) := by decide +kernel
theorem dX6_oppose_81 : decode cX6_oppose 81 = .ok (.invokevirtual 137, 3) := by decide +kernel
theorem dX6_oppose_84 : decode cX6_oppose 84 = .ok (.aload_n 0, 1) := by decide +kernel
theorem dX6_oppose_85 : decode cX6_oppose 85 = .ok (.getfield 62, 3) := by decide +kernel
theorem dX6_oppose_88 : decode cX6_oppose 88 = .ok (.invokevirtual 141, 3) := by decide +kernel
theorem dX6_oppose_91 : decode cX6_oppose 91 = .ok (.ifCond .eq 12, 3) := by decide +kernel
theorem dX6_oppose_94 : decode cX6_oppose 94 = .ok (.aload_n 0, 1) := by decide +kernel
theorem dX6_oppose_95 : decode cX6_oppose 95 = .ok (.iconst 4, 1) := by decide +kernel
theorem dX6_oppose_96 : decode cX6_oppose 96 = .ok (.iload_n 1, 1) := by decide +kernel
theorem dX6_oppose_97 : decode cX6_oppose 97 = .ok (.iconst 0, 1) := by decide +kernel
theorem dX6_oppose_98 : decode cX6_oppose 98 = .ok (.iload_n 3, 1) := by decide +kernel
theorem dX6_oppose_99 : decode cX6_oppose 99 = .ok (.invokevirtual 144, 3) := by decide +kernel
theorem dX6_oppose_102 : decode cX6_oppose 102 = .ok (.ireturn, 1) := by decide +kernel
theorem dX6_oppose_103 : decode cX6_oppose 103 = .ok (.iinc 4 1, 3) := by decide +kernel
theorem dX6_oppose_106 : decode cX6_oppose 106 = .ok (.goto (-38), 3) := by decide +kernel
theorem dX6_oppose_109 : decode cX6_oppose 109 = .ok (.iconst (-1), 1) := by decide +kernel
theorem dX6_oppose_110 : decode cX6_oppose 110 = .ok (.ireturn, 1) := by decide +kernel
theorem dX6_undo_0 : decode cX6_undo 0 = .ok (.aload_n 0, 1) := by decide +kernel
theorem dX6_undo_1 : decode cX6_undo 1 = .ok (.getfield 32, 3) := by decide +kernel
theorem dX6_undo_4 : decode cX6_undo 4 = .ok (.invokevirtual 147, 3) := by decide +kernel
theorem dX6_undo_7 : decode cX6_undo 7 = .ok (.ireturn, 1) := by decide +kernel
theorem dX6_paperOf_0 : decode cX6_paperOf 0 = .ok (.iload_n 1, 1) := by decide +kernel
theorem dX6_paperOf_1 : decode cX6_paperOf 1 = .ok (.aload_n 0, 1) := by decide +kernel
theorem dX6_paperOf_2 : decode cX6_paperOf 2 = .ok (.getfield 32, 3) := by decide +kernel
theorem dX6_paperOf_5 : decode cX6_paperOf 5 = .ok (.getfield 151, 3) := by decide +kernel
theorem dX6_paperOf_8 : decode cX6_paperOf 8 = .ok (.invokestatic 66, 3) := by decide +kernel
theorem dX6_paperOf_11 : decode cX6_paperOf 11 = .ok (.ifCond .ne 5, 3) := by decide +kernel
theorem dX6_paperOf_14 : decode cX6_paperOf 14 = .ok (.iconst (-1), 1) := by decide +kernel
theorem dX6_paperOf_15 : decode cX6_paperOf 15 = .ok (.ireturn, 1) := by decide +kernel
theorem dX6_paperOf_16 : decode cX6_paperOf 16 = .ok (.iload_n 2, 1) := by decide +kernel
theorem dX6_paperOf_17 : decode cX6_paperOf 17 = .ok (.tableswitch 71 0 3 #[31, 41, 51, 61], 31) := by decide +kernel
theorem dX6_paperOf_48 : decode cX6_paperOf 48 = .ok (.aload_n 0, 1) := by decide +kernel
theorem dX6_paperOf_49 : decode cX6_paperOf 49 = .ok (.getfield 32, 3) := by decide +kernel
theorem dX6_paperOf_52 : decode cX6_paperOf 52 = .ok (.getfield 154, 3) := by decide +kernel
theorem dX6_paperOf_55 : decode cX6_paperOf 55 = .ok (.iload_n 1, 1) := by decide +kernel
theorem dX6_paperOf_56 : decode cX6_paperOf 56 = .ok (.iaload, 1) := by decide +kernel
theorem dX6_paperOf_57 : decode cX6_paperOf 57 = .ok (.ireturn, 1) := by decide +kernel
theorem dX6_paperOf_58 : decode cX6_paperOf 58 = .ok (.aload_n 0, 1) := by decide +kernel
theorem dX6_paperOf_59 : decode cX6_paperOf 59 = .ok (.getfield 32, 3) := by decide +kernel
theorem dX6_paperOf_62 : decode cX6_paperOf 62 = .ok (.getfield 158, 3) := by decide +kernel
theorem dX6_paperOf_65 : decode cX6_paperOf 65 = .ok (.iload_n 1, 1) := by decide +kernel
theorem dX6_paperOf_66 : decode cX6_paperOf 66 = .ok (.iaload, 1) := by decide +kernel
theorem dX6_paperOf_67 : decode cX6_paperOf 67 = .ok (.ireturn, 1) := by decide +kernel
theorem dX6_paperOf_68 : decode cX6_paperOf 68 = .ok (.aload_n 0, 1) := by decide +kernel
theorem dX6_paperOf_69 : decode cX6_paperOf 69 = .ok (.getfield 32, 3) := by decide +kernel
theorem dX6_paperOf_72 : decode cX6_paperOf 72 = .ok (.getfield 160, 3) := by decide +kernel
theorem dX6_paperOf_75 : decode cX6_paperOf 75 = .ok (.iload_n 1, 1) := by decide +kernel
theorem dX6_paperOf_76 : decode cX6_paperOf 76 = .ok (.iaload, 1) := by decide +kernel
theorem dX6_paperOf_77 : decode cX6_paperOf 77 = .ok (.ireturn, 1) := by decide +kernel
theorem dX6_paperOf_78 : decode cX6_paperOf 78 = .ok (.aload_n 0, 1) := by decide +kernel
theorem dX6_paperOf_79 : decode cX6_paperOf 79 = .ok (.getfield 32, 3) := by decide +kernel
theorem dX6_paperOf_82 : decode cX6_paperOf 82 = .ok (.getfield 163, 3) := by decide +kernel
theorem dX6_paperOf_85 : decode cX6_paperOf 85 = .ok (.iload_n 1, 1) := by decide +kernel
theorem dX6_paperOf_86 : decode cX6_paperOf 86 = .ok (.iaload, 1) := by decide +kernel
theorem dX6_paperOf_87 : decode cX6_paperOf 87 = .ok (.ireturn, 1) := by decide +kernel
theorem dX6_paperOf_88 : decode cX6_paperOf 88 = .ok (.iconst (-1), 1) := by decide +kernel
theorem dX6_paperOf_89 : decode cX6_paperOf 89 = .ok (.ireturn, 1) := by decide +kernel
theorem dX6_markOf_0 : decode cX6_markOf 0 = .ok (.aload_n 0, 1) := by decide +kernel
theorem dX6_markOf_1 : decode cX6_markOf 1 = .ok (.iload_n 1, 1) := by decide +kernel
theorem dX6_markOf_2 : decode cX6_markOf 2 = .ok (.invokevirtual 94, 3) := by decide +kernel
theorem dX6_markOf_5 : decode cX6_markOf 5 = .ok (.astore_n 3, 1) := by decide +kernel
theorem dX6_markOf_6 : decode cX6_markOf 6 = .ok (.aload_n 3, 1) := by decide +kernel
theorem dX6_markOf_7 : decode cX6_markOf 7 = .ok (.ifnonnull 5, 3) := by decide +kernel
theorem dX6_markOf_10 : decode cX6_markOf 10 = .ok (.iconst (-1), 1) := by decide +kernel
theorem dX6_markOf_11 : decode cX6_markOf 11 = .ok (.ireturn, 1) := by decide +kernel
theorem dX6_markOf_12 : decode cX6_markOf 12 = .ok (.iload_n 2, 1) := by decide +kernel
theorem dX6_markOf_13 : decode cX6_markOf 13 = .ok (.tableswitch 64 0 4 #[35, 40, 45, 50, 59], 35) := by decide +kernel
theorem dX6_markOf_48 : decode cX6_markOf 48 = .ok (.aload_n 3, 1) := by decide +kernel
theorem dX6_markOf_49 : decode cX6_markOf 49 = .ok (.getfield 166, 3) := by decide +kernel
theorem dX6_markOf_52 : decode cX6_markOf 52 = .ok (.ireturn, 1) := by decide +kernel
theorem dX6_markOf_53 : decode cX6_markOf 53 = .ok (.aload_n 3, 1) := by decide +kernel
theorem dX6_markOf_54 : decode cX6_markOf 54 = .ok (.getfield 169, 3) := by decide +kernel
theorem dX6_markOf_57 : decode cX6_markOf 57 = .ok (.ireturn, 1) := by decide +kernel
theorem dX6_markOf_58 : decode cX6_markOf 58 = .ok (.aload_n 3, 1) := by decide +kernel
theorem dX6_markOf_59 : decode cX6_markOf 59 = .ok (.getfield 172, 3) := by decide +kernel
theorem dX6_markOf_62 : decode cX6_markOf 62 = .ok (.ireturn, 1) := by decide +kernel
theorem dX6_markOf_63 : decode cX6_markOf 63 = .ok (.aload_n 0, 1) := by decide +kernel
theorem dX6_markOf_64 : decode cX6_markOf 64 = .ok (.getfield 10, 3) := by decide +kernel
theorem dX6_markOf_67 : decode cX6_markOf 67 = .ok (.aload_n 3, 1) := by decide +kernel
theorem dX6_markOf_68 : decode cX6_markOf 68 = .ok (.invokevirtual 175, 3) := by decide +kernel
theorem dX6_markOf_71 : decode cX6_markOf 71 = .ok (.ireturn, 1) := by decide +kernel
theorem dX6_markOf_72 : decode cX6_markOf 72 = .ok (.aload_n 3, 1) := by decide +kernel
theorem dX6_markOf_73 : decode cX6_markOf 73 = .ok (.getfield 179, 3) := by decide +kernel
theorem dX6_markOf_76 : decode cX6_markOf 76 = .ok (.ireturn, 1) := by decide +kernel
theorem dX6_markOf_77 : decode cX6_markOf 77 = .ok (.iconst (-1), 1) := by decide +kernel
theorem dX6_markOf_78 : decode cX6_markOf 78 = .ok (.ireturn, 1) := by decide +kernel
theorem dX6_soundOf_0 : decode cX6_soundOf 0 = .ok (.aload_n 0, 1) := by decide +kernel
theorem dX6_soundOf_1 : decode cX6_soundOf 1 = .ok (.iload_n 1, 1) := by decide +kernel
theorem dX6_soundOf_2 : decode cX6_soundOf 2 = .ok (.invokevirtual 94, 3) := by decide +kernel
theorem dX6_soundOf_5 : decode cX6_soundOf 5 = .ok (.astore_n 3, 1) := by decide +kernel
theorem dX6_soundOf_6 : decode cX6_soundOf 6 = .ok (.aload_n 3, 1) := by decide +kernel
theorem dX6_soundOf_7 : decode cX6_soundOf 7 = .ok (.ifnonnull 7, 3) := by decide +kernel
theorem dX6_soundOf_10 : decode cX6_soundOf 10 = .ok (.iconst (-1), 1) := by decide +kernel
theorem dX6_soundOf_11 : decode cX6_soundOf 11 = .ok (.goto 12, 3) := by decide +kernel
theorem dX6_soundOf_14 : decode cX6_soundOf 14 = .ok (.aload_n 0, 1) := by decide +kernel
theorem dX6_soundOf_15 : decode cX6_soundOf 15 = .ok (.getfield 10, 3) := by decide +kernel
theorem dX6_soundOf_18 : decode cX6_soundOf 18 = .ok (.aload_n 3, 1) := by decide +kernel
theorem dX6_soundOf_19 : decode cX6_soundOf 19 = .ok (.iload_n 2, 1) := by decide +kernel
theorem dX6_soundOf_20 : decode cX6_soundOf 20 = .ok (.invokevirtual 182, 3) := by decide +kernel
theorem dX6_soundOf_23 : decode cX6_soundOf 23 = .ok (.ireturn, 1) := by decide +kernel
theorem dX6_like_0 : decode cX6_like 0 = .ok (.aload_n 0, 1) := by decide +kernel
theorem dX6_like_1 : decode cX6_like 1 = .ok (.iload_n 1, 1) := by decide +kernel
theorem dX6_like_2 : decode cX6_like 2 = .ok (.invokevirtual 94, 3) := by decide +kernel
theorem dX6_like_5 : decode cX6_like 5 = .ok (.astore 4, 2) := by decide +kernel
theorem dX6_like_7 : decode cX6_like 7 = .ok (.aload_n 0, 1) := by decide +kernel
theorem dX6_like_8 : decode cX6_like 8 = .ok (.iload_n 2, 1) := by decide +kernel
theorem dX6_like_9 : decode cX6_like 9 = .ok (.invokevirtual 94, 3) := by decide +kernel
theorem dX6_like_12 : decode cX6_like 12 = .ok (.astore 5, 2) := by decide +kernel
theorem dX6_like_14 : decode cX6_like 14 = .ok (.aload 4, 2) := by decide +kernel
theorem dX6_like_16 : decode cX6_like 16 = .ok (.ifnull 8, 3) := by decide +kernel
theorem dX6_like_19 : decode cX6_like 19 = .ok (.aload 5, 2) := by decide +kernel
theorem dX6_like_21 : decode cX6_like 21 = .ok (.ifnonnull 5, 3) := by decide +kernel
theorem dX6_like_24 : decode cX6_like 24 = .ok (.iconst (-1), 1) := by decide +kernel
theorem dX6_like_25 : decode cX6_like 25 = .ok (.ireturn, 1) := by decide +kernel
theorem dX6_like_26 : decode cX6_like 26 = .ok (.iload_n 3, 1) := by decide +kernel
theorem dX6_like_27 : decode cX6_like 27 = .ok (.lookupswitch 46 #[(0, 25), (1, 34)], 25) := by decide +kernel
theorem dX6_like_52 : decode cX6_like 52 = .ok (.aload_n 0, 1) := by decide +kernel
theorem dX6_like_53 : decode cX6_like 53 = .ok (.aload 4, 2) := by decide +kernel
theorem dX6_like_55 : decode cX6_like 55 = .ok (.aload 5, 2) := by decide +kernel
theorem dX6_like_57 : decode cX6_like 57 = .ok (.invokevirtual 186, 3) := by decide +kernel
theorem dX6_like_60 : decode cX6_like 60 = .ok (.ireturn, 1) := by decide +kernel
theorem dX6_like_61 : decode cX6_like 61 = .ok (.aload_n 0, 1) := by decide +kernel
theorem dX6_like_62 : decode cX6_like 62 = .ok (.getfield 10, 3) := by decide +kernel
theorem dX6_like_65 : decode cX6_like 65 = .ok (.aload 4, 2) := by decide +kernel
theorem dX6_like_67 : decode cX6_like 67 = .ok (.aload 5, 2) := by decide +kernel
theorem dX6_like_69 : decode cX6_like 69 = .ok (.invokevirtual 190, 3) := by decide +kernel
theorem dX6_like_72 : decode cX6_like 72 = .ok (.ireturn, 1) := by decide +kernel
theorem dX6_like_73 : decode cX6_like 73 = .ok (.iconst (-1), 1) := by decide +kernel
theorem dX6_like_74 : decode cX6_like 74 = .ok (.ireturn, 1) := by decide +kernel
theorem dX6_right_0 : decode cX6_right 0 = .ok (.aload_n 0, 1) := by decide +kernel
theorem dX6_right_1 : decode cX6_right 1 = .ok (.iload_n 1, 1) := by decide +kernel
theorem dX6_right_2 : decode cX6_right 2 = .ok (.invokevirtual 94, 3) := by decide +kernel
theorem dX6_right_5 : decode cX6_right 5 = .ok (.ifnull 30, 3) := by decide +kernel
theorem dX6_right_8 : decode cX6_right 8 = .ok (.iload_n 2, 1) := by decide +kernel
theorem dX6_right_9 : decode cX6_right 9 = .ok (.sipush 360, 3) := by decide +kernel
theorem dX6_right_12 : decode cX6_right 12 = .ok (.invokestatic 66, 3) := by decide +kernel
theorem dX6_right_15 : decode cX6_right 15 = .ok (.ifCond .eq 20, 3) := by decide +kernel
theorem dX6_right_18 : decode cX6_right 18 = .ok (.iload_n 3, 1) := by decide +kernel
theorem dX6_right_19 : decode cX6_right 19 = .ok (.bipush 16, 2) := by decide +kernel
theorem dX6_right_21 : decode cX6_right 21 = .ok (.invokestatic 66, 3) := by decide +kernel
theorem dX6_right_24 : decode cX6_right 24 = .ok (.ifCond .eq 11, 3) := by decide +kernel
theorem dX6_right_27 : decode cX6_right 27 = .ok (.iload 4, 2) := by decide +kernel
theorem dX6_right_29 : decode cX6_right 29 = .ok (.invokestatic 112, 3) := by decide +kernel
theorem dX6_right_32 : decode cX6_right 32 = .ok (.ifCond .ne 5, 3) := by decide +kernel
theorem dX6_right_35 : decode cX6_right 35 = .ok (.iconst (-1), 1) := by decide +kernel
theorem dX6_right_36 : decode cX6_right 36 = .ok (.ireturn, 1) := by decide +kernel
theorem dX6_right_37 : decode cX6_right 37 = .ok (.aload_n 0, 1) := by decide +kernel
theorem dX6_right_38 : decode cX6_right 38 = .ok (.getfield 49, 3) := by decide +kernel
theorem dX6_right_41 : decode cX6_right 41 = .ok (.aload_n 0, 1) := by decide +kernel
theorem dX6_right_42 : decode cX6_right 42 = .ok (.getfield 32, 3) := by decide +kernel
theorem dX6_right_45 : decode cX6_right 45 = .ok (.iload_n 1, 1) := by decide +kernel
theorem dX6_right_46 : decode cX6_right 46 = .ok (.iload_n 3, 1) := by decide +kernel
theorem dX6_right_47 : decode cX6_right 47 = .ok (.iload 4, 2) := by decide +kernel
theorem dX6_right_49 : decode cX6_right 49 = .ok (.invokevirtual 118, 3) := by decide +kernel
theorem dX6_right_52 : decode cX6_right 52 = .ok (.aload_n 0, 1) := by decide +kernel
theorem dX6_right_53 : decode cX6_right 53 = .ok (.getfield 49, 3) := by decide +kernel
theorem dX6_right_56 : decode cX6_right 56 = .ok (.iload_n 2, 1) := by decide +kernel
theorem dX6_right_57 : decode cX6_right 57 = .ok (.invokevirtual 193, 3) := by decide +kernel
theorem dX6_right_60 : decode cX6_right 60 = .ok (.istore 6, 2) := by decide +kernel
theorem dX6_right_62 : decode cX6_right 62 = .ok (.iload 5, 2) := by decide +kernel
theorem dX6_right_64 : decode cX6_right 64 = .ok (.tableswitch 66 0 2 #[28, 38, 48], 28) := by decide +kernel
theorem dX6_right_92 : decode cX6_right 92 = .ok (.aload_n 0, 1) := by decide +kernel
theorem dX6_right_93 : decode cX6_right 93 = .ok (.getfield 49, 3) := by decide +kernel
theorem dX6_right_96 : decode cX6_right 96 = .ok (.iload 6, 2) := by decide +kernel
theorem dX6_right_98 : decode cX6_right 98 = .ok (.invokevirtual 196, 3) := by decide +kernel
theorem dX6_right_101 : decode cX6_right 101 = .ok (.ireturn, 1) := by decide +kernel
theorem dX6_right_102 : decode cX6_right 102 = .ok (.aload_n 0, 1) := by decide +kernel
theorem dX6_right_103 : decode cX6_right 103 = .ok (.getfield 49, 3) := by decide +kernel
theorem dX6_right_106 : decode cX6_right 106 = .ok (.iload 6, 2) := by decide +kernel
theorem dX6_right_108 : decode cX6_right 108 = .ok (.invokevirtual 199, 3) := by decide +kernel
theorem dX6_right_111 : decode cX6_right 111 = .ok (.ireturn, 1) := by decide +kernel
theorem dX6_right_112 : decode cX6_right 112 = .ok (.aload_n 0, 1) := by decide +kernel
theorem dX6_right_113 : decode cX6_right 113 = .ok (.getfield 49, 3) := by decide +kernel
theorem dX6_right_116 : decode cX6_right 116 = .ok (.iload 6, 2) := by decide +kernel
theorem dX6_right_118 : decode cX6_right 118 = .ok (.invokevirtual 202, 3) := by decide +kernel
theorem dX6_right_121 : decode cX6_right 121 = .ok (.ifCond .eq 7, 3) := by decide +kernel
theorem dX6_right_124 : decode cX6_right 124 = .ok (.iconst 1, 1) := by decide +kernel
theorem dX6_right_125 : decode cX6_right 125 = .ok (.goto 4, 3) := by decide +kernel
theorem dX6_right_128 : decode cX6_right 128 = .ok (.iconst 0, 1) := by decide +kernel
theorem dX6_right_129 : decode cX6_right 129 = .ok (.ireturn, 1) := by decide +kernel
theorem dX6_right_130 : decode cX6_right 130 = .ok (.iconst (-1), 1) := by decide +kernel
theorem dX6_right_131 : decode cX6_right 131 = .ok (.ireturn, 1) := by decide +kernel
theorem dX6_state_0 : decode cX6_state 0 = .ok (.aload_n 0, 1) := by decide +kernel
theorem dX6_state_1 : decode cX6_state 1 = .ok (.iload_n 1, 1) := by decide +kernel
theorem dX6_state_2 : decode cX6_state 2 = .ok (.invokevirtual 94, 3) := by decide +kernel
theorem dX6_state_5 : decode cX6_state 5 = .ok (.ifnull 10, 3) := by decide +kernel
theorem dX6_state_8 : decode cX6_state 8 = .ok (.iload_n 2, 1) := by decide +kernel
theorem dX6_state_9 : decode cX6_state 9 = .ok (.invokestatic 112, 3) := by decide +kernel
theorem dX6_state_12 : decode cX6_state 12 = .ok (.ifCond .ne 5, 3) := by decide +kernel
theorem dX6_state_15 : decode cX6_state 15 = .ok (.iconst (-1), 1) := by decide +kernel
theorem dX6_state_16 : decode cX6_state 16 = .ok (.ireturn, 1) := by decide +kernel
theorem dX6_state_17 : decode cX6_state 17 = .ok (.aload_n 0, 1) := by decide +kernel
theorem dX6_state_18 : decode cX6_state 18 = .ok (.getfield 49, 3) := by decide +kernel
theorem dX6_state_21 : decode cX6_state 21 = .ok (.aload_n 0, 1) := by decide +kernel
theorem dX6_state_22 : decode cX6_state 22 = .ok (.getfield 32, 3) := by decide +kernel
theorem dX6_state_25 : decode cX6_state 25 = .ok (.iload_n 1, 1) := by decide +kernel
theorem dX6_state_26 : decode cX6_state 26 = .ok (.iconst (-1), 1) := by decide +kernel
theorem dX6_state_27 : decode cX6_state 27 = .ok (.iload_n 2, 1) := by decide +kernel
theorem dX6_state_28 : decode cX6_state 28 = .ok (.invokevirtual 118, 3) := by decide +kernel
theorem dX6_state_31 : decode cX6_state 31 = .ok (.iload_n 3, 1) := by decide +kernel
theorem dX6_state_32 : decode cX6_state 32 = .ok (.tableswitch 118 0 5 #[40, 48, 56, 86, 102, 110], 40) := by decide +kernel
theorem dX6_state_72 : decode cX6_state 72 = .ok (.aload_n 0, 1) := by decide +kernel
theorem dX6_state_73 : decode cX6_state 73 = .ok (.getfield 49, 3) := by decide +kernel
theorem dX6_state_76 : decode cX6_state 76 = .ok (.getfield 134, 3) := by decide +kernel
theorem dX6_state_79 : decode cX6_state 79 = .ok (.ireturn, 1) := by decide +kernel
theorem dX6_state_80 : decode cX6_state 80 = .ok (.aload_n 0, 1) := by decide +kernel
theorem dX6_state_81 : decode cX6_state 81 = .ok (.getfield 49, 3) := by decide +kernel
theorem dX6_state_84 : decode cX6_state 84 = .ok (.invokevirtual 205, 3) := by decide +kernel
theorem dX6_state_87 : decode cX6_state 87 = .ok (.ireturn, 1) := by decide +kernel
theorem dX6_state_88 : decode cX6_state 88 = .ok (.aload_n 0, 1) := by decide +kernel
theorem dX6_state_89 : decode cX6_state 89 = .ok (.getfield 49, 3) := by decide +kernel
theorem dX6_state_92 : decode cX6_state 92 = .ok (.invokevirtual 130, 3) := by decide +kernel
theorem dX6_state_95 : decode cX6_state 95 = .ok (.ifCond .ne 7, 3) := by decide +kernel
theorem dX6_state_98 : decode cX6_state 98 = .ok (.iconst (-1), 1) := by decide +kernel
theorem dX6_state_99 : decode cX6_state 99 = .ok (.goto 18, 3) := by decide +kernel
theorem dX6_state_102 : decode cX6_state 102 = .ok (.aload_n 0, 1) := by decide +kernel
theorem dX6_state_103 : decode cX6_state 103 = .ok (.getfield 49, 3) := by decide +kernel
theorem dX6_state_106 : decode cX6_state 106 = .ok (.invokevirtual 208, 3) := by decide +kernel
theorem dX6_state_109 : decode cX6_state 109 = .ok (.ifCond .eq 7, 3) := by decide +kernel
theorem dX6_state_112 : decode cX6_state 112 = .ok (.iconst 1, 1) := by decide +kernel
theorem dX6_state_113 : decode cX6_state 113 = .ok (.goto 4, 3) := by decide +kernel
theorem dX6_state_116 : decode cX6_state 116 = .ok (.iconst 0, 1) := by decide +kernel
theorem dX6_state_117 : decode cX6_state 117 = .ok (.ireturn, 1) := by decide +kernel
theorem dX6_state_118 : decode cX6_state 118 = .ok (.aload_n 0, 1) := by decide +kernel
theorem dX6_state_119 : decode cX6_state 119 = .ok (.getfield 49, 3) := by decide +kernel
theorem dX6_state_122 : decode cX6_state 122 = .ok (.getfield 211, 3) := by decide +kernel
theorem dX6_state_125 : decode cX6_state 125 = .ok (.ifCond .eq 7, 3) := by decide +kernel
theorem dX6_state_128 : decode cX6_state 128 = .ok (.iconst 1, 1) := by decide +kernel
theorem dX6_state_129 : decode cX6_state 129 = .ok (.goto 4, 3) := by decide +kernel
theorem dX6_state_132 : decode cX6_state 132 = .ok (.iconst 0, 1) := by decide +kernel
theorem dX6_state_133 : decode cX6_state 133 = .ok (.ireturn, 1) := by decide +kernel
theorem dX6_state_134 : decode cX6_state 134 = .ok (.aload_n 0, 1) := by decide +kernel
theorem dX6_state_135 : decode cX6_state 135 = .ok (.getfield 49, 3) := by decide +kernel
theorem dX6_state_138 : decode cX6_state 138 = .ok (.getfield 215, 3) := by decide +kernel
theorem dX6_state_141 : decode cX6_state 141 = .ok (.ireturn, 1) := by decide +kernel
theorem dX6_state_142 : decode cX6_state 142 = .ok (.aload_n 0, 1) := by decide +kernel
theorem dX6_state_143 : decode cX6_state 143 = .ok (.getfield 49, 3) := by decide +kernel
theorem dX6_state_146 : decode cX6_state 146 = .ok (.getfield 216, 3) := by decide +kernel
theorem dX6_state_149 : decode cX6_state 149 = .ok (.ireturn, 1) := by decide +kernel
theorem dX6_state_150 : decode cX6_state 150 = .ok (.iconst (-1), 1) := by decide +kernel
theorem dX6_state_151 : decode cX6_state 151 = .ok (.ireturn, 1) := by decide +kernel
theorem dX6_clash_0 : decode cX6_clash 0 = .ok (.aload_n 0, 1) := by decide +kernel
theorem dX6_clash_1 : decode cX6_clash 1 = .ok (.iload_n 1, 1) := by decide +kernel
theorem dX6_clash_2 : decode cX6_clash 2 = .ok (.invokevirtual 94, 3) := by decide +kernel
theorem dX6_clash_5 : decode cX6_clash 5 = .ok (.ifnull 28, 3) := by decide +kernel
theorem dX6_clash_8 : decode cX6_clash 8 = .ok (.aload_n 0, 1) := by decide +kernel
theorem dX6_clash_9 : decode cX6_clash 9 = .ok (.iload_n 2, 1) := by decide +kernel
theorem dX6_clash_10 : decode cX6_clash 10 = .ok (.invokevirtual 94, 3) := by decide +kernel
theorem dX6_clash_13 : decode cX6_clash 13 = .ok (.ifnull 20, 3) := by decide +kernel
theorem dX6_clash_16 : decode cX6_clash 16 = .ok (.iload_n 3, 1) := by decide +kernel
theorem dX6_clash_17 : decode cX6_clash 17 = .ok (.bipush 16, 2) := by decide +kernel
theorem dX6_clash_19 : decode cX6_clash 19 = .ok (.invokestatic 66, 3) := by decide +kernel
theorem dX6_clash_22 : decode cX6_clash 22 = .ok (.ifCond .eq 11, 3) := by decide +kernel
theorem dX6_clash_25 : decode cX6_clash 25 = .ok (.iload 4, 2) := by decide +kernel
theorem dX6_clash_27 : decode cX6_clash 27 = .ok (.invokestatic 112, 3) := by decide +kernel
theorem dX6_clash_30 : decode cX6_clash 30 = .ok (.ifCond .ne 5, 3) := by decide +kernel
theorem dX6_clash_33 : decode cX6_clash 33 = .ok (.iconst (-1), 1) := by decide +kernel
theorem dX6_clash_34 : decode cX6_clash 34 = .ok (.ireturn, 1) := by decide +kernel
theorem dX6_clash_35 : decode cX6_clash 35 = .ok (.aload_n 0, 1) := by decide +kernel
theorem dX6_clash_36 : decode cX6_clash 36 = .ok (.iload_n 1, 1) := by decide +kernel
theorem dX6_clash_37 : decode cX6_clash 37 = .ok (.iload_n 2, 1) := by decide +kernel
theorem dX6_clash_38 : decode cX6_clash 38 = .ok (.iload_n 3, 1) := by decide +kernel
theorem dX6_clash_39 : decode cX6_clash 39 = .ok (.iload 4, 2) := by decide +kernel
theorem dX6_clash_41 : decode cX6_clash 41 = .ok (.invokevirtual 137, 3) := by decide +kernel
theorem dX6_clash_44 : decode cX6_clash 44 = .ok (.aload_n 0, 1) := by decide +kernel
theorem dX6_clash_45 : decode cX6_clash 45 = .ok (.getfield 62, 3) := by decide +kernel
theorem dX6_clash_48 : decode cX6_clash 48 = .ok (.getfield 219, 3) := by decide +kernel
theorem dX6_clash_51 : decode cX6_clash 51 = .ok (.ireturn, 1) := by decide +kernel
theorem dX6_first_0 : decode cX6_first 0 = .ok (.aload_n 0, 1) := by decide +kernel
theorem dX6_first_1 : decode cX6_first 1 = .ok (.iload_n 1, 1) := by decide +kernel
theorem dX6_first_2 : decode cX6_first 2 = .ok (.invokevirtual 94, 3) := by decide +kernel
theorem dX6_first_5 : decode cX6_first 5 = .ok (.ifnull 19, 3) := by decide +kernel
theorem dX6_first_8 : decode cX6_first 8 = .ok (.iload_n 2, 1) := by decide +kernel
theorem dX6_first_9 : decode cX6_first 9 = .ok (.bipush 16, 2) := by decide +kernel
theorem dX6_first_11 : decode cX6_first 11 = .ok (.invokestatic 66, 3) := by decide +kernel
theorem dX6_first_14 : decode cX6_first 14 = .ok (.ifCond .eq 10, 3) := by decide +kernel
theorem dX6_first_17 : decode cX6_first 17 = .ok (.iload_n 3, 1) := by decide +kernel
theorem dX6_first_18 : decode cX6_first 18 = .ok (.invokestatic 112, 3) := by decide +kernel
theorem dX6_first_21 : decode cX6_first 21 = .ok (.ifCond .ne 5, 3) := by decide +kernel
theorem dX6_first_24 : decode cX6_first 24 = .ok (.iconst (-1), 1) := by decide +kernel
theorem dX6_first_25 : decode cX6_first 25 = .ok (.ireturn, 1) := by decide +kernel
theorem dX6_first_26 : decode cX6_first 26 = .ok (.iconst (-1), 1) := by decide +kernel
theorem dX6_first_27 : decode cX6_first 27 = .ok (.istore 4, 2) := by decide +kernel
theorem dX6_first_29 : decode cX6_first 29 = .ok (.iconst (-1), 1) := by decide +kernel
theorem dX6_first_30 : decode cX6_first 30 = .ok (.istore 5, 2) := by decide +kernel
theorem dX6_first_32 : decode cX6_first 32 = .ok (.iconst 0, 1) := by decide +kernel
theorem dX6_first_33 : decode cX6_first 33 = .ok (.istore 6, 2) := by decide +kernel
theorem dX6_first_35 : decode cX6_first 35 = .ok (.iload 6, 2) := by decide +kernel
theorem dX6_first_37 : decode cX6_first 37 = .ok (.aload_n 0, 1) := by decide +kernel
theorem dX6_first_38 : decode cX6_first 38 = .ok (.getfield 36, 3) := by decide +kernel
theorem dX6_first_41 : decode cX6_first 41 = .ok (.if_icmp .ge 59, 3) := by decide +kernel
theorem dX6_first_44 : decode cX6_first 44 = .ok (.aload_n 0, 1) := by decide +kernel
theorem dX6_first_45 : decode cX6_first 45 = .ok (.iload 6, 2) := by decide +kernel
theorem dX6_first_47 : decode cX6_first 47 = .ok (.iload_n 1, 1) := by decide +kernel
theorem dX6_first_48 : decode cX6_first 48 = .ok (.iload_n 2, 1) := by decide +kernel
theorem dX6_first_49 : decode cX6_first 49 = .ok (.iload_n 3, 1) := by decide +kernel
theorem dX6_first_50 : decode cX6_first 50 = .ok (.invokevirtual 137, 3) := by decide +kernel
theorem dX6_first_53 : decode cX6_first 53 = .ok (.aload_n 0, 1) := by decide +kernel
theorem dX6_first_54 : decode cX6_first 54 = .ok (.getfield 62, 3) := by decide +kernel
theorem dX6_first_57 : decode cX6_first 57 = .ok (.invokevirtual 141, 3) := by decide +kernel
theorem dX6_first_60 : decode cX6_first 60 = .ok (.ifCond .eq 34, 3) := by decide +kernel
theorem dX6_first_63 : decode cX6_first 63 = .ok (.iload 4, 2) := by decide +kernel
theorem dX6_first_65 : decode cX6_first 65 = .ok (.iconst (-1), 1) := by decide +kernel
theorem dX6_first_66 : decode cX6_first 66 = .ok (.if_icmp .eq 15, 3) := by decide +kernel
theorem dX6_first_69 : decode cX6_first 69 = .ok (.aload_n 0, 1) := by decide +kernel
theorem dX6_first_70 : decode cX6_first 70 = .ok (.getfield 62, 3) := by decide +kernel
theorem dX6_first_73 : decode cX6_first 73 = .ok (.getfield 222, 3) := by decide +kernel
theorem dX6_first_76 : decode cX6_first 76 = .ok (.iload 5, 2) := by decide +kernel
theorem dX6_first_78 : decode cX6_first 78 = .ok (.if_icmp .ge 16, 3) := by decide +kernel
theorem dX6_first_81 : decode cX6_first 81 = .ok (.iload 6, 2) := by decide +kernel
theorem dX6_first_83 : decode cX6_first 83 = .ok (.istore 4, 2) := by decide +kernel
theorem dX6_first_85 : decode cX6_first 85 = .ok (.aload_n 0, 1) := by decide +kernel
theorem dX6_first_86 : decode cX6_first 86 = .ok (.getfield 62, 3) := by decide +kernel
theorem dX6_first_89 : decode cX6_first 89 = .ok (.getfield 222, 3) := by decide +kernel
theorem dX6_first_92 : decode cX6_first 92 = .ok (.istore 5, 2) := by decide +kernel
theorem dX6_first_94 : decode cX6_first 94 = .ok (.iinc 6 1, 3) := by decide +kernel
theorem dX6_first_97 : decode cX6_first 97 = .ok (.goto (-62), 3) := by decide +kernel
theorem dX6_first_100 : decode cX6_first 100 = .ok (.iload 4, 2) := by decide +kernel
theorem dX6_first_102 : decode cX6_first 102 = .ok (.ireturn, 1) := by decide +kernel
theorem dX6_may_0 : decode cX6_may 0 = .ok (.iload_n 1, 1) := by decide +kernel
theorem dX6_may_1 : decode cX6_may 1 = .ok (.bipush 100, 2) := by decide +kernel
theorem dX6_may_3 : decode cX6_may 3 = .ok (.invokestatic 66, 3) := by decide +kernel
theorem dX6_may_6 : decode cX6_may 6 = .ok (.ifCond .eq 39, 3) := by decide +kernel
theorem dX6_may_9 : decode cX6_may 9 = .ok (.aload_n 0, 1) := by decide +kernel
theorem dX6_may_10 : decode cX6_may 10 = .ok (.iload_n 2, 1) := by decide +kernel
theorem dX6_may_11 : decode cX6_may 11 = .ok (.invokevirtual 94, 3) := by decide +kernel
theorem dX6_may_14 : decode cX6_may 14 = .ok (.ifnull 31, 3) := by decide +kernel
theorem dX6_may_17 : decode cX6_may 17 = .ok (.iload_n 3, 1) := by decide +kernel
theorem dX6_may_18 : decode cX6_may 18 = .ok (.sipush 360, 3) := by decide +kernel
theorem dX6_may_21 : decode cX6_may 21 = .ok (.invokestatic 66, 3) := by decide +kernel
theorem dX6_may_24 : decode cX6_may 24 = .ok (.ifCond .eq 21, 3) := by decide +kernel
theorem dX6_may_27 : decode cX6_may 27 = .ok (.iload 4, 2) := by decide +kernel
theorem dX6_may_29 : decode cX6_may 29 = .ok (.bipush 16, 2) := by decide +kernel
theorem dX6_may_31 : decode cX6_may 31 = .ok (.invokestatic 66, 3) := by decide +kernel
theorem dX6_may_34 : decode cX6_may 34 = .ok (.ifCond .eq 11, 3) := by decide +kernel
theorem dX6_may_37 : decode cX6_may 37 = .ok (.iload 5, 2) := by decide +kernel
theorem dX6_may_39 : decode cX6_may 39 = .ok (.invokestatic 112, 3) := by decide +kernel
theorem dX6_may_42 : decode cX6_may 42 = .ok (.ifCond .ne 5, 3) := by decide +kernel
theorem dX6_may_45 : decode cX6_may 45 = .ok (.iconst (-1), 1) := by decide +kernel
theorem dX6_may_46 : decode cX6_may 46 = .ok (.ireturn, 1) := by decide +kernel
theorem dX6_may_47 : decode cX6_may 47 = .ok (.iconst 0, 1) := by decide +kernel
theorem dX6_may_48 : decode cX6_may 48 = .ok (.istore 6, 2) := by decide +kernel
theorem dX6_may_50 : decode cX6_may 50 = .ok (.iconst (-1), 1) := by decide +kernel
theorem dX6_may_51 : decode cX6_may 51 = .ok (.istore 7, 2) := by decide +kernel
theorem dX6_may_53 : decode cX6_may 53 = .ok (.iconst (-1), 1) := by decide +kernel
theorem dX6_may_54 : decode cX6_may 54 = .ok (.istore 8, 2) := by decide +kernel
theorem dX6_may_56 : decode cX6_may 56 = .ok (.iconst 0, 1) := by decide +kernel
theorem dX6_may_57 : decode cX6_may 57 = .ok (.istore 9, 2) := by decide +kernel
theorem dX6_may_59 : decode cX6_may 59 = .ok (.iload 9, 2) := by decide +kernel
theorem dX6_may_61 : decode cX6_may 61 = .ok (.aload_n 0, 1) := by decide +kernel
theorem dX6_may_62 : decode cX6_may 62 = .ok (.getfield 36, 3) := by decide +kernel
theorem dX6_may_65 : decode cX6_may 65 = .ok (.if_icmp .ge 114, 3) := by decide +kernel
theorem dX6_may_68 : decode cX6_may 68 = .ok (.aload_n 0, 1) := by decide +kernel
theorem dX6_may_69 : decode cX6_may 69 = .ok (.getfield 49, 3) := by decide +kernel
theorem dX6_may_72 : decode cX6_may 72 = .ok (.aload_n 0, 1) := by decide +kernel
theorem dX6_may_73 : decode cX6_may 73 = .ok (.getfield 32, 3) := by decide +kernel
theorem dX6_may_76 : decode cX6_may 76 = .ok (.iload 9, 2) := by decide +kernel
theorem dX6_may_78 : decode cX6_may 78 = .ok (.iload 4, 2) := by decide +kernel
theorem dX6_may_80 : decode cX6_may 80 = .ok (.iload 5, 2) := by decide +kernel
theorem dX6_may_82 : decode cX6_may 82 = .ok (.invokevirtual 118, 3) := by decide +kernel
theorem dX6_may_85 : decode cX6_may 85 = .ok (.aload_n 0, 1) := by decide +kernel
theorem dX6_may_86 : decode cX6_may 86 = .ok (.iload_n 3, 1) := by decide +kernel
theorem dX6_may_87 : decode cX6_may 87 = .ok (.invokevirtual 225, 3) := by decide +kernel
theorem dX6_may_90 : decode cX6_may 90 = .ok (.istore 10, 2) := by decide +kernel
theorem dX6_may_92 : decode cX6_may 92 = .ok (.iload 10, 2) := by decide +kernel
theorem dX6_may_94 : decode cX6_may 94 = .ok (.iconst (-1), 1) := by decide +kernel
theorem dX6_may_95 : decode cX6_may 95 = .ok (.if_icmp .eq 78, 3) := by decide +kernel
theorem dX6_may_98 : decode cX6_may 98 = .ok (.iload 9, 2) := by decide +kernel
theorem dX6_may_100 : decode cX6_may 100 = .ok (.iload_n 2, 1) := by decide +kernel
theorem dX6_may_101 : decode cX6_may 101 = .ok (.if_icmp .eq 16, 3) := by decide +kernel
theorem dX6_may_104 : decode cX6_may 104 = .ok (.aload_n 0, 1) := by decide +kernel
theorem dX6_may_105 : decode cX6_may 105 = .ok (.iload 9, 2) := by decide +kernel
theorem dX6_may_107 : decode cX6_may 107 = .ok (.iload_n 2, 1) := by decide +kernel
theorem dX6_may_108 : decode cX6_may 108 = .ok (.invokevirtual 228, 3) := by decide +kernel
theorem dX6_may_111 : decode cX6_may 111 = .ok (.ifCond .ne 6, 3) := by decide +kernel
theorem dX6_may_114 : decode cX6_may 114 = .ok (.goto 59, 3) := by decide +kernel
theorem dX6_may_117 : decode cX6_may 117 = .ok (.aload_n 0, 1) := by decide +kernel
theorem dX6_may_118 : decode cX6_may 118 = .ok (.iload_n 1, 1) := by decide +kernel
theorem dX6_may_119 : decode cX6_may 119 = .ok (.iload 9, 2) := by decide +kernel
theorem dX6_may_121 : decode cX6_may 121 = .ok (.iload 5, 2) := by decide +kernel
theorem dX6_may_123 : decode cX6_may 123 = .ok (.invokevirtual 231, 3) := by decide +kernel
theorem dX6_may_126 : decode cX6_may 126 = .ok (.istore 11, 2) := by decide +kernel
theorem dX6_may_128 : decode cX6_may 128 = .ok (.iload 11, 2) := by decide +kernel
theorem dX6_may_130 : decode cX6_may 130 = .ok (.ifCond .ne 27, 3) := by decide +kernel
theorem dX6_may_133 : decode cX6_may 133 = .ok (.iload 7, 2) := by decide +kernel
theorem dX6_may_135 : decode cX6_may 135 = .ok (.iconst (-1), 1) := by decide +kernel
theorem dX6_may_136 : decode cX6_may 136 = .ok (.if_icmp .eq 10, 3) := by decide +kernel
theorem dX6_may_139 : decode cX6_may 139 = .ok (.iload 10, 2) := by decide +kernel
theorem dX6_may_141 : decode cX6_may 141 = .ok (.iload 8, 2) := by decide +kernel
theorem dX6_may_143 : decode cX6_may 143 = .ok (.if_icmp .ge 30, 3) := by decide +kernel
theorem dX6_may_146 : decode cX6_may 146 = .ok (.iload 9, 2) := by decide +kernel
theorem dX6_may_148 : decode cX6_may 148 = .ok (.istore 7, 2) := by decide +kernel
theorem dX6_may_150 : decode cX6_may 150 = .ok (.iload 10, 2) := by decide +kernel
theorem dX6_may_152 : decode cX6_may 152 = .ok (.istore 8, 2) := by decide +kernel
theorem dX6_may_154 : decode cX6_may 154 = .ok (.goto 19, 3) := by decide +kernel
theorem dX6_may_157 : decode cX6_may 157 = .ok (.iload 6, 2) := by decide +kernel
theorem dX6_may_159 : decode cX6_may 159 = .ok (.ifCond .eq 10, 3) := by decide +kernel
theorem dX6_may_162 : decode cX6_may 162 = .ok (.iload 11, 2) := by decide +kernel
theorem dX6_may_164 : decode cX6_may 164 = .ok (.iload 6, 2) := by decide +kernel
theorem dX6_may_166 : decode cX6_may 166 = .ok (.if_icmp .ge 7, 3) := by decide +kernel
theorem dX6_may_169 : decode cX6_may 169 = .ok (.iload 11, 2) := by decide +kernel
theorem dX6_may_171 : decode cX6_may 171 = .ok (.istore 6, 2) := by decide +kernel
theorem dX6_may_173 : decode cX6_may 173 = .ok (.iinc 9 1, 3) := by decide +kernel
theorem dX6_may_176 : decode cX6_may 176 = .ok (.goto (-117), 3) := by decide +kernel
theorem dX6_may_179 : decode cX6_may 179 = .ok (.iload 7, 2) := by decide +kernel
theorem dX6_may_181 : decode cX6_may 181 = .ok (.iconst (-1), 1) := by decide +kernel
theorem dX6_may_182 : decode cX6_may 182 = .ok (.if_icmp .ne 8, 3) := by decide +kernel
theorem dX6_may_185 : decode cX6_may 185 = .ok (.iload 6, 2) := by decide +kernel
theorem dX6_may_187 : decode cX6_may 187 = .ok (.goto 8, 3) := by decide +kernel
theorem dX6_may_190 : decode cX6_may 190 = .ok (.bipush 10, 2) := by decide +kernel
theorem dX6_may_192 : decode cX6_may 192 = .ok (.iload 7, 2) := by decide +kernel
theorem dX6_may_194 : decode cX6_may 194 = .ok (.iadd, 1) := by decide +kernel
theorem dX6_may_195 : decode cX6_may 195 = .ok (.ireturn, 1) := by decide +kernel
theorem dX6_watch_0 : decode cX6_watch 0 = .ok (.aload_n 0, 1) := by decide +kernel
theorem dX6_watch_1 : decode cX6_watch 1 = .ok (.getfield 32, 3) := by decide +kernel
theorem dX6_watch_4 : decode cX6_watch 4 = .ok (.iconst 1, 1) := by decide +kernel
theorem dX6_watch_5 : decode cX6_watch 5 = .ok (.invokevirtual 235, 3) := by decide +kernel
theorem dX6_watch_8 : decode cX6_watch 8 = .ok (.istore_n 2, 1) := by decide +kernel
theorem dX6_watch_9 : decode cX6_watch 9 = .ok (.iload_n 1, 1) := by decide +kernel
theorem dX6_watch_10 : decode cX6_watch 10 = .ok (.ifCond .lt 16, 3) := by decide +kernel
theorem dX6_watch_13 : decode cX6_watch 13 = .ok (.iload_n 1, 1) := by decide +kernel
theorem dX6_watch_14 : decode cX6_watch 14 = .ok (.aload_n 0, 1) := by decide +kernel
theorem dX6_watch_15 : decode cX6_watch 15 = .ok (.getfield 36, 3) := by decide +kernel
theorem dX6_watch_18 : decode cX6_watch 18 = .ok (.if_icmp .ge 8, 3) := by decide +kernel
theorem dX6_watch_21 : decode cX6_watch 21 = .ok (.iload_n 2, 1) := by decide +kernel
theorem dX6_watch_22 : decode cX6_watch 22 = .ok (.iconst (-1), 1) := by decide +kernel
theorem dX6_watch_23 : decode cX6_watch 23 = .ok (.if_icmp .ne 5, 3) := by decide +kernel
theorem dX6_watch_26 : decode cX6_watch 26 = .ok (.iconst (-1), 1) := by decide +kernel
theorem dX6_watch_27 : decode cX6_watch 27 = .ok (.ireturn, 1) := by decide +kernel
theorem dX6_watch_28 : decode cX6_watch 28 = .ok (.aload_n 0, 1) := by decide +kernel
theorem dX6_watch_29 : decode cX6_watch 29 = .ok (.getfield 32, 3) := by decide +kernel
theorem dX6_watch_32 : decode cX6_watch 32 = .ok (.getfield 158, 3) := by decide +kernel
theorem dX6_watch_35 : decode cX6_watch 35 = .ok (.iload_n 2, 1) := by decide +kernel
theorem dX6_watch_36 : decode cX6_watch 36 = .ok (.iaload, 1) := by decide +kernel
theorem dX6_watch_37 : decode cX6_watch 37 = .ok (.istore_n 3, 1) := by decide +kernel
theorem dX6_watch_38 : decode cX6_watch 38 = .ok (.aload_n 0, 1) := by decide +kernel
theorem dX6_watch_39 : decode cX6_watch 39 = .ok (.getfield 32, 3) := by decide +kernel
theorem dX6_watch_42 : decode cX6_watch 42 = .ok (.getfield 160, 3) := by decide +kernel
theorem dX6_watch_45 : decode cX6_watch 45 = .ok (.iload_n 2, 1) := by decide +kernel
theorem dX6_watch_46 : decode cX6_watch 46 = .ok (.iaload, 1) := by decide +kernel
theorem dX6_watch_47 : decode cX6_watch 47 = .ok (.istore 4, 2) := by decide +kernel
theorem dX6_watch_49 : decode cX6_watch 49 = .ok (.aload_n 0, 1) := by decide +kernel
theorem dX6_watch_50 : decode cX6_watch 50 = .ok (.getfield 32, 3) := by decide +kernel
theorem dX6_watch_53 : decode cX6_watch 53 = .ok (.getfield 163, 3) := by decide +kernel
theorem dX6_watch_56 : decode cX6_watch 56 = .ok (.iload_n 2, 1) := by decide +kernel
theorem dX6_watch_57 : decode cX6_watch 57 = .ok (.iaload, 1) := by decide +kernel
theorem dX6_watch_58 : decode cX6_watch 58 = .ok (.istore 5, 2) := by decide +kernel
theorem dX6_watch_60 : decode cX6_watch 60 = .ok (.aload_n 0, 1) := by decide +kernel
theorem dX6_watch_61 : decode cX6_watch 61 = .ok (.getfield 53, 3) := by decide +kernel
theorem dX6_watch_64 : decode cX6_watch 64 = .ok (.aload_n 0, 1) := by decide +kernel
theorem dX6_watch_65 : decode cX6_watch 65 = .ok (.getfield 32, 3) := by decide +kernel
theorem dX6_watch_68 : decode cX6_watch 68 = .ok (.iload_n 3, 1) := by decide +kernel
theorem dX6_watch_69 : decode cX6_watch 69 = .ok (.iload 4, 2) := by decide +kernel
theorem dX6_watch_71 : decode cX6_watch 71 = .ok (.iload 5, 2) := by decide +kernel
theorem dX6_watch_73 : decode cX6_watch 73 = .ok (.invokevirtual 118, 3) := by decide +kernel
theorem dX6_watch_76 : decode cX6_watch 76 = .ok (.iload_n 1, 1) := by decide +kernel
theorem dX6_watch_77 : decode cX6_watch 77 = .ok (.istore 6, 2) := by decide +kernel
theorem dX6_watch_79 : decode cX6_watch 79 = .ok (.iconst 0, 1) := by decide +kernel
theorem dX6_watch_80 : decode cX6_watch 80 = .ok (.istore 7, 2) := by decide +kernel
theorem dX6_watch_82 : decode cX6_watch 82 = .ok (.iload 7, 2) := by decide +kernel
theorem dX6_watch_84 : decode cX6_watch 84 = .ok (.aload_n 0, 1) := by decide +kernel
theorem dX6_watch_85 : decode cX6_watch 85 = .ok (.getfield 36, 3) := by decide +kernel
theorem dX6_watch_88 : decode cX6_watch 88 = .ok (.if_icmp .ge 67, 3) := by decide +kernel
theorem dX6_watch_91 : decode cX6_watch 91 = .ok (.aload_n 0, 1) := by decide +kernel
theorem dX6_watch_92 : decode cX6_watch 92 = .ok (.iload 7, 2) := by decide +kernel
theorem dX6_watch_94 : decode cX6_watch 94 = .ok (.iload_n 3, 1) := by decide +kernel
theorem dX6_watch_95 : decode cX6_watch 95 = .ok (.invokevirtual 238, 3) := by decide +kernel
theorem dX6_watch_98 : decode cX6_watch 98 = .ok (.ifCond .eq 6, 3) := by decide +kernel
theorem dX6_watch_101 : decode cX6_watch 101 = .ok (.goto 48, 3) := by decide +kernel
theorem dX6_watch_104 : decode cX6_watch 104 = .ok (.aload_n 0, 1) := by decide +kernel
theorem dX6_watch_105 : decode cX6_watch 105 = .ok (.getfield 49, 3) := by decide +kernel
theorem dX6_watch_108 : decode cX6_watch 108 = .ok (.aload_n 0, 1) := by decide +kernel
theorem dX6_watch_109 : decode cX6_watch 109 = .ok (.getfield 32, 3) := by decide +kernel
theorem dX6_watch_112 : decode cX6_watch 112 = .ok (.iload 7, 2) := by decide +kernel
theorem dX6_watch_114 : decode cX6_watch 114 = .ok (.iload 4, 2) := by decide +kernel
theorem dX6_watch_116 : decode cX6_watch 116 = .ok (.iload 5, 2) := by decide +kernel
theorem dX6_watch_118 : decode cX6_watch 118 = .ok (.invokevirtual 118, 3) := by decide +kernel
theorem dX6_watch_121 : decode cX6_watch 121 = .ok (.aload_n 0, 1) := by decide +kernel
theorem dX6_watch_122 : decode cX6_watch 122 = .ok (.invokevirtual 241, 3) := by decide +kernel
theorem dX6_watch_125 : decode cX6_watch 125 = .ok (.ifCond .eq 24, 3) := by decide +kernel
theorem dX6_watch_128 : decode cX6_watch 128 = .ok (.aload_n 0, 1) := by decide +kernel
theorem dX6_watch_129 : decode cX6_watch 129 = .ok (.iload 7, 2) := by decide +kernel
theorem dX6_watch_131 : decode cX6_watch 131 = .ok (.iload_n 3, 1) := by decide +kernel
theorem dX6_watch_132 : decode cX6_watch 132 = .ok (.invokevirtual 228, 3) := by decide +kernel
theorem dX6_watch_135 : decode cX6_watch 135 = .ok (.ifCond .eq 14, 3) := by decide +kernel
theorem dX6_watch_138 : decode cX6_watch 138 = .ok (.iload 6, 2) := by decide +kernel
theorem dX6_watch_140 : decode cX6_watch 140 = .ok (.ifCond .ne 6, 3) := by decide +kernel
theorem dX6_watch_143 : decode cX6_watch 143 = .ok (.iload 7, 2) := by decide +kernel
theorem dX6_watch_145 : decode cX6_watch 145 = .ok (.ireturn, 1) := by decide +kernel
theorem dX6_watch_146 : decode cX6_watch 146 = .ok (.iinc 6 (-1), 3) := by decide +kernel
theorem dX6_watch_149 : decode cX6_watch 149 = .ok (.iinc 7 1, 3) := by decide +kernel
theorem dX6_watch_152 : decode cX6_watch 152 = .ok (.goto (-70), 3) := by decide +kernel
theorem dX6_watch_155 : decode cX6_watch 155 = .ok (.iconst (-1), 1) := by decide +kernel
theorem dX6_watch_156 : decode cX6_watch 156 = .ok (.ireturn, 1) := by decide +kernel
theorem dX6_about_0 : decode cX6_about 0 = .ok (.iload_n 1, 1) := by decide +kernel
theorem dX6_about_1 : decode cX6_about 1 = .ok (.tableswitch 78 0 5 #[39, 44, 52, 60, 68, 73], 39) := by decide +kernel
theorem dX6_about_40 : decode cX6_about 40 = .ok (.aload_n 0, 1) := by decide +kernel
theorem dX6_about_41 : decode cX6_about 41 = .ok (.getfield 36, 3) := by decide +kernel
theorem dX6_about_44 : decode cX6_about 44 = .ok (.ireturn, 1) := by decide +kernel
theorem dX6_about_45 : decode cX6_about 45 = .ok (.aload_n 0, 1) := by decide +kernel
theorem dX6_about_46 : decode cX6_about 46 = .ok (.getfield 32, 3) := by decide +kernel
theorem dX6_about_49 : decode cX6_about 49 = .ok (.getfield 151, 3) := by decide +kernel
theorem dX6_about_52 : decode cX6_about 52 = .ok (.ireturn, 1) := by decide +kernel
theorem dX6_about_53 : decode cX6_about 53 = .ok (.aload_n 0, 1) := by decide +kernel
theorem dX6_about_54 : decode cX6_about 54 = .ok (.getfield 32, 3) := by decide +kernel
theorem dX6_about_57 : decode cX6_about 57 = .ok (.invokevirtual 244, 3) := by decide +kernel
theorem dX6_about_60 : decode cX6_about 60 = .ok (.ireturn, 1) := by decide +kernel
theorem dX6_about_61 : decode cX6_about 61 = .ok (.aload_n 0, 1) := by decide +kernel
theorem dX6_about_62 : decode cX6_about 62 = .ok (.getfield 19, 3) := by decide +kernel
theorem dX6_about_65 : decode cX6_about 65 = .ok (.getfield 247, 3) := by decide +kernel
theorem dX6_about_68 : decode cX6_about 68 = .ok (.ireturn, 1) := by decide +kernel
theorem dX6_about_69 : decode cX6_about 69 = .ok (.aload_n 0, 1) := by decide +kernel
theorem dX6_about_70 : decode cX6_about 70 = .ok (.getfield 40, 3) := by decide +kernel
theorem dX6_about_73 : decode cX6_about 73 = .ok (.ireturn, 1) := by decide +kernel
theorem dX6_about_74 : decode cX6_about 74 = .ok (.aload_n 0, 1) := by decide +kernel
theorem dX6_about_75 : decode cX6_about 75 = .ok (.getfield 43, 3) := by decide +kernel
theorem dX6_about_78 : decode cX6_about 78 = .ok (.ireturn, 1) := by decide +kernel
theorem dX6_about_79 : decode cX6_about 79 = .ok (.iconst (-1), 1) := by decide +kernel
theorem dX6_about_80 : decode cX6_about 80 = .ok (.ireturn, 1) := by decide +kernel
theorem dX6_below_0 : decode cX6_below 0 = .ok (.iload_n 0, 1) := by decide +kernel
theorem dX6_below_1 : decode cX6_below 1 = .ok (.ifCond .lt 12, 3) := by decide +kernel
theorem dX6_below_4 : decode cX6_below 4 = .ok (.iload_n 0, 1) := by decide +kernel
theorem dX6_below_5 : decode cX6_below 5 = .ok (.iload_n 1, 1) := by decide +kernel
theorem dX6_below_6 : decode cX6_below 6 = .ok (.if_icmp .ge 7, 3) := by decide +kernel
theorem dX6_below_9 : decode cX6_below 9 = .ok (.iconst 1, 1) := by decide +kernel
theorem dX6_below_10 : decode cX6_below 10 = .ok (.goto 4, 3) := by decide +kernel
theorem dX6_below_13 : decode cX6_below 13 = .ok (.iconst 0, 1) := by decide +kernel
theorem dX6_below_14 : decode cX6_below 14 = .ok (.ireturn, 1) := by decide +kernel
theorem dX6_isDay_0 : decode cX6_isDay 0 = .ok (.iload_n 0, 1) := by decide +kernel
theorem dX6_isDay_1 : decode cX6_isDay 1 = .ok (.ifCond .lt 13, 3) := by decide +kernel
theorem dX6_isDay_4 : decode cX6_isDay 4 = .ok (.iload_n 0, 1) := by decide +kernel
theorem dX6_isDay_5 : decode cX6_isDay 5 = .ok (.ldc 248, 2) := by decide +kernel
theorem dX6_isDay_7 : decode cX6_isDay 7 = .ok (.if_icmp .gt 7, 3) := by decide +kernel
theorem dX6_isDay_10 : decode cX6_isDay 10 = .ok (.iconst 1, 1) := by decide +kernel
theorem dX6_isDay_11 : decode cX6_isDay 11 = .ok (.goto 4, 3) := by decide +kernel
theorem dX6_isDay_14 : decode cX6_isDay 14 = .ok (.iconst 0, 1) := by decide +kernel
theorem dX6_isDay_15 : decode cX6_isDay 15 = .ok (.ireturn, 1) := by decide +kernel
theorem dX6_markAt_0 : decode cX6_markAt 0 = .ok (.iload_n 1, 1) := by decide +kernel
theorem dX6_markAt_1 : decode cX6_markAt 1 = .ok (.aload_n 0, 1) := by decide +kernel
theorem dX6_markAt_2 : decode cX6_markAt 2 = .ok (.getfield 36, 3) := by decide +kernel
theorem dX6_markAt_5 : decode cX6_markAt 5 = .ok (.invokestatic 66, 3) := by decide +kernel
theorem dX6_markAt_8 : decode cX6_markAt 8 = .ok (.ifCond .eq 12, 3) := by decide +kernel
theorem dX6_markAt_11 : decode cX6_markAt 11 = .ok (.aload_n 0, 1) := by decide +kernel
theorem dX6_markAt_12 : decode cX6_markAt 12 = .ok (.getfield 25, 3) := by decide +kernel
theorem dX6_markAt_15 : decode cX6_markAt 15 = .ok (.iload_n 1, 1) := by decide +kernel
theorem dX6_markAt_16 : decode cX6_markAt 16 = .ok (.aaload, 1) := by decide +kernel
theorem dX6_markAt_17 : decode cX6_markAt 17 = .ok (.goto 4, 3) := by decide +kernel
theorem dX6_markAt_20 : decode cX6_markAt 20 = .ok (.aconst_null, 1) := by decide +kernel
theorem dX6_markAt_21 : decode cX6_markAt 21 = .ok (.areturn, 1) := by decide +kernel
theorem dX6_boundOfX_0 : decode cX6_boundOfX 0 = .ok (.iload_n 0, 1) := by decide +kernel
theorem dX6_boundOfX_1 : decode cX6_boundOfX 1 = .ok (.tableswitch 63 0 8 #[51, 55, 61, 51, 61, 58, 51, 61, 58], 51) := by decide +kernel
theorem dX6_boundOfX_52 : decode cX6_boundOfX 52 = .ok (.sipush 360, 3) := by decide +kernel
theorem dX6_boundOfX_55 : decode cX6_boundOfX 55 = .ok (.ireturn, 1) := by decide +kernel
theorem dX6_boundOfX_56 : decode cX6_boundOfX 56 = .ok (.bipush 16, 2) := by decide +kernel
theorem dX6_boundOfX_58 : decode cX6_boundOfX 58 = .ok (.ireturn, 1) := by decide +kernel
theorem dX6_boundOfX_59 : decode cX6_boundOfX 59 = .ok (.bipush 100, 2) := by decide +kernel
theorem dX6_boundOfX_61 : decode cX6_boundOfX 61 = .ok (.ireturn, 1) := by decide +kernel
theorem dX6_boundOfX_62 : decode cX6_boundOfX 62 = .ok (.iconst 1, 1) := by decide +kernel
theorem dX6_boundOfX_63 : decode cX6_boundOfX 63 = .ok (.ireturn, 1) := by decide +kernel
theorem dX6_boundOfX_64 : decode cX6_boundOfX 64 = .ok (.iconst 0, 1) := by decide +kernel
theorem dX6_boundOfX_65 : decode cX6_boundOfX 65 = .ok (.ireturn, 1) := by decide +kernel
theorem dX6_canBe_0 : decode cX6_canBe 0 = .ok (.iload_n 1, 1) := by decide +kernel
theorem dX6_canBe_1 : decode cX6_canBe 1 = .ok (.ifCond .eq 20, 3) := by decide +kernel
theorem dX6_canBe_4 : decode cX6_canBe 4 = .ok (.iload_n 1, 1) := by decide +kernel
theorem dX6_canBe_5 : decode cX6_canBe 5 = .ok (.iconst 1, 1) := by decide +kernel
theorem dX6_canBe_6 : decode cX6_canBe 6 = .ok (.if_icmp .eq 15, 3) := by decide +kernel
theorem dX6_canBe_9 : decode cX6_canBe 9 = .ok (.aload_n 0, 1) := by decide +kernel
theorem dX6_canBe_10 : decode cX6_canBe 10 = .ok (.getfield 49, 3) := by decide +kernel
theorem dX6_canBe_13 : decode cX6_canBe 13 = .ok (.invokevirtual 130, 3) := by decide +kernel
theorem dX6_canBe_16 : decode cX6_canBe 16 = .ok (.ifCond .ne 5, 3) := by decide +kernel
theorem dX6_canBe_19 : decode cX6_canBe 19 = .ok (.iconst 0, 1) := by decide +kernel
theorem dX6_canBe_20 : decode cX6_canBe 20 = .ok (.ireturn, 1) := by decide +kernel
theorem dX6_canBe_21 : decode cX6_canBe 21 = .ok (.iload_n 1, 1) := by decide +kernel
theorem dX6_canBe_22 : decode cX6_canBe 22 = .ok (.tableswitch 220 0 8 #[50, 79, 110, 118, 127, 143, 118, 164, 189], 50) := by decide +kernel
theorem dX6_canBe_72 : decode cX6_canBe 72 = .ok (.aload_n 0, 1) := by decide +kernel
theorem dX6_canBe_73 : decode cX6_canBe 73 = .ok (.getfield 49, 3) := by decide +kernel
theorem dX6_canBe_76 : decode cX6_canBe 76 = .ok (.getfield 215, 3) := by decide +kernel
theorem dX6_canBe_79 : decode cX6_canBe 79 = .ok (.bipush 20, 2) := by decide +kernel
theorem dX6_canBe_81 : decode cX6_canBe 81 = .ok (.if_icmp .ge 18, 3) := by decide +kernel
theorem dX6_canBe_84 : decode cX6_canBe 84 = .ok (.aload_n 0, 1) := by decide +kernel
theorem dX6_canBe_85 : decode cX6_canBe 85 = .ok (.getfield 49, 3) := by decide +kernel
theorem dX6_canBe_88 : decode cX6_canBe 88 = .ok (.iload_n 3, 1) := by decide +kernel
theorem dX6_canBe_89 : decode cX6_canBe 89 = .ok (.invokevirtual 249, 3) := by decide +kernel
theorem dX6_canBe_92 : decode cX6_canBe 92 = .ok (.ifCond .ne 7, 3) := by decide +kernel
theorem dX6_canBe_95 : decode cX6_canBe 95 = .ok (.iconst 1, 1) := by decide +kernel
theorem dX6_canBe_96 : decode cX6_canBe 96 = .ok (.goto 4, 3) := by decide +kernel
theorem dX6_canBe_99 : decode cX6_canBe 99 = .ok (.iconst 0, 1) := by decide +kernel
theorem dX6_canBe_100 : decode cX6_canBe 100 = .ok (.ireturn, 1) := by decide +kernel
theorem dX6_canBe_101 : decode cX6_canBe 101 = .ok (.aload_n 0, 1) := by decide +kernel
theorem dX6_canBe_102 : decode cX6_canBe 102 = .ok (.getfield 49, 3) := by decide +kernel
theorem dX6_canBe_105 : decode cX6_canBe 105 = .ok (.getfield 252, 3) := by decide +kernel
theorem dX6_canBe_108 : decode cX6_canBe 108 = .ok (.ifCond .eq 22, 3) := by decide +kernel
theorem dX6_canBe_111 : decode cX6_canBe 111 = .ok (.aload_n 0, 1) := by decide +kernel
theorem dX6_canBe_112 : decode cX6_canBe 112 = .ok (.getfield 32, 3) := by decide +kernel
theorem dX6_canBe_115 : decode cX6_canBe 115 = .ok (.iconst 1, 1) := by decide +kernel
theorem dX6_canBe_116 : decode cX6_canBe 116 = .ok (.iload_n 2, 1) := by decide +kernel
theorem dX6_canBe_117 : decode cX6_canBe 117 = .ok (.iload_n 3, 1) := by decide +kernel
theorem dX6_canBe_118 : decode cX6_canBe 118 = .ok (.iload 4, 2) := by decide +kernel
theorem dX6_canBe_120 : decode cX6_canBe 120 = .ok (.invokevirtual 255, 3) := by decide +kernel
theorem dX6_canBe_123 : decode cX6_canBe 123 = .ok (.ifCond .ne 7, 3) := by decide +kernel
theorem dX6_canBe_126 : decode cX6_canBe 126 = .ok (.iconst 1, 1) := by decide +kernel
theorem dX6_canBe_127 : decode cX6_canBe 127 = .ok (.goto 4, 3) := by decide +kernel
theorem dX6_canBe_130 : decode cX6_canBe 130 = .ok (.iconst 0, 1) := by decide +kernel
theorem dX6_canBe_131 : decode cX6_canBe 131 = .ok (.ireturn, 1) := by decide +kernel
theorem dX6_canBe_132 : decode cX6_canBe 132 = .ok (.aload_n 0, 1) := by decide +kernel
theorem dX6_canBe_133 : decode cX6_canBe 133 = .ok (.getfield 49, 3) := by decide +kernel
theorem dX6_canBe_136 : decode cX6_canBe 136 = .ok (.invokevirtual 257, 3) := by decide +kernel
theorem dX6_canBe_139 : decode cX6_canBe 139 = .ok (.ireturn, 1) := by decide +kernel
theorem dX6_canBe_140 : decode cX6_canBe 140 = .ok (.aload_n 0, 1) := by decide +kernel
theorem dX6_canBe_141 : decode cX6_canBe 141 = .ok (.getfield 49, 3) := by decide +kernel
theorem dX6_canBe_144 : decode cX6_canBe 144 = .ok (.iload_n 3, 1) := by decide +kernel
theorem dX6_canBe_145 : decode cX6_canBe 145 = .ok (.invokevirtual 249, 3) := by decide +kernel
theorem dX6_canBe_148 : decode cX6_canBe 148 = .ok (.ireturn, 1) := by decide +kernel
theorem dX6_canBe_149 : decode cX6_canBe 149 = .ok (.aload_n 0, 1) := by decide +kernel
theorem dX6_canBe_150 : decode cX6_canBe 150 = .ok (.getfield 49, 3) := by decide +kernel
theorem dX6_canBe_153 : decode cX6_canBe 153 = .ok (.getfield 211, 3) := by decide +kernel
theorem dX6_canBe_156 : decode cX6_canBe 156 = .ok (.ifCond .ne 7, 3) := by decide +kernel
theorem dX6_canBe_159 : decode cX6_canBe 159 = .ok (.iconst 1, 1) := by decide +kernel
theorem dX6_canBe_160 : decode cX6_canBe 160 = .ok (.goto 4, 3) := by decide +kernel
theorem dX6_canBe_163 : decode cX6_canBe 163 = .ok (.iconst 0, 1) := by decide +kernel
theorem dX6_canBe_164 : decode cX6_canBe 164 = .ok (.ireturn, 1) := by decide +kernel
theorem dX6_canBe_165 : decode cX6_canBe 165 = .ok (.aload_n 0, 1) := by decide +kernel
theorem dX6_canBe_166 : decode cX6_canBe 166 = .ok (.getfield 32, 3) := by decide +kernel
theorem dX6_canBe_169 : decode cX6_canBe 169 = .ok (.iconst 5, 1) := by decide +kernel
theorem dX6_canBe_170 : decode cX6_canBe 170 = .ok (.iload_n 2, 1) := by decide +kernel
theorem dX6_canBe_171 : decode cX6_canBe 171 = .ok (.iload_n 3, 1) := by decide +kernel
theorem dX6_canBe_172 : decode cX6_canBe 172 = .ok (.iload 4, 2) := by decide +kernel
theorem dX6_canBe_174 : decode cX6_canBe 174 = .ok (.invokevirtual 255, 3) := by decide +kernel
theorem dX6_canBe_177 : decode cX6_canBe 177 = .ok (.ifCond .ne 7, 3) := by decide +kernel
theorem dX6_canBe_180 : decode cX6_canBe 180 = .ok (.iconst 1, 1) := by decide +kernel
theorem dX6_canBe_181 : decode cX6_canBe 181 = .ok (.goto 4, 3) := by decide +kernel
theorem dX6_canBe_184 : decode cX6_canBe 184 = .ok (.iconst 0, 1) := by decide +kernel
theorem dX6_canBe_185 : decode cX6_canBe 185 = .ok (.ireturn, 1) := by decide +kernel
theorem dX6_canBe_186 : decode cX6_canBe 186 = .ok (.aload_n 0, 1) := by decide +kernel
theorem dX6_canBe_187 : decode cX6_canBe 187 = .ok (.iload_n 2, 1) := by decide +kernel
theorem dX6_canBe_188 : decode cX6_canBe 188 = .ok (.iconst 4, 1) := by decide +kernel
theorem dX6_canBe_189 : decode cX6_canBe 189 = .ok (.invokevirtual 260, 3) := by decide +kernel
theorem dX6_canBe_192 : decode cX6_canBe 192 = .ok (.ifCond .eq 17, 3) := by decide +kernel
theorem dX6_canBe_195 : decode cX6_canBe 195 = .ok (.aload_n 0, 1) := by decide +kernel
theorem dX6_canBe_196 : decode cX6_canBe 196 = .ok (.getfield 49, 3) := by decide +kernel
theorem dX6_canBe_199 : decode cX6_canBe 199 = .ok (.getfield 263, 3) := by decide +kernel
theorem dX6_canBe_202 : decode cX6_canBe 202 = .ok (.ifCond .ne 7, 3) := by decide +kernel
theorem dX6_canBe_205 : decode cX6_canBe 205 = .ok (.iconst 1, 1) := by decide +kernel
theorem dX6_canBe_206 : decode cX6_canBe 206 = .ok (.goto 4, 3) := by decide +kernel
theorem dX6_canBe_209 : decode cX6_canBe 209 = .ok (.iconst 0, 1) := by decide +kernel
theorem dX6_canBe_210 : decode cX6_canBe 210 = .ok (.ireturn, 1) := by decide +kernel
theorem dX6_canBe_211 : decode cX6_canBe 211 = .ok (.aload_n 0, 1) := by decide +kernel
theorem dX6_canBe_212 : decode cX6_canBe 212 = .ok (.iload_n 2, 1) := by decide +kernel
theorem dX6_canBe_213 : decode cX6_canBe 213 = .ok (.iconst 3, 1) := by decide +kernel
theorem dX6_canBe_214 : decode cX6_canBe 214 = .ok (.invokevirtual 260, 3) := by decide +kernel
theorem dX6_canBe_217 : decode cX6_canBe 217 = .ok (.ifCond .eq 23, 3) := by decide +kernel
theorem dX6_canBe_220 : decode cX6_canBe 220 = .ok (.aload_n 0, 1) := by decide +kernel
theorem dX6_canBe_221 : decode cX6_canBe 221 = .ok (.getfield 32, 3) := by decide +kernel
theorem dX6_canBe_224 : decode cX6_canBe 224 = .ok (.bipush 8, 2) := by decide +kernel
theorem dX6_canBe_226 : decode cX6_canBe 226 = .ok (.iload_n 2, 1) := by decide +kernel
theorem dX6_canBe_227 : decode cX6_canBe 227 = .ok (.iload_n 3, 1) := by decide +kernel
theorem dX6_canBe_228 : decode cX6_canBe 228 = .ok (.iload 4, 2) := by decide +kernel
theorem dX6_canBe_230 : decode cX6_canBe 230 = .ok (.invokevirtual 255, 3) := by decide +kernel
theorem dX6_canBe_233 : decode cX6_canBe 233 = .ok (.ifCond .ne 7, 3) := by decide +kernel
theorem dX6_canBe_236 : decode cX6_canBe 236 = .ok (.iconst 1, 1) := by decide +kernel
theorem dX6_canBe_237 : decode cX6_canBe 237 = .ok (.goto 4, 3) := by decide +kernel
theorem dX6_canBe_240 : decode cX6_canBe 240 = .ok (.iconst 0, 1) := by decide +kernel
theorem dX6_canBe_241 : decode cX6_canBe 241 = .ok (.ireturn, 1) := by decide +kernel
theorem dX6_canBe_242 : decode cX6_canBe 242 = .ok (.iconst 0, 1) := by decide +kernel
theorem dX6_canBe_243 : decode cX6_canBe 243 = .ok (.ireturn, 1) := by decide +kernel
theorem dX6_isOfKind_0 : decode cX6_isOfKind 0 = .ok (.aload_n 0, 1) := by decide +kernel
theorem dX6_isOfKind_1 : decode cX6_isOfKind 1 = .ok (.iload_n 1, 1) := by decide +kernel
theorem dX6_isOfKind_2 : decode cX6_isOfKind 2 = .ok (.invokevirtual 94, 3) := by decide +kernel
theorem dX6_isOfKind_5 : decode cX6_isOfKind 5 = .ok (.astore_n 3, 1) := by decide +kernel
theorem dX6_isOfKind_6 : decode cX6_isOfKind 6 = .ok (.aload_n 3, 1) := by decide +kernel
theorem dX6_isOfKind_7 : decode cX6_isOfKind 7 = .ok (.ifnull 15, 3) := by decide +kernel
theorem dX6_isOfKind_10 : decode cX6_isOfKind 10 = .ok (.aload_n 3, 1) := by decide +kernel
theorem dX6_isOfKind_11 : decode cX6_isOfKind 11 = .ok (.getfield 166, 3) := by decide +kernel
theorem dX6_isOfKind_14 : decode cX6_isOfKind 14 = .ok (.iload_n 2, 1) := by decide +kernel
theorem dX6_isOfKind_15 : decode cX6_isOfKind 15 = .ok (.if_icmp .ne 7, 3) := by decide +kernel
theorem dX6_isOfKind_18 : decode cX6_isOfKind 18 = .ok (.iconst 1, 1) := by decide +kernel
theorem dX6_isOfKind_19 : decode cX6_isOfKind 19 = .ok (.goto 4, 3) := by decide +kernel
theorem dX6_isOfKind_22 : decode cX6_isOfKind 22 = .ok (.iconst 0, 1) := by decide +kernel
theorem dX6_isOfKind_23 : decode cX6_isOfKind 23 = .ok (.ireturn, 1) := by decide +kernel
theorem dX6_haveOneOwner_0 : decode cX6_haveOneOwner 0 = .ok (.aload_n 0, 1) := by decide +kernel
theorem dX6_haveOneOwner_1 : decode cX6_haveOneOwner 1 = .ok (.iload_n 1, 1) := by decide +kernel
theorem dX6_haveOneOwner_2 : decode cX6_haveOneOwner 2 = .ok (.invokevirtual 94, 3) := by decide +kernel
theorem dX6_haveOneOwner_5 : decode cX6_haveOneOwner 5 = .ok (.astore_n 3, 1) := by decide +kernel
theorem dX6_haveOneOwner_6 : decode cX6_haveOneOwner 6 = .ok (.aload_n 0, 1) := by decide +kernel
theorem dX6_haveOneOwner_7 : decode cX6_haveOneOwner 7 = .ok (.iload_n 2, 1) := by decide +kernel
theorem dX6_haveOneOwner_8 : decode cX6_haveOneOwner 8 = .ok (.invokevirtual 94, 3) := by decide +kernel
theorem dX6_haveOneOwner_11 : decode cX6_haveOneOwner 11 = .ok (.astore 4, 2) := by decide +kernel
theorem dX6_haveOneOwner_13 : decode cX6_haveOneOwner 13 = .ok (.aload_n 3, 1) := by decide +kernel
theorem dX6_haveOneOwner_14 : decode cX6_haveOneOwner 14 = .ok (.ifnull 24, 3) := by decide +kernel
theorem dX6_haveOneOwner_17 : decode cX6_haveOneOwner 17 = .ok (.aload 4, 2) := by decide +kernel
theorem dX6_haveOneOwner_19 : decode cX6_haveOneOwner 19 = .ok (.ifnull 19, 3) := by decide +kernel
theorem dX6_haveOneOwner_22 : decode cX6_haveOneOwner 22 = .ok (.aload_n 3, 1) := by decide +kernel
theorem dX6_haveOneOwner_23 : decode cX6_haveOneOwner 23 = .ok (.getfield 169, 3) := by decide +kernel
theorem dX6_haveOneOwner_26 : decode cX6_haveOneOwner 26 = .ok (.aload 4, 2) := by decide +kernel
theorem dX6_haveOneOwner_28 : decode cX6_haveOneOwner 28 = .ok (.getfield 169, 3) := by decide +kernel
theorem dX6_haveOneOwner_31 : decode cX6_haveOneOwner 31 = .ok (.if_icmp .ne 7, 3) := by decide +kernel
theorem dX6_haveOneOwner_34 : decode cX6_haveOneOwner 34 = .ok (.iconst 1, 1) := by decide +kernel
theorem dX6_haveOneOwner_35 : decode cX6_haveOneOwner 35 = .ok (.goto 4, 3) := by decide +kernel
theorem dX6_haveOneOwner_38 : decode cX6_haveOneOwner 38 = .ok (.iconst 0, 1) := by decide +kernel
theorem dX6_haveOneOwner_39 : decode cX6_haveOneOwner 39 = .ok (.ireturn, 1) := by decide +kernel
theorem dX6_likeOf_0 : decode cX6_likeOf 0 = .ok (.aload_n 1, 1) := by decide +kernel
theorem dX6_likeOf_1 : decode cX6_likeOf 1 = .ok (.invokevirtual 266, 3) := by decide +kernel
theorem dX6_likeOf_4 : decode cX6_likeOf 4 = .ok (.ifCond .eq 62, 3) := by decide +kernel
theorem dX6_likeOf_7 : decode cX6_likeOf 7 = .ok (.aload_n 2, 1) := by decide +kernel
theorem dX6_likeOf_8 : decode cX6_likeOf 8 = .ok (.invokevirtual 266, 3) := by decide +kernel
theorem dX6_likeOf_11 : decode cX6_likeOf 11 = .ok (.ifCond .eq 55, 3) := by decide +kernel
theorem dX6_likeOf_14 : decode cX6_likeOf 14 = .ok (.aload_n 1, 1) := by decide +kernel
theorem dX6_likeOf_15 : decode cX6_likeOf 15 = .ok (.aload_n 2, 1) := by decide +kernel
theorem dX6_likeOf_16 : decode cX6_likeOf 16 = .ok (.invokevirtual 269, 3) := by decide +kernel
theorem dX6_likeOf_19 : decode cX6_likeOf 19 = .ok (.istore_n 3, 1) := by decide +kernel
theorem dX6_likeOf_20 : decode cX6_likeOf 20 = .ok (.aload_n 1, 1) := by decide +kernel
theorem dX6_likeOf_21 : decode cX6_likeOf 21 = .ok (.getfield 166, 3) := by decide +kernel
theorem dX6_likeOf_24 : decode cX6_likeOf 24 = .ok (.iconst 2, 1) := by decide +kernel
theorem dX6_likeOf_25 : decode cX6_likeOf 25 = .ok (.if_icmp .ne 15, 3) := by decide +kernel
theorem dX6_likeOf_28 : decode cX6_likeOf 28 = .ok (.aload_n 2, 1) := by decide +kernel
theorem dX6_likeOf_29 : decode cX6_likeOf 29 = .ok (.getfield 166, 3) := by decide +kernel
theorem dX6_likeOf_32 : decode cX6_likeOf 32 = .ok (.iconst 2, 1) := by decide +kernel
theorem dX6_likeOf_33 : decode cX6_likeOf 33 = .ok (.if_icmp .ne 7, 3) := by decide +kernel
theorem dX6_likeOf_36 : decode cX6_likeOf 36 = .ok (.iconst 1, 1) := by decide +kernel
theorem dX6_likeOf_37 : decode cX6_likeOf 37 = .ok (.goto 4, 3) := by decide +kernel
theorem dX6_likeOf_40 : decode cX6_likeOf 40 = .ok (.iconst 0, 1) := by decide +kernel
theorem dX6_likeOf_41 : decode cX6_likeOf 41 = .ok (.istore 4, 2) := by decide +kernel
theorem dX6_likeOf_43 : decode cX6_likeOf 43 = .ok (.iload 4, 2) := by decide +kernel
theorem dX6_likeOf_45 : decode cX6_likeOf 45 = .ok (.ifCond .eq 19, 3) := by decide +kernel
theorem dX6_likeOf_48 : decode cX6_likeOf 48 = .ok (.iload_n 3, 1) := by decide +kernel
theorem dX6_likeOf_49 : decode cX6_likeOf 49 = .ok (.aload_n 0, 1) := by decide +kernel
theorem dX6_likeOf_50 : decode cX6_likeOf 50 = .ok (.getfield 10, 3) := by decide +kernel
theorem dX6_likeOf_53 : decode cX6_likeOf 53 = .ok (.aload_n 1, 1) := by decide +kernel
theorem dX6_likeOf_54 : decode cX6_likeOf 54 = .ok (.aload_n 2, 1) := by decide +kernel
theorem dX6_likeOf_55 : decode cX6_likeOf 55 = .ok (.invokevirtual 272, 3) := by decide +kernel
theorem dX6_likeOf_58 : decode cX6_likeOf 58 = .ok (.invokestatic 273, 3) := by decide +kernel
theorem dX6_likeOf_61 : decode cX6_likeOf 61 = .ok (.goto 4, 3) := by decide +kernel
theorem dX6_likeOf_64 : decode cX6_likeOf 64 = .ok (.iload_n 3, 1) := by decide +kernel
theorem dX6_likeOf_65 : decode cX6_likeOf 65 = .ok (.ireturn, 1) := by decide +kernel
theorem dX6_likeOf_66 : decode cX6_likeOf 66 = .ok (.aload_n 1, 1) := by decide +kernel
theorem dX6_likeOf_67 : decode cX6_likeOf 67 = .ok (.getfield 166, 3) := by decide +kernel
theorem dX6_likeOf_70 : decode cX6_likeOf 70 = .ok (.iconst 1, 1) := by decide +kernel
theorem dX6_likeOf_71 : decode cX6_likeOf 71 = .ok (.if_icmp .eq 11, 3) := by decide +kernel
theorem dX6_likeOf_74 : decode cX6_likeOf 74 = .ok (.aload_n 2, 1) := by decide +kernel
theorem dX6_likeOf_75 : decode cX6_likeOf 75 = .ok (.getfield 166, 3) := by decide +kernel
theorem dX6_likeOf_78 : decode cX6_likeOf 78 = .ok (.iconst 1, 1) := by decide +kernel
theorem dX6_likeOf_79 : decode cX6_likeOf 79 = .ok (.if_icmp .ne 7, 3) := by decide +kernel
theorem dX6_likeOf_82 : decode cX6_likeOf 82 = .ok (.iconst 0, 1) := by decide +kernel
theorem dX6_likeOf_83 : decode cX6_likeOf 83 = .ok (.goto 12, 3) := by decide +kernel
theorem dX6_likeOf_86 : decode cX6_likeOf 86 = .ok (.aload_n 0, 1) := by decide +kernel
theorem dX6_likeOf_87 : decode cX6_likeOf 87 = .ok (.getfield 10, 3) := by decide +kernel
theorem dX6_likeOf_90 : decode cX6_likeOf 90 = .ok (.aload_n 1, 1) := by decide +kernel
theorem dX6_likeOf_91 : decode cX6_likeOf 91 = .ok (.aload_n 2, 1) := by decide +kernel
theorem dX6_likeOf_92 : decode cX6_likeOf 92 = .ok (.invokevirtual 272, 3) := by decide +kernel
theorem dX6_likeOf_95 : decode cX6_likeOf 95 = .ok (.ireturn, 1) := by decide +kernel
theorem dX6_areAlike_0 : decode cX6_areAlike 0 = .ok (.aload_n 0, 1) := by decide +kernel
theorem dX6_areAlike_1 : decode cX6_areAlike 1 = .ok (.iload_n 1, 1) := by decide +kernel
theorem dX6_areAlike_2 : decode cX6_areAlike 2 = .ok (.invokevirtual 94, 3) := by decide +kernel
theorem dX6_areAlike_5 : decode cX6_areAlike 5 = .ok (.astore_n 3, 1) := by decide +kernel
theorem dX6_areAlike_6 : decode cX6_areAlike 6 = .ok (.aload_n 0, 1) := by decide +kernel
theorem dX6_areAlike_7 : decode cX6_areAlike 7 = .ok (.iload_n 2, 1) := by decide +kernel
theorem dX6_areAlike_8 : decode cX6_areAlike 8 = .ok (.invokevirtual 94, 3) := by decide +kernel
theorem dX6_areAlike_11 : decode cX6_areAlike 11 = .ok (.astore 4, 2) := by decide +kernel
theorem dX6_areAlike_13 : decode cX6_areAlike 13 = .ok (.aload_n 3, 1) := by decide +kernel
theorem dX6_areAlike_14 : decode cX6_areAlike 14 = .ok (.ifnull 26, 3) := by decide +kernel
theorem dX6_areAlike_17 : decode cX6_areAlike 17 = .ok (.aload 4, 2) := by decide +kernel
theorem dX6_areAlike_19 : decode cX6_areAlike 19 = .ok (.ifnull 21, 3) := by decide +kernel
theorem dX6_areAlike_22 : decode cX6_areAlike 22 = .ok (.aload_n 0, 1) := by decide +kernel
theorem dX6_areAlike_23 : decode cX6_areAlike 23 = .ok (.aload_n 3, 1) := by decide +kernel
theorem dX6_areAlike_24 : decode cX6_areAlike 24 = .ok (.aload 4, 2) := by decide +kernel
theorem dX6_areAlike_26 : decode cX6_areAlike 26 = .ok (.invokevirtual 186, 3) := by decide +kernel
theorem dX6_areAlike_29 : decode cX6_areAlike 29 = .ok (.aload_n 0, 1) := by decide +kernel
theorem dX6_areAlike_30 : decode cX6_areAlike 30 = .ok (.getfield 40, 3) := by decide +kernel
theorem dX6_areAlike_33 : decode cX6_areAlike 33 = .ok (.if_icmp .lt 7, 3) := by decide +kernel
theorem dX6_areAlike_36 : decode cX6_areAlike 36 = .ok (.iconst 1, 1) := by decide +kernel
theorem dX6_areAlike_37 : decode cX6_areAlike 37 = .ok (.goto 4, 3) := by decide +kernel
theorem dX6_areAlike_40 : decode cX6_areAlike 40 = .ok (.iconst 0, 1) := by decide +kernel
theorem dX6_areAlike_41 : decode cX6_areAlike 41 = .ok (.ireturn, 1) := by decide +kernel
theorem dX6_isNear_0 : decode cX6_isNear 0 = .ok (.aload_n 0, 1) := by decide +kernel
theorem dX6_isNear_1 : decode cX6_isNear 1 = .ok (.getfield 49, 3) := by decide +kernel
theorem dX6_isNear_4 : decode cX6_isNear 4 = .ok (.getfield 263, 3) := by decide +kernel
theorem dX6_isNear_7 : decode cX6_isNear 7 = .ok (.ifCond .ne 19, 3) := by decide +kernel
theorem dX6_isNear_10 : decode cX6_isNear 10 = .ok (.aload_n 0, 1) := by decide +kernel
theorem dX6_isNear_11 : decode cX6_isNear 11 = .ok (.getfield 19, 3) := by decide +kernel
theorem dX6_isNear_14 : decode cX6_isNear 14 = .ok (.iload_n 1, 1) := by decide +kernel
theorem dX6_isNear_15 : decode cX6_isNear 15 = .ok (.iload_n 2, 1) := by decide +kernel
theorem dX6_isNear_16 : decode cX6_isNear 16 = .ok (.invokevirtual 279, 3) := by decide +kernel
theorem dX6_isNear_19 : decode cX6_isNear 19 = .ok (.aload_n 0, 1) := by decide +kernel
theorem dX6_isNear_20 : decode cX6_isNear 20 = .ok (.getfield 43, 3) := by decide +kernel
theorem dX6_isNear_23 : decode cX6_isNear 23 = .ok (.if_icmp .lt 7, 3) := by decide +kernel
theorem dX6_isNear_26 : decode cX6_isNear 26 = .ok (.iconst 1, 1) := by decide +kernel
theorem dX6_isNear_27 : decode cX6_isNear 27 = .ok (.goto 4, 3) := by decide +kernel
theorem dX6_isNear_30 : decode cX6_isNear 30 = .ok (.iconst 0, 1) := by decide +kernel
theorem dX6_isNear_31 : decode cX6_isNear 31 = .ok (.ireturn, 1) := by decide +kernel
theorem dX6_earliestNear_0 : decode cX6_earliestNear 0 = .ok (.iconst (-1), 1) := by decide +kernel
theorem dX6_earliestNear_1 : decode cX6_earliestNear 1 = .ok (.istore_n 2, 1) := by decide +kernel
theorem dX6_earliestNear_2 : decode cX6_earliestNear 2 = .ok (.iconst 0, 1) := by decide +kernel
theorem dX6_earliestNear_3 : decode cX6_earliestNear 3 = .ok (.istore_n 3, 1) := by decide +kernel
theorem dX6_earliestNear_4 : decode cX6_earliestNear 4 = .ok (.iload_n 3, 1) := by decide +kernel
theorem dX6_earliestNear_5 : decode cX6_earliestNear 5 = .ok (.aload_n 0, 1) := by decide +kernel
theorem dX6_earliestNear_6 : decode cX6_earliestNear 6 = .ok (.getfield 49, 3) := by decide +kernel
theorem dX6_earliestNear_9 : decode cX6_earliestNear 9 = .ok (.getfield 215, 3) := by decide +kernel
theorem dX6_earliestNear_12 : decode cX6_earliestNear 12 = .ok (.if_icmp .ge 61, 3) := by decide +kernel
theorem dX6_earliestNear_15 : decode cX6_earliestNear 15 = .ok (.aload_n 0, 1) := by decide +kernel
theorem dX6_earliestNear_16 : decode cX6_earliestNear 16 = .ok (.getfield 49, 3) := by decide +kernel
theorem dX6_earliestNear_19 : decode cX6_earliestNear 19 = .ok (.iload_n 3, 1) := by decide +kernel
theorem dX6_earliestNear_20 : decode cX6_earliestNear 20 = .ok (.invokevirtual 202, 3) := by decide +kernel
theorem dX6_earliestNear_23 : decode cX6_earliestNear 23 = .ok (.ifCond .eq 44, 3) := by decide +kernel
theorem dX6_earliestNear_26 : decode cX6_earliestNear 26 = .ok (.aload_n 0, 1) := by decide +kernel
theorem dX6_earliestNear_27 : decode cX6_earliestNear 27 = .ok (.aload_n 0, 1) := by decide +kernel
theorem dX6_earliestNear_28 : decode cX6_earliestNear 28 = .ok (.getfield 49, 3) := by decide +kernel
theorem dX6_earliestNear_31 : decode cX6_earliestNear 31 = .ok (.getfield 282, 3) := by decide +kernel
theorem dX6_earliestNear_34 : decode cX6_earliestNear 34 = .ok (.iload_n 3, 1) := by decide +kernel
theorem dX6_earliestNear_35 : decode cX6_earliestNear 35 = .ok (.iaload, 1) := by decide +kernel
theorem dX6_earliestNear_36 : decode cX6_earliestNear 36 = .ok (.iload_n 1, 1) := by decide +kernel
theorem dX6_earliestNear_37 : decode cX6_earliestNear 37 = .ok (.invokevirtual 285, 3) := by decide +kernel
theorem dX6_earliestNear_40 : decode cX6_earliestNear 40 = .ok (.ifCond .eq 27, 3) := by decide +kernel
theorem dX6_earliestNear_43 : decode cX6_earliestNear 43 = .ok (.aload_n 0, 1) := by decide +kernel
theorem dX6_earliestNear_44 : decode cX6_earliestNear 44 = .ok (.getfield 49, 3) := by decide +kernel
theorem dX6_earliestNear_47 : decode cX6_earliestNear 47 = .ok (.iload_n 3, 1) := by decide +kernel
theorem dX6_earliestNear_48 : decode cX6_earliestNear 48 = .ok (.invokevirtual 199, 3) := by decide +kernel
theorem dX6_earliestNear_51 : decode cX6_earliestNear 51 = .ok (.istore 4, 2) := by decide +kernel
theorem dX6_earliestNear_53 : decode cX6_earliestNear 53 = .ok (.iload_n 2, 1) := by decide +kernel
theorem dX6_earliestNear_54 : decode cX6_earliestNear 54 = .ok (.iconst (-1), 1) := by decide +kernel
theorem dX6_earliestNear_55 : decode cX6_earliestNear 55 = .ok (.if_icmp .eq 9, 3) := by decide +kernel
theorem dX6_earliestNear_58 : decode cX6_earliestNear 58 = .ok (.iload 4, 2) := by decide +kernel
theorem dX6_earliestNear_60 : decode cX6_earliestNear 60 = .ok (.iload_n 2, 1) := by decide +kernel
theorem dX6_earliestNear_61 : decode cX6_earliestNear 61 = .ok (.if_icmp .ge 6, 3) := by decide +kernel
theorem dX6_earliestNear_64 : decode cX6_earliestNear 64 = .ok (.iload 4, 2) := by decide +kernel
theorem dX6_earliestNear_66 : decode cX6_earliestNear 66 = .ok (.istore_n 2, 1) := by decide +kernel
theorem dX6_earliestNear_67 : decode cX6_earliestNear 67 = .ok (.iinc 3 1, 3) := by decide +kernel
theorem dX6_earliestNear_70 : decode cX6_earliestNear 70 = .ok (.goto (-66), 3) := by decide +kernel
theorem dX6_earliestNear_73 : decode cX6_earliestNear 73 = .ok (.iload_n 2, 1) := by decide +kernel
theorem dX6_earliestNear_74 : decode cX6_earliestNear 74 = .ok (.ireturn, 1) := by decide +kernel
theorem dX6_standsNearYounger_0 : decode cX6_standsNearYounger 0 = .ok (.iconst 0, 1) := by decide +kernel
theorem dX6_standsNearYounger_1 : decode cX6_standsNearYounger 1 = .ok (.istore_n 1, 1) := by decide +kernel
theorem dX6_standsNearYounger_2 : decode cX6_standsNearYounger 2 = .ok (.iload_n 1, 1) := by decide +kernel
theorem dX6_standsNearYounger_3 : decode cX6_standsNearYounger 3 = .ok (.aload_n 0, 1) := by decide +kernel
theorem dX6_standsNearYounger_4 : decode cX6_standsNearYounger 4 = .ok (.getfield 53, 3) := by decide +kernel
theorem dX6_standsNearYounger_7 : decode cX6_standsNearYounger 7 = .ok (.getfield 215, 3) := by decide +kernel
theorem dX6_standsNearYounger_10 : decode cX6_standsNearYounger 10 = .ok (.if_icmp .ge 28, 3) := by decide +kernel
theorem dX6_standsNearYounger_13 : decode cX6_standsNearYounger 13 = .ok (.aload_n 0, 1) := by decide +kernel
theorem dX6_standsNearYounger_14 : decode cX6_standsNearYounger 14 = .ok (.aload_n 0, 1) := by decide +kernel
theorem dX6_standsNearYounger_15 : decode cX6_standsNearYounger 15 = .ok (.getfield 53, 3) := by decide +kernel
theorem dX6_standsNearYounger_18 : decode cX6_standsNearYounger 18 = .ok (.getfield 282, 3) := by decide +kernel
theorem dX6_standsNearYounger_21 : decode cX6_standsNearYounger 21 = .ok (.iload_n 1, 1) := by decide +kernel
theorem dX6_standsNearYounger_22 : decode cX6_standsNearYounger 22 = .ok (.iaload, 1) := by decide +kernel
theorem dX6_standsNearYounger_23 : decode cX6_standsNearYounger 23 = .ok (.invokevirtual 225, 3) := by decide +kernel
theorem dX6_standsNearYounger_26 : decode cX6_standsNearYounger 26 = .ok (.iconst (-1), 1) := by decide +kernel
theorem dX6_standsNearYounger_27 : decode cX6_standsNearYounger 27 = .ok (.if_icmp .eq 5, 3) := by decide +kernel
theorem dX6_standsNearYounger_30 : decode cX6_standsNearYounger 30 = .ok (.iconst 1, 1) := by decide +kernel
theorem dX6_standsNearYounger_31 : decode cX6_standsNearYounger 31 = .ok (.ireturn, 1) := by decide +kernel
theorem dX6_standsNearYounger_32 : decode cX6_standsNearYounger 32 = .ok (.iinc 1 1, 3) := by decide +kernel
theorem dX6_standsNearYounger_35 : decode cX6_standsNearYounger 35 = .ok (.goto (-33), 3) := by decide +kernel
theorem dX6_standsNearYounger_38 : decode cX6_standsNearYounger 38 = .ok (.iconst 0, 1) := by decide +kernel
theorem dX6_standsNearYounger_39 : decode cX6_standsNearYounger 39 = .ok (.ireturn, 1) := by decide +kernel
theorem dX6_claimOf_0 : decode cX6_claimOf 0 = .ok (.aload_n 0, 1) := by decide +kernel
theorem dX6_claimOf_1 : decode cX6_claimOf 1 = .ok (.iload_n 2, 1) := by decide +kernel
theorem dX6_claimOf_2 : decode cX6_claimOf 2 = .ok (.invokevirtual 94, 3) := by decide +kernel
theorem dX6_claimOf_5 : decode cX6_claimOf 5 = .ok (.astore 4, 2) := by decide +kernel
theorem dX6_claimOf_7 : decode cX6_claimOf 7 = .ok (.aload 4, 2) := by decide +kernel
theorem dX6_claimOf_9 : decode cX6_claimOf 9 = .ok (.ifnull 14, 3) := by decide +kernel
theorem dX6_claimOf_12 : decode cX6_claimOf 12 = .ok (.aload 4, 2) := by decide +kernel
theorem dX6_claimOf_14 : decode cX6_claimOf 14 = .ok (.getfield 169, 3) := by decide +kernel
theorem dX6_claimOf_17 : decode cX6_claimOf 17 = .ok (.iload_n 1, 1) := by decide +kernel
theorem dX6_claimOf_18 : decode cX6_claimOf 18 = .ok (.if_icmp .ne 5, 3) := by decide +kernel
theorem dX6_claimOf_21 : decode cX6_claimOf 21 = .ok (.iconst 1, 1) := by decide +kernel
theorem dX6_claimOf_22 : decode cX6_claimOf 22 = .ok (.ireturn, 1) := by decide +kernel
theorem dX6_claimOf_23 : decode cX6_claimOf 23 = .ok (.aload_n 0, 1) := by decide +kernel
theorem dX6_claimOf_24 : decode cX6_claimOf 24 = .ok (.getfield 32, 3) := by decide +kernel
theorem dX6_claimOf_27 : decode cX6_claimOf 27 = .ok (.iconst 5, 1) := by decide +kernel
theorem dX6_claimOf_28 : decode cX6_claimOf 28 = .ok (.iload_n 2, 1) := by decide +kernel
theorem dX6_claimOf_29 : decode cX6_claimOf 29 = .ok (.iload_n 1, 1) := by decide +kernel
theorem dX6_claimOf_30 : decode cX6_claimOf 30 = .ok (.iload_n 3, 1) := by decide +kernel
theorem dX6_claimOf_31 : decode cX6_claimOf 31 = .ok (.invokevirtual 255, 3) := by decide +kernel
theorem dX6_claimOf_34 : decode cX6_claimOf 34 = .ok (.ifCond .eq 5, 3) := by decide +kernel
theorem dX6_claimOf_37 : decode cX6_claimOf 37 = .ok (.iconst 2, 1) := by decide +kernel
theorem dX6_claimOf_38 : decode cX6_claimOf 38 = .ok (.ireturn, 1) := by decide +kernel
theorem dX6_claimOf_39 : decode cX6_claimOf 39 = .ok (.aload_n 0, 1) := by decide +kernel
theorem dX6_claimOf_40 : decode cX6_claimOf 40 = .ok (.getfield 32, 3) := by decide +kernel
theorem dX6_claimOf_43 : decode cX6_claimOf 43 = .ok (.bipush 8, 2) := by decide +kernel
theorem dX6_claimOf_45 : decode cX6_claimOf 45 = .ok (.iload_n 2, 1) := by decide +kernel
theorem dX6_claimOf_46 : decode cX6_claimOf 46 = .ok (.iload_n 1, 1) := by decide +kernel
theorem dX6_claimOf_47 : decode cX6_claimOf 47 = .ok (.iload_n 3, 1) := by decide +kernel
theorem dX6_claimOf_48 : decode cX6_claimOf 48 = .ok (.invokevirtual 255, 3) := by decide +kernel
theorem dX6_claimOf_51 : decode cX6_claimOf 51 = .ok (.ifCond .eq 7, 3) := by decide +kernel
theorem dX6_claimOf_54 : decode cX6_claimOf 54 = .ok (.iconst 3, 1) := by decide +kernel
theorem dX6_claimOf_55 : decode cX6_claimOf 55 = .ok (.goto 4, 3) := by decide +kernel
theorem dX6_claimOf_58 : decode cX6_claimOf 58 = .ok (.iconst 0, 1) := by decide +kernel
theorem dX6_claimOf_59 : decode cX6_claimOf 59 = .ok (.ireturn, 1) := by decide +kernel
theorem dX6_findClash_0 : decode cX6_findClash 0 = .ok (.aload_n 0, 1) := by decide +kernel
theorem dX6_findClash_1 : decode cX6_findClash 1 = .ok (.getfield 62, 3) := by decide +kernel
theorem dX6_findClash_4 : decode cX6_findClash 4 = .ok (.invokevirtual 288, 3) := by decide +kernel
theorem dX6_findClash_7 : decode cX6_findClash 7 = .ok (.aload_n 0, 1) := by decide +kernel
theorem dX6_findClash_8 : decode cX6_findClash 8 = .ok (.iload_n 2, 1) := by decide +kernel
theorem dX6_findClash_9 : decode cX6_findClash 9 = .ok (.invokevirtual 94, 3) := by decide +kernel
theorem dX6_findClash_12 : decode cX6_findClash 12 = .ok (.astore 5, 2) := by decide +kernel
theorem dX6_findClash_14 : decode cX6_findClash 14 = .ok (.aload 5, 2) := by decide +kernel
theorem dX6_findClash_16 : decode cX6_findClash 16 = .ok (.ifnull 12, 3) := by decide +kernel
theorem dX6_findClash_19 : decode cX6_findClash 19 = .ok (.aload_n 0, 1) := by decide +kernel
theorem dX6_findClash_20 : decode cX6_findClash 20 = .ok (.iload_n 1, 1) := by decide +kernel
theorem dX6_findClash_21 : decode cX6_findClash 21 = .ok (.iload_n 2, 1) := by decide +kernel
theorem dX6_findClash_22 : decode cX6_findClash 22 = .ok (.invokevirtual 238, 3) := by decide +kernel
theorem dX6_findClash_25 : decode cX6_findClash 25 = .ok (.ifCond .eq 4, 3) := by decide +kernel
theorem dX6_findClash_28 : decode cX6_findClash 28 = .ok (.return_, 1) := by decide +kernel
theorem dX6_findClash_29 : decode cX6_findClash 29 = .ok (.aload_n 0, 1) := by decide +kernel
theorem dX6_findClash_30 : decode cX6_findClash 30 = .ok (.getfield 49, 3) := by decide +kernel
theorem dX6_findClash_33 : decode cX6_findClash 33 = .ok (.aload_n 0, 1) := by decide +kernel
theorem dX6_findClash_34 : decode cX6_findClash 34 = .ok (.getfield 32, 3) := by decide +kernel
theorem dX6_findClash_37 : decode cX6_findClash 37 = .ok (.iload_n 1, 1) := by decide +kernel
theorem dX6_findClash_38 : decode cX6_findClash 38 = .ok (.iload_n 3, 1) := by decide +kernel
theorem dX6_findClash_39 : decode cX6_findClash 39 = .ok (.iload 4, 2) := by decide +kernel
theorem dX6_findClash_41 : decode cX6_findClash 41 = .ok (.invokevirtual 118, 3) := by decide +kernel
theorem dX6_findClash_44 : decode cX6_findClash 44 = .ok (.aload_n 0, 1) := by decide +kernel
theorem dX6_findClash_45 : decode cX6_findClash 45 = .ok (.getfield 49, 3) := by decide +kernel
theorem dX6_findClash_48 : decode cX6_findClash 48 = .ok (.invokevirtual 291, 3) := by decide +kernel
theorem dX6_findClash_51 : decode cX6_findClash 51 = .ok (.ifCond .ne 4, 3) := by decide +kernel
theorem dX6_findClash_54 : decode cX6_findClash 54 = .ok (.return_, 1) := by decide +kernel
theorem dX6_findClash_55 : decode cX6_findClash 55 = .ok (.aload_n 0, 1) := by decide +kernel
theorem dX6_findClash_56 : decode cX6_findClash 56 = .ok (.getfield 53, 3) := by decide +kernel
theorem dX6_findClash_59 : decode cX6_findClash 59 = .ok (.aload_n 0, 1) := by decide +kernel
theorem dX6_findClash_60 : decode cX6_findClash 60 = .ok (.getfield 32, 3) := by decide +kernel
theorem dX6_findClash_63 : decode cX6_findClash 63 = .ok (.iload_n 2, 1) := by decide +kernel
theorem dX6_findClash_64 : decode cX6_findClash 64 = .ok (.iload_n 3, 1) := by decide +kernel
theorem dX6_findClash_65 : decode cX6_findClash 65 = .ok (.iload 4, 2) := by decide +kernel
theorem dX6_findClash_67 : decode cX6_findClash 67 = .ok (.invokevirtual 118, 3) := by decide +kernel
theorem dX6_findClash_70 : decode cX6_findClash 70 = .ok (.aload_n 0, 1) := by decide +kernel
theorem dX6_findClash_71 : decode cX6_findClash 71 = .ok (.getfield 53, 3) := by decide +kernel
theorem dX6_findClash_74 : decode cX6_findClash 74 = .ok (.invokevirtual 291, 3) := by decide +kernel
theorem dX6_findClash_77 : decode cX6_findClash 77 = .ok (.ifCond .eq 31, 3) := by decide +kernel
theorem dX6_findClash_80 : decode cX6_findClash 80 = .ok (.aload_n 0, 1) := by decide +kernel
theorem dX6_findClash_81 : decode cX6_findClash 81 = .ok (.getfield 32, 3) := by decide +kernel
theorem dX6_findClash_84 : decode cX6_findClash 84 = .ok (.iconst 5, 1) := by decide +kernel
theorem dX6_findClash_85 : decode cX6_findClash 85 = .ok (.iload_n 1, 1) := by decide +kernel
theorem dX6_findClash_86 : decode cX6_findClash 86 = .ok (.aload 5, 2) := by decide +kernel
theorem dX6_findClash_88 : decode cX6_findClash 88 = .ok (.getfield 169, 3) := by decide +kernel
theorem dX6_findClash_91 : decode cX6_findClash 91 = .ok (.iload 4, 2) := by decide +kernel
theorem dX6_findClash_93 : decode cX6_findClash 93 = .ok (.invokevirtual 255, 3) := by decide +kernel
theorem dX6_findClash_96 : decode cX6_findClash 96 = .ok (.ifCond .ne 12, 3) := by decide +kernel
theorem dX6_findClash_99 : decode cX6_findClash 99 = .ok (.aload_n 0, 1) := by decide +kernel
theorem dX6_findClash_100 : decode cX6_findClash 100 = .ok (.iload_n 1, 1) := by decide +kernel
theorem dX6_findClash_101 : decode cX6_findClash 101 = .ok (.iload_n 2, 1) := by decide +kernel
theorem dX6_findClash_102 : decode cX6_findClash 102 = .ok (.invokevirtual 228, 3) := by decide +kernel
theorem dX6_findClash_105 : decode cX6_findClash 105 = .ok (.ifCond .ne 4, 3) := by decide +kernel
theorem dX6_findClash_108 : decode cX6_findClash 108 = .ok (.return_, 1) := by decide +kernel
theorem dX6_findClash_109 : decode cX6_findClash 109 = .ok (.iconst 0, 1) := by decide +kernel
theorem dX6_findClash_110 : decode cX6_findClash 110 = .ok (.istore 6, 2) := by decide +kernel
theorem dX6_findClash_112 : decode cX6_findClash 112 = .ok (.iload 6, 2) := by decide +kernel
theorem dX6_findClash_114 : decode cX6_findClash 114 = .ok (.aload_n 0, 1) := by decide +kernel
theorem dX6_findClash_115 : decode cX6_findClash 115 = .ok (.getfield 53, 3) := by decide +kernel
theorem dX6_findClash_118 : decode cX6_findClash 118 = .ok (.getfield 215, 3) := by decide +kernel
theorem dX6_findClash_121 : decode cX6_findClash 121 = .ok (.if_icmp .ge 30, 3) := by decide +kernel
theorem dX6_findClash_124 : decode cX6_findClash 124 = .ok (.aload_n 0, 1) := by decide +kernel
theorem dX6_findClash_125 : decode cX6_findClash 125 = .ok (.getfield 53, 3) := by decide +kernel
theorem dX6_findClash_128 : decode cX6_findClash 128 = .ok (.iload 6, 2) := by decide +kernel
theorem dX6_findClash_130 : decode cX6_findClash 130 = .ok (.invokevirtual 202, 3) := by decide +kernel
theorem dX6_findClash_133 : decode cX6_findClash 133 = .ok (.ifCond .eq 12, 3) := by decide +kernel
theorem dX6_findClash_136 : decode cX6_findClash 136 = .ok (.aload_n 0, 1) := by decide +kernel
theorem dX6_findClash_137 : decode cX6_findClash 137 = .ok (.iload 6, 2) := by decide +kernel
theorem dX6_findClash_139 : decode cX6_findClash 139 = .ok (.iload_n 1, 1) := by decide +kernel
theorem dX6_findClash_140 : decode cX6_findClash 140 = .ok (.iload_n 2, 1) := by decide +kernel
theorem dX6_findClash_141 : decode cX6_findClash 141 = .ok (.iload_n 3, 1) := by decide +kernel
theorem dX6_findClash_142 : decode cX6_findClash 142 = .ok (.invokevirtual 294, 3) := by decide +kernel
theorem dX6_findClash_145 : decode cX6_findClash 145 = .ok (.iinc 6 1, 3) := by decide +kernel
theorem dX6_findClash_148 : decode cX6_findClash 148 = .ok (.goto (-36), 3) := by decide +kernel
theorem dX6_findClash_151 : decode cX6_findClash 151 = .ok (.return_, 1) := by decide +kernel
theorem dX6_findClashOver_0 : decode cX6_findClashOver 0 = .ok (.aload_n 0, 1) := by decide +kernel
theorem dX6_findClashOver_1 : decode cX6_findClashOver 1 = .ok (.getfield 53, 3) := by decide +kernel
theorem dX6_findClashOver_4 : decode cX6_findClashOver 4 = .ok (.getfield 282, 3) := by decide +kernel
theorem dX6_findClashOver_7 : decode cX6_findClashOver 7 = .ok (.iload_n 1, 1) := by decide +kernel
theorem dX6_findClashOver_8 : decode cX6_findClashOver 8 = .ok (.iaload, 1) := by decide +kernel
theorem dX6_findClashOver_9 : decode cX6_findClashOver 9 = .ok (.istore 5, 2) := by decide +kernel
theorem dX6_findClashOver_11 : decode cX6_findClashOver 11 = .ok (.aload_n 0, 1) := by decide +kernel
theorem dX6_findClashOver_12 : decode cX6_findClashOver 12 = .ok (.getfield 53, 3) := by decide +kernel
theorem dX6_findClashOver_15 : decode cX6_findClashOver 15 = .ok (.iload_n 1, 1) := by decide +kernel
theorem dX6_findClashOver_16 : decode cX6_findClashOver 16 = .ok (.invokevirtual 199, 3) := by decide +kernel
theorem dX6_findClashOver_19 : decode cX6_findClashOver 19 = .ok (.istore 6, 2) := by decide +kernel
theorem dX6_findClashOver_21 : decode cX6_findClashOver 21 = .ok (.aload_n 0, 1) := by decide +kernel
theorem dX6_findClashOver_22 : decode cX6_findClashOver 22 = .ok (.getfield 56, 3) := by decide +kernel
theorem dX6_findClashOver_25 : decode cX6_findClashOver 25 = .ok (.aload_n 0, 1) := by decide +kernel
theorem dX6_findClashOver_26 : decode cX6_findClashOver 26 = .ok (.getfield 32, 3) := by decide +kernel
theorem dX6_findClashOver_29 : decode cX6_findClashOver 29 = .ok (.iload_n 2, 1) := by decide +kernel
theorem dX6_findClashOver_30 : decode cX6_findClashOver 30 = .ok (.iload 4, 2) := by decide +kernel
theorem dX6_findClashOver_32 : decode cX6_findClashOver 32 = .ok (.iload 6, 2) := by decide +kernel
theorem dX6_findClashOver_34 : decode cX6_findClashOver 34 = .ok (.invokevirtual 118, 3) := by decide +kernel
theorem dX6_findClashOver_37 : decode cX6_findClashOver 37 = .ok (.iconst 0, 1) := by decide +kernel
theorem dX6_findClashOver_38 : decode cX6_findClashOver 38 = .ok (.istore 7, 2) := by decide +kernel
theorem dX6_findClashOver_40 : decode cX6_findClashOver 40 = .ok (.iload 7, 2) := by decide +kernel
theorem dX6_findClashOver_42 : decode cX6_findClashOver 42 = .ok (.aload_n 0, 1) := by decide +kernel
theorem dX6_findClashOver_43 : decode cX6_findClashOver 43 = .ok (.getfield 49, 3) := by decide +kernel
theorem dX6_findClashOver_46 : decode cX6_findClashOver 46 = .ok (.getfield 215, 3) := by decide +kernel
theorem dX6_findClashOver_49 : decode cX6_findClashOver 49 = .ok (.if_icmp .ge 118, 3) := by decide +kernel
theorem dX6_findClashOver_52 : decode cX6_findClashOver 52 = .ok (.aload_n 0, 1) := by decide +kernel
theorem dX6_findClashOver_53 : decode cX6_findClashOver 53 = .ok (.getfield 49, 3) := by decide +kernel
theorem dX6_findClashOver_56 : decode cX6_findClashOver 56 = .ok (.getfield 282, 3) := by decide +kernel
theorem dX6_findClashOver_59 : decode cX6_findClashOver 59 = .ok (.iload 7, 2) := by decide +kernel
theorem dX6_findClashOver_61 : decode cX6_findClashOver 61 = .ok (.iaload, 1) := by decide +kernel
theorem dX6_findClashOver_62 : decode cX6_findClashOver 62 = .ok (.istore 8, 2) := by decide +kernel
theorem dX6_findClashOver_64 : decode cX6_findClashOver 64 = .ok (.aload_n 0, 1) := by decide +kernel
theorem dX6_findClashOver_65 : decode cX6_findClashOver 65 = .ok (.getfield 49, 3) := by decide +kernel
theorem dX6_findClashOver_68 : decode cX6_findClashOver 68 = .ok (.iload 7, 2) := by decide +kernel
theorem dX6_findClashOver_70 : decode cX6_findClashOver 70 = .ok (.invokevirtual 199, 3) := by decide +kernel
theorem dX6_findClashOver_73 : decode cX6_findClashOver 73 = .ok (.istore 9, 2) := by decide +kernel
theorem dX6_findClashOver_75 : decode cX6_findClashOver 75 = .ok (.iload 9, 2) := by decide +kernel
theorem dX6_findClashOver_77 : decode cX6_findClashOver 77 = .ok (.iload 6, 2) := by decide +kernel
theorem dX6_findClashOver_79 : decode cX6_findClashOver 79 = .ok (.if_icmp .lt 15, 3) := by decide +kernel
theorem dX6_findClashOver_82 : decode cX6_findClashOver 82 = .ok (.iload 9, 2) := by decide +kernel
theorem dX6_findClashOver_84 : decode cX6_findClashOver 84 = .ok (.iload 6, 2) := by decide +kernel
theorem dX6_findClashOver_86 : decode cX6_findClashOver 86 = .ok (.if_icmp .ne 12, 3) := by decide +kernel
theorem dX6_findClashOver_89 : decode cX6_findClashOver 89 = .ok (.iload_n 2, 1) := by decide +kernel
theorem dX6_findClashOver_90 : decode cX6_findClashOver 90 = .ok (.iload_n 3, 1) := by decide +kernel
theorem dX6_findClashOver_91 : decode cX6_findClashOver 91 = .ok (.if_icmp .ge 7, 3) := by decide +kernel
theorem dX6_findClashOver_94 : decode cX6_findClashOver 94 = .ok (.iconst 1, 1) := by decide +kernel
theorem dX6_findClashOver_95 : decode cX6_findClashOver 95 = .ok (.goto 4, 3) := by decide +kernel
theorem dX6_findClashOver_98 : decode cX6_findClashOver 98 = .ok (.iconst 0, 1) := by decide +kernel
theorem dX6_findClashOver_99 : decode cX6_findClashOver 99 = .ok (.istore 10, 2) := by decide +kernel
theorem dX6_findClashOver_101 : decode cX6_findClashOver 101 = .ok (.iload 10, 2) := by decide +kernel
theorem dX6_findClashOver_103 : decode cX6_findClashOver 103 = .ok (.ifCond .eq 58, 3) := by decide +kernel
theorem dX6_findClashOver_106 : decode cX6_findClashOver 106 = .ok (.aload_n 0, 1) := by decide +kernel
theorem dX6_findClashOver_107 : decode cX6_findClashOver 107 = .ok (.getfield 49, 3) := by decide +kernel
theorem dX6_findClashOver_110 : decode cX6_findClashOver 110 = .ok (.iload 7, 2) := by decide +kernel
theorem dX6_findClashOver_112 : decode cX6_findClashOver 112 = .ok (.invokevirtual 202, 3) := by decide +kernel
theorem dX6_findClashOver_115 : decode cX6_findClashOver 115 = .ok (.ifCond .eq 46, 3) := by decide +kernel
theorem dX6_findClashOver_118 : decode cX6_findClashOver 118 = .ok (.aload_n 0, 1) := by decide +kernel
theorem dX6_findClashOver_119 : decode cX6_findClashOver 119 = .ok (.iload 8, 2) := by decide +kernel
theorem dX6_findClashOver_121 : decode cX6_findClashOver 121 = .ok (.iload 5, 2) := by decide +kernel
theorem dX6_findClashOver_123 : decode cX6_findClashOver 123 = .ok (.invokevirtual 285, 3) := by decide +kernel
theorem dX6_findClashOver_126 : decode cX6_findClashOver 126 = .ok (.ifCond .eq 35, 3) := by decide +kernel
theorem dX6_findClashOver_129 : decode cX6_findClashOver 129 = .ok (.aload_n 0, 1) := by decide +kernel
theorem dX6_findClashOver_130 : decode cX6_findClashOver 130 = .ok (.getfield 56, 3) := by decide +kernel
theorem dX6_findClashOver_133 : decode cX6_findClashOver 133 = .ok (.aload_n 0, 1) := by decide +kernel
theorem dX6_findClashOver_134 : decode cX6_findClashOver 134 = .ok (.getfield 56, 3) := by decide +kernel
theorem dX6_findClashOver_137 : decode cX6_findClashOver 137 = .ok (.iload 8, 2) := by decide +kernel
theorem dX6_findClashOver_139 : decode cX6_findClashOver 139 = .ok (.invokevirtual 193, 3) := by decide +kernel
theorem dX6_findClashOver_142 : decode cX6_findClashOver 142 = .ok (.invokevirtual 202, 3) := by decide +kernel
theorem dX6_findClashOver_145 : decode cX6_findClashOver 145 = .ok (.ifCond .eq 16, 3) := by decide +kernel
theorem dX6_findClashOver_148 : decode cX6_findClashOver 148 = .ok (.aload_n 0, 1) := by decide +kernel
theorem dX6_findClashOver_149 : decode cX6_findClashOver 149 = .ok (.getfield 62, 3) := by decide +kernel
theorem dX6_findClashOver_152 : decode cX6_findClashOver 152 = .ok (.iload 8, 2) := by decide +kernel
theorem dX6_findClashOver_154 : decode cX6_findClashOver 154 = .ok (.iload 5, 2) := by decide +kernel
theorem dX6_findClashOver_156 : decode cX6_findClashOver 156 = .ok (.iload 9, 2) := by decide +kernel
theorem dX6_findClashOver_158 : decode cX6_findClashOver 158 = .ok (.invokevirtual 297, 3) := by decide +kernel
theorem dX6_findClashOver_161 : decode cX6_findClashOver 161 = .ok (.iinc 7 1, 3) := by decide +kernel
theorem dX6_findClashOver_164 : decode cX6_findClashOver 164 = .ok (.goto (-124), 3) := by decide +kernel
theorem dX6_findClashOver_167 : decode cX6_findClashOver 167 = .ok (.return_, 1) := by decide +kernel
theorem dJ9_max_7cf53_0 : decode cJ9_max_7cf53 0 = .ok (.iload_n 0, 1) := by decide +kernel
theorem dJ9_max_7cf53_1 : decode cJ9_max_7cf53 1 = .ok (.iload_n 1, 1) := by decide +kernel
theorem dJ9_max_7cf53_2 : decode cJ9_max_7cf53 2 = .ok (.if_icmp .lt 7, 3) := by decide +kernel
theorem dJ9_max_7cf53_5 : decode cJ9_max_7cf53 5 = .ok (.iload_n 0, 1) := by decide +kernel
theorem dJ9_max_7cf53_6 : decode cJ9_max_7cf53 6 = .ok (.goto 4, 3) := by decide +kernel
theorem dJ9_max_7cf53_9 : decode cJ9_max_7cf53 9 = .ok (.iload_n 1, 1) := by decide +kernel
theorem dJ9_max_7cf53_10 : decode cJ9_max_7cf53 10 = .ok (.ireturn, 1) := by decide +kernel
theorem dJ9_min_7cf53_0 : decode cJ9_min_7cf53 0 = .ok (.iload_n 0, 1) := by decide +kernel
theorem dJ9_min_7cf53_1 : decode cJ9_min_7cf53 1 = .ok (.iload_n 1, 1) := by decide +kernel
theorem dJ9_min_7cf53_2 : decode cJ9_min_7cf53 2 = .ok (.if_icmp .gt 7, 3) := by decide +kernel
theorem dJ9_min_7cf53_5 : decode cJ9_min_7cf53 5 = .ok (.iload_n 0, 1) := by decide +kernel
theorem dJ9_min_7cf53_6 : decode cJ9_min_7cf53 6 = .ok (.goto 4, 3) := by decide +kernel
theorem dJ9_min_7cf53_9 : decode cJ9_min_7cf53 9 = .ok (.iload_n 1, 1) := by decide +kernel
theorem dJ9_min_7cf53_10 : decode cJ9_min_7cf53 10 = .ok (.ireturn, 1) := by decide +kernel
theorem dJ7_fill_53178_0 : decode cJ7_fill_53178 0 = .ok (.iconst 0, 1) := by decide +kernel
theorem dJ7_fill_53178_1 : decode cJ7_fill_53178 1 = .ok (.istore_n 2, 1) := by decide +kernel
theorem dJ7_fill_53178_2 : decode cJ7_fill_53178 2 = .ok (.aload_n 0, 1) := by decide +kernel
theorem dJ7_fill_53178_3 : decode cJ7_fill_53178 3 = .ok (.arraylength, 1) := by decide +kernel
theorem dJ7_fill_53178_4 : decode cJ7_fill_53178 4 = .ok (.istore_n 3, 1) := by decide +kernel
theorem dJ7_fill_53178_5 : decode cJ7_fill_53178 5 = .ok (.iload_n 2, 1) := by decide +kernel
theorem dJ7_fill_53178_6 : decode cJ7_fill_53178 6 = .ok (.iload_n 3, 1) := by decide +kernel
theorem dJ7_fill_53178_7 : decode cJ7_fill_53178 7 = .ok (.if_icmp .ge 13, 3) := by decide +kernel
theorem dJ7_fill_53178_10 : decode cJ7_fill_53178 10 = .ok (.aload_n 0, 1) := by decide +kernel
theorem dJ7_fill_53178_11 : decode cJ7_fill_53178 11 = .ok (.iload_n 2, 1) := by decide +kernel
theorem dJ7_fill_53178_12 : decode cJ7_fill_53178 12 = .ok (.iload_n 1, 1) := by decide +kernel
theorem dJ7_fill_53178_13 : decode cJ7_fill_53178 13 = .ok (.iastore, 1) := by decide +kernel
theorem dJ7_fill_53178_14 : decode cJ7_fill_53178 14 = .ok (.iinc 2 1, 3) := by decide +kernel
theorem dJ7_fill_53178_17 : decode cJ7_fill_53178 17 = .ok (.goto (-12), 3) := by decide +kernel
theorem dJ7_fill_53178_20 : decode cJ7_fill_53178 20 = .ok (.return_, 1) := by decide +kernel
end
section
theorem dX7_init_0 : decode cX7_init 0 = .ok (.aload_n 0, 1) := by decide +kernel
theorem dX7_init_1 : decode cX7_init 1 = .ok (.invokespecial 1, 3) := by decide +kernel
theorem dX7_init_4 : decode cX7_init 4 = .ok (.aload_n 0, 1) := by decide +kernel
theorem dX7_init_5 : decode cX7_init 5 = .ok (.bipush 26, 2) := by decide +kernel
theorem dX7_init_7 : decode cX7_init 7 = .ok (.newarray .int, 2) := by decide +kernel
theorem dX7_init_9 : decode cX7_init 9 = .ok (.putfield 7, 3) := by decide +kernel
theorem dX7_init_12 : decode cX7_init 12 = .ok (.aload_n 0, 1) := by decide +kernel
theorem dX7_init_13 : decode cX7_init 13 = .ok (.sipush 702, 3) := by decide +kernel
theorem dX7_init_16 : decode cX7_init 16 = .ok (.newarray .int, 2) := by decide +kernel
theorem dX7_init_18 : decode cX7_init 18 = .ok (.putfield 13, 3) := by decide +kernel
theorem dX7_init_21 : decode cX7_init 21 = .ok (.aload_n 0, 1) := by decide +kernel
theorem dX7_init_22 : decode cX7_init 22 = .ok (.sipush 4356, 3) := by decide +kernel
theorem dX7_init_25 : decode cX7_init 25 = .ok (.newarray .int, 2) := by decide +kernel
theorem dX7_init_27 : decode cX7_init 27 = .ok (.putfield 16, 3) := by decide +kernel
theorem dX7_init_30 : decode cX7_init 30 = .ok (.aload_n 0, 1) := by decide +kernel
theorem dX7_init_31 : decode cX7_init 31 = .ok (.bipush 66, 2) := by decide +kernel
theorem dX7_init_33 : decode cX7_init 33 = .ok (.newarray .int, 2) := by decide +kernel
theorem dX7_init_35 : decode cX7_init 35 = .ok (.putfield 19, 3) := by decide +kernel
theorem dX7_init_38 : decode cX7_init 38 = .ok (.aload_n 0, 1) := by decide +kernel
theorem dX7_init_39 : decode cX7_init 39 = .ok (.bipush 100, 2) := by decide +kernel
theorem dX7_init_41 : decode cX7_init 41 = .ok (.newarray .int, 2) := by decide +kernel
theorem dX7_init_43 : decode cX7_init 43 = .ok (.putfield 22, 3) := by decide +kernel
theorem dX7_init_46 : decode cX7_init 46 = .ok (.aload_n 0, 1) := by decide +kernel
theorem dX7_init_47 : decode cX7_init 47 = .ok (.bipush 100, 2) := by decide +kernel
theorem dX7_init_49 : decode cX7_init 49 = .ok (.newarray .int, 2) := by decide +kernel
theorem dX7_init_51 : decode cX7_init 51 = .ok (.putfield 25, 3) := by decide +kernel
theorem dX7_init_54 : decode cX7_init 54 = .ok (.aload_n 0, 1) := by decide +kernel
theorem dX7_init_55 : decode cX7_init 55 = .ok (.bipush 100, 2) := by decide +kernel
theorem dX7_init_57 : decode cX7_init 57 = .ok (.newarray .int, 2) := by decide +kernel
theorem dX7_init_59 : decode cX7_init 59 = .ok (.putfield 28, 3) := by decide +kernel
theorem dX7_init_62 : decode cX7_init 62 = .ok (.aload_n 0, 1) := by decide +kernel
theorem dX7_init_63 : decode cX7_init 63 = .ok (.bipush 120, 2) := by decide +kernel
theorem dX7_init_65 : decode cX7_init 65 = .ok (.newarray .int, 2) := by decide +kernel
theorem dX7_init_67 : decode cX7_init 67 = .ok (.putfield 31, 3) := by decide +kernel
theorem dX7_init_70 : decode cX7_init 70 = .ok (.aload_n 0, 1) := by decide +kernel
theorem dX7_init_71 : decode cX7_init 71 = .ok (.bipush 120, 2) := by decide +kernel
theorem dX7_init_73 : decode cX7_init 73 = .ok (.newarray .int, 2) := by decide +kernel
theorem dX7_init_75 : decode cX7_init 75 = .ok (.putfield 34, 3) := by decide +kernel
theorem dX7_init_78 : decode cX7_init 78 = .ok (.aload_n 0, 1) := by decide +kernel
theorem dX7_init_79 : decode cX7_init 79 = .ok (.bipush 120, 2) := by decide +kernel
theorem dX7_init_81 : decode cX7_init 81 = .ok (.newarray .int, 2) := by decide +kernel
theorem dX7_init_83 : decode cX7_init 83 = .ok (.putfield 37, 3) := by decide +kernel
theorem dX7_init_86 : decode cX7_init 86 = .ok (.aload_n 0, 1) := by decide +kernel
theorem dX7_init_87 : decode cX7_init 87 = .ok (.sipush 4800, 3) := by decide +kernel
theorem dX7_init_90 : decode cX7_init 90 = .ok (.newarray .int, 2) := by decide +kernel
theorem dX7_init_92 : decode cX7_init 92 = .ok (.putfield 40, 3) := by decide +kernel
theorem dX7_init_95 : decode cX7_init 95 = .ok (.aload_n 0, 1) := by decide +kernel
theorem dX7_init_96 : decode cX7_init 96 = .ok (.bipush 120, 2) := by decide +kernel
theorem dX7_init_98 : decode cX7_init 98 = .ok (.newarray .int, 2) := by decide +kernel
theorem dX7_init_100 : decode cX7_init 100 = .ok (.putfield 43, 3) := by decide +kernel
theorem dX7_init_103 : decode cX7_init 103 = .ok (.aload_n 0, 1) := by decide +kernel
theorem dX7_init_104 : decode cX7_init 104 = .ok (.sipush 1440, 3) := by decide +kernel
theorem dX7_init_107 : decode cX7_init 107 = .ok (.newarray .int, 2) := by decide +kernel
theorem dX7_init_109 : decode cX7_init 109 = .ok (.putfield 46, 3) := by decide +kernel
theorem dX7_init_112 : decode cX7_init 112 = .ok (.aload_n 0, 1) := by decide +kernel
theorem dX7_init_113 : decode cX7_init 113 = .ok (.sipush 400, 3) := by decide +kernel
theorem dX7_init_116 : decode cX7_init 116 = .ok (.newarray .int, 2) := by decide +kernel
theorem dX7_init_118 : decode cX7_init 118 = .ok (.putfield 49, 3) := by decide +kernel
theorem dX7_init_121 : decode cX7_init 121 = .ok (.aload_n 0, 1) := by decide +kernel
theorem dX7_init_122 : decode cX7_init 122 = .ok (.sipush 400, 3) := by decide +kernel
theorem dX7_init_125 : decode cX7_init 125 = .ok (.newarray .int, 2) := by decide +kernel
theorem dX7_init_127 : decode cX7_init 127 = .ok (.putfield 52, 3) := by decide +kernel
theorem dX7_init_130 : decode cX7_init 130 = .ok (.aload_n 0, 1) := by decide +kernel
theorem dX7_init_131 : decode cX7_init 131 = .ok (.sipush 400, 3) := by decide +kernel
theorem dX7_init_134 : decode cX7_init 134 = .ok (.newarray .int, 2) := by decide +kernel
theorem dX7_init_136 : decode cX7_init 136 = .ok (.putfield 55, 3) := by decide +kernel
theorem dX7_init_139 : decode cX7_init 139 = .ok (.aload_n 0, 1) := by decide +kernel
theorem dX7_init_140 : decode cX7_init 140 = .ok (.sipush 400, 3) := by decide +kernel
theorem dX7_init_143 : decode cX7_init 143 = .ok (.newarray .int, 2) := by decide +kernel
theorem dX7_init_145 : decode cX7_init 145 = .ok (.putfield 58, 3) := by decide +kernel
theorem dX7_init_148 : decode cX7_init 148 = .ok (.aload_n 0, 1) := by decide +kernel
theorem dX7_init_149 : decode cX7_init 149 = .ok (.bipush 40, 2) := by decide +kernel
theorem dX7_init_151 : decode cX7_init 151 = .ok (.newarray .int, 2) := by decide +kernel
theorem dX7_init_153 : decode cX7_init 153 = .ok (.putfield 61, 3) := by decide +kernel
theorem dX7_init_156 : decode cX7_init 156 = .ok (.aload_n 0, 1) := by decide +kernel
theorem dX7_init_157 : decode cX7_init 157 = .ok (.bipush 40, 2) := by decide +kernel
theorem dX7_init_159 : decode cX7_init 159 = .ok (.newarray .int, 2) := by decide +kernel
theorem dX7_init_161 : decode cX7_init 161 = .ok (.putfield 64, 3) := by decide +kernel
theorem dX7_init_164 : decode cX7_init 164 = .ok (.aload_n 0, 1) := by decide +kernel
theorem dX7_init_165 : decode cX7_init 165 = .ok (.sipush 1681, 3) := by decide +kernel
theorem dX7_init_168 : decode cX7_init 168 = .ok (.newarray .int, 2) := by decide +kernel
theorem dX7_init_170 : decode cX7_init 170 = .ok (.putfield 67, 3) := by decide +kernel
theorem dX7_init_173 : decode cX7_init 173 = .ok (.aload_n 0, 1) := by decide +kernel
theorem dX7_init_174 : decode cX7_init 174 = .ok (.sipush 400, 3) := by decide +kernel
theorem dX7_init_177 : decode cX7_init 177 = .ok (.newarray .int, 2) := by decide +kernel
theorem dX7_init_179 : decode cX7_init 179 = .ok (.putfield 70, 3) := by decide +kernel
theorem dX7_init_182 : decode cX7_init 182 = .ok (.aload_n 0, 1) := by decide +kernel
theorem dX7_init_183 : decode cX7_init 183 = .ok (.sipush 400, 3) := by decide +kernel
theorem dX7_init_186 : decode cX7_init 186 = .ok (.newarray .int, 2) := by decide +kernel
theorem dX7_init_188 : decode cX7_init 188 = .ok (.putfield 73, 3) := by decide +kernel
theorem dX7_init_191 : decode cX7_init 191 = .ok (.iconst 0, 1) := by decide +kernel
theorem dX7_init_192 : decode cX7_init 192 = .ok (.istore_n 1, 1) := by decide +kernel
theorem dX7_init_193 : decode cX7_init 193 = .ok (.iload_n 1, 1) := by decide +kernel
theorem dX7_init_194 : decode cX7_init 194 = .ok (.bipush 26, 2) := by decide +kernel
theorem dX7_init_196 : decode cX7_init 196 = .ok (.if_icmp .ge 16, 3) := by decide +kernel
theorem dX7_init_199 : decode cX7_init 199 = .ok (.aload_n 0, 1) := by decide +kernel
theorem dX7_init_200 : decode cX7_init 200 = .ok (.getfield 7, 3) := by decide +kernel
theorem dX7_init_203 : decode cX7_init 203 = .ok (.iload_n 1, 1) := by decide +kernel
theorem dX7_init_204 : decode cX7_init 204 = .ok (.iconst (-1), 1) := by decide +kernel
theorem dX7_init_205 : decode cX7_init 205 = .ok (.iastore, 1) := by decide +kernel
theorem dX7_init_206 : decode cX7_init 206 = .ok (.iinc 1 1, 3) := by decide +kernel
theorem dX7_init_209 : decode cX7_init 209 = .ok (.goto (-16), 3) := by decide +kernel
theorem dX7_init_212 : decode cX7_init 212 = .ok (.iconst 0, 1) := by decide +kernel
theorem dX7_init_213 : decode cX7_init 213 = .ok (.istore_n 1, 1) := by decide +kernel
theorem dX7_init_214 : decode cX7_init 214 = .ok (.iload_n 1, 1) := by decide +kernel
theorem dX7_init_215 : decode cX7_init 215 = .ok (.bipush 66, 2) := by decide +kernel
theorem dX7_init_217 : decode cX7_init 217 = .ok (.if_icmp .ge 53, 3) := by decide +kernel
theorem dX7_init_220 : decode cX7_init 220 = .ok (.aload_n 0, 1) := by decide +kernel
theorem dX7_init_221 : decode cX7_init 221 = .ok (.getfield 19, 3) := by decide +kernel
theorem dX7_init_224 : decode cX7_init 224 = .ok (.iload_n 1, 1) := by decide +kernel
theorem dX7_init_225 : decode cX7_init 225 = .ok (.bipush 10, 2) := by decide +kernel
theorem dX7_init_227 : decode cX7_init 227 = .ok (.iastore, 1) := by decide +kernel
theorem dX7_init_228 : decode cX7_init 228 = .ok (.iconst 0, 1) := by decide +kernel
theorem dX7_init_229 : decode cX7_init 229 = .ok (.istore_n 2, 1) := by decide +kernel
theorem dX7_init_230 : decode cX7_init 230 = .ok (.iload_n 2, 1) := by decide +kernel
theorem dX7_init_231 : decode cX7_init 231 = .ok (.bipush 66, 2) := by decide +kernel
theorem dX7_init_233 : decode cX7_init 233 = .ok (.if_icmp .ge 31, 3) := by decide +kernel
theorem dX7_init_236 : decode cX7_init 236 = .ok (.aload_n 0, 1) := by decide +kernel
theorem dX7_init_237 : decode cX7_init 237 = .ok (.getfield 16, 3) := by decide +kernel
theorem dX7_init_240 : decode cX7_init 240 = .ok (.bipush 66, 2) := by decide +kernel
theorem dX7_init_242 : decode cX7_init 242 = .ok (.iload_n 1, 1) := by decide +kernel
theorem dX7_init_243 : decode cX7_init 243 = .ok (.imul, 1) := by decide +kernel
theorem dX7_init_244 : decode cX7_init 244 = .ok (.iload_n 2, 1) := by decide +kernel
theorem dX7_init_245 : decode cX7_init 245 = .ok (.iadd, 1) := by decide +kernel
theorem dX7_init_246 : decode cX7_init 246 = .ok (.iload_n 1, 1) := by decide +kernel
theorem dX7_init_247 : decode cX7_init 247 = .ok (.iload_n 2, 1) := by decide +kernel
theorem dX7_init_248 : decode cX7_init 248 = .ok (.if_icmp .ne 7, 3) := by decide +kernel
theorem dX7_init_251 : decode cX7_init 251 = .ok (.iconst 0, 1) := by decide +kernel
theorem dX7_init_252 : decode cX7_init 252 = .ok (.goto 5, 3) := by decide +kernel
theorem dX7_init_255 : decode cX7_init 255 = .ok (.bipush 10, 2) := by decide +kernel
theorem dX7_init_257 : decode cX7_init 257 = .ok (.iastore, 1) := by decide +kernel
theorem dX7_init_258 : decode cX7_init 258 = .ok (.iinc 2 1, 3) := by decide +kernel
theorem dX7_init_261 : decode cX7_init 261 = .ok (.goto (-31), 3) := by decide +kernel
theorem dX7_init_264 : decode cX7_init 264 = .ok (.iinc 1 1, 3) := by decide +kernel
theorem dX7_init_267 : decode cX7_init 267 = .ok (.goto (-53), 3) := by decide +kernel
theorem dX7_init_270 : decode cX7_init 270 = .ok (.aload_n 0, 1) := by decide +kernel
theorem dX7_init_271 : decode cX7_init 271 = .ok (.sipush 700, 3) := by decide +kernel
theorem dX7_init_274 : decode cX7_init 274 = .ok (.putfield 76, 3) := by decide +kernel
theorem dX7_init_277 : decode cX7_init 277 = .ok (.aload_n 0, 1) := by decide +kernel
theorem dX7_init_278 : decode cX7_init 278 = .ok (.sipush 500, 3) := by decide +kernel
theorem dX7_init_281 : decode cX7_init 281 = .ok (.putfield 80, 3) := by decide +kernel
theorem dX7_init_284 : decode cX7_init 284 = .ok (.return_, 1) := by decide +kernel
theorem dX7_in_0 : decode cX7_in 0 = .ok (.iload_n 0, 1) := by decide +kernel
theorem dX7_in_1 : decode cX7_in 1 = .ok (.iload_n 1, 1) := by decide +kernel
theorem dX7_in_2 : decode cX7_in 2 = .ok (.if_icmp .lt 12, 3) := by decide +kernel
theorem dX7_in_5 : decode cX7_in 5 = .ok (.iload_n 0, 1) := by decide +kernel
theorem dX7_in_6 : decode cX7_in 6 = .ok (.iload_n 2, 1) := by decide +kernel
theorem dX7_in_7 : decode cX7_in 7 = .ok (.if_icmp .gt 7, 3) := by decide +kernel
theorem dX7_in_10 : decode cX7_in 10 = .ok (.iconst 1, 1) := by decide +kernel
theorem dX7_in_11 : decode cX7_in 11 = .ok (.goto 4, 3) := by decide +kernel
theorem dX7_in_14 : decode cX7_in 14 = .ok (.iconst 0, 1) := by decide +kernel
theorem dX7_in_15 : decode cX7_in 15 = .ok (.ireturn, 1) := by decide +kernel
theorem dX7_isMark_0 : decode cX7_isMark 0 = .ok (.iload_n 1, 1) := by decide +kernel
theorem dX7_isMark_1 : decode cX7_isMark 1 = .ok (.iconst 0, 1) := by decide +kernel
theorem dX7_isMark_2 : decode cX7_isMark 2 = .ok (.aload_n 0, 1) := by decide +kernel
theorem dX7_isMark_3 : decode cX7_isMark 3 = .ok (.getfield 83, 3) := by decide +kernel
theorem dX7_isMark_6 : decode cX7_isMark 6 = .ok (.iconst 1, 1) := by decide +kernel
theorem dX7_isMark_7 : decode cX7_isMark 7 = .ok (.isub, 1) := by decide +kernel
theorem dX7_isMark_8 : decode cX7_isMark 8 = .ok (.invokestatic 86, 3) := by decide +kernel
theorem dX7_isMark_11 : decode cX7_isMark 11 = .ok (.ireturn, 1) := by decide +kernel
theorem dX7_isDay_0 : decode cX7_isDay 0 = .ok (.iload_n 0, 1) := by decide +kernel
theorem dX7_isDay_1 : decode cX7_isDay 1 = .ok (.iconst 0, 1) := by decide +kernel
theorem dX7_isDay_2 : decode cX7_isDay 2 = .ok (.ldc 90, 2) := by decide +kernel
theorem dX7_isDay_4 : decode cX7_isDay 4 = .ok (.invokestatic 86, 3) := by decide +kernel
theorem dX7_isDay_7 : decode cX7_isDay 7 = .ok (.ireturn, 1) := by decide +kernel
theorem dX7_isCountry_0 : decode cX7_isCountry 0 = .ok (.iload_n 0, 1) := by decide +kernel
theorem dX7_isCountry_1 : decode cX7_isCountry 1 = .ok (.iconst 0, 1) := by decide +kernel
theorem dX7_isCountry_2 : decode cX7_isCountry 2 = .ok (.bipush 15, 2) := by decide +kernel
theorem dX7_isCountry_4 : decode cX7_isCountry 4 = .ok (.invokestatic 86, 3) := by decide +kernel
theorem dX7_isCountry_7 : decode cX7_isCountry 7 = .ok (.ireturn, 1) := by decide +kernel
theorem dX7_isGoods_0 : decode cX7_isGoods 0 = .ok (.iload_n 0, 1) := by decide +kernel
theorem dX7_isGoods_1 : decode cX7_isGoods 1 = .ok (.iconst 0, 1) := by decide +kernel
theorem dX7_isGoods_2 : decode cX7_isGoods 2 = .ok (.sipush 359, 3) := by decide +kernel
theorem dX7_isGoods_5 : decode cX7_isGoods 5 = .ok (.invokestatic 86, 3) := by decide +kernel
theorem dX7_isGoods_8 : decode cX7_isGoods 8 = .ok (.ireturn, 1) := by decide +kernel
theorem dX7_isPerson_0 : decode cX7_isPerson 0 = .ok (.iload_n 0, 1) := by decide +kernel
theorem dX7_isPerson_1 : decode cX7_isPerson 1 = .ok (.iconst 0, 1) := by decide +kernel
theorem dX7_isPerson_2 : decode cX7_isPerson 2 = .ok (.bipush 99, 2) := by decide +kernel
theorem dX7_isPerson_4 : decode cX7_isPerson 4 = .ok (.invokestatic 86, 3) := by decide +kernel
theorem dX7_isPerson_7 : decode cX7_isPerson 7 = .ok (.ireturn, 1) := by decide +kernel
theorem dX7_row_0 : decode cX7_row 0 = .ok (.iload_n 1, 1) := by decide +kernel
theorem dX7_row_1 : decode cX7_row 1 = .ok (.iconst 0, 1) := by decide +kernel
theorem dX7_row_2 : decode cX7_row 2 = .ok (.bipush 25, 2) := by decide +kernel
theorem dX7_row_4 : decode cX7_row 4 = .ok (.invokestatic 86, 3) := by decide +kernel
theorem dX7_row_7 : decode cX7_row 7 = .ok (.ifCond .eq 13, 3) := by decide +kernel
theorem dX7_row_10 : decode cX7_row 10 = .ok (.iload_n 2, 1) := by decide +kernel
theorem dX7_row_11 : decode cX7_row 11 = .ok (.iconst (-1), 1) := by decide +kernel
theorem dX7_row_12 : decode cX7_row 12 = .ok (.bipush 27, 2) := by decide +kernel
theorem dX7_row_14 : decode cX7_row 14 = .ok (.invokestatic 86, 3) := by decide +kernel
theorem dX7_row_17 : decode cX7_row 17 = .ok (.ifCond .ne 5, 3) := by decide +kernel
theorem dX7_row_20 : decode cX7_row 20 = .ok (.iconst 0, 1) := by decide +kernel
theorem dX7_row_21 : decode cX7_row 21 = .ok (.ireturn, 1) := by decide +kernel
theorem dX7_row_22 : decode cX7_row 22 = .ok (.aload_n 0, 1) := by decide +kernel
theorem dX7_row_23 : decode cX7_row 23 = .ok (.getfield 7, 3) := by decide +kernel
theorem dX7_row_26 : decode cX7_row 26 = .ok (.iload_n 1, 1) := by decide +kernel
theorem dX7_row_27 : decode cX7_row 27 = .ok (.iload_n 2, 1) := by decide +kernel
theorem dX7_row_28 : decode cX7_row 28 = .ok (.iastore, 1) := by decide +kernel
theorem dX7_row_29 : decode cX7_row 29 = .ok (.iconst 0, 1) := by decide +kernel
theorem dX7_row_30 : decode cX7_row 30 = .ok (.istore_n 3, 1) := by decide +kernel
theorem dX7_row_31 : decode cX7_row 31 = .ok (.iload_n 3, 1) := by decide +kernel
theorem dX7_row_32 : decode cX7_row 32 = .ok (.bipush 27, 2) := by decide +kernel
theorem dX7_row_34 : decode cX7_row 34 = .ok (.if_icmp .ge 21, 3) := by decide +kernel
theorem dX7_row_37 : decode cX7_row 37 = .ok (.aload_n 0, 1) := by decide +kernel
theorem dX7_row_38 : decode cX7_row 38 = .ok (.getfield 13, 3) := by decide +kernel
theorem dX7_row_41 : decode cX7_row 41 = .ok (.bipush 27, 2) := by decide +kernel
theorem dX7_row_43 : decode cX7_row 43 = .ok (.iload_n 1, 1) := by decide +kernel
theorem dX7_row_44 : decode cX7_row 44 = .ok (.imul, 1) := by decide +kernel
theorem dX7_row_45 : decode cX7_row 45 = .ok (.iload_n 3, 1) := by decide +kernel
theorem dX7_row_46 : decode cX7_row 46 = .ok (.iadd, 1) := by decide +kernel
theorem dX7_row_47 : decode cX7_row 47 = .ok (.iconst 0, 1) := by decide +kernel
theorem dX7_row_48 : decode cX7_row 48 = .ok (.iastore, 1) := by decide +kernel
theorem dX7_row_49 : decode cX7_row 49 = .ok (.iinc 3 1, 3) := by decide +kernel
theorem dX7_row_52 : decode cX7_row 52 = .ok (.goto (-21), 3) := by decide +kernel
theorem dX7_row_55 : decode cX7_row 55 = .ok (.iconst 1, 1) := by decide +kernel
theorem dX7_row_56 : decode cX7_row 56 = .ok (.ireturn, 1) := by decide +kernel
theorem dX7_sound_0 : decode cX7_sound 0 = .ok (.iload_n 1, 1) := by decide +kernel
theorem dX7_sound_1 : decode cX7_sound 1 = .ok (.iconst 0, 1) := by decide +kernel
theorem dX7_sound_2 : decode cX7_sound 2 = .ok (.bipush 25, 2) := by decide +kernel
theorem dX7_sound_4 : decode cX7_sound 4 = .ok (.invokestatic 86, 3) := by decide +kernel
theorem dX7_sound_7 : decode cX7_sound 7 = .ok (.ifCond .eq 29, 3) := by decide +kernel
theorem dX7_sound_10 : decode cX7_sound 10 = .ok (.iload_n 2, 1) := by decide +kernel
theorem dX7_sound_11 : decode cX7_sound 11 = .ok (.iconst 0, 1) := by decide +kernel
theorem dX7_sound_12 : decode cX7_sound 12 = .ok (.aload_n 0, 1) := by decide +kernel
theorem dX7_sound_13 : decode cX7_sound 13 = .ok (.getfield 7, 3) := by decide +kernel
theorem dX7_sound_16 : decode cX7_sound 16 = .ok (.iload_n 1, 1) := by decide +kernel
theorem dX7_sound_17 : decode cX7_sound 17 = .ok (.iaload, 1) := by decide +kernel
theorem dX7_sound_18 : decode cX7_sound 18 = .ok (.iconst 1, 1) := by decide +kernel
theorem dX7_sound_19 : decode cX7_sound 19 = .ok (.isub, 1) := by decide +kernel
theorem dX7_sound_20 : decode cX7_sound 20 = .ok (.invokestatic 86, 3) := by decide +kernel
theorem dX7_sound_23 : decode cX7_sound 23 = .ok (.ifCond .eq 13, 3) := by decide +kernel
theorem dX7_sound_26 : decode cX7_sound 26 = .ok (.iload_n 3, 1) := by decide +kernel
theorem dX7_sound_27 : decode cX7_sound 27 = .ok (.iconst 0, 1) := by decide +kernel
theorem dX7_sound_28 : decode cX7_sound 28 = .ok (.bipush 39, 2) := by decide +kernel
theorem dX7_sound_30 : decode cX7_sound 30 = .ok (.invokestatic 86, 3) := by decide +kernel
theorem dX7_sound_33 : decode cX7_sound 33 = .ok (.ifCond .ne 5, 3) := by decide +kernel
theorem dX7_sound_36 : decode cX7_sound 36 = .ok (.iconst 0, 1) := by decide +kernel
theorem dX7_sound_37 : decode cX7_sound 37 = .ok (.ireturn, 1) := by decide +kernel
theorem dX7_sound_38 : decode cX7_sound 38 = .ok (.aload_n 0, 1) := by decide +kernel
theorem dX7_sound_39 : decode cX7_sound 39 = .ok (.getfield 13, 3) := by decide +kernel
theorem dX7_sound_42 : decode cX7_sound 42 = .ok (.bipush 27, 2) := by decide +kernel
theorem dX7_sound_44 : decode cX7_sound 44 = .ok (.iload_n 1, 1) := by decide +kernel
theorem dX7_sound_45 : decode cX7_sound 45 = .ok (.imul, 1) := by decide +kernel
theorem dX7_sound_46 : decode cX7_sound 46 = .ok (.iload_n 2, 1) := by decide +kernel
theorem dX7_sound_47 : decode cX7_sound 47 = .ok (.iadd, 1) := by decide +kernel
theorem dX7_sound_48 : decode cX7_sound 48 = .ok (.iload_n 3, 1) := by decide +kernel
theorem dX7_sound_49 : decode cX7_sound 49 = .ok (.iastore, 1) := by decide +kernel
theorem dX7_sound_50 : decode cX7_sound 50 = .ok (.iconst 1, 1) := by decide +kernel
theorem dX7_sound_51 : decode cX7_sound 51 = .ok (.ireturn, 1) := by decide +kernel
theorem dX7_cost_0 : decode cX7_cost 0 = .ok (.iload_n 1, 1) := by decide +kernel
theorem dX7_cost_1 : decode cX7_cost 1 = .ok (.iconst 0, 1) := by decide +kernel
theorem dX7_cost_2 : decode cX7_cost 2 = .ok (.bipush 65, 2) := by decide +kernel
theorem dX7_cost_4 : decode cX7_cost 4 = .ok (.invokestatic 86, 3) := by decide +kernel
theorem dX7_cost_7 : decode cX7_cost 7 = .ok (.ifCond .eq 28, 3) := by decide +kernel
theorem dX7_cost_10 : decode cX7_cost 10 = .ok (.iload_n 2, 1) := by decide +kernel
theorem dX7_cost_11 : decode cX7_cost 11 = .ok (.iconst (-1), 1) := by decide +kernel
theorem dX7_cost_12 : decode cX7_cost 12 = .ok (.bipush 65, 2) := by decide +kernel
theorem dX7_cost_14 : decode cX7_cost 14 = .ok (.invokestatic 86, 3) := by decide +kernel
theorem dX7_cost_17 : decode cX7_cost 17 = .ok (.ifCond .eq 18, 3) := by decide +kernel
theorem dX7_cost_20 : decode cX7_cost 20 = .ok (.iload_n 1, 1) := by decide +kernel
theorem dX7_cost_21 : decode cX7_cost 21 = .ok (.iload_n 2, 1) := by decide +kernel
theorem dX7_cost_22 : decode cX7_cost 22 = .ok (.if_icmp .eq 13, 3) := by decide +kernel
theorem dX7_cost_25 : decode cX7_cost 25 = .ok (.iload_n 3, 1) := by decide +kernel
theorem dX7_cost_26 : decode cX7_cost 26 = .ok (.iconst 1, 1) := by decide +kernel
theorem dX7_cost_27 : decode cX7_cost 27 = .ok (.bipush 100, 2) := by decide +kernel
theorem dX7_cost_29 : decode cX7_cost 29 = .ok (.invokestatic 86, 3) := by decide +kernel
theorem dX7_cost_32 : decode cX7_cost 32 = .ok (.ifCond .ne 5, 3) := by decide +kernel
theorem dX7_cost_35 : decode cX7_cost 35 = .ok (.iconst 0, 1) := by decide +kernel
theorem dX7_cost_36 : decode cX7_cost 36 = .ok (.ireturn, 1) := by decide +kernel
theorem dX7_cost_37 : decode cX7_cost 37 = .ok (.iload_n 2, 1) := by decide +kernel
theorem dX7_cost_38 : decode cX7_cost 38 = .ok (.iconst (-1), 1) := by decide +kernel
theorem dX7_cost_39 : decode cX7_cost 39 = .ok (.if_icmp .ne 13, 3) := by decide +kernel
theorem dX7_cost_42 : decode cX7_cost 42 = .ok (.aload_n 0, 1) := by decide +kernel
theorem dX7_cost_43 : decode cX7_cost 43 = .ok (.getfield 19, 3) := by decide +kernel
theorem dX7_cost_46 : decode cX7_cost 46 = .ok (.iload_n 1, 1) := by decide +kernel
theorem dX7_cost_47 : decode cX7_cost 47 = .ok (.iload_n 3, 1) := by decide +kernel
theorem dX7_cost_48 : decode cX7_cost 48 = .ok (.iastore, 1) := by decide +kernel
theorem dX7_cost_49 : decode cX7_cost 49 = .ok (.goto 27, 3) := by decide +kernel
theorem dX7_cost_52 : decode cX7_cost 52 = .ok (.aload_n 0, 1) := by decide +kernel
theorem dX7_cost_53 : decode cX7_cost 53 = .ok (.getfield 16, 3) := by decide +kernel
theorem dX7_cost_56 : decode cX7_cost 56 = .ok (.bipush 66, 2) := by decide +kernel
theorem dX7_cost_58 : decode cX7_cost 58 = .ok (.iload_n 1, 1) := by decide +kernel
theorem dX7_cost_59 : decode cX7_cost 59 = .ok (.imul, 1) := by decide +kernel
theorem dX7_cost_60 : decode cX7_cost 60 = .ok (.iload_n 2, 1) := by decide +kernel
theorem dX7_cost_61 : decode cX7_cost 61 = .ok (.iadd, 1) := by decide +kernel
theorem dX7_cost_62 : decode cX7_cost 62 = .ok (.iload_n 3, 1) := by decide +kernel
theorem dX7_cost_63 : decode cX7_cost 63 = .ok (.iastore, 1) := by decide +kernel
theorem dX7_cost_64 : decode cX7_cost 64 = .ok (.aload_n 0, 1) := by decide +kernel
theorem dX7_cost_65 : decode cX7_cost 65 = .ok (.getfield 16, 3) := by decide +kernel
theorem dX7_cost_68 : decode cX7_cost 68 = .ok (.bipush 66, 2) := by decide +kernel
theorem dX7_cost_70 : decode cX7_cost 70 = .ok (.iload_n 2, 1) := by decide +kernel
theorem dX7_cost_71 : decode cX7_cost 71 = .ok (.imul, 1) := by decide +kernel
theorem dX7_cost_72 : decode cX7_cost 72 = .ok (.iload_n 1, 1) := by decide +kernel
theorem dX7_cost_73 : decode cX7_cost 73 = .ok (.iadd, 1) := by decide +kernel
theorem dX7_cost_74 : decode cX7_cost 74 = .ok (.iload_n 3, 1) := by decide +kernel
theorem dX7_cost_75 : decode cX7_cost 75 = .ok (.iastore, 1) := by decide +kernel
theorem dX7_cost_76 : decode cX7_cost 76 = .ok (.iconst 1, 1) := by decide +kernel
theorem dX7_cost_77 : decode cX7_cost 77 = .ok (.ireturn, 1) := by decide +kernel
theorem dX7_pairOf_0 : decode cX7_pairOf 0 = .ok (.iload_n 1, 1) := by decide +kernel
theorem dX7_pairOf_1 : decode cX7_pairOf 1 = .ok (.iload_n 2, 1) := by decide +kernel
theorem dX7_pairOf_2 : decode cX7_pairOf 2 = .ok (.if_icmp .ge 7, 3) := by decide +kernel
theorem dX7_pairOf_5 : decode cX7_pairOf 5 = .ok (.iload_n 1, 1) := by decide +kernel
theorem dX7_pairOf_6 : decode cX7_pairOf 6 = .ok (.goto 4, 3) := by decide +kernel
theorem dX7_pairOf_9 : decode cX7_pairOf 9 = .ok (.iload_n 2, 1) := by decide +kernel
theorem dX7_pairOf_10 : decode cX7_pairOf 10 = .ok (.istore_n 3, 1) := by decide +kernel
theorem dX7_pairOf_11 : decode cX7_pairOf 11 = .ok (.iload_n 1, 1) := by decide +kernel
theorem dX7_pairOf_12 : decode cX7_pairOf 12 = .ok (.iload_n 2, 1) := by decide +kernel
theorem dX7_pairOf_13 : decode cX7_pairOf 13 = .ok (.if_icmp .ge 7, 3) := by decide +kernel
theorem dX7_pairOf_16 : decode cX7_pairOf 16 = .ok (.iload_n 2, 1) := by decide +kernel
theorem dX7_pairOf_17 : decode cX7_pairOf 17 = .ok (.goto 4, 3) := by decide +kernel
theorem dX7_pairOf_20 : decode cX7_pairOf 20 = .ok (.iload_n 1, 1) := by decide +kernel
theorem dX7_pairOf_21 : decode cX7_pairOf 21 = .ok (.istore 4, 2) := by decide +kernel
theorem dX7_pairOf_23 : decode cX7_pairOf 23 = .ok (.iconst (-1), 1) := by decide +kernel
theorem dX7_pairOf_24 : decode cX7_pairOf 24 = .ok (.istore 5, 2) := by decide +kernel
theorem dX7_pairOf_26 : decode cX7_pairOf 26 = .ok (.iconst 0, 1) := by decide +kernel
theorem dX7_pairOf_27 : decode cX7_pairOf 27 = .ok (.istore 6, 2) := by decide +kernel
theorem dX7_pairOf_29 : decode cX7_pairOf 29 = .ok (.iload 6, 2) := by decide +kernel
theorem dX7_pairOf_31 : decode cX7_pairOf 31 = .ok (.aload_n 0, 1) := by decide +kernel
theorem dX7_pairOf_32 : decode cX7_pairOf 32 = .ok (.getfield 91, 3) := by decide +kernel
theorem dX7_pairOf_35 : decode cX7_pairOf 35 = .ok (.if_icmp .ge 41, 3) := by decide +kernel
theorem dX7_pairOf_38 : decode cX7_pairOf 38 = .ok (.aload_n 0, 1) := by decide +kernel
theorem dX7_pairOf_39 : decode cX7_pairOf 39 = .ok (.getfield 22, 3) := by decide +kernel
theorem dX7_pairOf_42 : decode cX7_pairOf 42 = .ok (.iload 6, 2) := by decide +kernel
theorem dX7_pairOf_44 : decode cX7_pairOf 44 = .ok (.iaload, 1) := by decide +kernel
theorem dX7_pairOf_45 : decode cX7_pairOf 45 = .ok (.iload_n 3, 1) := by decide +kernel
theorem dX7_pairOf_46 : decode cX7_pairOf 46 = .ok (.if_icmp .ne 20, 3) := by decide +kernel
theorem dX7_pairOf_49 : decode cX7_pairOf 49 = .ok (.aload_n 0, 1) := by decide +kernel
theorem dX7_pairOf_50 : decode cX7_pairOf 50 = .ok (.getfield 25, 3) := by decide +kernel
theorem dX7_pairOf_53 : decode cX7_pairOf 53 = .ok (.iload 6, 2) := by decide +kernel
theorem dX7_pairOf_55 : decode cX7_pairOf 55 = .ok (.iaload, 1) := by decide +kernel
theorem dX7_pairOf_56 : decode cX7_pairOf 56 = .ok (.iload 4, 2) := by decide +kernel
theorem dX7_pairOf_58 : decode cX7_pairOf 58 = .ok (.if_icmp .ne 8, 3) := by decide +kernel
theorem dX7_pairOf_61 : decode cX7_pairOf 61 = .ok (.iload 6, 2) := by decide +kernel
theorem dX7_pairOf_63 : decode cX7_pairOf 63 = .ok (.goto 5, 3) := by decide +kernel
theorem dX7_pairOf_66 : decode cX7_pairOf 66 = .ok (.iload 5, 2) := by decide +kernel
theorem dX7_pairOf_68 : decode cX7_pairOf 68 = .ok (.istore 5, 2) := by decide +kernel
theorem dX7_pairOf_70 : decode cX7_pairOf 70 = .ok (.iinc 6 1, 3) := by decide +kernel
theorem dX7_pairOf_73 : decode cX7_pairOf 73 = .ok (.goto (-44), 3) := by decide +kernel
theorem dX7_pairOf_76 : decode cX7_pairOf 76 = .ok (.iload 5, 2) := by decide +kernel
theorem dX7_pairOf_78 : decode cX7_pairOf 78 = .ok (.ireturn, 1) := by decide +kernel
theorem dX7_near_0 : decode cX7_near 0 = .ok (.iload_n 1, 1) := by decide +kernel
theorem dX7_near_1 : decode cX7_near 1 = .ok (.invokestatic 94, 3) := by decide +kernel
theorem dX7_near_4 : decode cX7_near 4 = .ok (.ifCond .eq 26, 3) := by decide +kernel
theorem dX7_near_7 : decode cX7_near 7 = .ok (.iload_n 2, 1) := by decide +kernel
theorem dX7_near_8 : decode cX7_near 8 = .ok (.invokestatic 94, 3) := by decide +kernel
theorem dX7_near_11 : decode cX7_near 11 = .ok (.ifCond .eq 19, 3) := by decide +kernel
theorem dX7_near_14 : decode cX7_near 14 = .ok (.iload_n 1, 1) := by decide +kernel
theorem dX7_near_15 : decode cX7_near 15 = .ok (.iload_n 2, 1) := by decide +kernel
theorem dX7_near_16 : decode cX7_near 16 = .ok (.if_icmp .eq 14, 3) := by decide +kernel
theorem dX7_near_19 : decode cX7_near 19 = .ok (.iload_n 3, 1) := by decide +kernel
theorem dX7_near_20 : decode cX7_near 20 = .ok (.iconst 0, 1) := by decide +kernel
theorem dX7_near_21 : decode cX7_near 21 = .ok (.sipush 999, 3) := by decide +kernel
theorem dX7_near_24 : decode cX7_near 24 = .ok (.invokestatic 86, 3) := by decide +kernel
theorem dX7_near_27 : decode cX7_near 27 = .ok (.ifCond .ne 5, 3) := by decide +kernel
theorem dX7_near_30 : decode cX7_near 30 = .ok (.iconst 0, 1) := by decide +kernel
theorem dX7_near_31 : decode cX7_near 31 = .ok (.ireturn, 1) := by decide +kernel
theorem dX7_near_32 : decode cX7_near 32 = .ok (.aload_n 0, 1) := by decide +kernel
theorem dX7_near_33 : decode cX7_near 33 = .ok (.iload_n 1, 1) := by decide +kernel
theorem dX7_near_34 : decode cX7_near 34 = .ok (.iload_n 2, 1) := by decide +kernel
theorem dX7_near_35 : decode cX7_near 35 = .ok (.invokevirtual 98, 3) := by decide +kernel
theorem dX7_near_38 : decode cX7_near 38 = .ok (.istore 4, 2) := by decide +kernel
theorem dX7_near_40 : decode cX7_near 40 = .ok (.iload 4, 2) := by decide +kernel
theorem dX7_near_42 : decode cX7_near 42 = .ok (.ifCond .ge 9, 3) := by decide +kernel
theorem dX7_near_45 : decode cX7_near 45 = .ok (.iload_n 3, 1) := by decide +kernel
theorem dX7_near_46 : decode cX7_near 46 = .ok (.ifCond .ne 5, 3) := by decide +kernel
theorem dX7_near_49 : decode cX7_near 49 = .ok (.iconst 1, 1) := by decide +kernel
theorem dX7_near_50 : decode cX7_near 50 = .ok (.ireturn, 1) := by decide +kernel
theorem dX7_near_51 : decode cX7_near 51 = .ok (.iload 4, 2) := by decide +kernel
theorem dX7_near_53 : decode cX7_near 53 = .ok (.ifCond .ge 14, 3) := by decide +kernel
theorem dX7_near_56 : decode cX7_near 56 = .ok (.aload_n 0, 1) := by decide +kernel
theorem dX7_near_57 : decode cX7_near 57 = .ok (.getfield 91, 3) := by decide +kernel
theorem dX7_near_60 : decode cX7_near 60 = .ok (.bipush 100, 2) := by decide +kernel
theorem dX7_near_62 : decode cX7_near 62 = .ok (.if_icmp .ne 5, 3) := by decide +kernel
theorem dX7_near_65 : decode cX7_near 65 = .ok (.iconst 0, 1) := by decide +kernel
theorem dX7_near_66 : decode cX7_near 66 = .ok (.ireturn, 1) := by decide +kernel
theorem dX7_near_67 : decode cX7_near 67 = .ok (.iload_n 3, 1) := by decide +kernel
theorem dX7_near_68 : decode cX7_near 68 = .ok (.ifCond .ne 63, 3) := by decide +kernel
theorem dX7_near_71 : decode cX7_near 71 = .ok (.aload_n 0, 1) := by decide +kernel
theorem dX7_near_72 : decode cX7_near 72 = .ok (.dup, 1) := by decide +kernel
theorem dX7_near_73 : decode cX7_near 73 = .ok (.getfield 91, 3) := by decide +kernel
theorem dX7_near_76 : decode cX7_near 76 = .ok (.iconst 1, 1) := by decide +kernel
theorem dX7_near_77 : decode cX7_near 77 = .ok (.isub, 1) := by decide +kernel
theorem dX7_near_78 : decode cX7_near 78 = .ok (.putfield 91, 3) := by decide +kernel
theorem dX7_near_81 : decode cX7_near 81 = .ok (.aload_n 0, 1) := by decide +kernel
theorem dX7_near_82 : decode cX7_near 82 = .ok (.getfield 22, 3) := by decide +kernel
theorem dX7_near_85 : decode cX7_near 85 = .ok (.iload 4, 2) := by decide +kernel
theorem dX7_near_87 : decode cX7_near 87 = .ok (.aload_n 0, 1) := by decide +kernel
theorem dX7_near_88 : decode cX7_near 88 = .ok (.getfield 22, 3) := by decide +kernel
theorem dX7_near_91 : decode cX7_near 91 = .ok (.aload_n 0, 1) := by decide +kernel
theorem dX7_near_92 : decode cX7_near 92 = .ok (.getfield 91, 3) := by decide +kernel
theorem dX7_near_95 : decode cX7_near 95 = .ok (.iaload, 1) := by decide +kernel
theorem dX7_near_96 : decode cX7_near 96 = .ok (.iastore, 1) := by decide +kernel
theorem dX7_near_97 : decode cX7_near 97 = .ok (.aload_n 0, 1) := by decide +kernel
theorem dX7_near_98 : decode cX7_near 98 = .ok (.getfield 25, 3) := by decide +kernel
theorem dX7_near_101 : decode cX7_near 101 = .ok (.iload 4, 2) := by decide +kernel
theorem dX7_near_103 : decode cX7_near 103 = .ok (.aload_n 0, 1) := by decide +kernel
theorem dX7_near_104 : decode cX7_near 104 = .ok (.getfield 25, 3) := by decide +kernel
theorem dX7_near_107 : decode cX7_near 107 = .ok (.aload_n 0, 1) := by decide +kernel
theorem dX7_near_108 : decode cX7_near 108 = .ok (.getfield 91, 3) := by decide +kernel
theorem dX7_near_111 : decode cX7_near 111 = .ok (.iaload, 1) := by decide +kernel
theorem dX7_near_112 : decode cX7_near 112 = .ok (.iastore, 1) := by decide +kernel
theorem dX7_near_113 : decode cX7_near 113 = .ok (.aload_n 0, 1) := by decide +kernel
theorem dX7_near_114 : decode cX7_near 114 = .ok (.getfield 28, 3) := by decide +kernel
theorem dX7_near_117 : decode cX7_near 117 = .ok (.iload 4, 2) := by decide +kernel
theorem dX7_near_119 : decode cX7_near 119 = .ok (.aload_n 0, 1) := by decide +kernel
theorem dX7_near_120 : decode cX7_near 120 = .ok (.getfield 28, 3) := by decide +kernel
theorem dX7_near_123 : decode cX7_near 123 = .ok (.aload_n 0, 1) := by decide +kernel
theorem dX7_near_124 : decode cX7_near 124 = .ok (.getfield 91, 3) := by decide +kernel
theorem dX7_near_127 : decode cX7_near 127 = .ok (.iaload, 1) := by decide +kernel
theorem dX7_near_128 : decode cX7_near 128 = .ok (.iastore, 1) := by decide +kernel
theorem dX7_near_129 : decode cX7_near 129 = .ok (.iconst 1, 1) := by decide +kernel
theorem dX7_near_130 : decode cX7_near 130 = .ok (.ireturn, 1) := by decide +kernel
theorem dX7_near_131 : decode cX7_near 131 = .ok (.iload 4, 2) := by decide +kernel
theorem dX7_near_133 : decode cX7_near 133 = .ok (.ifCond .ge 53, 3) := by decide +kernel
theorem dX7_near_136 : decode cX7_near 136 = .ok (.aload_n 0, 1) := by decide +kernel
theorem dX7_near_137 : decode cX7_near 137 = .ok (.getfield 91, 3) := by decide +kernel
theorem dX7_near_140 : decode cX7_near 140 = .ok (.istore 4, 2) := by decide +kernel
theorem dX7_near_142 : decode cX7_near 142 = .ok (.aload_n 0, 1) := by decide +kernel
theorem dX7_near_143 : decode cX7_near 143 = .ok (.dup, 1) := by decide +kernel
theorem dX7_near_144 : decode cX7_near 144 = .ok (.getfield 91, 3) := by decide +kernel
theorem dX7_near_147 : decode cX7_near 147 = .ok (.iconst 1, 1) := by decide +kernel
theorem dX7_near_148 : decode cX7_near 148 = .ok (.iadd, 1) := by decide +kernel
theorem dX7_near_149 : decode cX7_near 149 = .ok (.putfield 91, 3) := by decide +kernel
theorem dX7_near_152 : decode cX7_near 152 = .ok (.aload_n 0, 1) := by decide +kernel
theorem dX7_near_153 : decode cX7_near 153 = .ok (.getfield 22, 3) := by decide +kernel
theorem dX7_near_156 : decode cX7_near 156 = .ok (.iload 4, 2) := by decide +kernel
theorem dX7_near_158 : decode cX7_near 158 = .ok (.iload_n 1, 1) := by decide +kernel
theorem dX7_near_159 : decode cX7_near 159 = .ok (.iload_n 2, 1) := by decide +kernel
theorem dX7_near_160 : decode cX7_near 160 = .ok (.if_icmp .ge 7, 3) := by decide +kernel
theorem dX7_near_163 : decode cX7_near 163 = .ok (.iload_n 1, 1) := by decide +kernel
theorem dX7_near_164 : decode cX7_near 164 = .ok (.goto 4, 3) := by decide +kernel
theorem dX7_near_167 : decode cX7_near 167 = .ok (.iload_n 2, 1) := by decide +kernel
theorem dX7_near_168 : decode cX7_near 168 = .ok (.iastore, 1) := by decide +kernel
theorem dX7_near_169 : decode cX7_near 169 = .ok (.aload_n 0, 1) := by decide +kernel
theorem dX7_near_170 : decode cX7_near 170 = .ok (.getfield 25, 3) := by decide +kernel
theorem dX7_near_173 : decode cX7_near 173 = .ok (.iload 4, 2) := by decide +kernel
theorem dX7_near_175 : decode cX7_near 175 = .ok (.iload_n 1, 1) := by decide +kernel
theorem dX7_near_176 : decode cX7_near 176 = .ok (.iload_n 2, 1) := by decide +kernel
theorem dX7_near_177 : decode cX7_near 177 = .ok (.if_icmp .ge 7, 3) := by decide +kernel
theorem dX7_near_180 : decode cX7_near 180 = .ok (.iload_n 2, 1) := by decide +kernel
theorem dX7_near_181 : decode cX7_near 181 = .ok (.goto 4, 3) := by decide +kernel
theorem dX7_near_184 : decode cX7_near 184 = .ok (.iload_n 1, 1) := by decide +kernel
theorem dX7_near_185 : decode cX7_near 185 = .ok (.iastore, 1) := by decide +kernel
theorem dX7_near_186 : decode cX7_near 186 = .ok (.aload_n 0, 1) := by decide +kernel
theorem dX7_near_187 : decode cX7_near 187 = .ok (.getfield 28, 3) := by decide +kernel
theorem dX7_near_190 : decode cX7_near 190 = .ok (.iload 4, 2) := by decide +kernel
theorem dX7_near_192 : decode cX7_near 192 = .ok (.iload_n 3, 1) := by decide +kernel
theorem dX7_near_193 : decode cX7_near 193 = .ok (.iastore, 1) := by decide +kernel
theorem dX7_near_194 : decode cX7_near 194 = .ok (.iconst 1, 1) := by decide +kernel
theorem dX7_near_195 : decode cX7_near 195 = .ok (.ireturn, 1) := by decide +kernel
theorem dX7_nearOf_0 : decode cX7_nearOf 0 = .ok (.iload_n 1, 1) := by decide +kernel
theorem dX7_nearOf_1 : decode cX7_nearOf 1 = .ok (.iload_n 2, 1) := by decide +kernel
theorem dX7_nearOf_2 : decode cX7_nearOf 2 = .ok (.if_icmp .ne 7, 3) := by decide +kernel
theorem dX7_nearOf_5 : decode cX7_nearOf 5 = .ok (.sipush 1000, 3) := by decide +kernel
theorem dX7_nearOf_8 : decode cX7_nearOf 8 = .ok (.ireturn, 1) := by decide +kernel
theorem dX7_nearOf_9 : decode cX7_nearOf 9 = .ok (.aload_n 0, 1) := by decide +kernel
theorem dX7_nearOf_10 : decode cX7_nearOf 10 = .ok (.iload_n 1, 1) := by decide +kernel
theorem dX7_nearOf_11 : decode cX7_nearOf 11 = .ok (.iload_n 2, 1) := by decide +kernel
theorem dX7_nearOf_12 : decode cX7_nearOf 12 = .ok (.invokevirtual 98, 3) := by decide +kernel
theorem dX7_nearOf_15 : decode cX7_nearOf 15 = .ok (.istore_n 3, 1) := by decide +kernel
theorem dX7_nearOf_16 : decode cX7_nearOf 16 = .ok (.iload_n 3, 1) := by decide +kernel
theorem dX7_nearOf_17 : decode cX7_nearOf 17 = .ok (.ifCond .ge 7, 3) := by decide +kernel
theorem dX7_nearOf_20 : decode cX7_nearOf 20 = .ok (.iconst 0, 1) := by decide +kernel
theorem dX7_nearOf_21 : decode cX7_nearOf 21 = .ok (.goto 9, 3) := by decide +kernel
theorem dX7_nearOf_24 : decode cX7_nearOf 24 = .ok (.aload_n 0, 1) := by decide +kernel
theorem dX7_nearOf_25 : decode cX7_nearOf 25 = .ok (.getfield 28, 3) := by decide +kernel
theorem dX7_nearOf_28 : decode cX7_nearOf 28 = .ok (.iload_n 3, 1) := by decide +kernel
theorem dX7_nearOf_29 : decode cX7_nearOf 29 = .ok (.iaload, 1) := by decide +kernel
theorem dX7_nearOf_30 : decode cX7_nearOf 30 = .ok (.ireturn, 1) := by decide +kernel
theorem dX7_levels_0 : decode cX7_levels 0 = .ok (.iload_n 1, 1) := by decide +kernel
theorem dX7_levels_1 : decode cX7_levels 1 = .ok (.iconst 1, 1) := by decide +kernel
theorem dX7_levels_2 : decode cX7_levels 2 = .ok (.sipush 1000, 3) := by decide +kernel
theorem dX7_levels_5 : decode cX7_levels 5 = .ok (.invokestatic 86, 3) := by decide +kernel
theorem dX7_levels_8 : decode cX7_levels 8 = .ok (.ifCond .eq 14, 3) := by decide +kernel
theorem dX7_levels_11 : decode cX7_levels 11 = .ok (.iload_n 2, 1) := by decide +kernel
theorem dX7_levels_12 : decode cX7_levels 12 = .ok (.iconst 1, 1) := by decide +kernel
theorem dX7_levels_13 : decode cX7_levels 13 = .ok (.sipush 1000, 3) := by decide +kernel
theorem dX7_levels_16 : decode cX7_levels 16 = .ok (.invokestatic 86, 3) := by decide +kernel
theorem dX7_levels_19 : decode cX7_levels 19 = .ok (.ifCond .ne 5, 3) := by decide +kernel
theorem dX7_levels_22 : decode cX7_levels 22 = .ok (.iconst 0, 1) := by decide +kernel
theorem dX7_levels_23 : decode cX7_levels 23 = .ok (.ireturn, 1) := by decide +kernel
theorem dX7_levels_24 : decode cX7_levels 24 = .ok (.aload_n 0, 1) := by decide +kernel
theorem dX7_levels_25 : decode cX7_levels 25 = .ok (.iload_n 1, 1) := by decide +kernel
theorem dX7_levels_26 : decode cX7_levels 26 = .ok (.putfield 76, 3) := by decide +kernel
theorem dX7_levels_29 : decode cX7_levels 29 = .ok (.aload_n 0, 1) := by decide +kernel
theorem dX7_levels_30 : decode cX7_levels 30 = .ok (.iload_n 2, 1) := by decide +kernel
theorem dX7_levels_31 : decode cX7_levels 31 = .ok (.putfield 80, 3) := by decide +kernel
theorem dX7_levels_34 : decode cX7_levels 34 = .ok (.iconst 1, 1) := by decide +kernel
theorem dX7_levels_35 : decode cX7_levels 35 = .ok (.ireturn, 1) := by decide +kernel
theorem dX7_mark_0 : decode cX7_mark 0 = .ok (.iload_n 1, 1) := by decide +kernel
theorem dX7_mark_1 : decode cX7_mark 1 = .ok (.iconst 0, 1) := by decide +kernel
theorem dX7_mark_2 : decode cX7_mark 2 = .ok (.iconst 4, 1) := by decide +kernel
theorem dX7_mark_3 : decode cX7_mark 3 = .ok (.invokestatic 86, 3) := by decide +kernel
theorem dX7_mark_6 : decode cX7_mark 6 = .ok (.ifCond .eq 19, 3) := by decide +kernel
theorem dX7_mark_9 : decode cX7_mark 9 = .ok (.iload_n 2, 1) := by decide +kernel
theorem dX7_mark_10 : decode cX7_mark 10 = .ok (.invokestatic 102, 3) := by decide +kernel
theorem dX7_mark_13 : decode cX7_mark 13 = .ok (.ifCond .eq 12, 3) := by decide +kernel
theorem dX7_mark_16 : decode cX7_mark 16 = .ok (.aload_n 0, 1) := by decide +kernel
theorem dX7_mark_17 : decode cX7_mark 17 = .ok (.getfield 83, 3) := by decide +kernel
theorem dX7_mark_20 : decode cX7_mark 20 = .ok (.bipush 120, 2) := by decide +kernel
theorem dX7_mark_22 : decode cX7_mark 22 = .ok (.if_icmp .ne 5, 3) := by decide +kernel
theorem dX7_mark_25 : decode cX7_mark 25 = .ok (.iconst (-1), 1) := by decide +kernel
theorem dX7_mark_26 : decode cX7_mark 26 = .ok (.ireturn, 1) := by decide +kernel
theorem dX7_mark_27 : decode cX7_mark 27 = .ok (.aload_n 0, 1) := by decide +kernel
theorem dX7_mark_28 : decode cX7_mark 28 = .ok (.getfield 31, 3) := by decide +kernel
theorem dX7_mark_31 : decode cX7_mark 31 = .ok (.aload_n 0, 1) := by decide +kernel
theorem dX7_mark_32 : decode cX7_mark 32 = .ok (.getfield 83, 3) := by decide +kernel
theorem dX7_mark_35 : decode cX7_mark 35 = .ok (.iload_n 1, 1) := by decide +kernel
theorem dX7_mark_36 : decode cX7_mark 36 = .ok (.iastore, 1) := by decide +kernel
theorem dX7_mark_37 : decode cX7_mark 37 = .ok (.aload_n 0, 1) := by decide +kernel
theorem dX7_mark_38 : decode cX7_mark 38 = .ok (.getfield 34, 3) := by decide +kernel
theorem dX7_mark_41 : decode cX7_mark 41 = .ok (.aload_n 0, 1) := by decide +kernel
theorem dX7_mark_42 : decode cX7_mark 42 = .ok (.getfield 83, 3) := by decide +kernel
theorem dX7_mark_45 : decode cX7_mark 45 = .ok (.iload_n 2, 1) := by decide +kernel
theorem dX7_mark_46 : decode cX7_mark 46 = .ok (.iastore, 1) := by decide +kernel
theorem dX7_mark_47 : decode cX7_mark 47 = .ok (.aload_n 0, 1) := by decide +kernel
theorem dX7_mark_48 : decode cX7_mark 48 = .ok (.getfield 37, 3) := by decide +kernel
theorem dX7_mark_51 : decode cX7_mark 51 = .ok (.aload_n 0, 1) := by decide +kernel
theorem dX7_mark_52 : decode cX7_mark 52 = .ok (.getfield 83, 3) := by decide +kernel
theorem dX7_mark_55 : decode cX7_mark 55 = .ok (.iconst 0, 1) := by decide +kernel
theorem dX7_mark_56 : decode cX7_mark 56 = .ok (.iastore, 1) := by decide +kernel
theorem dX7_mark_57 : decode cX7_mark 57 = .ok (.aload_n 0, 1) := by decide +kernel
theorem dX7_mark_58 : decode cX7_mark 58 = .ok (.getfield 43, 3) := by decide +kernel
theorem dX7_mark_61 : decode cX7_mark 61 = .ok (.aload_n 0, 1) := by decide +kernel
theorem dX7_mark_62 : decode cX7_mark 62 = .ok (.getfield 83, 3) := by decide +kernel
theorem dX7_mark_65 : decode cX7_mark 65 = .ok (.iconst 0, 1) := by decide +kernel
theorem dX7_mark_66 : decode cX7_mark 66 = .ok (.iastore, 1) := by decide +kernel
theorem dX7_mark_67 : decode cX7_mark 67 = .ok (.aload_n 0, 1) := by decide +kernel
theorem dX7_mark_68 : decode cX7_mark 68 = .ok (.dup, 1) := by decide +kernel
theorem dX7_mark_69 : decode cX7_mark 69 = .ok (.getfield 83, 3) := by decide +kernel
theorem dX7_mark_72 : decode cX7_mark 72 = .ok (.iconst 1, 1) := by decide +kernel
theorem dX7_mark_73 : decode cX7_mark 73 = .ok (.iadd, 1) := by decide +kernel
theorem dX7_mark_74 : decode cX7_mark 74 = .ok (.putfield 83, 3) := by decide +kernel
theorem dX7_mark_77 : decode cX7_mark 77 = .ok (.aload_n 0, 1) := by decide +kernel
theorem dX7_mark_78 : decode cX7_mark 78 = .ok (.getfield 83, 3) := by decide +kernel
theorem dX7_mark_81 : decode cX7_mark 81 = .ok (.iconst 1, 1) := by decide +kernel
theorem dX7_mark_82 : decode cX7_mark 82 = .ok (.isub, 1) := by decide +kernel
theorem dX7_mark_83 : decode cX7_mark 83 = .ok (.ireturn, 1) := by decide +kernel
theorem dX7_hasPaper_0 : decode cX7_hasPaper 0 = .ok (.iconst 0, 1) := by decide +kernel
theorem dX7_hasPaper_1 : decode cX7_hasPaper 1 = .ok (.istore_n 2, 1) := by decide +kernel
theorem dX7_hasPaper_2 : decode cX7_hasPaper 2 = .ok (.iconst 0, 1) := by decide +kernel
theorem dX7_hasPaper_3 : decode cX7_hasPaper 3 = .ok (.istore_n 3, 1) := by decide +kernel
theorem dX7_hasPaper_4 : decode cX7_hasPaper 4 = .ok (.iload_n 3, 1) := by decide +kernel
theorem dX7_hasPaper_5 : decode cX7_hasPaper 5 = .ok (.aload_n 0, 1) := by decide +kernel
theorem dX7_hasPaper_6 : decode cX7_hasPaper 6 = .ok (.getfield 105, 3) := by decide +kernel
theorem dX7_hasPaper_9 : decode cX7_hasPaper 9 = .ok (.if_icmp .ge 29, 3) := by decide +kernel
theorem dX7_hasPaper_12 : decode cX7_hasPaper 12 = .ok (.iload_n 2, 1) := by decide +kernel
theorem dX7_hasPaper_13 : decode cX7_hasPaper 13 = .ok (.ifCond .ne 13, 3) := by decide +kernel
theorem dX7_hasPaper_16 : decode cX7_hasPaper 16 = .ok (.aload_n 0, 1) := by decide +kernel
theorem dX7_hasPaper_17 : decode cX7_hasPaper 17 = .ok (.getfield 52, 3) := by decide +kernel
theorem dX7_hasPaper_20 : decode cX7_hasPaper 20 = .ok (.iload_n 3, 1) := by decide +kernel
theorem dX7_hasPaper_21 : decode cX7_hasPaper 21 = .ok (.iaload, 1) := by decide +kernel
theorem dX7_hasPaper_22 : decode cX7_hasPaper 22 = .ok (.iload_n 1, 1) := by decide +kernel
theorem dX7_hasPaper_23 : decode cX7_hasPaper 23 = .ok (.if_icmp .ne 7, 3) := by decide +kernel
theorem dX7_hasPaper_26 : decode cX7_hasPaper 26 = .ok (.iconst 1, 1) := by decide +kernel
theorem dX7_hasPaper_27 : decode cX7_hasPaper 27 = .ok (.goto 4, 3) := by decide +kernel
theorem dX7_hasPaper_30 : decode cX7_hasPaper 30 = .ok (.iconst 0, 1) := by decide +kernel
theorem dX7_hasPaper_31 : decode cX7_hasPaper 31 = .ok (.istore_n 2, 1) := by decide +kernel
theorem dX7_hasPaper_32 : decode cX7_hasPaper 32 = .ok (.iinc 3 1, 3) := by decide +kernel
theorem dX7_hasPaper_35 : decode cX7_hasPaper 35 = .ok (.goto (-31), 3) := by decide +kernel
theorem dX7_hasPaper_38 : decode cX7_hasPaper 38 = .ok (.iload_n 2, 1) := by decide +kernel
theorem dX7_hasPaper_39 : decode cX7_hasPaper 39 = .ok (.ireturn, 1) := by decide +kernel
theorem dX7_letter_0 : decode cX7_letter 0 = .ok (.aload_n 0, 1) := by decide +kernel
theorem dX7_letter_1 : decode cX7_letter 1 = .ok (.iload_n 1, 1) := by decide +kernel
theorem dX7_letter_2 : decode cX7_letter 2 = .ok (.invokevirtual 108, 3) := by decide +kernel
theorem dX7_letter_5 : decode cX7_letter 5 = .ok (.ifCond .eq 32, 3) := by decide +kernel
theorem dX7_letter_8 : decode cX7_letter 8 = .ok (.iload_n 2, 1) := by decide +kernel
theorem dX7_letter_9 : decode cX7_letter 9 = .ok (.iconst 0, 1) := by decide +kernel
theorem dX7_letter_10 : decode cX7_letter 10 = .ok (.bipush 25, 2) := by decide +kernel
theorem dX7_letter_12 : decode cX7_letter 12 = .ok (.invokestatic 86, 3) := by decide +kernel
theorem dX7_letter_15 : decode cX7_letter 15 = .ok (.ifCond .eq 22, 3) := by decide +kernel
theorem dX7_letter_18 : decode cX7_letter 18 = .ok (.aload_n 0, 1) := by decide +kernel
theorem dX7_letter_19 : decode cX7_letter 19 = .ok (.getfield 37, 3) := by decide +kernel
theorem dX7_letter_22 : decode cX7_letter 22 = .ok (.iload_n 1, 1) := by decide +kernel
theorem dX7_letter_23 : decode cX7_letter 23 = .ok (.iaload, 1) := by decide +kernel
theorem dX7_letter_24 : decode cX7_letter 24 = .ok (.bipush 40, 2) := by decide +kernel
theorem dX7_letter_26 : decode cX7_letter 26 = .ok (.if_icmp .eq 11, 3) := by decide +kernel
theorem dX7_letter_29 : decode cX7_letter 29 = .ok (.aload_n 0, 1) := by decide +kernel
theorem dX7_letter_30 : decode cX7_letter 30 = .ok (.iload_n 1, 1) := by decide +kernel
theorem dX7_letter_31 : decode cX7_letter 31 = .ok (.invokevirtual 111, 3) := by decide +kernel
theorem dX7_letter_34 : decode cX7_letter 34 = .ok (.ifCond .eq 5, 3) := by decide +kernel
theorem dX7_letter_37 : decode cX7_letter 37 = .ok (.iconst (-1), 1) := by decide +kernel
theorem dX7_letter_38 : decode cX7_letter 38 = .ok (.ireturn, 1) := by decide +kernel
theorem dX7_letter_39 : decode cX7_letter 39 = .ok (.aload_n 0, 1) := by decide +kernel
theorem dX7_letter_40 : decode cX7_letter 40 = .ok (.getfield 40, 3) := by decide +kernel
theorem dX7_letter_43 : decode cX7_letter 43 = .ok (.bipush 40, 2) := by decide +kernel
theorem dX7_letter_45 : decode cX7_letter 45 = .ok (.iload_n 1, 1) := by decide +kernel
theorem dX7_letter_46 : decode cX7_letter 46 = .ok (.imul, 1) := by decide +kernel
theorem dX7_letter_47 : decode cX7_letter 47 = .ok (.aload_n 0, 1) := by decide +kernel
theorem dX7_letter_48 : decode cX7_letter 48 = .ok (.getfield 37, 3) := by decide +kernel
theorem dX7_letter_51 : decode cX7_letter 51 = .ok (.iload_n 1, 1) := by decide +kernel
theorem dX7_letter_52 : decode cX7_letter 52 = .ok (.iaload, 1) := by decide +kernel
theorem dX7_letter_53 : decode cX7_letter 53 = .ok (.iadd, 1) := by decide +kernel
theorem dX7_letter_54 : decode cX7_letter 54 = .ok (.iload_n 2, 1) := by decide +kernel
theorem dX7_letter_55 : decode cX7_letter 55 = .ok (.iastore, 1) := by decide +kernel
theorem dX7_letter_56 : decode cX7_letter 56 = .ok (.aload_n 0, 1) := by decide +kernel
theorem dX7_letter_57 : decode cX7_letter 57 = .ok (.getfield 37, 3) := by decide +kernel
theorem dX7_letter_60 : decode cX7_letter 60 = .ok (.iload_n 1, 1) := by decide +kernel
theorem dX7_letter_61 : decode cX7_letter 61 = .ok (.dup2, 1) := by decide +kernel
theorem dX7_letter_62 : decode cX7_letter 62 = .ok (.iaload, 1) := by decide +kernel
theorem dX7_letter_63 : decode cX7_letter 63 = .ok (.iconst 1, 1) := by decide +kernel
theorem dX7_letter_64 : decode cX7_letter 64 = .ok (.iadd, 1) := by decide +kernel
theorem dX7_letter_65 : decode cX7_letter 65 = .ok (.iastore, 1) := by decide +kernel
theorem dX7_letter_66 : decode cX7_letter 66 = .ok (.aload_n 0, 1) := by decide +kernel
theorem dX7_letter_67 : decode cX7_letter 67 = .ok (.getfield 37, 3) := by decide +kernel
theorem dX7_letter_70 : decode cX7_letter 70 = .ok (.iload_n 1, 1) := by decide +kernel
theorem dX7_letter_71 : decode cX7_letter 71 = .ok (.iaload, 1) := by decide +kernel
theorem dX7_letter_72 : decode cX7_letter 72 = .ok (.ireturn, 1) := by decide +kernel
theorem dX7_code_0 : decode cX7_code 0 = .ok (.aload_n 0, 1) := by decide +kernel
theorem dX7_code_1 : decode cX7_code 1 = .ok (.iload_n 1, 1) := by decide +kernel
theorem dX7_code_2 : decode cX7_code 2 = .ok (.invokevirtual 108, 3) := by decide +kernel
theorem dX7_code_5 : decode cX7_code 5 = .ok (.ifCond .eq 62, 3) := by decide +kernel
theorem dX7_code_8 : decode cX7_code 8 = .ok (.iload_n 2, 1) := by decide +kernel
theorem dX7_code_9 : decode cX7_code 9 = .ok (.iconst 0, 1) := by decide +kernel
theorem dX7_code_10 : decode cX7_code 10 = .ok (.sipush 32767, 3) := by decide +kernel
theorem dX7_code_13 : decode cX7_code 13 = .ok (.invokestatic 86, 3) := by decide +kernel
theorem dX7_code_16 : decode cX7_code 16 = .ok (.ifCond .eq 51, 3) := by decide +kernel
theorem dX7_code_19 : decode cX7_code 19 = .ok (.aload_n 0, 1) := by decide +kernel
theorem dX7_code_20 : decode cX7_code 20 = .ok (.getfield 43, 3) := by decide +kernel
theorem dX7_code_23 : decode cX7_code 23 = .ok (.iload_n 1, 1) := by decide +kernel
theorem dX7_code_24 : decode cX7_code 24 = .ok (.iaload, 1) := by decide +kernel
theorem dX7_code_25 : decode cX7_code 25 = .ok (.bipush 12, 2) := by decide +kernel
theorem dX7_code_27 : decode cX7_code 27 = .ok (.if_icmp .eq 40, 3) := by decide +kernel
theorem dX7_code_30 : decode cX7_code 30 = .ok (.aload_n 0, 1) := by decide +kernel
theorem dX7_code_31 : decode cX7_code 31 = .ok (.getfield 31, 3) := by decide +kernel
theorem dX7_code_34 : decode cX7_code 34 = .ok (.iload_n 1, 1) := by decide +kernel
theorem dX7_code_35 : decode cX7_code 35 = .ok (.iaload, 1) := by decide +kernel
theorem dX7_code_36 : decode cX7_code 36 = .ok (.iconst 1, 1) := by decide +kernel
theorem dX7_code_37 : decode cX7_code 37 = .ok (.if_icmp .eq 13, 3) := by decide +kernel
theorem dX7_code_40 : decode cX7_code 40 = .ok (.aload_n 0, 1) := by decide +kernel
theorem dX7_code_41 : decode cX7_code 41 = .ok (.getfield 31, 3) := by decide +kernel
theorem dX7_code_44 : decode cX7_code 44 = .ok (.iload_n 1, 1) := by decide +kernel
theorem dX7_code_45 : decode cX7_code 45 = .ok (.iaload, 1) := by decide +kernel
theorem dX7_code_46 : decode cX7_code 46 = .ok (.iconst 2, 1) := by decide +kernel
theorem dX7_code_47 : decode cX7_code 47 = .ok (.if_icmp .ne 20, 3) := by decide +kernel
theorem dX7_code_50 : decode cX7_code 50 = .ok (.aload_n 0, 1) := by decide +kernel
theorem dX7_code_51 : decode cX7_code 51 = .ok (.iload_n 1, 1) := by decide +kernel
theorem dX7_code_52 : decode cX7_code 52 = .ok (.invokevirtual 111, 3) := by decide +kernel
theorem dX7_code_55 : decode cX7_code 55 = .ok (.ifCond .ne 12, 3) := by decide +kernel
theorem dX7_code_58 : decode cX7_code 58 = .ok (.aload_n 0, 1) := by decide +kernel
theorem dX7_code_59 : decode cX7_code 59 = .ok (.iload_n 1, 1) := by decide +kernel
theorem dX7_code_60 : decode cX7_code 60 = .ok (.iload_n 2, 1) := by decide +kernel
theorem dX7_code_61 : decode cX7_code 61 = .ok (.invokevirtual 114, 3) := by decide +kernel
theorem dX7_code_64 : decode cX7_code 64 = .ok (.ifCond .eq 5, 3) := by decide +kernel
theorem dX7_code_67 : decode cX7_code 67 = .ok (.iconst (-1), 1) := by decide +kernel
theorem dX7_code_68 : decode cX7_code 68 = .ok (.ireturn, 1) := by decide +kernel
theorem dX7_code_69 : decode cX7_code 69 = .ok (.aload_n 0, 1) := by decide +kernel
theorem dX7_code_70 : decode cX7_code 70 = .ok (.getfield 46, 3) := by decide +kernel
theorem dX7_code_73 : decode cX7_code 73 = .ok (.bipush 12, 2) := by decide +kernel
theorem dX7_code_75 : decode cX7_code 75 = .ok (.iload_n 1, 1) := by decide +kernel
theorem dX7_code_76 : decode cX7_code 76 = .ok (.imul, 1) := by decide +kernel
theorem dX7_code_77 : decode cX7_code 77 = .ok (.aload_n 0, 1) := by decide +kernel
theorem dX7_code_78 : decode cX7_code 78 = .ok (.getfield 43, 3) := by decide +kernel
theorem dX7_code_81 : decode cX7_code 81 = .ok (.iload_n 1, 1) := by decide +kernel
theorem dX7_code_82 : decode cX7_code 82 = .ok (.iaload, 1) := by decide +kernel
theorem dX7_code_83 : decode cX7_code 83 = .ok (.iadd, 1) := by decide +kernel
theorem dX7_code_84 : decode cX7_code 84 = .ok (.iload_n 2, 1) := by decide +kernel
theorem dX7_code_85 : decode cX7_code 85 = .ok (.iastore, 1) := by decide +kernel
theorem dX7_code_86 : decode cX7_code 86 = .ok (.aload_n 0, 1) := by decide +kernel
theorem dX7_code_87 : decode cX7_code 87 = .ok (.getfield 43, 3) := by decide +kernel
theorem dX7_code_90 : decode cX7_code 90 = .ok (.iload_n 1, 1) := by decide +kernel
theorem dX7_code_91 : decode cX7_code 91 = .ok (.dup2, 1) := by decide +kernel
theorem dX7_code_92 : decode cX7_code 92 = .ok (.iaload, 1) := by decide +kernel
theorem dX7_code_93 : decode cX7_code 93 = .ok (.iconst 1, 1) := by decide +kernel
theorem dX7_code_94 : decode cX7_code 94 = .ok (.iadd, 1) := by decide +kernel
theorem dX7_code_95 : decode cX7_code 95 = .ok (.iastore, 1) := by decide +kernel
theorem dX7_code_96 : decode cX7_code 96 = .ok (.aload_n 0, 1) := by decide +kernel
theorem dX7_code_97 : decode cX7_code 97 = .ok (.getfield 43, 3) := by decide +kernel
theorem dX7_code_100 : decode cX7_code 100 = .ok (.iload_n 1, 1) := by decide +kernel
theorem dX7_code_101 : decode cX7_code 101 = .ok (.iaload, 1) := by decide +kernel
theorem dX7_code_102 : decode cX7_code 102 = .ok (.ireturn, 1) := by decide +kernel
theorem dX7_hasCode_0 : decode cX7_hasCode 0 = .ok (.iconst 0, 1) := by decide +kernel
theorem dX7_hasCode_1 : decode cX7_hasCode 1 = .ok (.istore_n 3, 1) := by decide +kernel
theorem dX7_hasCode_2 : decode cX7_hasCode 2 = .ok (.bipush 12, 2) := by decide +kernel
theorem dX7_hasCode_4 : decode cX7_hasCode 4 = .ok (.iload_n 1, 1) := by decide +kernel
theorem dX7_hasCode_5 : decode cX7_hasCode 5 = .ok (.imul, 1) := by decide +kernel
theorem dX7_hasCode_6 : decode cX7_hasCode 6 = .ok (.istore 4, 2) := by decide +kernel
theorem dX7_hasCode_8 : decode cX7_hasCode 8 = .ok (.iload 4, 2) := by decide +kernel
theorem dX7_hasCode_10 : decode cX7_hasCode 10 = .ok (.bipush 12, 2) := by decide +kernel
theorem dX7_hasCode_12 : decode cX7_hasCode 12 = .ok (.iload_n 1, 1) := by decide +kernel
theorem dX7_hasCode_13 : decode cX7_hasCode 13 = .ok (.imul, 1) := by decide +kernel
theorem dX7_hasCode_14 : decode cX7_hasCode 14 = .ok (.aload_n 0, 1) := by decide +kernel
theorem dX7_hasCode_15 : decode cX7_hasCode 15 = .ok (.getfield 43, 3) := by decide +kernel
theorem dX7_hasCode_18 : decode cX7_hasCode 18 = .ok (.iload_n 1, 1) := by decide +kernel
theorem dX7_hasCode_19 : decode cX7_hasCode 19 = .ok (.iaload, 1) := by decide +kernel
theorem dX7_hasCode_20 : decode cX7_hasCode 20 = .ok (.iadd, 1) := by decide +kernel
theorem dX7_hasCode_21 : decode cX7_hasCode 21 = .ok (.if_icmp .ge 30, 3) := by decide +kernel
theorem dX7_hasCode_24 : decode cX7_hasCode 24 = .ok (.iload_n 3, 1) := by decide +kernel
theorem dX7_hasCode_25 : decode cX7_hasCode 25 = .ok (.ifCond .ne 14, 3) := by decide +kernel
theorem dX7_hasCode_28 : decode cX7_hasCode 28 = .ok (.aload_n 0, 1) := by decide +kernel
theorem dX7_hasCode_29 : decode cX7_hasCode 29 = .ok (.getfield 46, 3) := by decide +kernel
theorem dX7_hasCode_32 : decode cX7_hasCode 32 = .ok (.iload 4, 2) := by decide +kernel
theorem dX7_hasCode_34 : decode cX7_hasCode 34 = .ok (.iaload, 1) := by decide +kernel
theorem dX7_hasCode_35 : decode cX7_hasCode 35 = .ok (.iload_n 2, 1) := by decide +kernel
theorem dX7_hasCode_36 : decode cX7_hasCode 36 = .ok (.if_icmp .ne 7, 3) := by decide +kernel
theorem dX7_hasCode_39 : decode cX7_hasCode 39 = .ok (.iconst 1, 1) := by decide +kernel
theorem dX7_hasCode_40 : decode cX7_hasCode 40 = .ok (.goto 4, 3) := by decide +kernel
theorem dX7_hasCode_43 : decode cX7_hasCode 43 = .ok (.iconst 0, 1) := by decide +kernel
theorem dX7_hasCode_44 : decode cX7_hasCode 44 = .ok (.istore_n 3, 1) := by decide +kernel
theorem dX7_hasCode_45 : decode cX7_hasCode 45 = .ok (.iinc 4 1, 3) := by decide +kernel
theorem dX7_hasCode_48 : decode cX7_hasCode 48 = .ok (.goto (-40), 3) := by decide +kernel
theorem dX7_hasCode_51 : decode cX7_hasCode 51 = .ok (.iload_n 3, 1) := by decide +kernel
theorem dX7_hasCode_52 : decode cX7_hasCode 52 = .ok (.ireturn, 1) := by decide +kernel
theorem dX7_soundOfLetter_0 : decode cX7_soundOfLetter 0 = .ok (.aload_n 0, 1) := by decide +kernel
theorem dX7_soundOfLetter_1 : decode cX7_soundOfLetter 1 = .ok (.getfield 40, 3) := by decide +kernel
theorem dX7_soundOfLetter_4 : decode cX7_soundOfLetter 4 = .ok (.bipush 40, 2) := by decide +kernel
theorem dX7_soundOfLetter_6 : decode cX7_soundOfLetter 6 = .ok (.iload_n 1, 1) := by decide +kernel
theorem dX7_soundOfLetter_7 : decode cX7_soundOfLetter 7 = .ok (.imul, 1) := by decide +kernel
theorem dX7_soundOfLetter_8 : decode cX7_soundOfLetter 8 = .ok (.iload_n 2, 1) := by decide +kernel
theorem dX7_soundOfLetter_9 : decode cX7_soundOfLetter 9 = .ok (.iadd, 1) := by decide +kernel
theorem dX7_soundOfLetter_10 : decode cX7_soundOfLetter 10 = .ok (.iaload, 1) := by decide +kernel
theorem dX7_soundOfLetter_11 : decode cX7_soundOfLetter 11 = .ok (.istore_n 3, 1) := by decide +kernel
theorem dX7_soundOfLetter_12 : decode cX7_soundOfLetter 12 = .ok (.iload_n 2, 1) := by decide +kernel
theorem dX7_soundOfLetter_13 : decode cX7_soundOfLetter 13 = .ok (.iconst 1, 1) := by decide +kernel
theorem dX7_soundOfLetter_14 : decode cX7_soundOfLetter 14 = .ok (.iadd, 1) := by decide +kernel
theorem dX7_soundOfLetter_15 : decode cX7_soundOfLetter 15 = .ok (.aload_n 0, 1) := by decide +kernel
theorem dX7_soundOfLetter_16 : decode cX7_soundOfLetter 16 = .ok (.getfield 37, 3) := by decide +kernel
theorem dX7_soundOfLetter_19 : decode cX7_soundOfLetter 19 = .ok (.iload_n 1, 1) := by decide +kernel
theorem dX7_soundOfLetter_20 : decode cX7_soundOfLetter 20 = .ok (.iaload, 1) := by decide +kernel
theorem dX7_soundOfLetter_21 : decode cX7_soundOfLetter 21 = .ok (.if_icmp .ge 19, 3) := by decide +kernel
theorem dX7_soundOfLetter_24 : decode cX7_soundOfLetter 24 = .ok (.aload_n 0, 1) := by decide +kernel
theorem dX7_soundOfLetter_25 : decode cX7_soundOfLetter 25 = .ok (.getfield 40, 3) := by decide +kernel
theorem dX7_soundOfLetter_28 : decode cX7_soundOfLetter 28 = .ok (.bipush 40, 2) := by decide +kernel
theorem dX7_soundOfLetter_30 : decode cX7_soundOfLetter 30 = .ok (.iload_n 1, 1) := by decide +kernel
theorem dX7_soundOfLetter_31 : decode cX7_soundOfLetter 31 = .ok (.imul, 1) := by decide +kernel
theorem dX7_soundOfLetter_32 : decode cX7_soundOfLetter 32 = .ok (.iload_n 2, 1) := by decide +kernel
theorem dX7_soundOfLetter_33 : decode cX7_soundOfLetter 33 = .ok (.iadd, 1) := by decide +kernel
theorem dX7_soundOfLetter_34 : decode cX7_soundOfLetter 34 = .ok (.iconst 1, 1) := by decide +kernel
theorem dX7_soundOfLetter_35 : decode cX7_soundOfLetter 35 = .ok (.iadd, 1) := by decide +kernel
theorem dX7_soundOfLetter_36 : decode cX7_soundOfLetter 36 = .ok (.iaload, 1) := by decide +kernel
theorem dX7_soundOfLetter_37 : decode cX7_soundOfLetter 37 = .ok (.goto 5, 3) := by decide +kernel
theorem dX7_soundOfLetter_40 : decode cX7_soundOfLetter 40 = .ok (.bipush 26, 2) := by decide +kernel
theorem dX7_soundOfLetter_42 : decode cX7_soundOfLetter 42 = .ok (.istore 4, 2) := by decide +kernel
theorem dX7_soundOfLetter_44 : decode cX7_soundOfLetter 44 = .ok (.aload_n 0, 1) := by decide +kernel
theorem dX7_soundOfLetter_45 : decode cX7_soundOfLetter 45 = .ok (.getfield 7, 3) := by decide +kernel
theorem dX7_soundOfLetter_48 : decode cX7_soundOfLetter 48 = .ok (.iload_n 3, 1) := by decide +kernel
theorem dX7_soundOfLetter_49 : decode cX7_soundOfLetter 49 = .ok (.iaload, 1) := by decide +kernel
theorem dX7_soundOfLetter_50 : decode cX7_soundOfLetter 50 = .ok (.iconst (-1), 1) := by decide +kernel
theorem dX7_soundOfLetter_51 : decode cX7_soundOfLetter 51 = .ok (.if_icmp .ne 8, 3) := by decide +kernel
theorem dX7_soundOfLetter_54 : decode cX7_soundOfLetter 54 = .ok (.bipush 40, 2) := by decide +kernel
theorem dX7_soundOfLetter_56 : decode cX7_soundOfLetter 56 = .ok (.iload_n 3, 1) := by decide +kernel
theorem dX7_soundOfLetter_57 : decode cX7_soundOfLetter 57 = .ok (.iadd, 1) := by decide +kernel
theorem dX7_soundOfLetter_58 : decode cX7_soundOfLetter 58 = .ok (.ireturn, 1) := by decide +kernel
theorem dX7_soundOfLetter_59 : decode cX7_soundOfLetter 59 = .ok (.iload 4, 2) := by decide +kernel
theorem dX7_soundOfLetter_61 : decode cX7_soundOfLetter 61 = .ok (.aload_n 0, 1) := by decide +kernel
theorem dX7_soundOfLetter_62 : decode cX7_soundOfLetter 62 = .ok (.getfield 7, 3) := by decide +kernel
theorem dX7_soundOfLetter_65 : decode cX7_soundOfLetter 65 = .ok (.iload_n 3, 1) := by decide +kernel
theorem dX7_soundOfLetter_66 : decode cX7_soundOfLetter 66 = .ok (.iaload, 1) := by decide +kernel
theorem dX7_soundOfLetter_67 : decode cX7_soundOfLetter 67 = .ok (.if_icmp .ge 18, 3) := by decide +kernel
theorem dX7_soundOfLetter_70 : decode cX7_soundOfLetter 70 = .ok (.aload_n 0, 1) := by decide +kernel
theorem dX7_soundOfLetter_71 : decode cX7_soundOfLetter 71 = .ok (.getfield 13, 3) := by decide +kernel
theorem dX7_soundOfLetter_74 : decode cX7_soundOfLetter 74 = .ok (.bipush 27, 2) := by decide +kernel
theorem dX7_soundOfLetter_76 : decode cX7_soundOfLetter 76 = .ok (.iload_n 3, 1) := by decide +kernel
theorem dX7_soundOfLetter_77 : decode cX7_soundOfLetter 77 = .ok (.imul, 1) := by decide +kernel
theorem dX7_soundOfLetter_78 : decode cX7_soundOfLetter 78 = .ok (.iload 4, 2) := by decide +kernel
theorem dX7_soundOfLetter_80 : decode cX7_soundOfLetter 80 = .ok (.iadd, 1) := by decide +kernel
theorem dX7_soundOfLetter_81 : decode cX7_soundOfLetter 81 = .ok (.iaload, 1) := by decide +kernel
theorem dX7_soundOfLetter_82 : decode cX7_soundOfLetter 82 = .ok (.goto 4, 3) := by decide +kernel
theorem dX7_soundOfLetter_85 : decode cX7_soundOfLetter 85 = .ok (.iconst (-1), 1) := by decide +kernel
theorem dX7_soundOfLetter_86 : decode cX7_soundOfLetter 86 = .ok (.ireturn, 1) := by decide +kernel
theorem dX7_soundsInto_0 : decode cX7_soundsInto 0 = .ok (.iconst 0, 1) := by decide +kernel
theorem dX7_soundsInto_1 : decode cX7_soundsInto 1 = .ok (.istore_n 3, 1) := by decide +kernel
theorem dX7_soundsInto_2 : decode cX7_soundsInto 2 = .ok (.iconst 0, 1) := by decide +kernel
theorem dX7_soundsInto_3 : decode cX7_soundsInto 3 = .ok (.istore 4, 2) := by decide +kernel
theorem dX7_soundsInto_5 : decode cX7_soundsInto 5 = .ok (.iload 4, 2) := by decide +kernel
theorem dX7_soundsInto_7 : decode cX7_soundsInto 7 = .ok (.aload_n 0, 1) := by decide +kernel
theorem dX7_soundsInto_8 : decode cX7_soundsInto 8 = .ok (.getfield 37, 3) := by decide +kernel
theorem dX7_soundsInto_11 : decode cX7_soundsInto 11 = .ok (.iload_n 1, 1) := by decide +kernel
theorem dX7_soundsInto_12 : decode cX7_soundsInto 12 = .ok (.iaload, 1) := by decide +kernel
theorem dX7_soundsInto_13 : decode cX7_soundsInto 13 = .ok (.if_icmp .ge 31, 3) := by decide +kernel
theorem dX7_soundsInto_16 : decode cX7_soundsInto 16 = .ok (.aload_n 0, 1) := by decide +kernel
theorem dX7_soundsInto_17 : decode cX7_soundsInto 17 = .ok (.iload_n 1, 1) := by decide +kernel
theorem dX7_soundsInto_18 : decode cX7_soundsInto 18 = .ok (.iload 4, 2) := by decide +kernel
theorem dX7_soundsInto_20 : decode cX7_soundsInto 20 = .ok (.invokevirtual 118, 3) := by decide +kernel
theorem dX7_soundsInto_23 : decode cX7_soundsInto 23 = .ok (.istore 5, 2) := by decide +kernel
theorem dX7_soundsInto_25 : decode cX7_soundsInto 25 = .ok (.iload 5, 2) := by decide +kernel
theorem dX7_soundsInto_27 : decode cX7_soundsInto 27 = .ok (.ifCond .lt 11, 3) := by decide +kernel
theorem dX7_soundsInto_30 : decode cX7_soundsInto 30 = .ok (.aload_n 2, 1) := by decide +kernel
theorem dX7_soundsInto_31 : decode cX7_soundsInto 31 = .ok (.iload_n 3, 1) := by decide +kernel
theorem dX7_soundsInto_32 : decode cX7_soundsInto 32 = .ok (.iload 5, 2) := by decide +kernel
theorem dX7_soundsInto_34 : decode cX7_soundsInto 34 = .ok (.iastore, 1) := by decide +kernel
theorem dX7_soundsInto_35 : decode cX7_soundsInto 35 = .ok (.iinc 3 1, 3) := by decide +kernel
theorem dX7_soundsInto_38 : decode cX7_soundsInto 38 = .ok (.iinc 4 1, 3) := by decide +kernel
theorem dX7_soundsInto_41 : decode cX7_soundsInto 41 = .ok (.goto (-36), 3) := by decide +kernel
theorem dX7_soundsInto_44 : decode cX7_soundsInto 44 = .ok (.iload_n 3, 1) := by decide +kernel
theorem dX7_soundsInto_45 : decode cX7_soundsInto 45 = .ok (.ireturn, 1) := by decide +kernel
theorem dX7_costOf_0 : decode cX7_costOf 0 = .ok (.aload_n 0, 1) := by decide +kernel
theorem dX7_costOf_1 : decode cX7_costOf 1 = .ok (.iload_n 1, 1) := by decide +kernel
theorem dX7_costOf_2 : decode cX7_costOf 2 = .ok (.aload_n 0, 1) := by decide +kernel
theorem dX7_costOf_3 : decode cX7_costOf 3 = .ok (.getfield 61, 3) := by decide +kernel
theorem dX7_costOf_6 : decode cX7_costOf 6 = .ok (.invokevirtual 121, 3) := by decide +kernel
theorem dX7_costOf_9 : decode cX7_costOf 9 = .ok (.istore_n 3, 1) := by decide +kernel
theorem dX7_costOf_10 : decode cX7_costOf 10 = .ok (.aload_n 0, 1) := by decide +kernel
theorem dX7_costOf_11 : decode cX7_costOf 11 = .ok (.iload_n 2, 1) := by decide +kernel
theorem dX7_costOf_12 : decode cX7_costOf 12 = .ok (.aload_n 0, 1) := by decide +kernel
theorem dX7_costOf_13 : decode cX7_costOf 13 = .ok (.getfield 64, 3) := by decide +kernel
theorem dX7_costOf_16 : decode cX7_costOf 16 = .ok (.invokevirtual 121, 3) := by decide +kernel
theorem dX7_costOf_19 : decode cX7_costOf 19 = .ok (.istore 4, 2) := by decide +kernel
theorem dX7_costOf_21 : decode cX7_costOf 21 = .ok (.aload_n 0, 1) := by decide +kernel
theorem dX7_costOf_22 : decode cX7_costOf 22 = .ok (.getfield 67, 3) := by decide +kernel
theorem dX7_costOf_25 : decode cX7_costOf 25 = .ok (.iconst 0, 1) := by decide +kernel
theorem dX7_costOf_26 : decode cX7_costOf 26 = .ok (.iconst 0, 1) := by decide +kernel
theorem dX7_costOf_27 : decode cX7_costOf 27 = .ok (.iastore, 1) := by decide +kernel
theorem dX7_costOf_28 : decode cX7_costOf 28 = .ok (.iconst 0, 1) := by decide +kernel
theorem dX7_costOf_29 : decode cX7_costOf 29 = .ok (.istore 5, 2) := by decide +kernel
theorem dX7_costOf_31 : decode cX7_costOf 31 = .ok (.iload 5, 2) := by decide +kernel
theorem dX7_costOf_33 : decode cX7_costOf 33 = .ok (.iload_n 3, 1) := by decide +kernel
theorem dX7_costOf_34 : decode cX7_costOf 34 = .ok (.if_icmp .gt 220, 3) := by decide +kernel
theorem dX7_costOf_37 : decode cX7_costOf 37 = .ok (.iconst 0, 1) := by decide +kernel
theorem dX7_costOf_38 : decode cX7_costOf 38 = .ok (.istore 6, 2) := by decide +kernel
theorem dX7_costOf_40 : decode cX7_costOf 40 = .ok (.iload 6, 2) := by decide +kernel
theorem dX7_costOf_42 : decode cX7_costOf 42 = .ok (.iload 4, 2) := by decide +kernel
theorem dX7_costOf_44 : decode cX7_costOf 44 = .ok (.if_icmp .gt 204, 3) := by decide +kernel
theorem dX7_costOf_47 : decode cX7_costOf 47 = .ok (.iload 5, 2) := by decide +kernel
theorem dX7_costOf_49 : decode cX7_costOf 49 = .ok (.ifCond .ne 11, 3) := by decide +kernel
theorem dX7_costOf_52 : decode cX7_costOf 52 = .ok (.iload 6, 2) := by decide +kernel
theorem dX7_costOf_54 : decode cX7_costOf 54 = .ok (.ifCond .ne 6, 3) := by decide +kernel
theorem dX7_costOf_57 : decode cX7_costOf 57 = .ok (.goto 185, 3) := by decide +kernel
theorem dX7_costOf_60 : decode cX7_costOf 60 = .ok (.ldc 125, 2) := by decide +kernel
theorem dX7_costOf_62 : decode cX7_costOf 62 = .ok (.istore 7, 2) := by decide +kernel
theorem dX7_costOf_64 : decode cX7_costOf 64 = .ok (.iload 5, 2) := by decide +kernel
theorem dX7_costOf_66 : decode cX7_costOf 66 = .ok (.ifCond .le 35, 3) := by decide +kernel
theorem dX7_costOf_69 : decode cX7_costOf 69 = .ok (.aload_n 0, 1) := by decide +kernel
theorem dX7_costOf_70 : decode cX7_costOf 70 = .ok (.getfield 67, 3) := by decide +kernel
theorem dX7_costOf_73 : decode cX7_costOf 73 = .ok (.bipush 41, 2) := by decide +kernel
theorem dX7_costOf_75 : decode cX7_costOf 75 = .ok (.iload 5, 2) := by decide +kernel
theorem dX7_costOf_77 : decode cX7_costOf 77 = .ok (.iconst 1, 1) := by decide +kernel
theorem dX7_costOf_78 : decode cX7_costOf 78 = .ok (.isub, 1) := by decide +kernel
theorem dX7_costOf_79 : decode cX7_costOf 79 = .ok (.imul, 1) := by decide +kernel
theorem dX7_costOf_80 : decode cX7_costOf 80 = .ok (.iload 6, 2) := by decide +kernel
theorem dX7_costOf_82 : decode cX7_costOf 82 = .ok (.iadd, 1) := by decide +kernel
theorem dX7_costOf_83 : decode cX7_costOf 83 = .ok (.iaload, 1) := by decide +kernel
theorem dX7_costOf_84 : decode cX7_costOf 84 = .ok (.aload_n 0, 1) := by decide +kernel
theorem dX7_costOf_85 : decode cX7_costOf 85 = .ok (.getfield 19, 3) := by decide +kernel
theorem dX7_costOf_88 : decode cX7_costOf 88 = .ok (.aload_n 0, 1) := by decide +kernel
theorem dX7_costOf_89 : decode cX7_costOf 89 = .ok (.getfield 61, 3) := by decide +kernel
theorem dX7_costOf_92 : decode cX7_costOf 92 = .ok (.iload 5, 2) := by decide +kernel
theorem dX7_costOf_94 : decode cX7_costOf 94 = .ok (.iconst 1, 1) := by decide +kernel
theorem dX7_costOf_95 : decode cX7_costOf 95 = .ok (.isub, 1) := by decide +kernel
theorem dX7_costOf_96 : decode cX7_costOf 96 = .ok (.iaload, 1) := by decide +kernel
theorem dX7_costOf_97 : decode cX7_costOf 97 = .ok (.iaload, 1) := by decide +kernel
theorem dX7_costOf_98 : decode cX7_costOf 98 = .ok (.iadd, 1) := by decide +kernel
theorem dX7_costOf_99 : decode cX7_costOf 99 = .ok (.istore 7, 2) := by decide +kernel
theorem dX7_costOf_101 : decode cX7_costOf 101 = .ok (.iload 6, 2) := by decide +kernel
theorem dX7_costOf_103 : decode cX7_costOf 103 = .ok (.ifCond .le 51, 3) := by decide +kernel
theorem dX7_costOf_106 : decode cX7_costOf 106 = .ok (.aload_n 0, 1) := by decide +kernel
theorem dX7_costOf_107 : decode cX7_costOf 107 = .ok (.getfield 67, 3) := by decide +kernel
theorem dX7_costOf_110 : decode cX7_costOf 110 = .ok (.bipush 41, 2) := by decide +kernel
theorem dX7_costOf_112 : decode cX7_costOf 112 = .ok (.iload 5, 2) := by decide +kernel
theorem dX7_costOf_114 : decode cX7_costOf 114 = .ok (.imul, 1) := by decide +kernel
theorem dX7_costOf_115 : decode cX7_costOf 115 = .ok (.iload 6, 2) := by decide +kernel
theorem dX7_costOf_117 : decode cX7_costOf 117 = .ok (.iadd, 1) := by decide +kernel
theorem dX7_costOf_118 : decode cX7_costOf 118 = .ok (.iconst 1, 1) := by decide +kernel
theorem dX7_costOf_119 : decode cX7_costOf 119 = .ok (.isub, 1) := by decide +kernel
theorem dX7_costOf_120 : decode cX7_costOf 120 = .ok (.iaload, 1) := by decide +kernel
theorem dX7_costOf_121 : decode cX7_costOf 121 = .ok (.aload_n 0, 1) := by decide +kernel
theorem dX7_costOf_122 : decode cX7_costOf 122 = .ok (.getfield 19, 3) := by decide +kernel
theorem dX7_costOf_125 : decode cX7_costOf 125 = .ok (.aload_n 0, 1) := by decide +kernel
theorem dX7_costOf_126 : decode cX7_costOf 126 = .ok (.getfield 64, 3) := by decide +kernel
theorem dX7_costOf_129 : decode cX7_costOf 129 = .ok (.iload 6, 2) := by decide +kernel
theorem dX7_costOf_131 : decode cX7_costOf 131 = .ok (.iconst 1, 1) := by decide +kernel
theorem dX7_costOf_132 : decode cX7_costOf 132 = .ok (.isub, 1) := by decide +kernel
theorem dX7_costOf_133 : decode cX7_costOf 133 = .ok (.iaload, 1) := by decide +kernel
theorem dX7_costOf_134 : decode cX7_costOf 134 = .ok (.iaload, 1) := by decide +kernel
theorem dX7_costOf_135 : decode cX7_costOf 135 = .ok (.iadd, 1) := by decide +kernel
theorem dX7_costOf_136 : decode cX7_costOf 136 = .ok (.istore 8, 2) := by decide +kernel
theorem dX7_costOf_138 : decode cX7_costOf 138 = .ok (.iload 8, 2) := by decide +kernel
theorem dX7_costOf_140 : decode cX7_costOf 140 = .ok (.iload 7, 2) := by decide +kernel
theorem dX7_costOf_142 : decode cX7_costOf 142 = .ok (.if_icmp .ge 8, 3) := by decide +kernel
theorem dX7_costOf_145 : decode cX7_costOf 145 = .ok (.iload 8, 2) := by decide +kernel
theorem dX7_costOf_147 : decode cX7_costOf 147 = .ok (.goto 5, 3) := by decide +kernel
theorem dX7_costOf_150 : decode cX7_costOf 150 = .ok (.iload 7, 2) := by decide +kernel
theorem dX7_costOf_152 : decode cX7_costOf 152 = .ok (.istore 7, 2) := by decide +kernel
theorem dX7_costOf_154 : decode cX7_costOf 154 = .ok (.iload 5, 2) := by decide +kernel
theorem dX7_costOf_156 : decode cX7_costOf 156 = .ok (.ifCond .le 71, 3) := by decide +kernel
theorem dX7_costOf_159 : decode cX7_costOf 159 = .ok (.iload 6, 2) := by decide +kernel
theorem dX7_costOf_161 : decode cX7_costOf 161 = .ok (.ifCond .le 66, 3) := by decide +kernel
theorem dX7_costOf_164 : decode cX7_costOf 164 = .ok (.aload_n 0, 1) := by decide +kernel
theorem dX7_costOf_165 : decode cX7_costOf 165 = .ok (.getfield 67, 3) := by decide +kernel
theorem dX7_costOf_168 : decode cX7_costOf 168 = .ok (.bipush 41, 2) := by decide +kernel
theorem dX7_costOf_170 : decode cX7_costOf 170 = .ok (.iload 5, 2) := by decide +kernel
theorem dX7_costOf_172 : decode cX7_costOf 172 = .ok (.iconst 1, 1) := by decide +kernel
theorem dX7_costOf_173 : decode cX7_costOf 173 = .ok (.isub, 1) := by decide +kernel
theorem dX7_costOf_174 : decode cX7_costOf 174 = .ok (.imul, 1) := by decide +kernel
theorem dX7_costOf_175 : decode cX7_costOf 175 = .ok (.iload 6, 2) := by decide +kernel
theorem dX7_costOf_177 : decode cX7_costOf 177 = .ok (.iadd, 1) := by decide +kernel
theorem dX7_costOf_178 : decode cX7_costOf 178 = .ok (.iconst 1, 1) := by decide +kernel
theorem dX7_costOf_179 : decode cX7_costOf 179 = .ok (.isub, 1) := by decide +kernel
theorem dX7_costOf_180 : decode cX7_costOf 180 = .ok (.iaload, 1) := by decide +kernel
theorem dX7_costOf_181 : decode cX7_costOf 181 = .ok (.aload_n 0, 1) := by decide +kernel
theorem dX7_costOf_182 : decode cX7_costOf 182 = .ok (.getfield 16, 3) := by decide +kernel
theorem dX7_costOf_185 : decode cX7_costOf 185 = .ok (.bipush 66, 2) := by decide +kernel
theorem dX7_costOf_187 : decode cX7_costOf 187 = .ok (.aload_n 0, 1) := by decide +kernel
theorem dX7_costOf_188 : decode cX7_costOf 188 = .ok (.getfield 61, 3) := by decide +kernel
theorem dX7_costOf_191 : decode cX7_costOf 191 = .ok (.iload 5, 2) := by decide +kernel
theorem dX7_costOf_193 : decode cX7_costOf 193 = .ok (.iconst 1, 1) := by decide +kernel
theorem dX7_costOf_194 : decode cX7_costOf 194 = .ok (.isub, 1) := by decide +kernel
theorem dX7_costOf_195 : decode cX7_costOf 195 = .ok (.iaload, 1) := by decide +kernel
theorem dX7_costOf_196 : decode cX7_costOf 196 = .ok (.imul, 1) := by decide +kernel
theorem dX7_costOf_197 : decode cX7_costOf 197 = .ok (.aload_n 0, 1) := by decide +kernel
theorem dX7_costOf_198 : decode cX7_costOf 198 = .ok (.getfield 64, 3) := by decide +kernel
theorem dX7_costOf_201 : decode cX7_costOf 201 = .ok (.iload 6, 2) := by decide +kernel
theorem dX7_costOf_203 : decode cX7_costOf 203 = .ok (.iconst 1, 1) := by decide +kernel
theorem dX7_costOf_204 : decode cX7_costOf 204 = .ok (.isub, 1) := by decide +kernel
theorem dX7_costOf_205 : decode cX7_costOf 205 = .ok (.iaload, 1) := by decide +kernel
theorem dX7_costOf_206 : decode cX7_costOf 206 = .ok (.iadd, 1) := by decide +kernel
theorem dX7_costOf_207 : decode cX7_costOf 207 = .ok (.iaload, 1) := by decide +kernel
theorem dX7_costOf_208 : decode cX7_costOf 208 = .ok (.iadd, 1) := by decide +kernel
theorem dX7_costOf_209 : decode cX7_costOf 209 = .ok (.istore 8, 2) := by decide +kernel
theorem dX7_costOf_211 : decode cX7_costOf 211 = .ok (.iload 8, 2) := by decide +kernel
theorem dX7_costOf_213 : decode cX7_costOf 213 = .ok (.iload 7, 2) := by decide +kernel
theorem dX7_costOf_215 : decode cX7_costOf 215 = .ok (.if_icmp .ge 8, 3) := by decide +kernel
theorem dX7_costOf_218 : decode cX7_costOf 218 = .ok (.iload 8, 2) := by decide +kernel
theorem dX7_costOf_220 : decode cX7_costOf 220 = .ok (.goto 5, 3) := by decide +kernel
theorem dX7_costOf_223 : decode cX7_costOf 223 = .ok (.iload 7, 2) := by decide +kernel
theorem dX7_costOf_225 : decode cX7_costOf 225 = .ok (.istore 7, 2) := by decide +kernel
theorem dX7_costOf_227 : decode cX7_costOf 227 = .ok (.aload_n 0, 1) := by decide +kernel
theorem dX7_costOf_228 : decode cX7_costOf 228 = .ok (.getfield 67, 3) := by decide +kernel
theorem dX7_costOf_231 : decode cX7_costOf 231 = .ok (.bipush 41, 2) := by decide +kernel
theorem dX7_costOf_233 : decode cX7_costOf 233 = .ok (.iload 5, 2) := by decide +kernel
theorem dX7_costOf_235 : decode cX7_costOf 235 = .ok (.imul, 1) := by decide +kernel
theorem dX7_costOf_236 : decode cX7_costOf 236 = .ok (.iload 6, 2) := by decide +kernel
theorem dX7_costOf_238 : decode cX7_costOf 238 = .ok (.iadd, 1) := by decide +kernel
theorem dX7_costOf_239 : decode cX7_costOf 239 = .ok (.iload 7, 2) := by decide +kernel
theorem dX7_costOf_241 : decode cX7_costOf 241 = .ok (.iastore, 1) := by decide +kernel
theorem dX7_costOf_242 : decode cX7_costOf 242 = .ok (.iinc 6 1, 3) := by decide +kernel
theorem dX7_costOf_245 : decode cX7_costOf 245 = .ok (.goto (-205), 3) := by decide +kernel
theorem dX7_costOf_248 : decode cX7_costOf 248 = .ok (.iinc 5 1, 3) := by decide +kernel
theorem dX7_costOf_251 : decode cX7_costOf 251 = .ok (.goto (-220), 3) := by decide +kernel
theorem dX7_costOf_254 : decode cX7_costOf 254 = .ok (.aload_n 0, 1) := by decide +kernel
theorem dX7_costOf_255 : decode cX7_costOf 255 = .ok (.getfield 67, 3) := by decide +kernel
theorem dX7_costOf_258 : decode cX7_costOf 258 = .ok (.bipush 41, 2) := by decide +kernel
theorem dX7_costOf_260 : decode cX7_costOf 260 = .ok (.iload_n 3, 1) := by decide +kernel
theorem dX7_costOf_261 : decode cX7_costOf 261 = .ok (.imul, 1) := by decide +kernel
theorem dX7_costOf_262 : decode cX7_costOf 262 = .ok (.iload 4, 2) := by decide +kernel
theorem dX7_costOf_264 : decode cX7_costOf 264 = .ok (.iadd, 1) := by decide +kernel
theorem dX7_costOf_265 : decode cX7_costOf 265 = .ok (.iaload, 1) := by decide +kernel
theorem dX7_costOf_266 : decode cX7_costOf 266 = .ok (.ireturn, 1) := by decide +kernel
theorem dX7_wordsLike_0 : decode cX7_wordsLike 0 = .ok (.aload_n 0, 1) := by decide +kernel
theorem dX7_wordsLike_1 : decode cX7_wordsLike 1 = .ok (.iload_n 1, 1) := by decide +kernel
theorem dX7_wordsLike_2 : decode cX7_wordsLike 2 = .ok (.iload_n 2, 1) := by decide +kernel
theorem dX7_wordsLike_3 : decode cX7_wordsLike 3 = .ok (.invokevirtual 126, 3) := by decide +kernel
theorem dX7_wordsLike_6 : decode cX7_wordsLike 6 = .ok (.istore_n 3, 1) := by decide +kernel
theorem dX7_wordsLike_7 : decode cX7_wordsLike 7 = .ok (.aload_n 0, 1) := by decide +kernel
theorem dX7_wordsLike_8 : decode cX7_wordsLike 8 = .ok (.iload_n 1, 1) := by decide +kernel
theorem dX7_wordsLike_9 : decode cX7_wordsLike 9 = .ok (.aload_n 0, 1) := by decide +kernel
theorem dX7_wordsLike_10 : decode cX7_wordsLike 10 = .ok (.getfield 61, 3) := by decide +kernel
theorem dX7_wordsLike_13 : decode cX7_wordsLike 13 = .ok (.invokevirtual 121, 3) := by decide +kernel
theorem dX7_wordsLike_16 : decode cX7_wordsLike 16 = .ok (.istore 4, 2) := by decide +kernel
theorem dX7_wordsLike_18 : decode cX7_wordsLike 18 = .ok (.aload_n 0, 1) := by decide +kernel
theorem dX7_wordsLike_19 : decode cX7_wordsLike 19 = .ok (.iload_n 2, 1) := by decide +kernel
theorem dX7_wordsLike_20 : decode cX7_wordsLike 20 = .ok (.aload_n 0, 1) := by decide +kernel
theorem dX7_wordsLike_21 : decode cX7_wordsLike 21 = .ok (.getfield 64, 3) := by decide +kernel
theorem dX7_wordsLike_24 : decode cX7_wordsLike 24 = .ok (.invokevirtual 121, 3) := by decide +kernel
theorem dX7_wordsLike_27 : decode cX7_wordsLike 27 = .ok (.istore 5, 2) := by decide +kernel
theorem dX7_wordsLike_29 : decode cX7_wordsLike 29 = .ok (.iload 4, 2) := by decide +kernel
theorem dX7_wordsLike_31 : decode cX7_wordsLike 31 = .ok (.iload 5, 2) := by decide +kernel
theorem dX7_wordsLike_33 : decode cX7_wordsLike 33 = .ok (.if_icmp .le 8, 3) := by decide +kernel
theorem dX7_wordsLike_36 : decode cX7_wordsLike 36 = .ok (.iload 4, 2) := by decide +kernel
theorem dX7_wordsLike_38 : decode cX7_wordsLike 38 = .ok (.goto 5, 3) := by decide +kernel
theorem dX7_wordsLike_41 : decode cX7_wordsLike 41 = .ok (.iload 5, 2) := by decide +kernel
theorem dX7_wordsLike_43 : decode cX7_wordsLike 43 = .ok (.istore 6, 2) := by decide +kernel
theorem dX7_wordsLike_45 : decode cX7_wordsLike 45 = .ok (.iload 6, 2) := by decide +kernel
theorem dX7_wordsLike_47 : decode cX7_wordsLike 47 = .ok (.ifCond .ne 7, 3) := by decide +kernel
theorem dX7_wordsLike_50 : decode cX7_wordsLike 50 = .ok (.sipush 1000, 3) := by decide +kernel
theorem dX7_wordsLike_53 : decode cX7_wordsLike 53 = .ok (.ireturn, 1) := by decide +kernel
theorem dX7_wordsLike_54 : decode cX7_wordsLike 54 = .ok (.sipush 1000, 3) := by decide +kernel
theorem dX7_wordsLike_57 : decode cX7_wordsLike 57 = .ok (.bipush 100, 2) := by decide +kernel
theorem dX7_wordsLike_59 : decode cX7_wordsLike 59 = .ok (.iload_n 3, 1) := by decide +kernel
theorem dX7_wordsLike_60 : decode cX7_wordsLike 60 = .ok (.imul, 1) := by decide +kernel
theorem dX7_wordsLike_61 : decode cX7_wordsLike 61 = .ok (.iload 6, 2) := by decide +kernel
theorem dX7_wordsLike_63 : decode cX7_wordsLike 63 = .ok (.idiv, 1) := by decide +kernel
theorem dX7_wordsLike_64 : decode cX7_wordsLike 64 = .ok (.isub, 1) := by decide +kernel
theorem dX7_wordsLike_65 : decode cX7_wordsLike 65 = .ok (.istore 7, 2) := by decide +kernel
theorem dX7_wordsLike_67 : decode cX7_wordsLike 67 = .ok (.iload 7, 2) := by decide +kernel
theorem dX7_wordsLike_69 : decode cX7_wordsLike 69 = .ok (.ifCond .ge 7, 3) := by decide +kernel
theorem dX7_wordsLike_72 : decode cX7_wordsLike 72 = .ok (.iconst 0, 1) := by decide +kernel
theorem dX7_wordsLike_73 : decode cX7_wordsLike 73 = .ok (.goto 5, 3) := by decide +kernel
theorem dX7_wordsLike_76 : decode cX7_wordsLike 76 = .ok (.iload 7, 2) := by decide +kernel
theorem dX7_wordsLike_78 : decode cX7_wordsLike 78 = .ok (.ireturn, 1) := by decide +kernel
theorem dX7_codesLike_0 : decode cX7_codesLike 0 = .ok (.iconst 0, 1) := by decide +kernel
theorem dX7_codesLike_1 : decode cX7_codesLike 1 = .ok (.istore_n 3, 1) := by decide +kernel
theorem dX7_codesLike_2 : decode cX7_codesLike 2 = .ok (.bipush 12, 2) := by decide +kernel
theorem dX7_codesLike_4 : decode cX7_codesLike 4 = .ok (.iload_n 1, 1) := by decide +kernel
theorem dX7_codesLike_5 : decode cX7_codesLike 5 = .ok (.imul, 1) := by decide +kernel
theorem dX7_codesLike_6 : decode cX7_codesLike 6 = .ok (.istore 4, 2) := by decide +kernel
theorem dX7_codesLike_8 : decode cX7_codesLike 8 = .ok (.iload 4, 2) := by decide +kernel
theorem dX7_codesLike_10 : decode cX7_codesLike 10 = .ok (.bipush 12, 2) := by decide +kernel
theorem dX7_codesLike_12 : decode cX7_codesLike 12 = .ok (.iload_n 1, 1) := by decide +kernel
theorem dX7_codesLike_13 : decode cX7_codesLike 13 = .ok (.imul, 1) := by decide +kernel
theorem dX7_codesLike_14 : decode cX7_codesLike 14 = .ok (.aload_n 0, 1) := by decide +kernel
theorem dX7_codesLike_15 : decode cX7_codesLike 15 = .ok (.getfield 43, 3) := by decide +kernel
theorem dX7_codesLike_18 : decode cX7_codesLike 18 = .ok (.iload_n 1, 1) := by decide +kernel
theorem dX7_codesLike_19 : decode cX7_codesLike 19 = .ok (.iaload, 1) := by decide +kernel
theorem dX7_codesLike_20 : decode cX7_codesLike 20 = .ok (.iadd, 1) := by decide +kernel
theorem dX7_codesLike_21 : decode cX7_codesLike 21 = .ok (.if_icmp .ge 32, 3) := by decide +kernel
theorem dX7_codesLike_24 : decode cX7_codesLike 24 = .ok (.iload_n 3, 1) := by decide +kernel
theorem dX7_codesLike_25 : decode cX7_codesLike 25 = .ok (.aload_n 0, 1) := by decide +kernel
theorem dX7_codesLike_26 : decode cX7_codesLike 26 = .ok (.iload_n 2, 1) := by decide +kernel
theorem dX7_codesLike_27 : decode cX7_codesLike 27 = .ok (.aload_n 0, 1) := by decide +kernel
theorem dX7_codesLike_28 : decode cX7_codesLike 28 = .ok (.getfield 46, 3) := by decide +kernel
theorem dX7_codesLike_31 : decode cX7_codesLike 31 = .ok (.iload 4, 2) := by decide +kernel
theorem dX7_codesLike_33 : decode cX7_codesLike 33 = .ok (.iaload, 1) := by decide +kernel
theorem dX7_codesLike_34 : decode cX7_codesLike 34 = .ok (.invokevirtual 114, 3) := by decide +kernel
theorem dX7_codesLike_37 : decode cX7_codesLike 37 = .ok (.ifCond .eq 7, 3) := by decide +kernel
theorem dX7_codesLike_40 : decode cX7_codesLike 40 = .ok (.iconst 1, 1) := by decide +kernel
theorem dX7_codesLike_41 : decode cX7_codesLike 41 = .ok (.goto 4, 3) := by decide +kernel
theorem dX7_codesLike_44 : decode cX7_codesLike 44 = .ok (.iconst 0, 1) := by decide +kernel
theorem dX7_codesLike_45 : decode cX7_codesLike 45 = .ok (.iadd, 1) := by decide +kernel
theorem dX7_codesLike_46 : decode cX7_codesLike 46 = .ok (.istore_n 3, 1) := by decide +kernel
theorem dX7_codesLike_47 : decode cX7_codesLike 47 = .ok (.iinc 4 1, 3) := by decide +kernel
theorem dX7_codesLike_50 : decode cX7_codesLike 50 = .ok (.goto (-42), 3) := by decide +kernel
theorem dX7_codesLike_53 : decode cX7_codesLike 53 = .ok (.aload_n 0, 1) := by decide +kernel
theorem dX7_codesLike_54 : decode cX7_codesLike 54 = .ok (.getfield 43, 3) := by decide +kernel
theorem dX7_codesLike_57 : decode cX7_codesLike 57 = .ok (.iload_n 1, 1) := by decide +kernel
theorem dX7_codesLike_58 : decode cX7_codesLike 58 = .ok (.iaload, 1) := by decide +kernel
theorem dX7_codesLike_59 : decode cX7_codesLike 59 = .ok (.aload_n 0, 1) := by decide +kernel
theorem dX7_codesLike_60 : decode cX7_codesLike 60 = .ok (.getfield 43, 3) := by decide +kernel
theorem dX7_codesLike_63 : decode cX7_codesLike 63 = .ok (.iload_n 2, 1) := by decide +kernel
theorem dX7_codesLike_64 : decode cX7_codesLike 64 = .ok (.iaload, 1) := by decide +kernel
theorem dX7_codesLike_65 : decode cX7_codesLike 65 = .ok (.if_icmp .le 12, 3) := by decide +kernel
theorem dX7_codesLike_68 : decode cX7_codesLike 68 = .ok (.aload_n 0, 1) := by decide +kernel
theorem dX7_codesLike_69 : decode cX7_codesLike 69 = .ok (.getfield 43, 3) := by decide +kernel
theorem dX7_codesLike_72 : decode cX7_codesLike 72 = .ok (.iload_n 1, 1) := by decide +kernel
theorem dX7_codesLike_73 : decode cX7_codesLike 73 = .ok (.iaload, 1) := by decide +kernel
theorem dX7_codesLike_74 : decode cX7_codesLike 74 = .ok (.goto 9, 3) := by decide +kernel
theorem dX7_codesLike_77 : decode cX7_codesLike 77 = .ok (.aload_n 0, 1) := by decide +kernel
theorem dX7_codesLike_78 : decode cX7_codesLike 78 = .ok (.getfield 43, 3) := by decide +kernel
theorem dX7_codesLike_81 : decode cX7_codesLike 81 = .ok (.iload_n 2, 1) := by decide +kernel
theorem dX7_codesLike_82 : decode cX7_codesLike 82 = .ok (.iaload, 1) := by decide +kernel
theorem dX7_codesLike_83 : decode cX7_codesLike 83 = .ok (.istore 4, 2) := by decide +kernel
theorem dX7_codesLike_85 : decode cX7_codesLike 85 = .ok (.iload 4, 2) := by decide +kernel
theorem dX7_codesLike_87 : decode cX7_codesLike 87 = .ok (.ifCond .ne 7, 3) := by decide +kernel
theorem dX7_codesLike_90 : decode cX7_codesLike 90 = .ok (.iconst 0, 1) := by decide +kernel
theorem dX7_codesLike_91 : decode cX7_codesLike 91 = .ok (.goto 11, 3) := by decide +kernel
theorem dX7_codesLike_94 : decode cX7_codesLike 94 = .ok (.sipush 1000, 3) := by decide +kernel
theorem dX7_codesLike_97 : decode cX7_codesLike 97 = .ok (.iload_n 3, 1) := by decide +kernel
theorem dX7_codesLike_98 : decode cX7_codesLike 98 = .ok (.imul, 1) := by decide +kernel
theorem dX7_codesLike_99 : decode cX7_codesLike 99 = .ok (.iload 4, 2) := by decide +kernel
theorem dX7_codesLike_101 : decode cX7_codesLike 101 = .ok (.idiv, 1) := by decide +kernel
theorem dX7_codesLike_102 : decode cX7_codesLike 102 = .ok (.ireturn, 1) := by decide +kernel
theorem dX7_likeOf_0 : decode cX7_likeOf 0 = .ok (.aload_n 0, 1) := by decide +kernel
theorem dX7_likeOf_1 : decode cX7_likeOf 1 = .ok (.getfield 31, 3) := by decide +kernel
theorem dX7_likeOf_4 : decode cX7_likeOf 4 = .ok (.iload_n 1, 1) := by decide +kernel
theorem dX7_likeOf_5 : decode cX7_likeOf 5 = .ok (.iaload, 1) := by decide +kernel
theorem dX7_likeOf_6 : decode cX7_likeOf 6 = .ok (.iconst 1, 1) := by decide +kernel
theorem dX7_likeOf_7 : decode cX7_likeOf 7 = .ok (.if_icmp .ne 7, 3) := by decide +kernel
theorem dX7_likeOf_10 : decode cX7_likeOf 10 = .ok (.iconst 1, 1) := by decide +kernel
theorem dX7_likeOf_11 : decode cX7_likeOf 11 = .ok (.goto 4, 3) := by decide +kernel
theorem dX7_likeOf_14 : decode cX7_likeOf 14 = .ok (.iconst 0, 1) := by decide +kernel
theorem dX7_likeOf_15 : decode cX7_likeOf 15 = .ok (.istore_n 3, 1) := by decide +kernel
theorem dX7_likeOf_16 : decode cX7_likeOf 16 = .ok (.aload_n 0, 1) := by decide +kernel
theorem dX7_likeOf_17 : decode cX7_likeOf 17 = .ok (.getfield 31, 3) := by decide +kernel
theorem dX7_likeOf_20 : decode cX7_likeOf 20 = .ok (.iload_n 2, 1) := by decide +kernel
theorem dX7_likeOf_21 : decode cX7_likeOf 21 = .ok (.iaload, 1) := by decide +kernel
theorem dX7_likeOf_22 : decode cX7_likeOf 22 = .ok (.iconst 1, 1) := by decide +kernel
theorem dX7_likeOf_23 : decode cX7_likeOf 23 = .ok (.if_icmp .ne 7, 3) := by decide +kernel
theorem dX7_likeOf_26 : decode cX7_likeOf 26 = .ok (.iconst 1, 1) := by decide +kernel
theorem dX7_likeOf_27 : decode cX7_likeOf 27 = .ok (.goto 4, 3) := by decide +kernel
theorem dX7_likeOf_30 : decode cX7_likeOf 30 = .ok (.iconst 0, 1) := by decide +kernel
theorem dX7_likeOf_31 : decode cX7_likeOf 31 = .ok (.istore 4, 2) := by decide +kernel
theorem dX7_likeOf_33 : decode cX7_likeOf 33 = .ok (.iload_n 3, 1) := by decide +kernel
theorem dX7_likeOf_34 : decode cX7_likeOf 34 = .ok (.ifCond .ne 13, 3) := by decide +kernel
theorem dX7_likeOf_37 : decode cX7_likeOf 37 = .ok (.aload_n 0, 1) := by decide +kernel
theorem dX7_likeOf_38 : decode cX7_likeOf 38 = .ok (.getfield 31, 3) := by decide +kernel
theorem dX7_likeOf_41 : decode cX7_likeOf 41 = .ok (.iload_n 1, 1) := by decide +kernel
theorem dX7_likeOf_42 : decode cX7_likeOf 42 = .ok (.iaload, 1) := by decide +kernel
theorem dX7_likeOf_43 : decode cX7_likeOf 43 = .ok (.iconst 2, 1) := by decide +kernel
theorem dX7_likeOf_44 : decode cX7_likeOf 44 = .ok (.if_icmp .ne 7, 3) := by decide +kernel
theorem dX7_likeOf_47 : decode cX7_likeOf 47 = .ok (.iconst 1, 1) := by decide +kernel
theorem dX7_likeOf_48 : decode cX7_likeOf 48 = .ok (.goto 4, 3) := by decide +kernel
theorem dX7_likeOf_51 : decode cX7_likeOf 51 = .ok (.iconst 0, 1) := by decide +kernel
theorem dX7_likeOf_52 : decode cX7_likeOf 52 = .ok (.istore 5, 2) := by decide +kernel
theorem dX7_likeOf_54 : decode cX7_likeOf 54 = .ok (.iload 4, 2) := by decide +kernel
theorem dX7_likeOf_56 : decode cX7_likeOf 56 = .ok (.ifCond .ne 13, 3) := by decide +kernel
theorem dX7_likeOf_59 : decode cX7_likeOf 59 = .ok (.aload_n 0, 1) := by decide +kernel
theorem dX7_likeOf_60 : decode cX7_likeOf 60 = .ok (.getfield 31, 3) := by decide +kernel
theorem dX7_likeOf_63 : decode cX7_likeOf 63 = .ok (.iload_n 2, 1) := by decide +kernel
theorem dX7_likeOf_64 : decode cX7_likeOf 64 = .ok (.iaload, 1) := by decide +kernel
theorem dX7_likeOf_65 : decode cX7_likeOf 65 = .ok (.iconst 2, 1) := by decide +kernel
theorem dX7_likeOf_66 : decode cX7_likeOf 66 = .ok (.if_icmp .ne 7, 3) := by decide +kernel
theorem dX7_likeOf_69 : decode cX7_likeOf 69 = .ok (.iconst 1, 1) := by decide +kernel
theorem dX7_likeOf_70 : decode cX7_likeOf 70 = .ok (.goto 4, 3) := by decide +kernel
theorem dX7_likeOf_73 : decode cX7_likeOf 73 = .ok (.iconst 0, 1) := by decide +kernel
theorem dX7_likeOf_74 : decode cX7_likeOf 74 = .ok (.istore 6, 2) := by decide +kernel
theorem dX7_likeOf_76 : decode cX7_likeOf 76 = .ok (.iload_n 3, 1) := by decide +kernel
theorem dX7_likeOf_77 : decode cX7_likeOf 77 = .ok (.ifCond .ne 8, 3) := by decide +kernel
theorem dX7_likeOf_80 : decode cX7_likeOf 80 = .ok (.iload 4, 2) := by decide +kernel
theorem dX7_likeOf_82 : decode cX7_likeOf 82 = .ok (.ifCond .eq 24, 3) := by decide +kernel
theorem dX7_likeOf_85 : decode cX7_likeOf 85 = .ok (.iload 5, 2) := by decide +kernel
theorem dX7_likeOf_87 : decode cX7_likeOf 87 = .ok (.ifCond .eq 17, 3) := by decide +kernel
theorem dX7_likeOf_90 : decode cX7_likeOf 90 = .ok (.iload 6, 2) := by decide +kernel
theorem dX7_likeOf_92 : decode cX7_likeOf 92 = .ok (.ifCond .eq 12, 3) := by decide +kernel
theorem dX7_likeOf_95 : decode cX7_likeOf 95 = .ok (.aload_n 0, 1) := by decide +kernel
theorem dX7_likeOf_96 : decode cX7_likeOf 96 = .ok (.iload_n 1, 1) := by decide +kernel
theorem dX7_likeOf_97 : decode cX7_likeOf 97 = .ok (.iload_n 2, 1) := by decide +kernel
theorem dX7_likeOf_98 : decode cX7_likeOf 98 = .ok (.invokevirtual 129, 3) := by decide +kernel
theorem dX7_likeOf_101 : decode cX7_likeOf 101 = .ok (.goto 4, 3) := by decide +kernel
theorem dX7_likeOf_104 : decode cX7_likeOf 104 = .ok (.iconst 0, 1) := by decide +kernel
theorem dX7_likeOf_105 : decode cX7_likeOf 105 = .ok (.ireturn, 1) := by decide +kernel
theorem dX7_likeOf_106 : decode cX7_likeOf 106 = .ok (.aload_n 0, 1) := by decide +kernel
theorem dX7_likeOf_107 : decode cX7_likeOf 107 = .ok (.iload_n 1, 1) := by decide +kernel
theorem dX7_likeOf_108 : decode cX7_likeOf 108 = .ok (.iload_n 2, 1) := by decide +kernel
theorem dX7_likeOf_109 : decode cX7_likeOf 109 = .ok (.invokevirtual 132, 3) := by decide +kernel
theorem dX7_likeOf_112 : decode cX7_likeOf 112 = .ok (.istore 7, 2) := by decide +kernel
theorem dX7_likeOf_114 : decode cX7_likeOf 114 = .ok (.iload 5, 2) := by decide +kernel
theorem dX7_likeOf_116 : decode cX7_likeOf 116 = .ok (.ifCond .eq 17, 3) := by decide +kernel
theorem dX7_likeOf_119 : decode cX7_likeOf 119 = .ok (.iload 6, 2) := by decide +kernel
theorem dX7_likeOf_121 : decode cX7_likeOf 121 = .ok (.ifCond .eq 12, 3) := by decide +kernel
theorem dX7_likeOf_124 : decode cX7_likeOf 124 = .ok (.aload_n 0, 1) := by decide +kernel
theorem dX7_likeOf_125 : decode cX7_likeOf 125 = .ok (.iload_n 1, 1) := by decide +kernel
theorem dX7_likeOf_126 : decode cX7_likeOf 126 = .ok (.iload_n 2, 1) := by decide +kernel
theorem dX7_likeOf_127 : decode cX7_likeOf 127 = .ok (.invokevirtual 129, 3) := by decide +kernel
theorem dX7_likeOf_130 : decode cX7_likeOf 130 = .ok (.goto 4, 3) := by decide +kernel
theorem dX7_likeOf_133 : decode cX7_likeOf 133 = .ok (.iconst 0, 1) := by decide +kernel
theorem dX7_likeOf_134 : decode cX7_likeOf 134 = .ok (.istore 8, 2) := by decide +kernel
theorem dX7_likeOf_136 : decode cX7_likeOf 136 = .ok (.iload 8, 2) := by decide +kernel
theorem dX7_likeOf_138 : decode cX7_likeOf 138 = .ok (.iload 7, 2) := by decide +kernel
theorem dX7_likeOf_140 : decode cX7_likeOf 140 = .ok (.if_icmp .le 8, 3) := by decide +kernel
theorem dX7_likeOf_143 : decode cX7_likeOf 143 = .ok (.iload 8, 2) := by decide +kernel
theorem dX7_likeOf_145 : decode cX7_likeOf 145 = .ok (.goto 5, 3) := by decide +kernel
theorem dX7_likeOf_148 : decode cX7_likeOf 148 = .ok (.iload 7, 2) := by decide +kernel
theorem dX7_likeOf_150 : decode cX7_likeOf 150 = .ok (.ireturn, 1) := by decide +kernel
theorem dX7_isAlike_0 : decode cX7_isAlike 0 = .ok (.aload_n 0, 1) := by decide +kernel
theorem dX7_isAlike_1 : decode cX7_isAlike 1 = .ok (.iload_n 1, 1) := by decide +kernel
theorem dX7_isAlike_2 : decode cX7_isAlike 2 = .ok (.iload_n 2, 1) := by decide +kernel
theorem dX7_isAlike_3 : decode cX7_isAlike 3 = .ok (.invokevirtual 135, 3) := by decide +kernel
theorem dX7_isAlike_6 : decode cX7_isAlike 6 = .ok (.aload_n 0, 1) := by decide +kernel
theorem dX7_isAlike_7 : decode cX7_isAlike 7 = .ok (.getfield 76, 3) := by decide +kernel
theorem dX7_isAlike_10 : decode cX7_isAlike 10 = .ok (.if_icmp .lt 7, 3) := by decide +kernel
theorem dX7_isAlike_13 : decode cX7_isAlike 13 = .ok (.iconst 1, 1) := by decide +kernel
theorem dX7_isAlike_14 : decode cX7_isAlike 14 = .ok (.goto 4, 3) := by decide +kernel
theorem dX7_isAlike_17 : decode cX7_isAlike 17 = .ok (.iconst 0, 1) := by decide +kernel
theorem dX7_isAlike_18 : decode cX7_isAlike 18 = .ok (.ireturn, 1) := by decide +kernel
theorem dX7_latest_0 : decode cX7_latest 0 = .ok (.iconst (-1), 1) := by decide +kernel
theorem dX7_latest_1 : decode cX7_latest 1 = .ok (.istore 5, 2) := by decide +kernel
theorem dX7_latest_3 : decode cX7_latest 3 = .ok (.iconst 0, 1) := by decide +kernel
theorem dX7_latest_4 : decode cX7_latest 4 = .ok (.istore 6, 2) := by decide +kernel
theorem dX7_latest_6 : decode cX7_latest 6 = .ok (.iload 6, 2) := by decide +kernel
theorem dX7_latest_8 : decode cX7_latest 8 = .ok (.aload_n 0, 1) := by decide +kernel
theorem dX7_latest_9 : decode cX7_latest 9 = .ok (.getfield 105, 3) := by decide +kernel
theorem dX7_latest_12 : decode cX7_latest 12 = .ok (.if_icmp .ge 68, 3) := by decide +kernel
theorem dX7_latest_15 : decode cX7_latest 15 = .ok (.aload_n 0, 1) := by decide +kernel
theorem dX7_latest_16 : decode cX7_latest 16 = .ok (.getfield 49, 3) := by decide +kernel
theorem dX7_latest_19 : decode cX7_latest 19 = .ok (.iload 6, 2) := by decide +kernel
theorem dX7_latest_21 : decode cX7_latest 21 = .ok (.iaload, 1) := by decide +kernel
theorem dX7_latest_22 : decode cX7_latest 22 = .ok (.iload_n 1, 1) := by decide +kernel
theorem dX7_latest_23 : decode cX7_latest 23 = .ok (.if_icmp .ne 47, 3) := by decide +kernel
theorem dX7_latest_26 : decode cX7_latest 26 = .ok (.aload_n 0, 1) := by decide +kernel
theorem dX7_latest_27 : decode cX7_latest 27 = .ok (.getfield 52, 3) := by decide +kernel
theorem dX7_latest_30 : decode cX7_latest 30 = .ok (.iload 6, 2) := by decide +kernel
theorem dX7_latest_32 : decode cX7_latest 32 = .ok (.iaload, 1) := by decide +kernel
theorem dX7_latest_33 : decode cX7_latest 33 = .ok (.iload_n 2, 1) := by decide +kernel
theorem dX7_latest_34 : decode cX7_latest 34 = .ok (.if_icmp .ne 36, 3) := by decide +kernel
theorem dX7_latest_37 : decode cX7_latest 37 = .ok (.iload_n 3, 1) := by decide +kernel
theorem dX7_latest_38 : decode cX7_latest 38 = .ok (.iconst (-1), 1) := by decide +kernel
theorem dX7_latest_39 : decode cX7_latest 39 = .ok (.if_icmp .eq 14, 3) := by decide +kernel
theorem dX7_latest_42 : decode cX7_latest 42 = .ok (.aload_n 0, 1) := by decide +kernel
theorem dX7_latest_43 : decode cX7_latest 43 = .ok (.getfield 55, 3) := by decide +kernel
theorem dX7_latest_46 : decode cX7_latest 46 = .ok (.iload 6, 2) := by decide +kernel
theorem dX7_latest_48 : decode cX7_latest 48 = .ok (.iaload, 1) := by decide +kernel
theorem dX7_latest_49 : decode cX7_latest 49 = .ok (.iload_n 3, 1) := by decide +kernel
theorem dX7_latest_50 : decode cX7_latest 50 = .ok (.if_icmp .ne 20, 3) := by decide +kernel
theorem dX7_latest_53 : decode cX7_latest 53 = .ok (.aload_n 0, 1) := by decide +kernel
theorem dX7_latest_54 : decode cX7_latest 54 = .ok (.getfield 58, 3) := by decide +kernel
theorem dX7_latest_57 : decode cX7_latest 57 = .ok (.iload 6, 2) := by decide +kernel
theorem dX7_latest_59 : decode cX7_latest 59 = .ok (.iaload, 1) := by decide +kernel
theorem dX7_latest_60 : decode cX7_latest 60 = .ok (.iload 4, 2) := by decide +kernel
theorem dX7_latest_62 : decode cX7_latest 62 = .ok (.if_icmp .gt 8, 3) := by decide +kernel
theorem dX7_latest_65 : decode cX7_latest 65 = .ok (.iload 6, 2) := by decide +kernel
theorem dX7_latest_67 : decode cX7_latest 67 = .ok (.goto 5, 3) := by decide +kernel
theorem dX7_latest_70 : decode cX7_latest 70 = .ok (.iload 5, 2) := by decide +kernel
theorem dX7_latest_72 : decode cX7_latest 72 = .ok (.istore 5, 2) := by decide +kernel
theorem dX7_latest_74 : decode cX7_latest 74 = .ok (.iinc 6 1, 3) := by decide +kernel
theorem dX7_latest_77 : decode cX7_latest 77 = .ok (.goto (-71), 3) := by decide +kernel
theorem dX7_latest_80 : decode cX7_latest 80 = .ok (.iload 5, 2) := by decide +kernel
theorem dX7_latest_82 : decode cX7_latest 82 = .ok (.ireturn, 1) := by decide +kernel
theorem dX7_earliest_0 : decode cX7_earliest 0 = .ok (.iconst (-1), 1) := by decide +kernel
theorem dX7_earliest_1 : decode cX7_earliest 1 = .ok (.istore 5, 2) := by decide +kernel
theorem dX7_earliest_3 : decode cX7_earliest 3 = .ok (.aload_n 0, 1) := by decide +kernel
theorem dX7_earliest_4 : decode cX7_earliest 4 = .ok (.getfield 105, 3) := by decide +kernel
theorem dX7_earliest_7 : decode cX7_earliest 7 = .ok (.iconst 1, 1) := by decide +kernel
theorem dX7_earliest_8 : decode cX7_earliest 8 = .ok (.isub, 1) := by decide +kernel
theorem dX7_earliest_9 : decode cX7_earliest 9 = .ok (.istore 6, 2) := by decide +kernel
theorem dX7_earliest_11 : decode cX7_earliest 11 = .ok (.iload 6, 2) := by decide +kernel
theorem dX7_earliest_13 : decode cX7_earliest 13 = .ok (.ifCond .lt 68, 3) := by decide +kernel
theorem dX7_earliest_16 : decode cX7_earliest 16 = .ok (.aload_n 0, 1) := by decide +kernel
theorem dX7_earliest_17 : decode cX7_earliest 17 = .ok (.getfield 49, 3) := by decide +kernel
theorem dX7_earliest_20 : decode cX7_earliest 20 = .ok (.iload 6, 2) := by decide +kernel
theorem dX7_earliest_22 : decode cX7_earliest 22 = .ok (.iaload, 1) := by decide +kernel
theorem dX7_earliest_23 : decode cX7_earliest 23 = .ok (.iload_n 1, 1) := by decide +kernel
theorem dX7_earliest_24 : decode cX7_earliest 24 = .ok (.if_icmp .ne 47, 3) := by decide +kernel
theorem dX7_earliest_27 : decode cX7_earliest 27 = .ok (.aload_n 0, 1) := by decide +kernel
theorem dX7_earliest_28 : decode cX7_earliest 28 = .ok (.getfield 52, 3) := by decide +kernel
theorem dX7_earliest_31 : decode cX7_earliest 31 = .ok (.iload 6, 2) := by decide +kernel
theorem dX7_earliest_33 : decode cX7_earliest 33 = .ok (.iaload, 1) := by decide +kernel
theorem dX7_earliest_34 : decode cX7_earliest 34 = .ok (.iload_n 2, 1) := by decide +kernel
theorem dX7_earliest_35 : decode cX7_earliest 35 = .ok (.if_icmp .ne 36, 3) := by decide +kernel
theorem dX7_earliest_38 : decode cX7_earliest 38 = .ok (.iload_n 3, 1) := by decide +kernel
theorem dX7_earliest_39 : decode cX7_earliest 39 = .ok (.iconst (-1), 1) := by decide +kernel
theorem dX7_earliest_40 : decode cX7_earliest 40 = .ok (.if_icmp .eq 14, 3) := by decide +kernel
theorem dX7_earliest_43 : decode cX7_earliest 43 = .ok (.aload_n 0, 1) := by decide +kernel
theorem dX7_earliest_44 : decode cX7_earliest 44 = .ok (.getfield 55, 3) := by decide +kernel
theorem dX7_earliest_47 : decode cX7_earliest 47 = .ok (.iload 6, 2) := by decide +kernel
theorem dX7_earliest_49 : decode cX7_earliest 49 = .ok (.iaload, 1) := by decide +kernel
theorem dX7_earliest_50 : decode cX7_earliest 50 = .ok (.iload_n 3, 1) := by decide +kernel
theorem dX7_earliest_51 : decode cX7_earliest 51 = .ok (.if_icmp .ne 20, 3) := by decide +kernel
theorem dX7_earliest_54 : decode cX7_earliest 54 = .ok (.aload_n 0, 1) := by decide +kernel
theorem dX7_earliest_55 : decode cX7_earliest 55 = .ok (.getfield 58, 3) := by decide +kernel
theorem dX7_earliest_58 : decode cX7_earliest 58 = .ok (.iload 6, 2) := by decide +kernel
theorem dX7_earliest_60 : decode cX7_earliest 60 = .ok (.iaload, 1) := by decide +kernel
theorem dX7_earliest_61 : decode cX7_earliest 61 = .ok (.iload 4, 2) := by decide +kernel
theorem dX7_earliest_63 : decode cX7_earliest 63 = .ok (.if_icmp .gt 8, 3) := by decide +kernel
theorem dX7_earliest_66 : decode cX7_earliest 66 = .ok (.iload 6, 2) := by decide +kernel
theorem dX7_earliest_68 : decode cX7_earliest 68 = .ok (.goto 5, 3) := by decide +kernel
theorem dX7_earliest_71 : decode cX7_earliest 71 = .ok (.iload 5, 2) := by decide +kernel
theorem dX7_earliest_73 : decode cX7_earliest 73 = .ok (.istore 5, 2) := by decide +kernel
theorem dX7_earliest_75 : decode cX7_earliest 75 = .ok (.iinc 6 (-1), 3) := by decide +kernel
theorem dX7_earliest_78 : decode cX7_earliest 78 = .ok (.goto (-67), 3) := by decide +kernel
theorem dX7_earliest_81 : decode cX7_earliest 81 = .ok (.iload 5, 2) := by decide +kernel
theorem dX7_earliest_83 : decode cX7_earliest 83 = .ok (.ireturn, 1) := by decide +kernel
theorem dX7_countOf_0 : decode cX7_countOf 0 = .ok (.iconst 0, 1) := by decide +kernel
theorem dX7_countOf_1 : decode cX7_countOf 1 = .ok (.istore 4, 2) := by decide +kernel
theorem dX7_countOf_3 : decode cX7_countOf 3 = .ok (.iconst 0, 1) := by decide +kernel
theorem dX7_countOf_4 : decode cX7_countOf 4 = .ok (.istore 5, 2) := by decide +kernel
theorem dX7_countOf_6 : decode cX7_countOf 6 = .ok (.iload 5, 2) := by decide +kernel
theorem dX7_countOf_8 : decode cX7_countOf 8 = .ok (.aload_n 0, 1) := by decide +kernel
theorem dX7_countOf_9 : decode cX7_countOf 9 = .ok (.getfield 105, 3) := by decide +kernel
theorem dX7_countOf_12 : decode cX7_countOf 12 = .ok (.if_icmp .ge 52, 3) := by decide +kernel
theorem dX7_countOf_15 : decode cX7_countOf 15 = .ok (.iload 4, 2) := by decide +kernel
theorem dX7_countOf_17 : decode cX7_countOf 17 = .ok (.aload_n 0, 1) := by decide +kernel
theorem dX7_countOf_18 : decode cX7_countOf 18 = .ok (.getfield 49, 3) := by decide +kernel
theorem dX7_countOf_21 : decode cX7_countOf 21 = .ok (.iload 5, 2) := by decide +kernel
theorem dX7_countOf_23 : decode cX7_countOf 23 = .ok (.iaload, 1) := by decide +kernel
theorem dX7_countOf_24 : decode cX7_countOf 24 = .ok (.iload_n 1, 1) := by decide +kernel
theorem dX7_countOf_25 : decode cX7_countOf 25 = .ok (.if_icmp .ne 29, 3) := by decide +kernel
theorem dX7_countOf_28 : decode cX7_countOf 28 = .ok (.aload_n 0, 1) := by decide +kernel
theorem dX7_countOf_29 : decode cX7_countOf 29 = .ok (.getfield 52, 3) := by decide +kernel
theorem dX7_countOf_32 : decode cX7_countOf 32 = .ok (.iload 5, 2) := by decide +kernel
theorem dX7_countOf_34 : decode cX7_countOf 34 = .ok (.iaload, 1) := by decide +kernel
theorem dX7_countOf_35 : decode cX7_countOf 35 = .ok (.iload_n 2, 1) := by decide +kernel
theorem dX7_countOf_36 : decode cX7_countOf 36 = .ok (.if_icmp .ne 18, 3) := by decide +kernel
theorem dX7_countOf_39 : decode cX7_countOf 39 = .ok (.aload_n 0, 1) := by decide +kernel
theorem dX7_countOf_40 : decode cX7_countOf 40 = .ok (.getfield 58, 3) := by decide +kernel
theorem dX7_countOf_43 : decode cX7_countOf 43 = .ok (.iload 5, 2) := by decide +kernel
theorem dX7_countOf_45 : decode cX7_countOf 45 = .ok (.iaload, 1) := by decide +kernel
theorem dX7_countOf_46 : decode cX7_countOf 46 = .ok (.iload_n 3, 1) := by decide +kernel
theorem dX7_countOf_47 : decode cX7_countOf 47 = .ok (.if_icmp .gt 7, 3) := by decide +kernel
theorem dX7_countOf_50 : decode cX7_countOf 50 = .ok (.iconst 1, 1) := by decide +kernel
theorem dX7_countOf_51 : decode cX7_countOf 51 = .ok (.goto 4, 3) := by decide +kernel
theorem dX7_countOf_54 : decode cX7_countOf 54 = .ok (.iconst 0, 1) := by decide +kernel
theorem dX7_countOf_55 : decode cX7_countOf 55 = .ok (.iadd, 1) := by decide +kernel
theorem dX7_countOf_56 : decode cX7_countOf 56 = .ok (.istore 4, 2) := by decide +kernel
theorem dX7_countOf_58 : decode cX7_countOf 58 = .ok (.iinc 5 1, 3) := by decide +kernel
theorem dX7_countOf_61 : decode cX7_countOf 61 = .ok (.goto (-55), 3) := by decide +kernel
theorem dX7_countOf_64 : decode cX7_countOf 64 = .ok (.iload 4, 2) := by decide +kernel
theorem dX7_countOf_66 : decode cX7_countOf 66 = .ok (.ireturn, 1) := by decide +kernel
theorem dX7_since_0 : decode cX7_since 0 = .ok (.aload_n 0, 1) := by decide +kernel
theorem dX7_since_1 : decode cX7_since 1 = .ok (.iconst 0, 1) := by decide +kernel
theorem dX7_since_2 : decode cX7_since 2 = .ok (.iload_n 1, 1) := by decide +kernel
theorem dX7_since_3 : decode cX7_since 3 = .ok (.iload_n 2, 1) := by decide +kernel
theorem dX7_since_4 : decode cX7_since 4 = .ok (.iload_n 3, 1) := by decide +kernel
theorem dX7_since_5 : decode cX7_since 5 = .ok (.invokevirtual 138, 3) := by decide +kernel
theorem dX7_since_8 : decode cX7_since 8 = .ok (.istore 4, 2) := by decide +kernel
theorem dX7_since_10 : decode cX7_since 10 = .ok (.aload_n 0, 1) := by decide +kernel
theorem dX7_since_11 : decode cX7_since 11 = .ok (.iconst 3, 1) := by decide +kernel
theorem dX7_since_12 : decode cX7_since 12 = .ok (.iload_n 1, 1) := by decide +kernel
theorem dX7_since_13 : decode cX7_since 13 = .ok (.iload_n 2, 1) := by decide +kernel
theorem dX7_since_14 : decode cX7_since 14 = .ok (.iload_n 3, 1) := by decide +kernel
theorem dX7_since_15 : decode cX7_since 15 = .ok (.invokevirtual 138, 3) := by decide +kernel
theorem dX7_since_18 : decode cX7_since 18 = .ok (.istore 5, 2) := by decide +kernel
theorem dX7_since_20 : decode cX7_since 20 = .ok (.iload 4, 2) := by decide +kernel
theorem dX7_since_22 : decode cX7_since 22 = .ok (.ifCond .lt 21, 3) := by decide +kernel
theorem dX7_since_25 : decode cX7_since 25 = .ok (.iload 5, 2) := by decide +kernel
theorem dX7_since_27 : decode cX7_since 27 = .ok (.iload 4, 2) := by decide +kernel
theorem dX7_since_29 : decode cX7_since 29 = .ok (.if_icmp .le 16, 3) := by decide +kernel
theorem dX7_since_32 : decode cX7_since 32 = .ok (.aload_n 0, 1) := by decide +kernel
theorem dX7_since_33 : decode cX7_since 33 = .ok (.getfield 58, 3) := by decide +kernel
theorem dX7_since_36 : decode cX7_since 36 = .ok (.iload 5, 2) := by decide +kernel
theorem dX7_since_38 : decode cX7_since 38 = .ok (.iaload, 1) := by decide +kernel
theorem dX7_since_39 : decode cX7_since 39 = .ok (.iload_n 3, 1) := by decide +kernel
theorem dX7_since_40 : decode cX7_since 40 = .ok (.if_icmp .eq 5, 3) := by decide +kernel
theorem dX7_since_43 : decode cX7_since 43 = .ok (.iconst (-1), 1) := by decide +kernel
theorem dX7_since_44 : decode cX7_since 44 = .ok (.ireturn, 1) := by decide +kernel
theorem dX7_since_45 : decode cX7_since 45 = .ok (.aload_n 0, 1) := by decide +kernel
theorem dX7_since_46 : decode cX7_since 46 = .ok (.getfield 58, 3) := by decide +kernel
theorem dX7_since_49 : decode cX7_since 49 = .ok (.iload 4, 2) := by decide +kernel
theorem dX7_since_51 : decode cX7_since 51 = .ok (.iaload, 1) := by decide +kernel
theorem dX7_since_52 : decode cX7_since 52 = .ok (.ireturn, 1) := by decide +kernel
theorem dX7_firstOf_0 : decode cX7_firstOf 0 = .ok (.aload_n 0, 1) := by decide +kernel
theorem dX7_firstOf_1 : decode cX7_firstOf 1 = .ok (.iconst 1, 1) := by decide +kernel
theorem dX7_firstOf_2 : decode cX7_firstOf 2 = .ok (.iload_n 1, 1) := by decide +kernel
theorem dX7_firstOf_3 : decode cX7_firstOf 3 = .ok (.iconst (-1), 1) := by decide +kernel
theorem dX7_firstOf_4 : decode cX7_firstOf 4 = .ok (.iload_n 2, 1) := by decide +kernel
theorem dX7_firstOf_5 : decode cX7_firstOf 5 = .ok (.invokevirtual 142, 3) := by decide +kernel
theorem dX7_firstOf_8 : decode cX7_firstOf 8 = .ok (.istore_n 3, 1) := by decide +kernel
theorem dX7_firstOf_9 : decode cX7_firstOf 9 = .ok (.iload_n 3, 1) := by decide +kernel
theorem dX7_firstOf_10 : decode cX7_firstOf 10 = .ok (.ifCond .ge 7, 3) := by decide +kernel
theorem dX7_firstOf_13 : decode cX7_firstOf 13 = .ok (.iconst (-1), 1) := by decide +kernel
theorem dX7_firstOf_14 : decode cX7_firstOf 14 = .ok (.goto 9, 3) := by decide +kernel
theorem dX7_firstOf_17 : decode cX7_firstOf 17 = .ok (.aload_n 0, 1) := by decide +kernel
theorem dX7_firstOf_18 : decode cX7_firstOf 18 = .ok (.getfield 58, 3) := by decide +kernel
theorem dX7_firstOf_21 : decode cX7_firstOf 21 = .ok (.iload_n 3, 1) := by decide +kernel
theorem dX7_firstOf_22 : decode cX7_firstOf 22 = .ok (.iaload, 1) := by decide +kernel
theorem dX7_firstOf_23 : decode cX7_firstOf 23 = .ok (.ireturn, 1) := by decide +kernel
theorem dX7_termEnd_0 : decode cX7_termEnd 0 = .ok (.aload_n 0, 1) := by decide +kernel
theorem dX7_termEnd_1 : decode cX7_termEnd 1 = .ok (.iload_n 1, 1) := by decide +kernel
theorem dX7_termEnd_2 : decode cX7_termEnd 2 = .ok (.iload_n 2, 1) := by decide +kernel
theorem dX7_termEnd_3 : decode cX7_termEnd 3 = .ok (.invokevirtual 145, 3) := by decide +kernel
theorem dX7_termEnd_6 : decode cX7_termEnd 6 = .ok (.sipush 3650, 3) := by decide +kernel
theorem dX7_termEnd_9 : decode cX7_termEnd 9 = .ok (.iconst 1, 1) := by decide +kernel
theorem dX7_termEnd_10 : decode cX7_termEnd 10 = .ok (.aload_n 0, 1) := by decide +kernel
theorem dX7_termEnd_11 : decode cX7_termEnd 11 = .ok (.iconst 2, 1) := by decide +kernel
theorem dX7_termEnd_12 : decode cX7_termEnd 12 = .ok (.iload_n 1, 1) := by decide +kernel
theorem dX7_termEnd_13 : decode cX7_termEnd 13 = .ok (.iload_n 2, 1) := by decide +kernel
theorem dX7_termEnd_14 : decode cX7_termEnd 14 = .ok (.invokevirtual 148, 3) := by decide +kernel
theorem dX7_termEnd_17 : decode cX7_termEnd 17 = .ok (.iadd, 1) := by decide +kernel
theorem dX7_termEnd_18 : decode cX7_termEnd 18 = .ok (.imul, 1) := by decide +kernel
theorem dX7_termEnd_19 : decode cX7_termEnd 19 = .ok (.iadd, 1) := by decide +kernel
theorem dX7_termEnd_20 : decode cX7_termEnd 20 = .ok (.ireturn, 1) := by decide +kernel
theorem dX7_hasLapsed_0 : decode cX7_hasLapsed 0 = .ok (.iload_n 2, 1) := by decide +kernel
theorem dX7_hasLapsed_1 : decode cX7_hasLapsed 1 = .ok (.aload_n 0, 1) := by decide +kernel
theorem dX7_hasLapsed_2 : decode cX7_hasLapsed 2 = .ok (.iload_n 1, 1) := by decide +kernel
theorem dX7_hasLapsed_3 : decode cX7_hasLapsed 3 = .ok (.iload_n 2, 1) := by decide +kernel
theorem dX7_hasLapsed_4 : decode cX7_hasLapsed 4 = .ok (.invokevirtual 152, 3) := by decide +kernel
theorem dX7_hasLapsed_7 : decode cX7_hasLapsed 7 = .ok (.sipush 180, 3) := by decide +kernel
theorem dX7_hasLapsed_10 : decode cX7_hasLapsed 10 = .ok (.iadd, 1) := by decide +kernel
theorem dX7_hasLapsed_11 : decode cX7_hasLapsed 11 = .ok (.if_icmp .le 7, 3) := by decide +kernel
theorem dX7_hasLapsed_14 : decode cX7_hasLapsed 14 = .ok (.iconst 1, 1) := by decide +kernel
theorem dX7_hasLapsed_15 : decode cX7_hasLapsed 15 = .ok (.goto 4, 3) := by decide +kernel
theorem dX7_hasLapsed_18 : decode cX7_hasLapsed 18 = .ok (.iconst 0, 1) := by decide +kernel
theorem dX7_hasLapsed_19 : decode cX7_hasLapsed 19 = .ok (.ireturn, 1) := by decide +kernel
theorem dX7_isStruck_0 : decode cX7_isStruck 0 = .ok (.aload_n 0, 1) := by decide +kernel
theorem dX7_isStruck_1 : decode cX7_isStruck 1 = .ok (.iconst 4, 1) := by decide +kernel
theorem dX7_isStruck_2 : decode cX7_isStruck 2 = .ok (.iload_n 1, 1) := by decide +kernel
theorem dX7_isStruck_3 : decode cX7_isStruck 3 = .ok (.iconst (-1), 1) := by decide +kernel
theorem dX7_isStruck_4 : decode cX7_isStruck 4 = .ok (.iload_n 2, 1) := by decide +kernel
theorem dX7_isStruck_5 : decode cX7_isStruck 5 = .ok (.invokevirtual 138, 3) := by decide +kernel
theorem dX7_isStruck_8 : decode cX7_isStruck 8 = .ok (.ifCond .lt 7, 3) := by decide +kernel
theorem dX7_isStruck_11 : decode cX7_isStruck 11 = .ok (.iconst 1, 1) := by decide +kernel
theorem dX7_isStruck_12 : decode cX7_isStruck 12 = .ok (.goto 4, 3) := by decide +kernel
theorem dX7_isStruck_15 : decode cX7_isStruck 15 = .ok (.iconst 0, 1) := by decide +kernel
theorem dX7_isStruck_16 : decode cX7_isStruck 16 = .ok (.ireturn, 1) := by decide +kernel
theorem dX7_rightOf_0 : decode cX7_rightOf 0 = .ok (.aload_n 0, 1) := by decide +kernel
theorem dX7_rightOf_1 : decode cX7_rightOf 1 = .ok (.iload_n 1, 1) := by decide +kernel
theorem dX7_rightOf_2 : decode cX7_rightOf 2 = .ok (.iload_n 2, 1) := by decide +kernel
theorem dX7_rightOf_3 : decode cX7_rightOf 3 = .ok (.iload 4, 2) := by decide +kernel
theorem dX7_rightOf_5 : decode cX7_rightOf 5 = .ok (.invokevirtual 155, 3) := by decide +kernel
theorem dX7_rightOf_8 : decode cX7_rightOf 8 = .ok (.istore 5, 2) := by decide +kernel
theorem dX7_rightOf_10 : decode cX7_rightOf 10 = .ok (.aload_n 0, 1) := by decide +kernel
theorem dX7_rightOf_11 : decode cX7_rightOf 11 = .ok (.iconst 1, 1) := by decide +kernel
theorem dX7_rightOf_12 : decode cX7_rightOf 12 = .ok (.iload_n 1, 1) := by decide +kernel
theorem dX7_rightOf_13 : decode cX7_rightOf 13 = .ok (.iload_n 3, 1) := by decide +kernel
theorem dX7_rightOf_14 : decode cX7_rightOf 14 = .ok (.iload 4, 2) := by decide +kernel
theorem dX7_rightOf_16 : decode cX7_rightOf 16 = .ok (.invokevirtual 142, 3) := by decide +kernel
theorem dX7_rightOf_19 : decode cX7_rightOf 19 = .ok (.istore 6, 2) := by decide +kernel
theorem dX7_rightOf_21 : decode cX7_rightOf 21 = .ok (.iload 5, 2) := by decide +kernel
theorem dX7_rightOf_23 : decode cX7_rightOf 23 = .ok (.ifCond .lt 8, 3) := by decide +kernel
theorem dX7_rightOf_26 : decode cX7_rightOf 26 = .ok (.iload 6, 2) := by decide +kernel
theorem dX7_rightOf_28 : decode cX7_rightOf 28 = .ok (.ifCond .ge 5, 3) := by decide +kernel
theorem dX7_rightOf_31 : decode cX7_rightOf 31 = .ok (.iconst (-1), 1) := by decide +kernel
theorem dX7_rightOf_32 : decode cX7_rightOf 32 = .ok (.ireturn, 1) := by decide +kernel
theorem dX7_rightOf_33 : decode cX7_rightOf 33 = .ok (.aload_n 0, 1) := by decide +kernel
theorem dX7_rightOf_34 : decode cX7_rightOf 34 = .ok (.iload_n 1, 1) := by decide +kernel
theorem dX7_rightOf_35 : decode cX7_rightOf 35 = .ok (.iload 4, 2) := by decide +kernel
theorem dX7_rightOf_37 : decode cX7_rightOf 37 = .ok (.invokevirtual 145, 3) := by decide +kernel
theorem dX7_rightOf_40 : decode cX7_rightOf 40 = .ok (.istore 7, 2) := by decide +kernel
theorem dX7_rightOf_42 : decode cX7_rightOf 42 = .ok (.aload_n 0, 1) := by decide +kernel
theorem dX7_rightOf_43 : decode cX7_rightOf 43 = .ok (.getfield 58, 3) := by decide +kernel
theorem dX7_rightOf_46 : decode cX7_rightOf 46 = .ok (.iload 6, 2) := by decide +kernel
theorem dX7_rightOf_48 : decode cX7_rightOf 48 = .ok (.iaload, 1) := by decide +kernel
end
section
theorem dX7_rightOf_49 : decode cX7_rightOf 49 = .ok (.iload 7, 2) := by decide +kernel
theorem dX7_rightOf_51 : decode cX7_rightOf 51 = .ok (.isub, 1) := by decide +kernel
theorem dX7_rightOf_52 : decode cX7_rightOf 52 = .ok (.sipush 182, 3) := by decide +kernel
theorem dX7_rightOf_55 : decode cX7_rightOf 55 = .ok (.if_icmp .gt 15, 3) := by decide +kernel
theorem dX7_rightOf_58 : decode cX7_rightOf 58 = .ok (.iload 5, 2) := by decide +kernel
theorem dX7_rightOf_60 : decode cX7_rightOf 60 = .ok (.iload 7, 2) := by decide +kernel
theorem dX7_rightOf_62 : decode cX7_rightOf 62 = .ok (.if_icmp .gt 8, 3) := by decide +kernel
theorem dX7_rightOf_65 : decode cX7_rightOf 65 = .ok (.iload 7, 2) := by decide +kernel
theorem dX7_rightOf_67 : decode cX7_rightOf 67 = .ok (.goto 10, 3) := by decide +kernel
theorem dX7_rightOf_70 : decode cX7_rightOf 70 = .ok (.aload_n 0, 1) := by decide +kernel
theorem dX7_rightOf_71 : decode cX7_rightOf 71 = .ok (.getfield 58, 3) := by decide +kernel
theorem dX7_rightOf_74 : decode cX7_rightOf 74 = .ok (.iload 6, 2) := by decide +kernel
theorem dX7_rightOf_76 : decode cX7_rightOf 76 = .ok (.iaload, 1) := by decide +kernel
theorem dX7_rightOf_77 : decode cX7_rightOf 77 = .ok (.istore 8, 2) := by decide +kernel
theorem dX7_rightOf_79 : decode cX7_rightOf 79 = .ok (.iload 8, 2) := by decide +kernel
theorem dX7_rightOf_81 : decode cX7_rightOf 81 = .ok (.iload 5, 2) := by decide +kernel
theorem dX7_rightOf_83 : decode cX7_rightOf 83 = .ok (.if_icmp .ge 8, 3) := by decide +kernel
theorem dX7_rightOf_86 : decode cX7_rightOf 86 = .ok (.iload 5, 2) := by decide +kernel
theorem dX7_rightOf_88 : decode cX7_rightOf 88 = .ok (.goto 5, 3) := by decide +kernel
theorem dX7_rightOf_91 : decode cX7_rightOf 91 = .ok (.iload 8, 2) := by decide +kernel
theorem dX7_rightOf_93 : decode cX7_rightOf 93 = .ok (.ireturn, 1) := by decide +kernel
theorem dX7_stands_0 : decode cX7_stands 0 = .ok (.aload_n 0, 1) := by decide +kernel
theorem dX7_stands_1 : decode cX7_stands 1 = .ok (.iload_n 1, 1) := by decide +kernel
theorem dX7_stands_2 : decode cX7_stands 2 = .ok (.iload_n 2, 1) := by decide +kernel
theorem dX7_stands_3 : decode cX7_stands 3 = .ok (.iload_n 3, 1) := by decide +kernel
theorem dX7_stands_4 : decode cX7_stands 4 = .ok (.iload 4, 2) := by decide +kernel
theorem dX7_stands_6 : decode cX7_stands 6 = .ok (.invokevirtual 158, 3) := by decide +kernel
theorem dX7_stands_9 : decode cX7_stands 9 = .ok (.istore 5, 2) := by decide +kernel
theorem dX7_stands_11 : decode cX7_stands 11 = .ok (.iload 5, 2) := by decide +kernel
theorem dX7_stands_13 : decode cX7_stands 13 = .ok (.ifCond .lt 30, 3) := by decide +kernel
theorem dX7_stands_16 : decode cX7_stands 16 = .ok (.iload 5, 2) := by decide +kernel
theorem dX7_stands_18 : decode cX7_stands 18 = .ok (.iload 4, 2) := by decide +kernel
theorem dX7_stands_20 : decode cX7_stands 20 = .ok (.if_icmp .gt 23, 3) := by decide +kernel
theorem dX7_stands_23 : decode cX7_stands 23 = .ok (.aload_n 0, 1) := by decide +kernel
theorem dX7_stands_24 : decode cX7_stands 24 = .ok (.iload_n 1, 1) := by decide +kernel
theorem dX7_stands_25 : decode cX7_stands 25 = .ok (.iload 4, 2) := by decide +kernel
theorem dX7_stands_27 : decode cX7_stands 27 = .ok (.invokevirtual 161, 3) := by decide +kernel
theorem dX7_stands_30 : decode cX7_stands 30 = .ok (.ifCond .ne 13, 3) := by decide +kernel
theorem dX7_stands_33 : decode cX7_stands 33 = .ok (.aload_n 0, 1) := by decide +kernel
theorem dX7_stands_34 : decode cX7_stands 34 = .ok (.iload_n 1, 1) := by decide +kernel
theorem dX7_stands_35 : decode cX7_stands 35 = .ok (.iload 4, 2) := by decide +kernel
theorem dX7_stands_37 : decode cX7_stands 37 = .ok (.invokevirtual 164, 3) := by decide +kernel
theorem dX7_stands_40 : decode cX7_stands 40 = .ok (.ifCond .eq 5, 3) := by decide +kernel
theorem dX7_stands_43 : decode cX7_stands 43 = .ok (.iconst 0, 1) := by decide +kernel
theorem dX7_stands_44 : decode cX7_stands 44 = .ok (.ireturn, 1) := by decide +kernel
theorem dX7_stands_45 : decode cX7_stands 45 = .ok (.aload_n 0, 1) := by decide +kernel
theorem dX7_stands_46 : decode cX7_stands 46 = .ok (.bipush 6, 2) := by decide +kernel
theorem dX7_stands_48 : decode cX7_stands 48 = .ok (.iload_n 1, 1) := by decide +kernel
theorem dX7_stands_49 : decode cX7_stands 49 = .ok (.iload_n 2, 1) := by decide +kernel
theorem dX7_stands_50 : decode cX7_stands 50 = .ok (.iload 4, 2) := by decide +kernel
theorem dX7_stands_52 : decode cX7_stands 52 = .ok (.invokevirtual 138, 3) := by decide +kernel
theorem dX7_stands_55 : decode cX7_stands 55 = .ok (.istore 6, 2) := by decide +kernel
theorem dX7_stands_57 : decode cX7_stands 57 = .ok (.iload 6, 2) := by decide +kernel
theorem dX7_stands_59 : decode cX7_stands 59 = .ok (.ifCond .lt 25, 3) := by decide +kernel
theorem dX7_stands_62 : decode cX7_stands 62 = .ok (.aload_n 0, 1) := by decide +kernel
theorem dX7_stands_63 : decode cX7_stands 63 = .ok (.getfield 58, 3) := by decide +kernel
theorem dX7_stands_66 : decode cX7_stands 66 = .ok (.iload 6, 2) := by decide +kernel
theorem dX7_stands_68 : decode cX7_stands 68 = .ok (.iaload, 1) := by decide +kernel
theorem dX7_stands_69 : decode cX7_stands 69 = .ok (.iload 5, 2) := by decide +kernel
theorem dX7_stands_71 : decode cX7_stands 71 = .ok (.if_icmp .le 13, 3) := by decide +kernel
theorem dX7_stands_74 : decode cX7_stands 74 = .ok (.aload_n 0, 1) := by decide +kernel
theorem dX7_stands_75 : decode cX7_stands 75 = .ok (.getfield 58, 3) := by decide +kernel
theorem dX7_stands_78 : decode cX7_stands 78 = .ok (.iload 6, 2) := by decide +kernel
theorem dX7_stands_80 : decode cX7_stands 80 = .ok (.iaload, 1) := by decide +kernel
theorem dX7_stands_81 : decode cX7_stands 81 = .ok (.goto 5, 3) := by decide +kernel
theorem dX7_stands_84 : decode cX7_stands 84 = .ok (.iload 5, 2) := by decide +kernel
theorem dX7_stands_86 : decode cX7_stands 86 = .ok (.istore 7, 2) := by decide +kernel
theorem dX7_stands_88 : decode cX7_stands 88 = .ok (.iload 4, 2) := by decide +kernel
theorem dX7_stands_90 : decode cX7_stands 90 = .ok (.iload 7, 2) := by decide +kernel
theorem dX7_stands_92 : decode cX7_stands 92 = .ok (.isub, 1) := by decide +kernel
theorem dX7_stands_93 : decode cX7_stands 93 = .ok (.sipush 1825, 3) := by decide +kernel
theorem dX7_stands_96 : decode cX7_stands 96 = .ok (.if_icmp .gt 7, 3) := by decide +kernel
theorem dX7_stands_99 : decode cX7_stands 99 = .ok (.iconst 1, 1) := by decide +kernel
theorem dX7_stands_100 : decode cX7_stands 100 = .ok (.goto 4, 3) := by decide +kernel
theorem dX7_stands_103 : decode cX7_stands 103 = .ok (.iconst 0, 1) := by decide +kernel
theorem dX7_stands_104 : decode cX7_stands 104 = .ok (.ireturn, 1) := by decide +kernel
theorem dX7_goodsInto_0 : decode cX7_goodsInto 0 = .ok (.iconst 0, 1) := by decide +kernel
theorem dX7_goodsInto_1 : decode cX7_goodsInto 1 = .ok (.istore 4, 2) := by decide +kernel
theorem dX7_goodsInto_3 : decode cX7_goodsInto 3 = .ok (.iconst 0, 1) := by decide +kernel
theorem dX7_goodsInto_4 : decode cX7_goodsInto 4 = .ok (.istore 5, 2) := by decide +kernel
theorem dX7_goodsInto_6 : decode cX7_goodsInto 6 = .ok (.iload 5, 2) := by decide +kernel
theorem dX7_goodsInto_8 : decode cX7_goodsInto 8 = .ok (.aload_n 0, 1) := by decide +kernel
theorem dX7_goodsInto_9 : decode cX7_goodsInto 9 = .ok (.getfield 105, 3) := by decide +kernel
theorem dX7_goodsInto_12 : decode cX7_goodsInto 12 = .ok (.if_icmp .ge 157, 3) := by decide +kernel
theorem dX7_goodsInto_15 : decode cX7_goodsInto 15 = .ok (.aload_n 0, 1) := by decide +kernel
theorem dX7_goodsInto_16 : decode cX7_goodsInto 16 = .ok (.getfield 49, 3) := by decide +kernel
theorem dX7_goodsInto_19 : decode cX7_goodsInto 19 = .ok (.iload 5, 2) := by decide +kernel
theorem dX7_goodsInto_21 : decode cX7_goodsInto 21 = .ok (.iaload, 1) := by decide +kernel
theorem dX7_goodsInto_22 : decode cX7_goodsInto 22 = .ok (.ifCond .ne 141, 3) := by decide +kernel
theorem dX7_goodsInto_25 : decode cX7_goodsInto 25 = .ok (.aload_n 0, 1) := by decide +kernel
theorem dX7_goodsInto_26 : decode cX7_goodsInto 26 = .ok (.getfield 52, 3) := by decide +kernel
theorem dX7_goodsInto_29 : decode cX7_goodsInto 29 = .ok (.iload 5, 2) := by decide +kernel
theorem dX7_goodsInto_31 : decode cX7_goodsInto 31 = .ok (.iaload, 1) := by decide +kernel
theorem dX7_goodsInto_32 : decode cX7_goodsInto 32 = .ok (.iload_n 1, 1) := by decide +kernel
theorem dX7_goodsInto_33 : decode cX7_goodsInto 33 = .ok (.if_icmp .ne 130, 3) := by decide +kernel
theorem dX7_goodsInto_36 : decode cX7_goodsInto 36 = .ok (.aload_n 0, 1) := by decide +kernel
theorem dX7_goodsInto_37 : decode cX7_goodsInto 37 = .ok (.getfield 58, 3) := by decide +kernel
theorem dX7_goodsInto_40 : decode cX7_goodsInto 40 = .ok (.iload 5, 2) := by decide +kernel
theorem dX7_goodsInto_42 : decode cX7_goodsInto 42 = .ok (.iaload, 1) := by decide +kernel
theorem dX7_goodsInto_43 : decode cX7_goodsInto 43 = .ok (.iload_n 2, 1) := by decide +kernel
theorem dX7_goodsInto_44 : decode cX7_goodsInto 44 = .ok (.if_icmp .le 6, 3) := by decide +kernel
theorem dX7_goodsInto_47 : decode cX7_goodsInto 47 = .ok (.goto 116, 3) := by decide +kernel
theorem dX7_goodsInto_50 : decode cX7_goodsInto 50 = .ok (.aload_n 0, 1) := by decide +kernel
theorem dX7_goodsInto_51 : decode cX7_goodsInto 51 = .ok (.getfield 55, 3) := by decide +kernel
theorem dX7_goodsInto_54 : decode cX7_goodsInto 54 = .ok (.iload 5, 2) := by decide +kernel
theorem dX7_goodsInto_56 : decode cX7_goodsInto 56 = .ok (.iaload, 1) := by decide +kernel
theorem dX7_goodsInto_57 : decode cX7_goodsInto 57 = .ok (.istore 6, 2) := by decide +kernel
theorem dX7_goodsInto_59 : decode cX7_goodsInto 59 = .ok (.iconst 0, 1) := by decide +kernel
theorem dX7_goodsInto_60 : decode cX7_goodsInto 60 = .ok (.istore 7, 2) := by decide +kernel
theorem dX7_goodsInto_62 : decode cX7_goodsInto 62 = .ok (.iconst 0, 1) := by decide +kernel
theorem dX7_goodsInto_63 : decode cX7_goodsInto 63 = .ok (.istore 8, 2) := by decide +kernel
theorem dX7_goodsInto_65 : decode cX7_goodsInto 65 = .ok (.iload 8, 2) := by decide +kernel
theorem dX7_goodsInto_67 : decode cX7_goodsInto 67 = .ok (.iload 4, 2) := by decide +kernel
theorem dX7_goodsInto_69 : decode cX7_goodsInto 69 = .ok (.if_icmp .ge 30, 3) := by decide +kernel
theorem dX7_goodsInto_72 : decode cX7_goodsInto 72 = .ok (.iload 7, 2) := by decide +kernel
theorem dX7_goodsInto_74 : decode cX7_goodsInto 74 = .ok (.ifCond .ne 12, 3) := by decide +kernel
theorem dX7_goodsInto_77 : decode cX7_goodsInto 77 = .ok (.aload_n 3, 1) := by decide +kernel
theorem dX7_goodsInto_78 : decode cX7_goodsInto 78 = .ok (.iload 8, 2) := by decide +kernel
theorem dX7_goodsInto_80 : decode cX7_goodsInto 80 = .ok (.iaload, 1) := by decide +kernel
theorem dX7_goodsInto_81 : decode cX7_goodsInto 81 = .ok (.iload 6, 2) := by decide +kernel
theorem dX7_goodsInto_83 : decode cX7_goodsInto 83 = .ok (.if_icmp .ne 7, 3) := by decide +kernel
theorem dX7_goodsInto_86 : decode cX7_goodsInto 86 = .ok (.iconst 1, 1) := by decide +kernel
theorem dX7_goodsInto_87 : decode cX7_goodsInto 87 = .ok (.goto 4, 3) := by decide +kernel
theorem dX7_goodsInto_90 : decode cX7_goodsInto 90 = .ok (.iconst 0, 1) := by decide +kernel
theorem dX7_goodsInto_91 : decode cX7_goodsInto 91 = .ok (.istore 7, 2) := by decide +kernel
theorem dX7_goodsInto_93 : decode cX7_goodsInto 93 = .ok (.iinc 8 1, 3) := by decide +kernel
theorem dX7_goodsInto_96 : decode cX7_goodsInto 96 = .ok (.goto (-31), 3) := by decide +kernel
theorem dX7_goodsInto_99 : decode cX7_goodsInto 99 = .ok (.iload 7, 2) := by decide +kernel
theorem dX7_goodsInto_101 : decode cX7_goodsInto 101 = .ok (.ifCond .ne 62, 3) := by decide +kernel
theorem dX7_goodsInto_104 : decode cX7_goodsInto 104 = .ok (.aload_n 0, 1) := by decide +kernel
theorem dX7_goodsInto_105 : decode cX7_goodsInto 105 = .ok (.iload_n 1, 1) := by decide +kernel
theorem dX7_goodsInto_106 : decode cX7_goodsInto 106 = .ok (.iload 6, 2) := by decide +kernel
theorem dX7_goodsInto_108 : decode cX7_goodsInto 108 = .ok (.iload_n 2, 1) := by decide +kernel
theorem dX7_goodsInto_109 : decode cX7_goodsInto 109 = .ok (.invokevirtual 155, 3) := by decide +kernel
theorem dX7_goodsInto_112 : decode cX7_goodsInto 112 = .ok (.ifCond .ge 6, 3) := by decide +kernel
theorem dX7_goodsInto_115 : decode cX7_goodsInto 115 = .ok (.goto 48, 3) := by decide +kernel
theorem dX7_goodsInto_118 : decode cX7_goodsInto 118 = .ok (.iload 4, 2) := by decide +kernel
theorem dX7_goodsInto_120 : decode cX7_goodsInto 120 = .ok (.istore 8, 2) := by decide +kernel
theorem dX7_goodsInto_122 : decode cX7_goodsInto 122 = .ok (.iload 8, 2) := by decide +kernel
theorem dX7_goodsInto_124 : decode cX7_goodsInto 124 = .ok (.ifCond .le 30, 3) := by decide +kernel
theorem dX7_goodsInto_127 : decode cX7_goodsInto 127 = .ok (.aload_n 3, 1) := by decide +kernel
theorem dX7_goodsInto_128 : decode cX7_goodsInto 128 = .ok (.iload 8, 2) := by decide +kernel
theorem dX7_goodsInto_130 : decode cX7_goodsInto 130 = .ok (.iconst 1, 1) := by decide +kernel
theorem dX7_goodsInto_131 : decode cX7_goodsInto 131 = .ok (.isub, 1) := by decide +kernel
theorem dX7_goodsInto_132 : decode cX7_goodsInto 132 = .ok (.iaload, 1) := by decide +kernel
theorem dX7_goodsInto_133 : decode cX7_goodsInto 133 = .ok (.iload 6, 2) := by decide +kernel
theorem dX7_goodsInto_135 : decode cX7_goodsInto 135 = .ok (.if_icmp .le 19, 3) := by decide +kernel
theorem dX7_goodsInto_138 : decode cX7_goodsInto 138 = .ok (.aload_n 3, 1) := by decide +kernel
theorem dX7_goodsInto_139 : decode cX7_goodsInto 139 = .ok (.iload 8, 2) := by decide +kernel
theorem dX7_goodsInto_141 : decode cX7_goodsInto 141 = .ok (.aload_n 3, 1) := by decide +kernel
theorem dX7_goodsInto_142 : decode cX7_goodsInto 142 = .ok (.iload 8, 2) := by decide +kernel
theorem dX7_goodsInto_144 : decode cX7_goodsInto 144 = .ok (.iconst 1, 1) := by decide +kernel
theorem dX7_goodsInto_145 : decode cX7_goodsInto 145 = .ok (.isub, 1) := by decide +kernel
theorem dX7_goodsInto_146 : decode cX7_goodsInto 146 = .ok (.iaload, 1) := by decide +kernel
theorem dX7_goodsInto_147 : decode cX7_goodsInto 147 = .ok (.iastore, 1) := by decide +kernel
theorem dX7_goodsInto_148 : decode cX7_goodsInto 148 = .ok (.iinc 8 (-1), 3) := by decide +kernel
theorem dX7_goodsInto_151 : decode cX7_goodsInto 151 = .ok (.goto (-29), 3) := by decide +kernel
theorem dX7_goodsInto_154 : decode cX7_goodsInto 154 = .ok (.aload_n 3, 1) := by decide +kernel
theorem dX7_goodsInto_155 : decode cX7_goodsInto 155 = .ok (.iload 8, 2) := by decide +kernel
theorem dX7_goodsInto_157 : decode cX7_goodsInto 157 = .ok (.iload 6, 2) := by decide +kernel
theorem dX7_goodsInto_159 : decode cX7_goodsInto 159 = .ok (.iastore, 1) := by decide +kernel
theorem dX7_goodsInto_160 : decode cX7_goodsInto 160 = .ok (.iinc 4 1, 3) := by decide +kernel
theorem dX7_goodsInto_163 : decode cX7_goodsInto 163 = .ok (.iinc 5 1, 3) := by decide +kernel
theorem dX7_goodsInto_166 : decode cX7_goodsInto 166 = .ok (.goto (-160), 3) := by decide +kernel
theorem dX7_goodsInto_169 : decode cX7_goodsInto 169 = .ok (.iload 4, 2) := by decide +kernel
theorem dX7_goodsInto_171 : decode cX7_goodsInto 171 = .ok (.ireturn, 1) := by decide +kernel
theorem dX7_isNear_0 : decode cX7_isNear 0 = .ok (.aload_n 0, 1) := by decide +kernel
theorem dX7_isNear_1 : decode cX7_isNear 1 = .ok (.iload_n 2, 1) := by decide +kernel
theorem dX7_isNear_2 : decode cX7_isNear 2 = .ok (.iload_n 3, 1) := by decide +kernel
theorem dX7_isNear_3 : decode cX7_isNear 3 = .ok (.invokevirtual 167, 3) := by decide +kernel
theorem dX7_isNear_6 : decode cX7_isNear 6 = .ok (.aload_n 0, 1) := by decide +kernel
theorem dX7_isNear_7 : decode cX7_isNear 7 = .ok (.getfield 80, 3) := by decide +kernel
theorem dX7_isNear_10 : decode cX7_isNear 10 = .ok (.if_icmp .ge 16, 3) := by decide +kernel
theorem dX7_isNear_13 : decode cX7_isNear 13 = .ok (.aload_n 0, 1) := by decide +kernel
theorem dX7_isNear_14 : decode cX7_isNear 14 = .ok (.bipush 7, 2) := by decide +kernel
theorem dX7_isNear_16 : decode cX7_isNear 16 = .ok (.iload_n 1, 1) := by decide +kernel
theorem dX7_isNear_17 : decode cX7_isNear 17 = .ok (.iconst (-1), 1) := by decide +kernel
theorem dX7_isNear_18 : decode cX7_isNear 18 = .ok (.iload 4, 2) := by decide +kernel
theorem dX7_isNear_20 : decode cX7_isNear 20 = .ok (.invokevirtual 138, 3) := by decide +kernel
theorem dX7_isNear_23 : decode cX7_isNear 23 = .ok (.ifCond .lt 7, 3) := by decide +kernel
theorem dX7_isNear_26 : decode cX7_isNear 26 = .ok (.iconst 1, 1) := by decide +kernel
theorem dX7_isNear_27 : decode cX7_isNear 27 = .ok (.goto 4, 3) := by decide +kernel
theorem dX7_isNear_30 : decode cX7_isNear 30 = .ok (.iconst 0, 1) := by decide +kernel
theorem dX7_isNear_31 : decode cX7_isNear 31 = .ok (.ireturn, 1) := by decide +kernel
theorem dX7_hasLeave_0 : decode cX7_hasLeave 0 = .ok (.aload_n 0, 1) := by decide +kernel
theorem dX7_hasLeave_1 : decode cX7_hasLeave 1 = .ok (.iconst 5, 1) := by decide +kernel
theorem dX7_hasLeave_2 : decode cX7_hasLeave 2 = .ok (.iload_n 1, 1) := by decide +kernel
theorem dX7_hasLeave_3 : decode cX7_hasLeave 3 = .ok (.iload_n 2, 1) := by decide +kernel
theorem dX7_hasLeave_4 : decode cX7_hasLeave 4 = .ok (.iload_n 3, 1) := by decide +kernel
theorem dX7_hasLeave_5 : decode cX7_hasLeave 5 = .ok (.invokevirtual 138, 3) := by decide +kernel
theorem dX7_hasLeave_8 : decode cX7_hasLeave 8 = .ok (.ifCond .lt 7, 3) := by decide +kernel
theorem dX7_hasLeave_11 : decode cX7_hasLeave 11 = .ok (.iconst 1, 1) := by decide +kernel
theorem dX7_hasLeave_12 : decode cX7_hasLeave 12 = .ok (.goto 4, 3) := by decide +kernel
theorem dX7_hasLeave_15 : decode cX7_hasLeave 15 = .ok (.iconst 0, 1) := by decide +kernel
theorem dX7_hasLeave_16 : decode cX7_hasLeave 16 = .ok (.ireturn, 1) := by decide +kernel
theorem dX7_mayClash_0 : decode cX7_mayClash 0 = .ok (.aload_n 0, 1) := by decide +kernel
theorem dX7_mayClash_1 : decode cX7_mayClash 1 = .ok (.getfield 34, 3) := by decide +kernel
theorem dX7_mayClash_4 : decode cX7_mayClash 4 = .ok (.iload_n 1, 1) := by decide +kernel
theorem dX7_mayClash_5 : decode cX7_mayClash 5 = .ok (.iaload, 1) := by decide +kernel
theorem dX7_mayClash_6 : decode cX7_mayClash 6 = .ok (.aload_n 0, 1) := by decide +kernel
theorem dX7_mayClash_7 : decode cX7_mayClash 7 = .ok (.getfield 34, 3) := by decide +kernel
theorem dX7_mayClash_10 : decode cX7_mayClash 10 = .ok (.iload_n 2, 1) := by decide +kernel
theorem dX7_mayClash_11 : decode cX7_mayClash 11 = .ok (.iaload, 1) := by decide +kernel
theorem dX7_mayClash_12 : decode cX7_mayClash 12 = .ok (.if_icmp .eq 31, 3) := by decide +kernel
theorem dX7_mayClash_15 : decode cX7_mayClash 15 = .ok (.aload_n 0, 1) := by decide +kernel
theorem dX7_mayClash_16 : decode cX7_mayClash 16 = .ok (.iload_n 1, 1) := by decide +kernel
theorem dX7_mayClash_17 : decode cX7_mayClash 17 = .ok (.aload_n 0, 1) := by decide +kernel
theorem dX7_mayClash_18 : decode cX7_mayClash 18 = .ok (.getfield 34, 3) := by decide +kernel
theorem dX7_mayClash_21 : decode cX7_mayClash 21 = .ok (.iload_n 2, 1) := by decide +kernel
theorem dX7_mayClash_22 : decode cX7_mayClash 22 = .ok (.iaload, 1) := by decide +kernel
theorem dX7_mayClash_23 : decode cX7_mayClash 23 = .ok (.iload_n 3, 1) := by decide +kernel
theorem dX7_mayClash_24 : decode cX7_mayClash 24 = .ok (.invokevirtual 170, 3) := by decide +kernel
theorem dX7_mayClash_27 : decode cX7_mayClash 27 = .ok (.ifCond .ne 16, 3) := by decide +kernel
theorem dX7_mayClash_30 : decode cX7_mayClash 30 = .ok (.aload_n 0, 1) := by decide +kernel
theorem dX7_mayClash_31 : decode cX7_mayClash 31 = .ok (.iload_n 1, 1) := by decide +kernel
theorem dX7_mayClash_32 : decode cX7_mayClash 32 = .ok (.iload_n 2, 1) := by decide +kernel
theorem dX7_mayClash_33 : decode cX7_mayClash 33 = .ok (.invokevirtual 173, 3) := by decide +kernel
theorem dX7_mayClash_36 : decode cX7_mayClash 36 = .ok (.ifCond .eq 7, 3) := by decide +kernel
theorem dX7_mayClash_39 : decode cX7_mayClash 39 = .ok (.iconst 1, 1) := by decide +kernel
theorem dX7_mayClash_40 : decode cX7_mayClash 40 = .ok (.goto 4, 3) := by decide +kernel
theorem dX7_mayClash_43 : decode cX7_mayClash 43 = .ok (.iconst 0, 1) := by decide +kernel
theorem dX7_mayClash_44 : decode cX7_mayClash 44 = .ok (.ireturn, 1) := by decide +kernel
theorem dX7_clashes_0 : decode cX7_clashes 0 = .ok (.aload_n 0, 1) := by decide +kernel
theorem dX7_clashes_1 : decode cX7_clashes 1 = .ok (.iload_n 1, 1) := by decide +kernel
theorem dX7_clashes_2 : decode cX7_clashes 2 = .ok (.iload 5, 2) := by decide +kernel
theorem dX7_clashes_4 : decode cX7_clashes 4 = .ok (.iload 6, 2) := by decide +kernel
theorem dX7_clashes_6 : decode cX7_clashes 6 = .ok (.iload 4, 2) := by decide +kernel
theorem dX7_clashes_8 : decode cX7_clashes 8 = .ok (.invokevirtual 176, 3) := by decide +kernel
theorem dX7_clashes_11 : decode cX7_clashes 11 = .ok (.ifCond .eq 29, 3) := by decide +kernel
theorem dX7_clashes_14 : decode cX7_clashes 14 = .ok (.aload_n 0, 1) := by decide +kernel
theorem dX7_clashes_15 : decode cX7_clashes 15 = .ok (.iload_n 1, 1) := by decide +kernel
theorem dX7_clashes_16 : decode cX7_clashes 16 = .ok (.iload 5, 2) := by decide +kernel
theorem dX7_clashes_18 : decode cX7_clashes 18 = .ok (.iload_n 3, 1) := by decide +kernel
theorem dX7_clashes_19 : decode cX7_clashes 19 = .ok (.iload 4, 2) := by decide +kernel
theorem dX7_clashes_21 : decode cX7_clashes 21 = .ok (.invokevirtual 180, 3) := by decide +kernel
theorem dX7_clashes_24 : decode cX7_clashes 24 = .ok (.ifCond .eq 16, 3) := by decide +kernel
theorem dX7_clashes_27 : decode cX7_clashes 27 = .ok (.aload_n 0, 1) := by decide +kernel
theorem dX7_clashes_28 : decode cX7_clashes 28 = .ok (.iload_n 2, 1) := by decide +kernel
theorem dX7_clashes_29 : decode cX7_clashes 29 = .ok (.iload 6, 2) := by decide +kernel
theorem dX7_clashes_31 : decode cX7_clashes 31 = .ok (.iload_n 3, 1) := by decide +kernel
theorem dX7_clashes_32 : decode cX7_clashes 32 = .ok (.iload 4, 2) := by decide +kernel
theorem dX7_clashes_34 : decode cX7_clashes 34 = .ok (.invokevirtual 180, 3) := by decide +kernel
theorem dX7_clashes_37 : decode cX7_clashes 37 = .ok (.ifCond .ne 5, 3) := by decide +kernel
theorem dX7_clashes_40 : decode cX7_clashes 40 = .ok (.iconst 0, 1) := by decide +kernel
theorem dX7_clashes_41 : decode cX7_clashes 41 = .ok (.ireturn, 1) := by decide +kernel
theorem dX7_clashes_42 : decode cX7_clashes 42 = .ok (.aload_n 0, 1) := by decide +kernel
theorem dX7_clashes_43 : decode cX7_clashes 43 = .ok (.iload_n 1, 1) := by decide +kernel
theorem dX7_clashes_44 : decode cX7_clashes 44 = .ok (.iload 5, 2) := by decide +kernel
theorem dX7_clashes_46 : decode cX7_clashes 46 = .ok (.iload_n 3, 1) := by decide +kernel
theorem dX7_clashes_47 : decode cX7_clashes 47 = .ok (.iload 4, 2) := by decide +kernel
theorem dX7_clashes_49 : decode cX7_clashes 49 = .ok (.invokevirtual 158, 3) := by decide +kernel
theorem dX7_clashes_52 : decode cX7_clashes 52 = .ok (.istore 7, 2) := by decide +kernel
theorem dX7_clashes_54 : decode cX7_clashes 54 = .ok (.aload_n 0, 1) := by decide +kernel
theorem dX7_clashes_55 : decode cX7_clashes 55 = .ok (.iload_n 2, 1) := by decide +kernel
theorem dX7_clashes_56 : decode cX7_clashes 56 = .ok (.iload 6, 2) := by decide +kernel
theorem dX7_clashes_58 : decode cX7_clashes 58 = .ok (.iload_n 3, 1) := by decide +kernel
theorem dX7_clashes_59 : decode cX7_clashes 59 = .ok (.iload 4, 2) := by decide +kernel
theorem dX7_clashes_61 : decode cX7_clashes 61 = .ok (.invokevirtual 158, 3) := by decide +kernel
theorem dX7_clashes_64 : decode cX7_clashes 64 = .ok (.istore 8, 2) := by decide +kernel
theorem dX7_clashes_66 : decode cX7_clashes 66 = .ok (.iload 7, 2) := by decide +kernel
theorem dX7_clashes_68 : decode cX7_clashes 68 = .ok (.iload 8, 2) := by decide +kernel
theorem dX7_clashes_70 : decode cX7_clashes 70 = .ok (.if_icmp .lt 15, 3) := by decide +kernel
theorem dX7_clashes_73 : decode cX7_clashes 73 = .ok (.iload 7, 2) := by decide +kernel
theorem dX7_clashes_75 : decode cX7_clashes 75 = .ok (.iload 8, 2) := by decide +kernel
theorem dX7_clashes_77 : decode cX7_clashes 77 = .ok (.if_icmp .ne 25, 3) := by decide +kernel
theorem dX7_clashes_80 : decode cX7_clashes 80 = .ok (.iload_n 1, 1) := by decide +kernel
theorem dX7_clashes_81 : decode cX7_clashes 81 = .ok (.iload_n 2, 1) := by decide +kernel
theorem dX7_clashes_82 : decode cX7_clashes 82 = .ok (.if_icmp .ge 20, 3) := by decide +kernel
theorem dX7_clashes_85 : decode cX7_clashes 85 = .ok (.aload_n 0, 1) := by decide +kernel
theorem dX7_clashes_86 : decode cX7_clashes 86 = .ok (.iload_n 1, 1) := by decide +kernel
theorem dX7_clashes_87 : decode cX7_clashes 87 = .ok (.iload 5, 2) := by decide +kernel
theorem dX7_clashes_89 : decode cX7_clashes 89 = .ok (.iload_n 3, 1) := by decide +kernel
theorem dX7_clashes_90 : decode cX7_clashes 90 = .ok (.iload 8, 2) := by decide +kernel
theorem dX7_clashes_92 : decode cX7_clashes 92 = .ok (.invokevirtual 180, 3) := by decide +kernel
theorem dX7_clashes_95 : decode cX7_clashes 95 = .ok (.ifCond .eq 7, 3) := by decide +kernel
theorem dX7_clashes_98 : decode cX7_clashes 98 = .ok (.iconst 1, 1) := by decide +kernel
theorem dX7_clashes_99 : decode cX7_clashes 99 = .ok (.goto 4, 3) := by decide +kernel
theorem dX7_clashes_102 : decode cX7_clashes 102 = .ok (.iconst 0, 1) := by decide +kernel
theorem dX7_clashes_103 : decode cX7_clashes 103 = .ok (.ireturn, 1) := by decide +kernel
theorem dX7_clashOf_0 : decode cX7_clashOf 0 = .ok (.aload_n 0, 1) := by decide +kernel
theorem dX7_clashOf_1 : decode cX7_clashOf 1 = .ok (.iload_n 1, 1) := by decide +kernel
theorem dX7_clashOf_2 : decode cX7_clashOf 2 = .ok (.iload_n 2, 1) := by decide +kernel
theorem dX7_clashOf_3 : decode cX7_clashOf 3 = .ok (.iload 4, 2) := by decide +kernel
theorem dX7_clashOf_5 : decode cX7_clashOf 5 = .ok (.invokevirtual 183, 3) := by decide +kernel
theorem dX7_clashOf_8 : decode cX7_clashOf 8 = .ok (.ifCond .ne 5, 3) := by decide +kernel
theorem dX7_clashOf_11 : decode cX7_clashOf 11 = .ok (.iconst (-1), 1) := by decide +kernel
theorem dX7_clashOf_12 : decode cX7_clashOf 12 = .ok (.ireturn, 1) := by decide +kernel
theorem dX7_clashOf_13 : decode cX7_clashOf 13 = .ok (.aload_n 0, 1) := by decide +kernel
theorem dX7_clashOf_14 : decode cX7_clashOf 14 = .ok (.iload_n 1, 1) := by decide +kernel
theorem dX7_clashOf_15 : decode cX7_clashOf 15 = .ok (.iload 4, 2) := by decide +kernel
theorem dX7_clashOf_17 : decode cX7_clashOf 17 = .ok (.aload_n 0, 1) := by decide +kernel
theorem dX7_clashOf_18 : decode cX7_clashOf 18 = .ok (.getfield 70, 3) := by decide +kernel
theorem dX7_clashOf_21 : decode cX7_clashOf 21 = .ok (.invokevirtual 186, 3) := by decide +kernel
theorem dX7_clashOf_24 : decode cX7_clashOf 24 = .ok (.istore 5, 2) := by decide +kernel
theorem dX7_clashOf_26 : decode cX7_clashOf 26 = .ok (.aload_n 0, 1) := by decide +kernel
theorem dX7_clashOf_27 : decode cX7_clashOf 27 = .ok (.iload_n 2, 1) := by decide +kernel
theorem dX7_clashOf_28 : decode cX7_clashOf 28 = .ok (.iload 4, 2) := by decide +kernel
theorem dX7_clashOf_30 : decode cX7_clashOf 30 = .ok (.aload_n 0, 1) := by decide +kernel
theorem dX7_clashOf_31 : decode cX7_clashOf 31 = .ok (.getfield 73, 3) := by decide +kernel
theorem dX7_clashOf_34 : decode cX7_clashOf 34 = .ok (.invokevirtual 186, 3) := by decide +kernel
theorem dX7_clashOf_37 : decode cX7_clashOf 37 = .ok (.istore 6, 2) := by decide +kernel
theorem dX7_clashOf_39 : decode cX7_clashOf 39 = .ok (.iconst 0, 1) := by decide +kernel
theorem dX7_clashOf_40 : decode cX7_clashOf 40 = .ok (.istore 7, 2) := by decide +kernel
theorem dX7_clashOf_42 : decode cX7_clashOf 42 = .ok (.iload 7, 2) := by decide +kernel
theorem dX7_clashOf_44 : decode cX7_clashOf 44 = .ok (.iload 5, 2) := by decide +kernel
theorem dX7_clashOf_46 : decode cX7_clashOf 46 = .ok (.if_icmp .ge 71, 3) := by decide +kernel
theorem dX7_clashOf_49 : decode cX7_clashOf 49 = .ok (.iconst 0, 1) := by decide +kernel
theorem dX7_clashOf_50 : decode cX7_clashOf 50 = .ok (.istore 8, 2) := by decide +kernel
theorem dX7_clashOf_52 : decode cX7_clashOf 52 = .ok (.iload 8, 2) := by decide +kernel
theorem dX7_clashOf_54 : decode cX7_clashOf 54 = .ok (.iload 6, 2) := by decide +kernel
theorem dX7_clashOf_56 : decode cX7_clashOf 56 = .ok (.if_icmp .ge 55, 3) := by decide +kernel
theorem dX7_clashOf_59 : decode cX7_clashOf 59 = .ok (.aload_n 0, 1) := by decide +kernel
theorem dX7_clashOf_60 : decode cX7_clashOf 60 = .ok (.iload_n 1, 1) := by decide +kernel
theorem dX7_clashOf_61 : decode cX7_clashOf 61 = .ok (.iload_n 2, 1) := by decide +kernel
theorem dX7_clashOf_62 : decode cX7_clashOf 62 = .ok (.iload_n 3, 1) := by decide +kernel
theorem dX7_clashOf_63 : decode cX7_clashOf 63 = .ok (.iload 4, 2) := by decide +kernel
theorem dX7_clashOf_65 : decode cX7_clashOf 65 = .ok (.aload_n 0, 1) := by decide +kernel
theorem dX7_clashOf_66 : decode cX7_clashOf 66 = .ok (.getfield 70, 3) := by decide +kernel
theorem dX7_clashOf_69 : decode cX7_clashOf 69 = .ok (.iload 7, 2) := by decide +kernel
theorem dX7_clashOf_71 : decode cX7_clashOf 71 = .ok (.iaload, 1) := by decide +kernel
theorem dX7_clashOf_72 : decode cX7_clashOf 72 = .ok (.aload_n 0, 1) := by decide +kernel
theorem dX7_clashOf_73 : decode cX7_clashOf 73 = .ok (.getfield 73, 3) := by decide +kernel
theorem dX7_clashOf_76 : decode cX7_clashOf 76 = .ok (.iload 8, 2) := by decide +kernel
theorem dX7_clashOf_78 : decode cX7_clashOf 78 = .ok (.iaload, 1) := by decide +kernel
theorem dX7_clashOf_79 : decode cX7_clashOf 79 = .ok (.invokevirtual 190, 3) := by decide +kernel
theorem dX7_clashOf_82 : decode cX7_clashOf 82 = .ok (.ifCond .eq 23, 3) := by decide +kernel
theorem dX7_clashOf_85 : decode cX7_clashOf 85 = .ok (.sipush 360, 3) := by decide +kernel
theorem dX7_clashOf_88 : decode cX7_clashOf 88 = .ok (.aload_n 0, 1) := by decide +kernel
theorem dX7_clashOf_89 : decode cX7_clashOf 89 = .ok (.getfield 70, 3) := by decide +kernel
theorem dX7_clashOf_92 : decode cX7_clashOf 92 = .ok (.iload 7, 2) := by decide +kernel
theorem dX7_clashOf_94 : decode cX7_clashOf 94 = .ok (.iaload, 1) := by decide +kernel
theorem dX7_clashOf_95 : decode cX7_clashOf 95 = .ok (.imul, 1) := by decide +kernel
theorem dX7_clashOf_96 : decode cX7_clashOf 96 = .ok (.aload_n 0, 1) := by decide +kernel
theorem dX7_clashOf_97 : decode cX7_clashOf 97 = .ok (.getfield 73, 3) := by decide +kernel
theorem dX7_clashOf_100 : decode cX7_clashOf 100 = .ok (.iload 8, 2) := by decide +kernel
theorem dX7_clashOf_102 : decode cX7_clashOf 102 = .ok (.iaload, 1) := by decide +kernel
theorem dX7_clashOf_103 : decode cX7_clashOf 103 = .ok (.iadd, 1) := by decide +kernel
theorem dX7_clashOf_104 : decode cX7_clashOf 104 = .ok (.ireturn, 1) := by decide +kernel
theorem dX7_clashOf_105 : decode cX7_clashOf 105 = .ok (.iinc 8 1, 3) := by decide +kernel
theorem dX7_clashOf_108 : decode cX7_clashOf 108 = .ok (.goto (-56), 3) := by decide +kernel
theorem dX7_clashOf_111 : decode cX7_clashOf 111 = .ok (.iinc 7 1, 3) := by decide +kernel
theorem dX7_clashOf_114 : decode cX7_clashOf 114 = .ok (.goto (-72), 3) := by decide +kernel
theorem dX7_clashOf_117 : decode cX7_clashOf 117 = .ok (.iconst (-1), 1) := by decide +kernel
theorem dX7_clashOf_118 : decode cX7_clashOf 118 = .ok (.ireturn, 1) := by decide +kernel
theorem dX7_clashRight_0 : decode cX7_clashRight 0 = .ok (.aload_n 0, 1) := by decide +kernel
theorem dX7_clashRight_1 : decode cX7_clashRight 1 = .ok (.iload_n 1, 1) := by decide +kernel
theorem dX7_clashRight_2 : decode cX7_clashRight 2 = .ok (.iload_n 2, 1) := by decide +kernel
theorem dX7_clashRight_3 : decode cX7_clashRight 3 = .ok (.iload 4, 2) := by decide +kernel
theorem dX7_clashRight_5 : decode cX7_clashRight 5 = .ok (.invokevirtual 183, 3) := by decide +kernel
theorem dX7_clashRight_8 : decode cX7_clashRight 8 = .ok (.ifCond .ne 5, 3) := by decide +kernel
theorem dX7_clashRight_11 : decode cX7_clashRight 11 = .ok (.iconst (-1), 1) := by decide +kernel
theorem dX7_clashRight_12 : decode cX7_clashRight 12 = .ok (.ireturn, 1) := by decide +kernel
theorem dX7_clashRight_13 : decode cX7_clashRight 13 = .ok (.iconst (-1), 1) := by decide +kernel
theorem dX7_clashRight_14 : decode cX7_clashRight 14 = .ok (.istore 5, 2) := by decide +kernel
theorem dX7_clashRight_16 : decode cX7_clashRight 16 = .ok (.aload_n 0, 1) := by decide +kernel
theorem dX7_clashRight_17 : decode cX7_clashRight 17 = .ok (.iload_n 1, 1) := by decide +kernel
theorem dX7_clashRight_18 : decode cX7_clashRight 18 = .ok (.iload 4, 2) := by decide +kernel
theorem dX7_clashRight_20 : decode cX7_clashRight 20 = .ok (.aload_n 0, 1) := by decide +kernel
theorem dX7_clashRight_21 : decode cX7_clashRight 21 = .ok (.getfield 70, 3) := by decide +kernel
theorem dX7_clashRight_24 : decode cX7_clashRight 24 = .ok (.invokevirtual 186, 3) := by decide +kernel
theorem dX7_clashRight_27 : decode cX7_clashRight 27 = .ok (.istore 6, 2) := by decide +kernel
theorem dX7_clashRight_29 : decode cX7_clashRight 29 = .ok (.aload_n 0, 1) := by decide +kernel
theorem dX7_clashRight_30 : decode cX7_clashRight 30 = .ok (.iload_n 2, 1) := by decide +kernel
theorem dX7_clashRight_31 : decode cX7_clashRight 31 = .ok (.iload 4, 2) := by decide +kernel
theorem dX7_clashRight_33 : decode cX7_clashRight 33 = .ok (.aload_n 0, 1) := by decide +kernel
theorem dX7_clashRight_34 : decode cX7_clashRight 34 = .ok (.getfield 73, 3) := by decide +kernel
theorem dX7_clashRight_37 : decode cX7_clashRight 37 = .ok (.invokevirtual 186, 3) := by decide +kernel
theorem dX7_clashRight_40 : decode cX7_clashRight 40 = .ok (.istore 7, 2) := by decide +kernel
theorem dX7_clashRight_42 : decode cX7_clashRight 42 = .ok (.iconst 0, 1) := by decide +kernel
theorem dX7_clashRight_43 : decode cX7_clashRight 43 = .ok (.istore 8, 2) := by decide +kernel
theorem dX7_clashRight_45 : decode cX7_clashRight 45 = .ok (.iload 8, 2) := by decide +kernel
theorem dX7_clashRight_47 : decode cX7_clashRight 47 = .ok (.iload 6, 2) := by decide +kernel
theorem dX7_clashRight_49 : decode cX7_clashRight 49 = .ok (.if_icmp .ge 84, 3) := by decide +kernel
theorem dX7_clashRight_52 : decode cX7_clashRight 52 = .ok (.iconst 0, 1) := by decide +kernel
theorem dX7_clashRight_53 : decode cX7_clashRight 53 = .ok (.istore 9, 2) := by decide +kernel
theorem dX7_clashRight_55 : decode cX7_clashRight 55 = .ok (.iload 9, 2) := by decide +kernel
theorem dX7_clashRight_57 : decode cX7_clashRight 57 = .ok (.iload 7, 2) := by decide +kernel
theorem dX7_clashRight_59 : decode cX7_clashRight 59 = .ok (.if_icmp .ge 68, 3) := by decide +kernel
theorem dX7_clashRight_62 : decode cX7_clashRight 62 = .ok (.aload_n 0, 1) := by decide +kernel
theorem dX7_clashRight_63 : decode cX7_clashRight 63 = .ok (.iload_n 1, 1) := by decide +kernel
theorem dX7_clashRight_64 : decode cX7_clashRight 64 = .ok (.aload_n 0, 1) := by decide +kernel
theorem dX7_clashRight_65 : decode cX7_clashRight 65 = .ok (.getfield 70, 3) := by decide +kernel
theorem dX7_clashRight_68 : decode cX7_clashRight 68 = .ok (.iload 8, 2) := by decide +kernel
theorem dX7_clashRight_70 : decode cX7_clashRight 70 = .ok (.iaload, 1) := by decide +kernel
theorem dX7_clashRight_71 : decode cX7_clashRight 71 = .ok (.iload_n 3, 1) := by decide +kernel
theorem dX7_clashRight_72 : decode cX7_clashRight 72 = .ok (.iload 4, 2) := by decide +kernel
theorem dX7_clashRight_74 : decode cX7_clashRight 74 = .ok (.invokevirtual 158, 3) := by decide +kernel
theorem dX7_clashRight_77 : decode cX7_clashRight 77 = .ok (.istore 10, 2) := by decide +kernel
theorem dX7_clashRight_79 : decode cX7_clashRight 79 = .ok (.iload 5, 2) := by decide +kernel
theorem dX7_clashRight_81 : decode cX7_clashRight 81 = .ok (.ifCond .lt 10, 3) := by decide +kernel
theorem dX7_clashRight_84 : decode cX7_clashRight 84 = .ok (.iload 10, 2) := by decide +kernel
theorem dX7_clashRight_86 : decode cX7_clashRight 86 = .ok (.iload 5, 2) := by decide +kernel
theorem dX7_clashRight_88 : decode cX7_clashRight 88 = .ok (.if_icmp .ge 33, 3) := by decide +kernel
theorem dX7_clashRight_91 : decode cX7_clashRight 91 = .ok (.aload_n 0, 1) := by decide +kernel
theorem dX7_clashRight_92 : decode cX7_clashRight 92 = .ok (.iload_n 1, 1) := by decide +kernel
theorem dX7_clashRight_93 : decode cX7_clashRight 93 = .ok (.iload_n 2, 1) := by decide +kernel
theorem dX7_clashRight_94 : decode cX7_clashRight 94 = .ok (.iload_n 3, 1) := by decide +kernel
theorem dX7_clashRight_95 : decode cX7_clashRight 95 = .ok (.iload 4, 2) := by decide +kernel
theorem dX7_clashRight_97 : decode cX7_clashRight 97 = .ok (.aload_n 0, 1) := by decide +kernel
theorem dX7_clashRight_98 : decode cX7_clashRight 98 = .ok (.getfield 70, 3) := by decide +kernel
theorem dX7_clashRight_101 : decode cX7_clashRight 101 = .ok (.iload 8, 2) := by decide +kernel
theorem dX7_clashRight_103 : decode cX7_clashRight 103 = .ok (.iaload, 1) := by decide +kernel
theorem dX7_clashRight_104 : decode cX7_clashRight 104 = .ok (.aload_n 0, 1) := by decide +kernel
theorem dX7_clashRight_105 : decode cX7_clashRight 105 = .ok (.getfield 73, 3) := by decide +kernel
theorem dX7_clashRight_108 : decode cX7_clashRight 108 = .ok (.iload 9, 2) := by decide +kernel
theorem dX7_clashRight_110 : decode cX7_clashRight 110 = .ok (.iaload, 1) := by decide +kernel
theorem dX7_clashRight_111 : decode cX7_clashRight 111 = .ok (.invokevirtual 190, 3) := by decide +kernel
theorem dX7_clashRight_114 : decode cX7_clashRight 114 = .ok (.ifCond .eq 7, 3) := by decide +kernel
theorem dX7_clashRight_117 : decode cX7_clashRight 117 = .ok (.iload 10, 2) := by decide +kernel
theorem dX7_clashRight_119 : decode cX7_clashRight 119 = .ok (.istore 5, 2) := by decide +kernel
theorem dX7_clashRight_121 : decode cX7_clashRight 121 = .ok (.iinc 9 1, 3) := by decide +kernel
theorem dX7_clashRight_124 : decode cX7_clashRight 124 = .ok (.goto (-69), 3) := by decide +kernel
theorem dX7_clashRight_127 : decode cX7_clashRight 127 = .ok (.iinc 8 1, 3) := by decide +kernel
theorem dX7_clashRight_130 : decode cX7_clashRight 130 = .ok (.goto (-85), 3) := by decide +kernel
theorem dX7_clashRight_133 : decode cX7_clashRight 133 = .ok (.iload 5, 2) := by decide +kernel
theorem dX7_clashRight_135 : decode cX7_clashRight 135 = .ok (.ireturn, 1) := by decide +kernel
theorem dX7_isX_0 : decode cX7_isX 0 = .ok (.iload_n 0, 1) := by decide +kernel
theorem dX7_isX_1 : decode cX7_isX 1 = .ok (.ifCond .eq 14, 3) := by decide +kernel
theorem dX7_isX_4 : decode cX7_isX 4 = .ok (.iload_n 0, 1) := by decide +kernel
theorem dX7_isX_5 : decode cX7_isX 5 = .ok (.iconst 3, 1) := by decide +kernel
theorem dX7_isX_6 : decode cX7_isX 6 = .ok (.if_icmp .eq 9, 3) := by decide +kernel
theorem dX7_isX_9 : decode cX7_isX 9 = .ok (.iload_n 0, 1) := by decide +kernel
theorem dX7_isX_10 : decode cX7_isX 10 = .ok (.bipush 6, 2) := by decide +kernel
theorem dX7_isX_12 : decode cX7_isX 12 = .ok (.if_icmp .ne 8, 3) := by decide +kernel
theorem dX7_isX_15 : decode cX7_isX 15 = .ok (.iload_n 1, 1) := by decide +kernel
theorem dX7_isX_16 : decode cX7_isX 16 = .ok (.invokestatic 94, 3) := by decide +kernel
theorem dX7_isX_19 : decode cX7_isX 19 = .ok (.ireturn, 1) := by decide +kernel
theorem dX7_isX_20 : decode cX7_isX 20 = .ok (.iload_n 0, 1) := by decide +kernel
theorem dX7_isX_21 : decode cX7_isX 21 = .ok (.iconst 1, 1) := by decide +kernel
theorem dX7_isX_22 : decode cX7_isX 22 = .ok (.if_icmp .ne 8, 3) := by decide +kernel
theorem dX7_isX_25 : decode cX7_isX 25 = .ok (.iload_n 1, 1) := by decide +kernel
theorem dX7_isX_26 : decode cX7_isX 26 = .ok (.invokestatic 194, 3) := by decide +kernel
theorem dX7_isX_29 : decode cX7_isX 29 = .ok (.ireturn, 1) := by decide +kernel
theorem dX7_isX_30 : decode cX7_isX 30 = .ok (.iload_n 0, 1) := by decide +kernel
theorem dX7_isX_31 : decode cX7_isX 31 = .ok (.iconst 5, 1) := by decide +kernel
theorem dX7_isX_32 : decode cX7_isX 32 = .ok (.if_icmp .eq 9, 3) := by decide +kernel
theorem dX7_isX_35 : decode cX7_isX 35 = .ok (.iload_n 0, 1) := by decide +kernel
theorem dX7_isX_36 : decode cX7_isX 36 = .ok (.bipush 8, 2) := by decide +kernel
theorem dX7_isX_38 : decode cX7_isX 38 = .ok (.if_icmp .ne 10, 3) := by decide +kernel
theorem dX7_isX_41 : decode cX7_isX 41 = .ok (.iload_n 1, 1) := by decide +kernel
theorem dX7_isX_42 : decode cX7_isX 42 = .ok (.invokestatic 102, 3) := by decide +kernel
theorem dX7_isX_45 : decode cX7_isX 45 = .ok (.goto 12, 3) := by decide +kernel
theorem dX7_isX_48 : decode cX7_isX 48 = .ok (.iload_n 1, 1) := by decide +kernel
theorem dX7_isX_49 : decode cX7_isX 49 = .ok (.ifCond .ne 7, 3) := by decide +kernel
theorem dX7_isX_52 : decode cX7_isX 52 = .ok (.iconst 1, 1) := by decide +kernel
theorem dX7_isX_53 : decode cX7_isX 53 = .ok (.goto 4, 3) := by decide +kernel
theorem dX7_isX_56 : decode cX7_isX 56 = .ok (.iconst 0, 1) := by decide +kernel
theorem dX7_isX_57 : decode cX7_isX 57 = .ok (.ireturn, 1) := by decide +kernel
theorem dX7_canBe_0 : decode cX7_canBe 0 = .ok (.aload_n 0, 1) := by decide +kernel
theorem dX7_canBe_1 : decode cX7_canBe 1 = .ok (.iload_n 2, 1) := by decide +kernel
theorem dX7_canBe_2 : decode cX7_canBe 2 = .ok (.iload 4, 2) := by decide +kernel
theorem dX7_canBe_4 : decode cX7_canBe 4 = .ok (.invokevirtual 145, 3) := by decide +kernel
theorem dX7_canBe_7 : decode cX7_canBe 7 = .ok (.istore 5, 2) := by decide +kernel
theorem dX7_canBe_9 : decode cX7_canBe 9 = .ok (.iload_n 1, 1) := by decide +kernel
theorem dX7_canBe_10 : decode cX7_canBe 10 = .ok (.ifCond .ne 71, 3) := by decide +kernel
theorem dX7_canBe_13 : decode cX7_canBe 13 = .ok (.aload_n 0, 1) := by decide +kernel
theorem dX7_canBe_14 : decode cX7_canBe 14 = .ok (.iconst 3, 1) := by decide +kernel
theorem dX7_canBe_15 : decode cX7_canBe 15 = .ok (.iload_n 2, 1) := by decide +kernel
theorem dX7_canBe_16 : decode cX7_canBe 16 = .ok (.iload_n 3, 1) := by decide +kernel
theorem dX7_canBe_17 : decode cX7_canBe 17 = .ok (.iload 4, 2) := by decide +kernel
theorem dX7_canBe_19 : decode cX7_canBe 19 = .ok (.invokevirtual 138, 3) := by decide +kernel
theorem dX7_canBe_22 : decode cX7_canBe 22 = .ok (.istore 6, 2) := by decide +kernel
theorem dX7_canBe_24 : decode cX7_canBe 24 = .ok (.aload_n 0, 1) := by decide +kernel
theorem dX7_canBe_25 : decode cX7_canBe 25 = .ok (.iconst 0, 1) := by decide +kernel
theorem dX7_canBe_26 : decode cX7_canBe 26 = .ok (.iload_n 2, 1) := by decide +kernel
theorem dX7_canBe_27 : decode cX7_canBe 27 = .ok (.iload_n 3, 1) := by decide +kernel
theorem dX7_canBe_28 : decode cX7_canBe 28 = .ok (.iload 4, 2) := by decide +kernel
theorem dX7_canBe_30 : decode cX7_canBe 30 = .ok (.invokevirtual 138, 3) := by decide +kernel
theorem dX7_canBe_33 : decode cX7_canBe 33 = .ok (.istore 7, 2) := by decide +kernel
theorem dX7_canBe_35 : decode cX7_canBe 35 = .ok (.iload 7, 2) := by decide +kernel
theorem dX7_canBe_37 : decode cX7_canBe 37 = .ok (.ifCond .lt 14, 3) := by decide +kernel
theorem dX7_canBe_40 : decode cX7_canBe 40 = .ok (.iload 7, 2) := by decide +kernel
theorem dX7_canBe_42 : decode cX7_canBe 42 = .ok (.iload 6, 2) := by decide +kernel
theorem dX7_canBe_44 : decode cX7_canBe 44 = .ok (.if_icmp .le 7, 3) := by decide +kernel
theorem dX7_canBe_47 : decode cX7_canBe 47 = .ok (.iconst 1, 1) := by decide +kernel
theorem dX7_canBe_48 : decode cX7_canBe 48 = .ok (.goto 4, 3) := by decide +kernel
theorem dX7_canBe_51 : decode cX7_canBe 51 = .ok (.iconst 0, 1) := by decide +kernel
theorem dX7_canBe_52 : decode cX7_canBe 52 = .ok (.istore 8, 2) := by decide +kernel
theorem dX7_canBe_54 : decode cX7_canBe 54 = .ok (.iload 8, 2) := by decide +kernel
theorem dX7_canBe_56 : decode cX7_canBe 56 = .ok (.ifCond .ne 23, 3) := by decide +kernel
theorem dX7_canBe_59 : decode cX7_canBe 59 = .ok (.aload_n 0, 1) := by decide +kernel
theorem dX7_canBe_60 : decode cX7_canBe 60 = .ok (.iload_n 2, 1) := by decide +kernel
theorem dX7_canBe_61 : decode cX7_canBe 61 = .ok (.iload 4, 2) := by decide +kernel
theorem dX7_canBe_63 : decode cX7_canBe 63 = .ok (.aload_n 0, 1) := by decide +kernel
theorem dX7_canBe_64 : decode cX7_canBe 64 = .ok (.getfield 70, 3) := by decide +kernel
theorem dX7_canBe_67 : decode cX7_canBe 67 = .ok (.invokevirtual 186, 3) := by decide +kernel
theorem dX7_canBe_70 : decode cX7_canBe 70 = .ok (.bipush 20, 2) := by decide +kernel
theorem dX7_canBe_72 : decode cX7_canBe 72 = .ok (.if_icmp .ge 7, 3) := by decide +kernel
theorem dX7_canBe_75 : decode cX7_canBe 75 = .ok (.iconst 1, 1) := by decide +kernel
theorem dX7_canBe_76 : decode cX7_canBe 76 = .ok (.goto 4, 3) := by decide +kernel
theorem dX7_canBe_79 : decode cX7_canBe 79 = .ok (.iconst 0, 1) := by decide +kernel
theorem dX7_canBe_80 : decode cX7_canBe 80 = .ok (.ireturn, 1) := by decide +kernel
theorem dX7_canBe_81 : decode cX7_canBe 81 = .ok (.iload_n 1, 1) := by decide +kernel
theorem dX7_canBe_82 : decode cX7_canBe 82 = .ok (.iconst 1, 1) := by decide +kernel
theorem dX7_canBe_83 : decode cX7_canBe 83 = .ok (.if_icmp .ne 33, 3) := by decide +kernel
theorem dX7_canBe_86 : decode cX7_canBe 86 = .ok (.aload_n 0, 1) := by decide +kernel
theorem dX7_canBe_87 : decode cX7_canBe 87 = .ok (.iconst 1, 1) := by decide +kernel
theorem dX7_canBe_88 : decode cX7_canBe 88 = .ok (.iload_n 2, 1) := by decide +kernel
theorem dX7_canBe_89 : decode cX7_canBe 89 = .ok (.iload_n 3, 1) := by decide +kernel
theorem dX7_canBe_90 : decode cX7_canBe 90 = .ok (.iload 4, 2) := by decide +kernel
theorem dX7_canBe_92 : decode cX7_canBe 92 = .ok (.invokevirtual 138, 3) := by decide +kernel
theorem dX7_canBe_95 : decode cX7_canBe 95 = .ok (.ifCond .ge 19, 3) := by decide +kernel
theorem dX7_canBe_98 : decode cX7_canBe 98 = .ok (.aload_n 0, 1) := by decide +kernel
theorem dX7_canBe_99 : decode cX7_canBe 99 = .ok (.iconst 0, 1) := by decide +kernel
theorem dX7_canBe_100 : decode cX7_canBe 100 = .ok (.iload_n 2, 1) := by decide +kernel
theorem dX7_canBe_101 : decode cX7_canBe 101 = .ok (.iconst (-1), 1) := by decide +kernel
theorem dX7_canBe_102 : decode cX7_canBe 102 = .ok (.iload 4, 2) := by decide +kernel
theorem dX7_canBe_104 : decode cX7_canBe 104 = .ok (.invokevirtual 138, 3) := by decide +kernel
theorem dX7_canBe_107 : decode cX7_canBe 107 = .ok (.ifCond .lt 7, 3) := by decide +kernel
theorem dX7_canBe_110 : decode cX7_canBe 110 = .ok (.iconst 1, 1) := by decide +kernel
theorem dX7_canBe_111 : decode cX7_canBe 111 = .ok (.goto 4, 3) := by decide +kernel
theorem dX7_canBe_114 : decode cX7_canBe 114 = .ok (.iconst 0, 1) := by decide +kernel
theorem dX7_canBe_115 : decode cX7_canBe 115 = .ok (.ireturn, 1) := by decide +kernel
theorem dX7_canBe_116 : decode cX7_canBe 116 = .ok (.iload 5, 2) := by decide +kernel
theorem dX7_canBe_118 : decode cX7_canBe 118 = .ok (.ifCond .ge 5, 3) := by decide +kernel
theorem dX7_canBe_121 : decode cX7_canBe 121 = .ok (.iconst 0, 1) := by decide +kernel
theorem dX7_canBe_122 : decode cX7_canBe 122 = .ok (.ireturn, 1) := by decide +kernel
theorem dX7_canBe_123 : decode cX7_canBe 123 = .ok (.iload_n 1, 1) := by decide +kernel
theorem dX7_canBe_124 : decode cX7_canBe 124 = .ok (.tableswitch 166 2 7 #[40, 77, 104, 120, 77, 137], 40) := by decide +kernel
theorem dX7_canBe_164 : decode cX7_canBe 164 = .ok (.aload_n 0, 1) := by decide +kernel
theorem dX7_canBe_165 : decode cX7_canBe 165 = .ok (.iload_n 2, 1) := by decide +kernel
theorem dX7_canBe_166 : decode cX7_canBe 166 = .ok (.iload 4, 2) := by decide +kernel
theorem dX7_canBe_168 : decode cX7_canBe 168 = .ok (.invokevirtual 152, 3) := by decide +kernel
theorem dX7_canBe_171 : decode cX7_canBe 171 = .ok (.istore 6, 2) := by decide +kernel
theorem dX7_canBe_173 : decode cX7_canBe 173 = .ok (.iload 4, 2) := by decide +kernel
theorem dX7_canBe_175 : decode cX7_canBe 175 = .ok (.iload 6, 2) := by decide +kernel
theorem dX7_canBe_177 : decode cX7_canBe 177 = .ok (.sipush 365, 3) := by decide +kernel
theorem dX7_canBe_180 : decode cX7_canBe 180 = .ok (.isub, 1) := by decide +kernel
theorem dX7_canBe_181 : decode cX7_canBe 181 = .ok (.if_icmp .lt 18, 3) := by decide +kernel
theorem dX7_canBe_184 : decode cX7_canBe 184 = .ok (.iload 4, 2) := by decide +kernel
theorem dX7_canBe_186 : decode cX7_canBe 186 = .ok (.iload 6, 2) := by decide +kernel
theorem dX7_canBe_188 : decode cX7_canBe 188 = .ok (.sipush 180, 3) := by decide +kernel
theorem dX7_canBe_191 : decode cX7_canBe 191 = .ok (.iadd, 1) := by decide +kernel
theorem dX7_canBe_192 : decode cX7_canBe 192 = .ok (.if_icmp .gt 7, 3) := by decide +kernel
theorem dX7_canBe_195 : decode cX7_canBe 195 = .ok (.iconst 1, 1) := by decide +kernel
theorem dX7_canBe_196 : decode cX7_canBe 196 = .ok (.goto 4, 3) := by decide +kernel
theorem dX7_canBe_199 : decode cX7_canBe 199 = .ok (.iconst 0, 1) := by decide +kernel
theorem dX7_canBe_200 : decode cX7_canBe 200 = .ok (.ireturn, 1) := by decide +kernel
theorem dX7_canBe_201 : decode cX7_canBe 201 = .ok (.aload_n 0, 1) := by decide +kernel
theorem dX7_canBe_202 : decode cX7_canBe 202 = .ok (.iconst 0, 1) := by decide +kernel
theorem dX7_canBe_203 : decode cX7_canBe 203 = .ok (.iload_n 2, 1) := by decide +kernel
theorem dX7_canBe_204 : decode cX7_canBe 204 = .ok (.iload_n 3, 1) := by decide +kernel
theorem dX7_canBe_205 : decode cX7_canBe 205 = .ok (.iload 4, 2) := by decide +kernel
theorem dX7_canBe_207 : decode cX7_canBe 207 = .ok (.invokevirtual 138, 3) := by decide +kernel
theorem dX7_canBe_210 : decode cX7_canBe 210 = .ok (.aload_n 0, 1) := by decide +kernel
theorem dX7_canBe_211 : decode cX7_canBe 211 = .ok (.iconst 3, 1) := by decide +kernel
theorem dX7_canBe_212 : decode cX7_canBe 212 = .ok (.iload_n 2, 1) := by decide +kernel
theorem dX7_canBe_213 : decode cX7_canBe 213 = .ok (.iload_n 3, 1) := by decide +kernel
theorem dX7_canBe_214 : decode cX7_canBe 214 = .ok (.iload 4, 2) := by decide +kernel
theorem dX7_canBe_216 : decode cX7_canBe 216 = .ok (.invokevirtual 138, 3) := by decide +kernel
theorem dX7_canBe_219 : decode cX7_canBe 219 = .ok (.if_icmp .le 7, 3) := by decide +kernel
theorem dX7_canBe_222 : decode cX7_canBe 222 = .ok (.iconst 1, 1) := by decide +kernel
theorem dX7_canBe_223 : decode cX7_canBe 223 = .ok (.goto 4, 3) := by decide +kernel
theorem dX7_canBe_226 : decode cX7_canBe 226 = .ok (.iconst 0, 1) := by decide +kernel
theorem dX7_canBe_227 : decode cX7_canBe 227 = .ok (.ireturn, 1) := by decide +kernel
theorem dX7_canBe_228 : decode cX7_canBe 228 = .ok (.aload_n 0, 1) := by decide +kernel
theorem dX7_canBe_229 : decode cX7_canBe 229 = .ok (.iload_n 2, 1) := by decide +kernel
theorem dX7_canBe_230 : decode cX7_canBe 230 = .ok (.iload 4, 2) := by decide +kernel
theorem dX7_canBe_232 : decode cX7_canBe 232 = .ok (.invokevirtual 164, 3) := by decide +kernel
theorem dX7_canBe_235 : decode cX7_canBe 235 = .ok (.ifCond .ne 7, 3) := by decide +kernel
theorem dX7_canBe_238 : decode cX7_canBe 238 = .ok (.iconst 1, 1) := by decide +kernel
theorem dX7_canBe_239 : decode cX7_canBe 239 = .ok (.goto 4, 3) := by decide +kernel
theorem dX7_canBe_242 : decode cX7_canBe 242 = .ok (.iconst 0, 1) := by decide +kernel
theorem dX7_canBe_243 : decode cX7_canBe 243 = .ok (.ireturn, 1) := by decide +kernel
theorem dX7_canBe_244 : decode cX7_canBe 244 = .ok (.aload_n 0, 1) := by decide +kernel
theorem dX7_canBe_245 : decode cX7_canBe 245 = .ok (.iload_n 2, 1) := by decide +kernel
theorem dX7_canBe_246 : decode cX7_canBe 246 = .ok (.iload_n 3, 1) := by decide +kernel
theorem dX7_canBe_247 : decode cX7_canBe 247 = .ok (.iload 4, 2) := by decide +kernel
theorem dX7_canBe_249 : decode cX7_canBe 249 = .ok (.invokevirtual 170, 3) := by decide +kernel
theorem dX7_canBe_252 : decode cX7_canBe 252 = .ok (.ifCond .ne 7, 3) := by decide +kernel
theorem dX7_canBe_255 : decode cX7_canBe 255 = .ok (.iconst 1, 1) := by decide +kernel
theorem dX7_canBe_256 : decode cX7_canBe 256 = .ok (.goto 4, 3) := by decide +kernel
theorem dX7_canBe_259 : decode cX7_canBe 259 = .ok (.iconst 0, 1) := by decide +kernel
theorem dX7_canBe_260 : decode cX7_canBe 260 = .ok (.ireturn, 1) := by decide +kernel
theorem dX7_canBe_261 : decode cX7_canBe 261 = .ok (.aload_n 0, 1) := by decide +kernel
theorem dX7_canBe_262 : decode cX7_canBe 262 = .ok (.getfield 31, 3) := by decide +kernel
theorem dX7_canBe_265 : decode cX7_canBe 265 = .ok (.iload_n 2, 1) := by decide +kernel
theorem dX7_canBe_266 : decode cX7_canBe 266 = .ok (.iaload, 1) := by decide +kernel
theorem dX7_canBe_267 : decode cX7_canBe 267 = .ok (.iconst 4, 1) := by decide +kernel
theorem dX7_canBe_268 : decode cX7_canBe 268 = .ok (.if_icmp .ne 20, 3) := by decide +kernel
theorem dX7_canBe_271 : decode cX7_canBe 271 = .ok (.aload_n 0, 1) := by decide +kernel
theorem dX7_canBe_272 : decode cX7_canBe 272 = .ok (.bipush 7, 2) := by decide +kernel
theorem dX7_canBe_274 : decode cX7_canBe 274 = .ok (.iload_n 2, 1) := by decide +kernel
theorem dX7_canBe_275 : decode cX7_canBe 275 = .ok (.iconst (-1), 1) := by decide +kernel
theorem dX7_canBe_276 : decode cX7_canBe 276 = .ok (.iload 4, 2) := by decide +kernel
theorem dX7_canBe_278 : decode cX7_canBe 278 = .ok (.invokevirtual 138, 3) := by decide +kernel
theorem dX7_canBe_281 : decode cX7_canBe 281 = .ok (.ifCond .ge 7, 3) := by decide +kernel
theorem dX7_canBe_284 : decode cX7_canBe 284 = .ok (.iconst 1, 1) := by decide +kernel
theorem dX7_canBe_285 : decode cX7_canBe 285 = .ok (.goto 4, 3) := by decide +kernel
theorem dX7_canBe_288 : decode cX7_canBe 288 = .ok (.iconst 0, 1) := by decide +kernel
theorem dX7_canBe_289 : decode cX7_canBe 289 = .ok (.ireturn, 1) := by decide +kernel
theorem dX7_canBe_290 : decode cX7_canBe 290 = .ok (.aload_n 0, 1) := by decide +kernel
theorem dX7_canBe_291 : decode cX7_canBe 291 = .ok (.getfield 31, 3) := by decide +kernel
theorem dX7_canBe_294 : decode cX7_canBe 294 = .ok (.iload_n 2, 1) := by decide +kernel
theorem dX7_canBe_295 : decode cX7_canBe 295 = .ok (.iaload, 1) := by decide +kernel
theorem dX7_canBe_296 : decode cX7_canBe 296 = .ok (.iconst 3, 1) := by decide +kernel
theorem dX7_canBe_297 : decode cX7_canBe 297 = .ok (.if_icmp .ne 20, 3) := by decide +kernel
theorem dX7_canBe_300 : decode cX7_canBe 300 = .ok (.aload_n 0, 1) := by decide +kernel
theorem dX7_canBe_301 : decode cX7_canBe 301 = .ok (.bipush 8, 2) := by decide +kernel
theorem dX7_canBe_303 : decode cX7_canBe 303 = .ok (.iload_n 2, 1) := by decide +kernel
theorem dX7_canBe_304 : decode cX7_canBe 304 = .ok (.iload_n 3, 1) := by decide +kernel
theorem dX7_canBe_305 : decode cX7_canBe 305 = .ok (.iload 4, 2) := by decide +kernel
theorem dX7_canBe_307 : decode cX7_canBe 307 = .ok (.invokevirtual 138, 3) := by decide +kernel
theorem dX7_canBe_310 : decode cX7_canBe 310 = .ok (.ifCond .ge 7, 3) := by decide +kernel
theorem dX7_canBe_313 : decode cX7_canBe 313 = .ok (.iconst 1, 1) := by decide +kernel
theorem dX7_canBe_314 : decode cX7_canBe 314 = .ok (.goto 4, 3) := by decide +kernel
theorem dX7_canBe_317 : decode cX7_canBe 317 = .ok (.iconst 0, 1) := by decide +kernel
theorem dX7_canBe_318 : decode cX7_canBe 318 = .ok (.ireturn, 1) := by decide +kernel
theorem dX7_paper_0 : decode cX7_paper 0 = .ok (.aload_n 0, 1) := by decide +kernel
theorem dX7_paper_1 : decode cX7_paper 1 = .ok (.getfield 105, 3) := by decide +kernel
theorem dX7_paper_4 : decode cX7_paper 4 = .ok (.sipush 400, 3) := by decide +kernel
theorem dX7_paper_7 : decode cX7_paper 7 = .ok (.if_icmp .eq 72, 3) := by decide +kernel
theorem dX7_paper_10 : decode cX7_paper 10 = .ok (.iload_n 1, 1) := by decide +kernel
theorem dX7_paper_11 : decode cX7_paper 11 = .ok (.iconst 0, 1) := by decide +kernel
theorem dX7_paper_12 : decode cX7_paper 12 = .ok (.bipush 8, 2) := by decide +kernel
theorem dX7_paper_14 : decode cX7_paper 14 = .ok (.invokestatic 86, 3) := by decide +kernel
theorem dX7_paper_17 : decode cX7_paper 17 = .ok (.ifCond .eq 62, 3) := by decide +kernel
theorem dX7_paper_20 : decode cX7_paper 20 = .ok (.aload_n 0, 1) := by decide +kernel
theorem dX7_paper_21 : decode cX7_paper 21 = .ok (.iload_n 2, 1) := by decide +kernel
theorem dX7_paper_22 : decode cX7_paper 22 = .ok (.invokevirtual 108, 3) := by decide +kernel
theorem dX7_paper_25 : decode cX7_paper 25 = .ok (.ifCond .eq 54, 3) := by decide +kernel
theorem dX7_paper_28 : decode cX7_paper 28 = .ok (.iload_n 1, 1) := by decide +kernel
theorem dX7_paper_29 : decode cX7_paper 29 = .ok (.iload_n 3, 1) := by decide +kernel
theorem dX7_paper_30 : decode cX7_paper 30 = .ok (.invokestatic 197, 3) := by decide +kernel
theorem dX7_paper_33 : decode cX7_paper 33 = .ok (.ifCond .eq 46, 3) := by decide +kernel
theorem dX7_paper_36 : decode cX7_paper 36 = .ok (.iload 4, 2) := by decide +kernel
theorem dX7_paper_38 : decode cX7_paper 38 = .ok (.invokestatic 200, 3) := by decide +kernel
theorem dX7_paper_41 : decode cX7_paper 41 = .ok (.ifCond .eq 38, 3) := by decide +kernel
theorem dX7_paper_44 : decode cX7_paper 44 = .ok (.aload_n 0, 1) := by decide +kernel
theorem dX7_paper_45 : decode cX7_paper 45 = .ok (.getfield 105, 3) := by decide +kernel
theorem dX7_paper_48 : decode cX7_paper 48 = .ok (.ifCond .le 19, 3) := by decide +kernel
theorem dX7_paper_51 : decode cX7_paper 51 = .ok (.iload 4, 2) := by decide +kernel
theorem dX7_paper_53 : decode cX7_paper 53 = .ok (.aload_n 0, 1) := by decide +kernel
theorem dX7_paper_54 : decode cX7_paper 54 = .ok (.getfield 58, 3) := by decide +kernel
theorem dX7_paper_57 : decode cX7_paper 57 = .ok (.aload_n 0, 1) := by decide +kernel
theorem dX7_paper_58 : decode cX7_paper 58 = .ok (.getfield 105, 3) := by decide +kernel
theorem dX7_paper_61 : decode cX7_paper 61 = .ok (.iconst 1, 1) := by decide +kernel
theorem dX7_paper_62 : decode cX7_paper 62 = .ok (.isub, 1) := by decide +kernel
theorem dX7_paper_63 : decode cX7_paper 63 = .ok (.iaload, 1) := by decide +kernel
theorem dX7_paper_64 : decode cX7_paper 64 = .ok (.if_icmp .lt 15, 3) := by decide +kernel
theorem dX7_paper_67 : decode cX7_paper 67 = .ok (.aload_n 0, 1) := by decide +kernel
theorem dX7_paper_68 : decode cX7_paper 68 = .ok (.iload_n 1, 1) := by decide +kernel
theorem dX7_paper_69 : decode cX7_paper 69 = .ok (.iload_n 2, 1) := by decide +kernel
theorem dX7_paper_70 : decode cX7_paper 70 = .ok (.iload_n 3, 1) := by decide +kernel
theorem dX7_paper_71 : decode cX7_paper 71 = .ok (.iload 4, 2) := by decide +kernel
theorem dX7_paper_73 : decode cX7_paper 73 = .ok (.invokevirtual 203, 3) := by decide +kernel
theorem dX7_paper_76 : decode cX7_paper 76 = .ok (.ifCond .ne 5, 3) := by decide +kernel
theorem dX7_paper_79 : decode cX7_paper 79 = .ok (.iconst (-1), 1) := by decide +kernel
theorem dX7_paper_80 : decode cX7_paper 80 = .ok (.ireturn, 1) := by decide +kernel
theorem dX7_paper_81 : decode cX7_paper 81 = .ok (.aload_n 0, 1) := by decide +kernel
theorem dX7_paper_82 : decode cX7_paper 82 = .ok (.getfield 49, 3) := by decide +kernel
theorem dX7_paper_85 : decode cX7_paper 85 = .ok (.aload_n 0, 1) := by decide +kernel
theorem dX7_paper_86 : decode cX7_paper 86 = .ok (.getfield 105, 3) := by decide +kernel
theorem dX7_paper_89 : decode cX7_paper 89 = .ok (.iload_n 1, 1) := by decide +kernel
theorem dX7_paper_90 : decode cX7_paper 90 = .ok (.iastore, 1) := by decide +kernel
theorem dX7_paper_91 : decode cX7_paper 91 = .ok (.aload_n 0, 1) := by decide +kernel
theorem dX7_paper_92 : decode cX7_paper 92 = .ok (.getfield 52, 3) := by decide +kernel
theorem dX7_paper_95 : decode cX7_paper 95 = .ok (.aload_n 0, 1) := by decide +kernel
theorem dX7_paper_96 : decode cX7_paper 96 = .ok (.getfield 105, 3) := by decide +kernel
theorem dX7_paper_99 : decode cX7_paper 99 = .ok (.iload_n 2, 1) := by decide +kernel
theorem dX7_paper_100 : decode cX7_paper 100 = .ok (.iastore, 1) := by decide +kernel
theorem dX7_paper_101 : decode cX7_paper 101 = .ok (.aload_n 0, 1) := by decide +kernel
theorem dX7_paper_102 : decode cX7_paper 102 = .ok (.getfield 55, 3) := by decide +kernel
theorem dX7_paper_105 : decode cX7_paper 105 = .ok (.aload_n 0, 1) := by decide +kernel
theorem dX7_paper_106 : decode cX7_paper 106 = .ok (.getfield 105, 3) := by decide +kernel
theorem dX7_paper_109 : decode cX7_paper 109 = .ok (.iload_n 3, 1) := by decide +kernel
theorem dX7_paper_110 : decode cX7_paper 110 = .ok (.iastore, 1) := by decide +kernel
theorem dX7_paper_111 : decode cX7_paper 111 = .ok (.aload_n 0, 1) := by decide +kernel
theorem dX7_paper_112 : decode cX7_paper 112 = .ok (.getfield 58, 3) := by decide +kernel
theorem dX7_paper_115 : decode cX7_paper 115 = .ok (.aload_n 0, 1) := by decide +kernel
theorem dX7_paper_116 : decode cX7_paper 116 = .ok (.getfield 105, 3) := by decide +kernel
theorem dX7_paper_119 : decode cX7_paper 119 = .ok (.iload 4, 2) := by decide +kernel
theorem dX7_paper_121 : decode cX7_paper 121 = .ok (.iastore, 1) := by decide +kernel
theorem dX7_paper_122 : decode cX7_paper 122 = .ok (.aload_n 0, 1) := by decide +kernel
theorem dX7_paper_123 : decode cX7_paper 123 = .ok (.dup, 1) := by decide +kernel
theorem dX7_paper_124 : decode cX7_paper 124 = .ok (.getfield 105, 3) := by decide +kernel
theorem dX7_paper_127 : decode cX7_paper 127 = .ok (.iconst 1, 1) := by decide +kernel
theorem dX7_paper_128 : decode cX7_paper 128 = .ok (.iadd, 1) := by decide +kernel
theorem dX7_paper_129 : decode cX7_paper 129 = .ok (.putfield 105, 3) := by decide +kernel
theorem dX7_paper_132 : decode cX7_paper 132 = .ok (.aload_n 0, 1) := by decide +kernel
theorem dX7_paper_133 : decode cX7_paper 133 = .ok (.getfield 105, 3) := by decide +kernel
theorem dX7_paper_136 : decode cX7_paper 136 = .ok (.iconst 1, 1) := by decide +kernel
theorem dX7_paper_137 : decode cX7_paper 137 = .ok (.isub, 1) := by decide +kernel
theorem dX7_paper_138 : decode cX7_paper 138 = .ok (.ireturn, 1) := by decide +kernel
theorem dX7_oppose_0 : decode cX7_oppose 0 = .ok (.aload_n 0, 1) := by decide +kernel
theorem dX7_oppose_1 : decode cX7_oppose 1 = .ok (.iload_n 1, 1) := by decide +kernel
theorem dX7_oppose_2 : decode cX7_oppose 2 = .ok (.invokevirtual 108, 3) := by decide +kernel
theorem dX7_oppose_5 : decode cX7_oppose 5 = .ok (.ifCond .eq 18, 3) := by decide +kernel
theorem dX7_oppose_8 : decode cX7_oppose 8 = .ok (.aload_n 0, 1) := by decide +kernel
theorem dX7_oppose_9 : decode cX7_oppose 9 = .ok (.iload_n 2, 1) := by decide +kernel
theorem dX7_oppose_10 : decode cX7_oppose 10 = .ok (.invokevirtual 108, 3) := by decide +kernel
theorem dX7_oppose_13 : decode cX7_oppose 13 = .ok (.ifCond .eq 10, 3) := by decide +kernel
theorem dX7_oppose_16 : decode cX7_oppose 16 = .ok (.iload_n 3, 1) := by decide +kernel
theorem dX7_oppose_17 : decode cX7_oppose 17 = .ok (.invokestatic 200, 3) := by decide +kernel
theorem dX7_oppose_20 : decode cX7_oppose 20 = .ok (.ifCond .ne 5, 3) := by decide +kernel
theorem dX7_oppose_23 : decode cX7_oppose 23 = .ok (.iconst (-1), 1) := by decide +kernel
theorem dX7_oppose_24 : decode cX7_oppose 24 = .ok (.ireturn, 1) := by decide +kernel
theorem dX7_oppose_25 : decode cX7_oppose 25 = .ok (.aload_n 0, 1) := by decide +kernel
theorem dX7_oppose_26 : decode cX7_oppose 26 = .ok (.iload_n 1, 1) := by decide +kernel
theorem dX7_oppose_27 : decode cX7_oppose 27 = .ok (.iload_n 3, 1) := by decide +kernel
theorem dX7_oppose_28 : decode cX7_oppose 28 = .ok (.invokevirtual 145, 3) := by decide +kernel
theorem dX7_oppose_31 : decode cX7_oppose 31 = .ok (.istore 4, 2) := by decide +kernel
theorem dX7_oppose_33 : decode cX7_oppose 33 = .ok (.iconst 0, 1) := by decide +kernel
theorem dX7_oppose_34 : decode cX7_oppose 34 = .ok (.istore 5, 2) := by decide +kernel
theorem dX7_oppose_36 : decode cX7_oppose 36 = .ok (.iconst 0, 1) := by decide +kernel
theorem dX7_oppose_37 : decode cX7_oppose 37 = .ok (.istore 6, 2) := by decide +kernel
theorem dX7_oppose_39 : decode cX7_oppose 39 = .ok (.iload 6, 2) := by decide +kernel
theorem dX7_oppose_41 : decode cX7_oppose 41 = .ok (.bipush 16, 2) := by decide +kernel
theorem dX7_oppose_43 : decode cX7_oppose 43 = .ok (.if_icmp .ge 33, 3) := by decide +kernel
theorem dX7_oppose_46 : decode cX7_oppose 46 = .ok (.iload 5, 2) := by decide +kernel
theorem dX7_oppose_48 : decode cX7_oppose 48 = .ok (.ifCond .ne 15, 3) := by decide +kernel
theorem dX7_oppose_51 : decode cX7_oppose 51 = .ok (.aload_n 0, 1) := by decide +kernel
theorem dX7_oppose_52 : decode cX7_oppose 52 = .ok (.iload_n 2, 1) := by decide +kernel
theorem dX7_oppose_53 : decode cX7_oppose 53 = .ok (.iload_n 1, 1) := by decide +kernel
theorem dX7_oppose_54 : decode cX7_oppose 54 = .ok (.iload 6, 2) := by decide +kernel
theorem dX7_oppose_56 : decode cX7_oppose 56 = .ok (.iload_n 3, 1) := by decide +kernel
theorem dX7_oppose_57 : decode cX7_oppose 57 = .ok (.invokevirtual 206, 3) := by decide +kernel
theorem dX7_oppose_60 : decode cX7_oppose 60 = .ok (.ifCond .lt 7, 3) := by decide +kernel
theorem dX7_oppose_63 : decode cX7_oppose 63 = .ok (.iconst 1, 1) := by decide +kernel
theorem dX7_oppose_64 : decode cX7_oppose 64 = .ok (.goto 4, 3) := by decide +kernel
theorem dX7_oppose_67 : decode cX7_oppose 67 = .ok (.iconst 0, 1) := by decide +kernel
theorem dX7_oppose_68 : decode cX7_oppose 68 = .ok (.istore 5, 2) := by decide +kernel
theorem dX7_oppose_70 : decode cX7_oppose 70 = .ok (.iinc 6 1, 3) := by decide +kernel
theorem dX7_oppose_73 : decode cX7_oppose 73 = .ok (.goto (-34), 3) := by decide +kernel
theorem dX7_oppose_76 : decode cX7_oppose 76 = .ok (.iload 5, 2) := by decide +kernel
theorem dX7_oppose_78 : decode cX7_oppose 78 = .ok (.ifCond .eq 28, 3) := by decide +kernel
theorem dX7_oppose_81 : decode cX7_oppose 81 = .ok (.iload 4, 2) := by decide +kernel
theorem dX7_oppose_83 : decode cX7_oppose 83 = .ok (.ifCond .lt 23, 3) := by decide +kernel
theorem dX7_oppose_86 : decode cX7_oppose 86 = .ok (.iload_n 3, 1) := by decide +kernel
theorem dX7_oppose_87 : decode cX7_oppose 87 = .ok (.iload 4, 2) := by decide +kernel
theorem dX7_oppose_89 : decode cX7_oppose 89 = .ok (.isub, 1) := by decide +kernel
theorem dX7_oppose_90 : decode cX7_oppose 90 = .ok (.bipush 90, 2) := by decide +kernel
theorem dX7_oppose_92 : decode cX7_oppose 92 = .ok (.if_icmp .gt 14, 3) := by decide +kernel
theorem dX7_oppose_95 : decode cX7_oppose 95 = .ok (.aload_n 0, 1) := by decide +kernel
theorem dX7_oppose_96 : decode cX7_oppose 96 = .ok (.iconst 4, 1) := by decide +kernel
theorem dX7_oppose_97 : decode cX7_oppose 97 = .ok (.iload_n 1, 1) := by decide +kernel
theorem dX7_oppose_98 : decode cX7_oppose 98 = .ok (.iconst 0, 1) := by decide +kernel
theorem dX7_oppose_99 : decode cX7_oppose 99 = .ok (.iload_n 3, 1) := by decide +kernel
theorem dX7_oppose_100 : decode cX7_oppose 100 = .ok (.invokevirtual 209, 3) := by decide +kernel
theorem dX7_oppose_103 : decode cX7_oppose 103 = .ok (.goto 4, 3) := by decide +kernel
theorem dX7_oppose_106 : decode cX7_oppose 106 = .ok (.iconst (-1), 1) := by decide +kernel
theorem dX7_oppose_107 : decode cX7_oppose 107 = .ok (.ireturn, 1) := by decide +kernel
theorem dX7_undo_0 : decode cX7_undo 0 = .ok (.aload_n 0, 1) := by decide +kernel
theorem dX7_undo_1 : decode cX7_undo 1 = .ok (.getfield 105, 3) := by decide +kernel
theorem dX7_undo_4 : decode cX7_undo 4 = .ok (.ifCond .ne 5, 3) := by decide +kernel
theorem dX7_undo_7 : decode cX7_undo 7 = .ok (.iconst (-1), 1) := by decide +kernel
theorem dX7_undo_8 : decode cX7_undo 8 = .ok (.ireturn, 1) := by decide +kernel
theorem dX7_undo_9 : decode cX7_undo 9 = .ok (.aload_n 0, 1) := by decide +kernel
theorem dX7_undo_10 : decode cX7_undo 10 = .ok (.dup, 1) := by decide +kernel
theorem dX7_undo_11 : decode cX7_undo 11 = .ok (.getfield 105, 3) := by decide +kernel
theorem dX7_undo_14 : decode cX7_undo 14 = .ok (.iconst 1, 1) := by decide +kernel
theorem dX7_undo_15 : decode cX7_undo 15 = .ok (.isub, 1) := by decide +kernel
theorem dX7_undo_16 : decode cX7_undo 16 = .ok (.putfield 105, 3) := by decide +kernel
theorem dX7_undo_19 : decode cX7_undo 19 = .ok (.aload_n 0, 1) := by decide +kernel
theorem dX7_undo_20 : decode cX7_undo 20 = .ok (.getfield 105, 3) := by decide +kernel
theorem dX7_undo_23 : decode cX7_undo 23 = .ok (.ireturn, 1) := by decide +kernel
theorem dX7_paperOf_0 : decode cX7_paperOf 0 = .ok (.iload_n 1, 1) := by decide +kernel
theorem dX7_paperOf_1 : decode cX7_paperOf 1 = .ok (.iconst 0, 1) := by decide +kernel
theorem dX7_paperOf_2 : decode cX7_paperOf 2 = .ok (.aload_n 0, 1) := by decide +kernel
theorem dX7_paperOf_3 : decode cX7_paperOf 3 = .ok (.getfield 105, 3) := by decide +kernel
theorem dX7_paperOf_6 : decode cX7_paperOf 6 = .ok (.iconst 1, 1) := by decide +kernel
theorem dX7_paperOf_7 : decode cX7_paperOf 7 = .ok (.isub, 1) := by decide +kernel
theorem dX7_paperOf_8 : decode cX7_paperOf 8 = .ok (.invokestatic 86, 3) := by decide +kernel
theorem dX7_paperOf_11 : decode cX7_paperOf 11 = .ok (.ifCond .ne 5, 3) := by decide +kernel
theorem dX7_paperOf_14 : decode cX7_paperOf 14 = .ok (.iconst (-1), 1) := by decide +kernel
theorem dX7_paperOf_15 : decode cX7_paperOf 15 = .ok (.ireturn, 1) := by decide +kernel
theorem dX7_paperOf_16 : decode cX7_paperOf 16 = .ok (.iload_n 2, 1) := by decide +kernel
theorem dX7_paperOf_17 : decode cX7_paperOf 17 = .ok (.tableswitch 59 0 3 #[31, 38, 45, 52], 31) := by decide +kernel
theorem dX7_paperOf_48 : decode cX7_paperOf 48 = .ok (.aload_n 0, 1) := by decide +kernel
theorem dX7_paperOf_49 : decode cX7_paperOf 49 = .ok (.getfield 49, 3) := by decide +kernel
theorem dX7_paperOf_52 : decode cX7_paperOf 52 = .ok (.iload_n 1, 1) := by decide +kernel
theorem dX7_paperOf_53 : decode cX7_paperOf 53 = .ok (.iaload, 1) := by decide +kernel
theorem dX7_paperOf_54 : decode cX7_paperOf 54 = .ok (.ireturn, 1) := by decide +kernel
theorem dX7_paperOf_55 : decode cX7_paperOf 55 = .ok (.aload_n 0, 1) := by decide +kernel
theorem dX7_paperOf_56 : decode cX7_paperOf 56 = .ok (.getfield 52, 3) := by decide +kernel
theorem dX7_paperOf_59 : decode cX7_paperOf 59 = .ok (.iload_n 1, 1) := by decide +kernel
theorem dX7_paperOf_60 : decode cX7_paperOf 60 = .ok (.iaload, 1) := by decide +kernel
theorem dX7_paperOf_61 : decode cX7_paperOf 61 = .ok (.ireturn, 1) := by decide +kernel
theorem dX7_paperOf_62 : decode cX7_paperOf 62 = .ok (.aload_n 0, 1) := by decide +kernel
theorem dX7_paperOf_63 : decode cX7_paperOf 63 = .ok (.getfield 55, 3) := by decide +kernel
theorem dX7_paperOf_66 : decode cX7_paperOf 66 = .ok (.iload_n 1, 1) := by decide +kernel
theorem dX7_paperOf_67 : decode cX7_paperOf 67 = .ok (.iaload, 1) := by decide +kernel
theorem dX7_paperOf_68 : decode cX7_paperOf 68 = .ok (.ireturn, 1) := by decide +kernel
theorem dX7_paperOf_69 : decode cX7_paperOf 69 = .ok (.aload_n 0, 1) := by decide +kernel
theorem dX7_paperOf_70 : decode cX7_paperOf 70 = .ok (.getfield 58, 3) := by decide +kernel
theorem dX7_paperOf_73 : decode cX7_paperOf 73 = .ok (.iload_n 1, 1) := by decide +kernel
theorem dX7_paperOf_74 : decode cX7_paperOf 74 = .ok (.iaload, 1) := by decide +kernel
theorem dX7_paperOf_75 : decode cX7_paperOf 75 = .ok (.ireturn, 1) := by decide +kernel
theorem dX7_paperOf_76 : decode cX7_paperOf 76 = .ok (.iconst (-1), 1) := by decide +kernel
theorem dX7_paperOf_77 : decode cX7_paperOf 77 = .ok (.ireturn, 1) := by decide +kernel
theorem dX7_markOf_0 : decode cX7_markOf 0 = .ok (.aload_n 0, 1) := by decide +kernel
theorem dX7_markOf_1 : decode cX7_markOf 1 = .ok (.iload_n 1, 1) := by decide +kernel
theorem dX7_markOf_2 : decode cX7_markOf 2 = .ok (.invokevirtual 108, 3) := by decide +kernel
theorem dX7_markOf_5 : decode cX7_markOf 5 = .ok (.ifCond .ne 5, 3) := by decide +kernel
theorem dX7_markOf_8 : decode cX7_markOf 8 = .ok (.iconst (-1), 1) := by decide +kernel
theorem dX7_markOf_9 : decode cX7_markOf 9 = .ok (.ireturn, 1) := by decide +kernel
theorem dX7_markOf_10 : decode cX7_markOf 10 = .ok (.iload_n 2, 1) := by decide +kernel
theorem dX7_markOf_11 : decode cX7_markOf 11 = .ok (.tableswitch 71 0 4 #[33, 40, 47, 54, 64], 33) := by decide +kernel
theorem dX7_markOf_44 : decode cX7_markOf 44 = .ok (.aload_n 0, 1) := by decide +kernel
theorem dX7_markOf_45 : decode cX7_markOf 45 = .ok (.getfield 31, 3) := by decide +kernel
theorem dX7_markOf_48 : decode cX7_markOf 48 = .ok (.iload_n 1, 1) := by decide +kernel
theorem dX7_markOf_49 : decode cX7_markOf 49 = .ok (.iaload, 1) := by decide +kernel
theorem dX7_markOf_50 : decode cX7_markOf 50 = .ok (.ireturn, 1) := by decide +kernel
theorem dX7_markOf_51 : decode cX7_markOf 51 = .ok (.aload_n 0, 1) := by decide +kernel
theorem dX7_markOf_52 : decode cX7_markOf 52 = .ok (.getfield 34, 3) := by decide +kernel
theorem dX7_markOf_55 : decode cX7_markOf 55 = .ok (.iload_n 1, 1) := by decide +kernel
theorem dX7_markOf_56 : decode cX7_markOf 56 = .ok (.iaload, 1) := by decide +kernel
theorem dX7_markOf_57 : decode cX7_markOf 57 = .ok (.ireturn, 1) := by decide +kernel
theorem dX7_markOf_58 : decode cX7_markOf 58 = .ok (.aload_n 0, 1) := by decide +kernel
theorem dX7_markOf_59 : decode cX7_markOf 59 = .ok (.getfield 37, 3) := by decide +kernel
theorem dX7_markOf_62 : decode cX7_markOf 62 = .ok (.iload_n 1, 1) := by decide +kernel
theorem dX7_markOf_63 : decode cX7_markOf 63 = .ok (.iaload, 1) := by decide +kernel
theorem dX7_markOf_64 : decode cX7_markOf 64 = .ok (.ireturn, 1) := by decide +kernel
theorem dX7_markOf_65 : decode cX7_markOf 65 = .ok (.aload_n 0, 1) := by decide +kernel
theorem dX7_markOf_66 : decode cX7_markOf 66 = .ok (.iload_n 1, 1) := by decide +kernel
theorem dX7_markOf_67 : decode cX7_markOf 67 = .ok (.aload_n 0, 1) := by decide +kernel
theorem dX7_markOf_68 : decode cX7_markOf 68 = .ok (.getfield 61, 3) := by decide +kernel
theorem dX7_markOf_71 : decode cX7_markOf 71 = .ok (.invokevirtual 121, 3) := by decide +kernel
theorem dX7_markOf_74 : decode cX7_markOf 74 = .ok (.ireturn, 1) := by decide +kernel
theorem dX7_markOf_75 : decode cX7_markOf 75 = .ok (.aload_n 0, 1) := by decide +kernel
theorem dX7_markOf_76 : decode cX7_markOf 76 = .ok (.getfield 43, 3) := by decide +kernel
theorem dX7_markOf_79 : decode cX7_markOf 79 = .ok (.iload_n 1, 1) := by decide +kernel
theorem dX7_markOf_80 : decode cX7_markOf 80 = .ok (.iaload, 1) := by decide +kernel
theorem dX7_markOf_81 : decode cX7_markOf 81 = .ok (.ireturn, 1) := by decide +kernel
theorem dX7_markOf_82 : decode cX7_markOf 82 = .ok (.iconst (-1), 1) := by decide +kernel
theorem dX7_markOf_83 : decode cX7_markOf 83 = .ok (.ireturn, 1) := by decide +kernel
theorem dX7_soundOf_0 : decode cX7_soundOf 0 = .ok (.aload_n 0, 1) := by decide +kernel
theorem dX7_soundOf_1 : decode cX7_soundOf 1 = .ok (.iload_n 1, 1) := by decide +kernel
theorem dX7_soundOf_2 : decode cX7_soundOf 2 = .ok (.invokevirtual 108, 3) := by decide +kernel
theorem dX7_soundOf_5 : decode cX7_soundOf 5 = .ok (.ifCond .eq 31, 3) := by decide +kernel
theorem dX7_soundOf_8 : decode cX7_soundOf 8 = .ok (.iload_n 2, 1) := by decide +kernel
theorem dX7_soundOf_9 : decode cX7_soundOf 9 = .ok (.iconst 0, 1) := by decide +kernel
theorem dX7_soundOf_10 : decode cX7_soundOf 10 = .ok (.aload_n 0, 1) := by decide +kernel
theorem dX7_soundOf_11 : decode cX7_soundOf 11 = .ok (.iload_n 1, 1) := by decide +kernel
theorem dX7_soundOf_12 : decode cX7_soundOf 12 = .ok (.aload_n 0, 1) := by decide +kernel
theorem dX7_soundOf_13 : decode cX7_soundOf 13 = .ok (.getfield 61, 3) := by decide +kernel
theorem dX7_soundOf_16 : decode cX7_soundOf 16 = .ok (.invokevirtual 121, 3) := by decide +kernel
theorem dX7_soundOf_19 : decode cX7_soundOf 19 = .ok (.iconst 1, 1) := by decide +kernel
theorem dX7_soundOf_20 : decode cX7_soundOf 20 = .ok (.isub, 1) := by decide +kernel
theorem dX7_soundOf_21 : decode cX7_soundOf 21 = .ok (.invokestatic 86, 3) := by decide +kernel
theorem dX7_soundOf_24 : decode cX7_soundOf 24 = .ok (.ifCond .eq 12, 3) := by decide +kernel
theorem dX7_soundOf_27 : decode cX7_soundOf 27 = .ok (.aload_n 0, 1) := by decide +kernel
theorem dX7_soundOf_28 : decode cX7_soundOf 28 = .ok (.getfield 61, 3) := by decide +kernel
theorem dX7_soundOf_31 : decode cX7_soundOf 31 = .ok (.iload_n 2, 1) := by decide +kernel
theorem dX7_soundOf_32 : decode cX7_soundOf 32 = .ok (.iaload, 1) := by decide +kernel
theorem dX7_soundOf_33 : decode cX7_soundOf 33 = .ok (.goto 4, 3) := by decide +kernel
theorem dX7_soundOf_36 : decode cX7_soundOf 36 = .ok (.iconst (-1), 1) := by decide +kernel
theorem dX7_soundOf_37 : decode cX7_soundOf 37 = .ok (.ireturn, 1) := by decide +kernel
theorem dX7_like_0 : decode cX7_like 0 = .ok (.aload_n 0, 1) := by decide +kernel
theorem dX7_like_1 : decode cX7_like 1 = .ok (.iload_n 1, 1) := by decide +kernel
theorem dX7_like_2 : decode cX7_like 2 = .ok (.invokevirtual 108, 3) := by decide +kernel
theorem dX7_like_5 : decode cX7_like 5 = .ok (.ifCond .eq 20, 3) := by decide +kernel
theorem dX7_like_8 : decode cX7_like 8 = .ok (.aload_n 0, 1) := by decide +kernel
theorem dX7_like_9 : decode cX7_like 9 = .ok (.iload_n 2, 1) := by decide +kernel
theorem dX7_like_10 : decode cX7_like 10 = .ok (.invokevirtual 108, 3) := by decide +kernel
theorem dX7_like_13 : decode cX7_like 13 = .ok (.ifCond .eq 12, 3) := by decide +kernel
theorem dX7_like_16 : decode cX7_like 16 = .ok (.iload_n 3, 1) := by decide +kernel
theorem dX7_like_17 : decode cX7_like 17 = .ok (.iconst 0, 1) := by decide +kernel
theorem dX7_like_18 : decode cX7_like 18 = .ok (.iconst 1, 1) := by decide +kernel
theorem dX7_like_19 : decode cX7_like 19 = .ok (.invokestatic 86, 3) := by decide +kernel
theorem dX7_like_22 : decode cX7_like 22 = .ok (.ifCond .ne 5, 3) := by decide +kernel
theorem dX7_like_25 : decode cX7_like 25 = .ok (.iconst (-1), 1) := by decide +kernel
theorem dX7_like_26 : decode cX7_like 26 = .ok (.ireturn, 1) := by decide +kernel
theorem dX7_like_27 : decode cX7_like 27 = .ok (.iload_n 3, 1) := by decide +kernel
theorem dX7_like_28 : decode cX7_like 28 = .ok (.ifCond .ne 12, 3) := by decide +kernel
theorem dX7_like_31 : decode cX7_like 31 = .ok (.aload_n 0, 1) := by decide +kernel
theorem dX7_like_32 : decode cX7_like 32 = .ok (.iload_n 1, 1) := by decide +kernel
theorem dX7_like_33 : decode cX7_like 33 = .ok (.iload_n 2, 1) := by decide +kernel
theorem dX7_like_34 : decode cX7_like 34 = .ok (.invokevirtual 135, 3) := by decide +kernel
theorem dX7_like_37 : decode cX7_like 37 = .ok (.goto 9, 3) := by decide +kernel
theorem dX7_like_40 : decode cX7_like 40 = .ok (.aload_n 0, 1) := by decide +kernel
theorem dX7_like_41 : decode cX7_like 41 = .ok (.iload_n 1, 1) := by decide +kernel
theorem dX7_like_42 : decode cX7_like 42 = .ok (.iload_n 2, 1) := by decide +kernel
theorem dX7_like_43 : decode cX7_like 43 = .ok (.invokevirtual 126, 3) := by decide +kernel
theorem dX7_like_46 : decode cX7_like 46 = .ok (.ireturn, 1) := by decide +kernel
theorem dX7_right_0 : decode cX7_right 0 = .ok (.aload_n 0, 1) := by decide +kernel
theorem dX7_right_1 : decode cX7_right 1 = .ok (.iload_n 1, 1) := by decide +kernel
theorem dX7_right_2 : decode cX7_right 2 = .ok (.invokevirtual 108, 3) := by decide +kernel
theorem dX7_right_5 : decode cX7_right 5 = .ok (.ifCond .eq 25, 3) := by decide +kernel
theorem dX7_right_8 : decode cX7_right 8 = .ok (.iload_n 2, 1) := by decide +kernel
theorem dX7_right_9 : decode cX7_right 9 = .ok (.invokestatic 94, 3) := by decide +kernel
theorem dX7_right_12 : decode cX7_right 12 = .ok (.ifCond .eq 18, 3) := by decide +kernel
theorem dX7_right_15 : decode cX7_right 15 = .ok (.iload_n 3, 1) := by decide +kernel
theorem dX7_right_16 : decode cX7_right 16 = .ok (.invokestatic 194, 3) := by decide +kernel
theorem dX7_right_19 : decode cX7_right 19 = .ok (.ifCond .eq 11, 3) := by decide +kernel
theorem dX7_right_22 : decode cX7_right 22 = .ok (.iload 4, 2) := by decide +kernel
theorem dX7_right_24 : decode cX7_right 24 = .ok (.invokestatic 200, 3) := by decide +kernel
theorem dX7_right_27 : decode cX7_right 27 = .ok (.ifCond .ne 5, 3) := by decide +kernel
theorem dX7_right_30 : decode cX7_right 30 = .ok (.iconst (-1), 1) := by decide +kernel
theorem dX7_right_31 : decode cX7_right 31 = .ok (.ireturn, 1) := by decide +kernel
theorem dX7_right_32 : decode cX7_right 32 = .ok (.iload 5, 2) := by decide +kernel
theorem dX7_right_34 : decode cX7_right 34 = .ok (.tableswitch 63 0 2 #[26, 35, 45], 26) := by decide +kernel
theorem dX7_right_60 : decode cX7_right 60 = .ok (.aload_n 0, 1) := by decide +kernel
theorem dX7_right_61 : decode cX7_right 61 = .ok (.iload_n 1, 1) := by decide +kernel
theorem dX7_right_62 : decode cX7_right 62 = .ok (.iload_n 2, 1) := by decide +kernel
theorem dX7_right_63 : decode cX7_right 63 = .ok (.iload 4, 2) := by decide +kernel
theorem dX7_right_65 : decode cX7_right 65 = .ok (.invokevirtual 155, 3) := by decide +kernel
theorem dX7_right_68 : decode cX7_right 68 = .ok (.ireturn, 1) := by decide +kernel
theorem dX7_right_69 : decode cX7_right 69 = .ok (.aload_n 0, 1) := by decide +kernel
theorem dX7_right_70 : decode cX7_right 70 = .ok (.iload_n 1, 1) := by decide +kernel
theorem dX7_right_71 : decode cX7_right 71 = .ok (.iload_n 2, 1) := by decide +kernel
theorem dX7_right_72 : decode cX7_right 72 = .ok (.iload_n 3, 1) := by decide +kernel
theorem dX7_right_73 : decode cX7_right 73 = .ok (.iload 4, 2) := by decide +kernel
theorem dX7_right_75 : decode cX7_right 75 = .ok (.invokevirtual 158, 3) := by decide +kernel
theorem dX7_right_78 : decode cX7_right 78 = .ok (.ireturn, 1) := by decide +kernel
theorem dX7_right_79 : decode cX7_right 79 = .ok (.aload_n 0, 1) := by decide +kernel
theorem dX7_right_80 : decode cX7_right 80 = .ok (.iload_n 1, 1) := by decide +kernel
theorem dX7_right_81 : decode cX7_right 81 = .ok (.iload_n 2, 1) := by decide +kernel
theorem dX7_right_82 : decode cX7_right 82 = .ok (.iload_n 3, 1) := by decide +kernel
theorem dX7_right_83 : decode cX7_right 83 = .ok (.iload 4, 2) := by decide +kernel
theorem dX7_right_85 : decode cX7_right 85 = .ok (.invokevirtual 180, 3) := by decide +kernel
theorem dX7_right_88 : decode cX7_right 88 = .ok (.ifCond .eq 7, 3) := by decide +kernel
theorem dX7_right_91 : decode cX7_right 91 = .ok (.iconst 1, 1) := by decide +kernel
theorem dX7_right_92 : decode cX7_right 92 = .ok (.goto 4, 3) := by decide +kernel
theorem dX7_right_95 : decode cX7_right 95 = .ok (.iconst 0, 1) := by decide +kernel
theorem dX7_right_96 : decode cX7_right 96 = .ok (.ireturn, 1) := by decide +kernel
theorem dX7_right_97 : decode cX7_right 97 = .ok (.iconst (-1), 1) := by decide +kernel
theorem dX7_right_98 : decode cX7_right 98 = .ok (.ireturn, 1) := by decide +kernel
theorem dX7_state_0 : decode cX7_state 0 = .ok (.aload_n 0, 1) := by decide +kernel
theorem dX7_state_1 : decode cX7_state 1 = .ok (.iload_n 1, 1) := by decide +kernel
theorem dX7_state_2 : decode cX7_state 2 = .ok (.invokevirtual 108, 3) := by decide +kernel
theorem dX7_state_5 : decode cX7_state 5 = .ok (.ifCond .eq 10, 3) := by decide +kernel
theorem dX7_state_8 : decode cX7_state 8 = .ok (.iload_n 2, 1) := by decide +kernel
theorem dX7_state_9 : decode cX7_state 9 = .ok (.invokestatic 200, 3) := by decide +kernel
theorem dX7_state_12 : decode cX7_state 12 = .ok (.ifCond .ne 5, 3) := by decide +kernel
theorem dX7_state_15 : decode cX7_state 15 = .ok (.iconst (-1), 1) := by decide +kernel
theorem dX7_state_16 : decode cX7_state 16 = .ok (.ireturn, 1) := by decide +kernel
theorem dX7_state_17 : decode cX7_state 17 = .ok (.aload_n 0, 1) := by decide +kernel
theorem dX7_state_18 : decode cX7_state 18 = .ok (.iload_n 1, 1) := by decide +kernel
theorem dX7_state_19 : decode cX7_state 19 = .ok (.iload_n 2, 1) := by decide +kernel
theorem dX7_state_20 : decode cX7_state 20 = .ok (.invokevirtual 145, 3) := by decide +kernel
theorem dX7_state_23 : decode cX7_state 23 = .ok (.ifCond .lt 7, 3) := by decide +kernel
theorem dX7_state_26 : decode cX7_state 26 = .ok (.iconst 1, 1) := by decide +kernel
theorem dX7_state_27 : decode cX7_state 27 = .ok (.goto 4, 3) := by decide +kernel
theorem dX7_state_30 : decode cX7_state 30 = .ok (.iconst 0, 1) := by decide +kernel
theorem dX7_state_31 : decode cX7_state 31 = .ok (.istore 4, 2) := by decide +kernel
theorem dX7_state_33 : decode cX7_state 33 = .ok (.iload_n 3, 1) := by decide +kernel
theorem dX7_state_34 : decode cX7_state 34 = .ok (.tableswitch 119 0 5 #[38, 45, 61, 85, 100, 111], 38) := by decide +kernel
theorem dX7_state_72 : decode cX7_state 72 = .ok (.aload_n 0, 1) := by decide +kernel
theorem dX7_state_73 : decode cX7_state 73 = .ok (.iload_n 1, 1) := by decide +kernel
theorem dX7_state_74 : decode cX7_state 74 = .ok (.iload_n 2, 1) := by decide +kernel
theorem dX7_state_75 : decode cX7_state 75 = .ok (.invokevirtual 145, 3) := by decide +kernel
theorem dX7_state_78 : decode cX7_state 78 = .ok (.ireturn, 1) := by decide +kernel
theorem dX7_state_79 : decode cX7_state 79 = .ok (.iload 4, 2) := by decide +kernel
theorem dX7_state_81 : decode cX7_state 81 = .ok (.ifCond .eq 12, 3) := by decide +kernel
theorem dX7_state_84 : decode cX7_state 84 = .ok (.aload_n 0, 1) := by decide +kernel
theorem dX7_state_85 : decode cX7_state 85 = .ok (.iload_n 1, 1) := by decide +kernel
theorem dX7_state_86 : decode cX7_state 86 = .ok (.iload_n 2, 1) := by decide +kernel
theorem dX7_state_87 : decode cX7_state 87 = .ok (.invokevirtual 152, 3) := by decide +kernel
theorem dX7_state_90 : decode cX7_state 90 = .ok (.goto 4, 3) := by decide +kernel
theorem dX7_state_93 : decode cX7_state 93 = .ok (.iconst (-1), 1) := by decide +kernel
theorem dX7_state_94 : decode cX7_state 94 = .ok (.ireturn, 1) := by decide +kernel
theorem dX7_state_95 : decode cX7_state 95 = .ok (.iload 4, 2) := by decide +kernel
theorem dX7_state_97 : decode cX7_state 97 = .ok (.ifCond .ne 7, 3) := by decide +kernel
theorem dX7_state_100 : decode cX7_state 100 = .ok (.iconst (-1), 1) := by decide +kernel
theorem dX7_state_101 : decode cX7_state 101 = .ok (.goto 17, 3) := by decide +kernel
theorem dX7_state_104 : decode cX7_state 104 = .ok (.aload_n 0, 1) := by decide +kernel
theorem dX7_state_105 : decode cX7_state 105 = .ok (.iload_n 1, 1) := by decide +kernel
theorem dX7_state_106 : decode cX7_state 106 = .ok (.iload_n 2, 1) := by decide +kernel
theorem dX7_state_107 : decode cX7_state 107 = .ok (.invokevirtual 161, 3) := by decide +kernel
theorem dX7_state_110 : decode cX7_state 110 = .ok (.ifCond .eq 7, 3) := by decide +kernel
theorem dX7_state_113 : decode cX7_state 113 = .ok (.iconst 1, 1) := by decide +kernel
theorem dX7_state_114 : decode cX7_state 114 = .ok (.goto 4, 3) := by decide +kernel
theorem dX7_state_117 : decode cX7_state 117 = .ok (.iconst 0, 1) := by decide +kernel
theorem dX7_state_118 : decode cX7_state 118 = .ok (.ireturn, 1) := by decide +kernel
theorem dX7_state_119 : decode cX7_state 119 = .ok (.aload_n 0, 1) := by decide +kernel
theorem dX7_state_120 : decode cX7_state 120 = .ok (.iload_n 1, 1) := by decide +kernel
theorem dX7_state_121 : decode cX7_state 121 = .ok (.iload_n 2, 1) := by decide +kernel
theorem dX7_state_122 : decode cX7_state 122 = .ok (.invokevirtual 164, 3) := by decide +kernel
theorem dX7_state_125 : decode cX7_state 125 = .ok (.ifCond .eq 7, 3) := by decide +kernel
theorem dX7_state_128 : decode cX7_state 128 = .ok (.iconst 1, 1) := by decide +kernel
theorem dX7_state_129 : decode cX7_state 129 = .ok (.goto 4, 3) := by decide +kernel
theorem dX7_state_132 : decode cX7_state 132 = .ok (.iconst 0, 1) := by decide +kernel
theorem dX7_state_133 : decode cX7_state 133 = .ok (.ireturn, 1) := by decide +kernel
theorem dX7_state_134 : decode cX7_state 134 = .ok (.aload_n 0, 1) := by decide +kernel
theorem dX7_state_135 : decode cX7_state 135 = .ok (.iload_n 1, 1) := by decide +kernel
theorem dX7_state_136 : decode cX7_state 136 = .ok (.iload_n 2, 1) := by decide +kernel
theorem dX7_state_137 : decode cX7_state 137 = .ok (.aload_n 0, 1) := by decide +kernel
theorem dX7_state_138 : decode cX7_state 138 = .ok (.getfield 70, 3) := by decide +kernel
theorem dX7_state_141 : decode cX7_state 141 = .ok (.invokevirtual 186, 3) := by decide +kernel
theorem dX7_state_144 : decode cX7_state 144 = .ok (.ireturn, 1) := by decide +kernel
theorem dX7_state_145 : decode cX7_state 145 = .ok (.aload_n 0, 1) := by decide +kernel
theorem dX7_state_146 : decode cX7_state 146 = .ok (.iconst 1, 1) := by decide +kernel
theorem dX7_state_147 : decode cX7_state 147 = .ok (.iload_n 1, 1) := by decide +kernel
theorem dX7_state_148 : decode cX7_state 148 = .ok (.iload_n 2, 1) := by decide +kernel
theorem dX7_state_149 : decode cX7_state 149 = .ok (.invokevirtual 148, 3) := by decide +kernel
theorem dX7_state_152 : decode cX7_state 152 = .ok (.ireturn, 1) := by decide +kernel
theorem dX7_state_153 : decode cX7_state 153 = .ok (.iconst (-1), 1) := by decide +kernel
theorem dX7_state_154 : decode cX7_state 154 = .ok (.ireturn, 1) := by decide +kernel
theorem dX7_clash_0 : decode cX7_clash 0 = .ok (.aload_n 0, 1) := by decide +kernel
theorem dX7_clash_1 : decode cX7_clash 1 = .ok (.iload_n 1, 1) := by decide +kernel
theorem dX7_clash_2 : decode cX7_clash 2 = .ok (.invokevirtual 108, 3) := by decide +kernel
theorem dX7_clash_5 : decode cX7_clash 5 = .ok (.ifCond .eq 38, 3) := by decide +kernel
theorem dX7_clash_8 : decode cX7_clash 8 = .ok (.aload_n 0, 1) := by decide +kernel
theorem dX7_clash_9 : decode cX7_clash 9 = .ok (.iload_n 2, 1) := by decide +kernel
theorem dX7_clash_10 : decode cX7_clash 10 = .ok (.invokevirtual 108, 3) := by decide +kernel
theorem dX7_clash_13 : decode cX7_clash 13 = .ok (.ifCond .eq 30, 3) := by decide +kernel
theorem dX7_clash_16 : decode cX7_clash 16 = .ok (.iload_n 3, 1) := by decide +kernel
theorem dX7_clash_17 : decode cX7_clash 17 = .ok (.invokestatic 194, 3) := by decide +kernel
theorem dX7_clash_20 : decode cX7_clash 20 = .ok (.ifCond .eq 23, 3) := by decide +kernel
theorem dX7_clash_23 : decode cX7_clash 23 = .ok (.iload 4, 2) := by decide +kernel
theorem dX7_clash_25 : decode cX7_clash 25 = .ok (.invokestatic 200, 3) := by decide +kernel
theorem dX7_clash_28 : decode cX7_clash 28 = .ok (.ifCond .eq 15, 3) := by decide +kernel
theorem dX7_clash_31 : decode cX7_clash 31 = .ok (.aload_n 0, 1) := by decide +kernel
theorem dX7_clash_32 : decode cX7_clash 32 = .ok (.iload_n 1, 1) := by decide +kernel
theorem dX7_clash_33 : decode cX7_clash 33 = .ok (.iload_n 2, 1) := by decide +kernel
theorem dX7_clash_34 : decode cX7_clash 34 = .ok (.iload_n 3, 1) := by decide +kernel
theorem dX7_clash_35 : decode cX7_clash 35 = .ok (.iload 4, 2) := by decide +kernel
theorem dX7_clash_37 : decode cX7_clash 37 = .ok (.invokevirtual 206, 3) := by decide +kernel
theorem dX7_clash_40 : decode cX7_clash 40 = .ok (.goto 4, 3) := by decide +kernel
theorem dX7_clash_43 : decode cX7_clash 43 = .ok (.iconst (-1), 1) := by decide +kernel
theorem dX7_clash_44 : decode cX7_clash 44 = .ok (.ireturn, 1) := by decide +kernel
theorem dX7_first_0 : decode cX7_first 0 = .ok (.aload_n 0, 1) := by decide +kernel
theorem dX7_first_1 : decode cX7_first 1 = .ok (.iload_n 1, 1) := by decide +kernel
theorem dX7_first_2 : decode cX7_first 2 = .ok (.invokevirtual 108, 3) := by decide +kernel
theorem dX7_first_5 : decode cX7_first 5 = .ok (.ifCond .eq 17, 3) := by decide +kernel
theorem dX7_first_8 : decode cX7_first 8 = .ok (.iload_n 2, 1) := by decide +kernel
theorem dX7_first_9 : decode cX7_first 9 = .ok (.invokestatic 194, 3) := by decide +kernel
theorem dX7_first_12 : decode cX7_first 12 = .ok (.ifCond .eq 10, 3) := by decide +kernel
theorem dX7_first_15 : decode cX7_first 15 = .ok (.iload_n 3, 1) := by decide +kernel
theorem dX7_first_16 : decode cX7_first 16 = .ok (.invokestatic 200, 3) := by decide +kernel
theorem dX7_first_19 : decode cX7_first 19 = .ok (.ifCond .ne 5, 3) := by decide +kernel
theorem dX7_first_22 : decode cX7_first 22 = .ok (.iconst (-1), 1) := by decide +kernel
theorem dX7_first_23 : decode cX7_first 23 = .ok (.ireturn, 1) := by decide +kernel
theorem dX7_first_24 : decode cX7_first 24 = .ok (.iconst (-1), 1) := by decide +kernel
theorem dX7_first_25 : decode cX7_first 25 = .ok (.istore 4, 2) := by decide +kernel
theorem dX7_first_27 : decode cX7_first 27 = .ok (.iconst 0, 1) := by decide +kernel
theorem dX7_first_28 : decode cX7_first 28 = .ok (.istore 5, 2) := by decide +kernel
theorem dX7_first_30 : decode cX7_first 30 = .ok (.iconst 0, 1) := by decide +kernel
theorem dX7_first_31 : decode cX7_first 31 = .ok (.istore 6, 2) := by decide +kernel
theorem dX7_first_33 : decode cX7_first 33 = .ok (.iload 6, 2) := by decide +kernel
theorem dX7_first_35 : decode cX7_first 35 = .ok (.aload_n 0, 1) := by decide +kernel
theorem dX7_first_36 : decode cX7_first 36 = .ok (.getfield 83, 3) := by decide +kernel
theorem dX7_first_39 : decode cX7_first 39 = .ok (.if_icmp .ge 45, 3) := by decide +kernel
theorem dX7_first_42 : decode cX7_first 42 = .ok (.aload_n 0, 1) := by decide +kernel
theorem dX7_first_43 : decode cX7_first 43 = .ok (.iload 6, 2) := by decide +kernel
theorem dX7_first_45 : decode cX7_first 45 = .ok (.iload_n 1, 1) := by decide +kernel
theorem dX7_first_46 : decode cX7_first 46 = .ok (.iload_n 2, 1) := by decide +kernel
theorem dX7_first_47 : decode cX7_first 47 = .ok (.iload_n 3, 1) := by decide +kernel
theorem dX7_first_48 : decode cX7_first 48 = .ok (.invokevirtual 212, 3) := by decide +kernel
theorem dX7_first_51 : decode cX7_first 51 = .ok (.istore 7, 2) := by decide +kernel
theorem dX7_first_53 : decode cX7_first 53 = .ok (.iload 7, 2) := by decide +kernel
theorem dX7_first_55 : decode cX7_first 55 = .ok (.ifCond .lt 23, 3) := by decide +kernel
theorem dX7_first_58 : decode cX7_first 58 = .ok (.iload 4, 2) := by decide +kernel
theorem dX7_first_60 : decode cX7_first 60 = .ok (.ifCond .lt 10, 3) := by decide +kernel
theorem dX7_first_63 : decode cX7_first 63 = .ok (.iload 7, 2) := by decide +kernel
theorem dX7_first_65 : decode cX7_first 65 = .ok (.iload 5, 2) := by decide +kernel
theorem dX7_first_67 : decode cX7_first 67 = .ok (.if_icmp .ge 11, 3) := by decide +kernel
theorem dX7_first_70 : decode cX7_first 70 = .ok (.iload 6, 2) := by decide +kernel
theorem dX7_first_72 : decode cX7_first 72 = .ok (.istore 4, 2) := by decide +kernel
theorem dX7_first_74 : decode cX7_first 74 = .ok (.iload 7, 2) := by decide +kernel
theorem dX7_first_76 : decode cX7_first 76 = .ok (.istore 5, 2) := by decide +kernel
theorem dX7_first_78 : decode cX7_first 78 = .ok (.iinc 6 1, 3) := by decide +kernel
theorem dX7_first_81 : decode cX7_first 81 = .ok (.goto (-48), 3) := by decide +kernel
theorem dX7_first_84 : decode cX7_first 84 = .ok (.iload 4, 2) := by decide +kernel
theorem dX7_first_86 : decode cX7_first 86 = .ok (.ireturn, 1) := by decide +kernel
theorem dX7_nearRight_0 : decode cX7_nearRight 0 = .ok (.iconst (-1), 1) := by decide +kernel
theorem dX7_nearRight_1 : decode cX7_nearRight 1 = .ok (.istore 5, 2) := by decide +kernel
theorem dX7_nearRight_3 : decode cX7_nearRight 3 = .ok (.aload_n 0, 1) := by decide +kernel
theorem dX7_nearRight_4 : decode cX7_nearRight 4 = .ok (.iload_n 1, 1) := by decide +kernel
theorem dX7_nearRight_5 : decode cX7_nearRight 5 = .ok (.iload 4, 2) := by decide +kernel
theorem dX7_nearRight_7 : decode cX7_nearRight 7 = .ok (.aload_n 0, 1) := by decide +kernel
theorem dX7_nearRight_8 : decode cX7_nearRight 8 = .ok (.getfield 70, 3) := by decide +kernel
theorem dX7_nearRight_11 : decode cX7_nearRight 11 = .ok (.invokevirtual 186, 3) := by decide +kernel
theorem dX7_nearRight_14 : decode cX7_nearRight 14 = .ok (.istore 6, 2) := by decide +kernel
theorem dX7_nearRight_16 : decode cX7_nearRight 16 = .ok (.iconst 0, 1) := by decide +kernel
theorem dX7_nearRight_17 : decode cX7_nearRight 17 = .ok (.istore 7, 2) := by decide +kernel
theorem dX7_nearRight_19 : decode cX7_nearRight 19 = .ok (.iload 7, 2) := by decide +kernel
theorem dX7_nearRight_21 : decode cX7_nearRight 21 = .ok (.iload 6, 2) := by decide +kernel
theorem dX7_nearRight_23 : decode cX7_nearRight 23 = .ok (.if_icmp .ge 83, 3) := by decide +kernel
theorem dX7_nearRight_26 : decode cX7_nearRight 26 = .ok (.aload_n 0, 1) := by decide +kernel
theorem dX7_nearRight_27 : decode cX7_nearRight 27 = .ok (.iload_n 1, 1) := by decide +kernel
theorem dX7_nearRight_28 : decode cX7_nearRight 28 = .ok (.aload_n 0, 1) := by decide +kernel
theorem dX7_nearRight_29 : decode cX7_nearRight 29 = .ok (.getfield 70, 3) := by decide +kernel
theorem dX7_nearRight_32 : decode cX7_nearRight 32 = .ok (.iload 7, 2) := by decide +kernel
theorem dX7_nearRight_34 : decode cX7_nearRight 34 = .ok (.iaload, 1) := by decide +kernel
theorem dX7_nearRight_35 : decode cX7_nearRight 35 = .ok (.iload_n 2, 1) := by decide +kernel
theorem dX7_nearRight_36 : decode cX7_nearRight 36 = .ok (.iload 4, 2) := by decide +kernel
theorem dX7_nearRight_38 : decode cX7_nearRight 38 = .ok (.invokevirtual 176, 3) := by decide +kernel
theorem dX7_nearRight_41 : decode cX7_nearRight 41 = .ok (.ifCond .eq 59, 3) := by decide +kernel
theorem dX7_nearRight_44 : decode cX7_nearRight 44 = .ok (.aload_n 0, 1) := by decide +kernel
theorem dX7_nearRight_45 : decode cX7_nearRight 45 = .ok (.iload_n 1, 1) := by decide +kernel
theorem dX7_nearRight_46 : decode cX7_nearRight 46 = .ok (.aload_n 0, 1) := by decide +kernel
theorem dX7_nearRight_47 : decode cX7_nearRight 47 = .ok (.getfield 70, 3) := by decide +kernel
theorem dX7_nearRight_50 : decode cX7_nearRight 50 = .ok (.iload 7, 2) := by decide +kernel
theorem dX7_nearRight_52 : decode cX7_nearRight 52 = .ok (.iaload, 1) := by decide +kernel
theorem dX7_nearRight_53 : decode cX7_nearRight 53 = .ok (.iload_n 3, 1) := by decide +kernel
theorem dX7_nearRight_54 : decode cX7_nearRight 54 = .ok (.iload 4, 2) := by decide +kernel
theorem dX7_nearRight_56 : decode cX7_nearRight 56 = .ok (.invokevirtual 180, 3) := by decide +kernel
theorem dX7_nearRight_59 : decode cX7_nearRight 59 = .ok (.ifCond .eq 41, 3) := by decide +kernel
theorem dX7_nearRight_62 : decode cX7_nearRight 62 = .ok (.aload_n 0, 1) := by decide +kernel
theorem dX7_nearRight_63 : decode cX7_nearRight 63 = .ok (.iload_n 1, 1) := by decide +kernel
theorem dX7_nearRight_64 : decode cX7_nearRight 64 = .ok (.aload_n 0, 1) := by decide +kernel
theorem dX7_nearRight_65 : decode cX7_nearRight 65 = .ok (.getfield 70, 3) := by decide +kernel
theorem dX7_nearRight_68 : decode cX7_nearRight 68 = .ok (.iload 7, 2) := by decide +kernel
theorem dX7_nearRight_70 : decode cX7_nearRight 70 = .ok (.iaload, 1) := by decide +kernel
theorem dX7_nearRight_71 : decode cX7_nearRight 71 = .ok (.iload_n 3, 1) := by decide +kernel
theorem dX7_nearRight_72 : decode cX7_nearRight 72 = .ok (.iload 4, 2) := by decide +kernel
theorem dX7_nearRight_74 : decode cX7_nearRight 74 = .ok (.invokevirtual 158, 3) := by decide +kernel
theorem dX7_nearRight_77 : decode cX7_nearRight 77 = .ok (.istore 8, 2) := by decide +kernel
theorem dX7_nearRight_79 : decode cX7_nearRight 79 = .ok (.iload 5, 2) := by decide +kernel
theorem dX7_nearRight_81 : decode cX7_nearRight 81 = .ok (.ifCond .lt 10, 3) := by decide +kernel
theorem dX7_nearRight_84 : decode cX7_nearRight 84 = .ok (.iload 8, 2) := by decide +kernel
theorem dX7_nearRight_86 : decode cX7_nearRight 86 = .ok (.iload 5, 2) := by decide +kernel
theorem dX7_nearRight_88 : decode cX7_nearRight 88 = .ok (.if_icmp .ge 8, 3) := by decide +kernel
theorem dX7_nearRight_91 : decode cX7_nearRight 91 = .ok (.iload 8, 2) := by decide +kernel
theorem dX7_nearRight_93 : decode cX7_nearRight 93 = .ok (.goto 5, 3) := by decide +kernel
theorem dX7_nearRight_96 : decode cX7_nearRight 96 = .ok (.iload 5, 2) := by decide +kernel
theorem dX7_nearRight_98 : decode cX7_nearRight 98 = .ok (.istore 5, 2) := by decide +kernel
theorem dX7_nearRight_100 : decode cX7_nearRight 100 = .ok (.iinc 7 1, 3) := by decide +kernel
theorem dX7_nearRight_103 : decode cX7_nearRight 103 = .ok (.goto (-84), 3) := by decide +kernel
theorem dX7_nearRight_106 : decode cX7_nearRight 106 = .ok (.iload 5, 2) := by decide +kernel
theorem dX7_nearRight_108 : decode cX7_nearRight 108 = .ok (.ireturn, 1) := by decide +kernel
theorem dX7_may_0 : decode cX7_may 0 = .ok (.iload_n 1, 1) := by decide +kernel
theorem dX7_may_1 : decode cX7_may 1 = .ok (.invokestatic 102, 3) := by decide +kernel
theorem dX7_may_4 : decode cX7_may 4 = .ok (.ifCond .eq 34, 3) := by decide +kernel
theorem dX7_may_7 : decode cX7_may 7 = .ok (.aload_n 0, 1) := by decide +kernel
theorem dX7_may_8 : decode cX7_may 8 = .ok (.iload_n 2, 1) := by decide +kernel
theorem dX7_may_9 : decode cX7_may 9 = .ok (.invokevirtual 108, 3) := by decide +kernel
theorem dX7_may_12 : decode cX7_may 12 = .ok (.ifCond .eq 26, 3) := by decide +kernel
theorem dX7_may_15 : decode cX7_may 15 = .ok (.iload_n 3, 1) := by decide +kernel
theorem dX7_may_16 : decode cX7_may 16 = .ok (.invokestatic 94, 3) := by decide +kernel
theorem dX7_may_19 : decode cX7_may 19 = .ok (.ifCond .eq 19, 3) := by decide +kernel
theorem dX7_may_22 : decode cX7_may 22 = .ok (.iload 4, 2) := by decide +kernel
theorem dX7_may_24 : decode cX7_may 24 = .ok (.invokestatic 194, 3) := by decide +kernel
theorem dX7_may_27 : decode cX7_may 27 = .ok (.ifCond .eq 11, 3) := by decide +kernel
theorem dX7_may_30 : decode cX7_may 30 = .ok (.iload 5, 2) := by decide +kernel
theorem dX7_may_32 : decode cX7_may 32 = .ok (.invokestatic 200, 3) := by decide +kernel
theorem dX7_may_35 : decode cX7_may 35 = .ok (.ifCond .ne 5, 3) := by decide +kernel
theorem dX7_may_38 : decode cX7_may 38 = .ok (.iconst (-1), 1) := by decide +kernel
theorem dX7_may_39 : decode cX7_may 39 = .ok (.ireturn, 1) := by decide +kernel
theorem dX7_may_40 : decode cX7_may 40 = .ok (.iconst (-1), 1) := by decide +kernel
theorem dX7_may_41 : decode cX7_may 41 = .ok (.istore 6, 2) := by decide +kernel
theorem dX7_may_43 : decode cX7_may 43 = .ok (.iconst 0, 1) := by decide +kernel
theorem dX7_may_44 : decode cX7_may 44 = .ok (.istore 7, 2) := by decide +kernel
theorem dX7_may_46 : decode cX7_may 46 = .ok (.iconst 0, 1) := by decide +kernel
theorem dX7_may_47 : decode cX7_may 47 = .ok (.istore 8, 2) := by decide +kernel
theorem dX7_may_49 : decode cX7_may 49 = .ok (.iconst 0, 1) := by decide +kernel
theorem dX7_may_50 : decode cX7_may 50 = .ok (.istore 9, 2) := by decide +kernel
theorem dX7_may_52 : decode cX7_may 52 = .ok (.iconst 0, 1) := by decide +kernel
theorem dX7_may_53 : decode cX7_may 53 = .ok (.istore 10, 2) := by decide +kernel
theorem dX7_may_55 : decode cX7_may 55 = .ok (.iconst 0, 1) := by decide +kernel
theorem dX7_may_56 : decode cX7_may 56 = .ok (.istore 11, 2) := by decide +kernel
theorem dX7_may_58 : decode cX7_may 58 = .ok (.iload 11, 2) := by decide +kernel
theorem dX7_may_60 : decode cX7_may 60 = .ok (.aload_n 0, 1) := by decide +kernel
theorem dX7_may_61 : decode cX7_may 61 = .ok (.getfield 83, 3) := by decide +kernel
theorem dX7_may_64 : decode cX7_may 64 = .ok (.if_icmp .ge 136, 3) := by decide +kernel
theorem dX7_may_67 : decode cX7_may 67 = .ok (.iload 11, 2) := by decide +kernel
theorem dX7_may_69 : decode cX7_may 69 = .ok (.iload_n 2, 1) := by decide +kernel
theorem dX7_may_70 : decode cX7_may 70 = .ok (.if_icmp .eq 13, 3) := by decide +kernel
theorem dX7_may_73 : decode cX7_may 73 = .ok (.aload_n 0, 1) := by decide +kernel
theorem dX7_may_74 : decode cX7_may 74 = .ok (.iload 11, 2) := by decide +kernel
theorem dX7_may_76 : decode cX7_may 76 = .ok (.iload_n 2, 1) := by decide +kernel
theorem dX7_may_77 : decode cX7_may 77 = .ok (.invokevirtual 173, 3) := by decide +kernel
theorem dX7_may_80 : decode cX7_may 80 = .ok (.ifCond .eq 17, 3) := by decide +kernel
theorem dX7_may_83 : decode cX7_may 83 = .ok (.aload_n 0, 1) := by decide +kernel
theorem dX7_may_84 : decode cX7_may 84 = .ok (.iload 11, 2) := by decide +kernel
theorem dX7_may_86 : decode cX7_may 86 = .ok (.iload_n 3, 1) := by decide +kernel
theorem dX7_may_87 : decode cX7_may 87 = .ok (.iload 4, 2) := by decide +kernel
theorem dX7_may_89 : decode cX7_may 89 = .ok (.iload 5, 2) := by decide +kernel
theorem dX7_may_91 : decode cX7_may 91 = .ok (.invokevirtual 215, 3) := by decide +kernel
theorem dX7_may_94 : decode cX7_may 94 = .ok (.goto 4, 3) := by decide +kernel
theorem dX7_may_97 : decode cX7_may 97 = .ok (.iconst (-1), 1) := by decide +kernel
theorem dX7_may_98 : decode cX7_may 98 = .ok (.istore 12, 2) := by decide +kernel
theorem dX7_may_100 : decode cX7_may 100 = .ok (.iload 12, 2) := by decide +kernel
theorem dX7_may_102 : decode cX7_may 102 = .ok (.ifCond .ge 6, 3) := by decide +kernel
theorem dX7_may_105 : decode cX7_may 105 = .ok (.goto 89, 3) := by decide +kernel
theorem dX7_may_108 : decode cX7_may 108 = .ok (.aload_n 0, 1) := by decide +kernel
theorem dX7_may_109 : decode cX7_may 109 = .ok (.getfield 34, 3) := by decide +kernel
theorem dX7_may_112 : decode cX7_may 112 = .ok (.iload 11, 2) := by decide +kernel
theorem dX7_may_114 : decode cX7_may 114 = .ok (.iaload, 1) := by decide +kernel
theorem dX7_may_115 : decode cX7_may 115 = .ok (.iload_n 1, 1) := by decide +kernel
theorem dX7_may_116 : decode cX7_may 116 = .ok (.if_icmp .ne 9, 3) := by decide +kernel
theorem dX7_may_119 : decode cX7_may 119 = .ok (.iconst 1, 1) := by decide +kernel
theorem dX7_may_120 : decode cX7_may 120 = .ok (.istore 8, 2) := by decide +kernel
theorem dX7_may_122 : decode cX7_may 122 = .ok (.goto 72, 3) := by decide +kernel
theorem dX7_may_125 : decode cX7_may 125 = .ok (.aload_n 0, 1) := by decide +kernel
theorem dX7_may_126 : decode cX7_may 126 = .ok (.iload 11, 2) := by decide +kernel
theorem dX7_may_128 : decode cX7_may 128 = .ok (.iload_n 1, 1) := by decide +kernel
theorem dX7_may_129 : decode cX7_may 129 = .ok (.iload 5, 2) := by decide +kernel
theorem dX7_may_131 : decode cX7_may 131 = .ok (.invokevirtual 170, 3) := by decide +kernel
theorem dX7_may_134 : decode cX7_may 134 = .ok (.ifCond .eq 9, 3) := by decide +kernel
theorem dX7_may_137 : decode cX7_may 137 = .ok (.iconst 1, 1) := by decide +kernel
theorem dX7_may_138 : decode cX7_may 138 = .ok (.istore 9, 2) := by decide +kernel
theorem dX7_may_140 : decode cX7_may 140 = .ok (.goto 54, 3) := by decide +kernel
theorem dX7_may_143 : decode cX7_may 143 = .ok (.aload_n 0, 1) := by decide +kernel
theorem dX7_may_144 : decode cX7_may 144 = .ok (.getfield 31, 3) := by decide +kernel
theorem dX7_may_147 : decode cX7_may 147 = .ok (.iload 11, 2) := by decide +kernel
theorem dX7_may_149 : decode cX7_may 149 = .ok (.iaload, 1) := by decide +kernel
theorem dX7_may_150 : decode cX7_may 150 = .ok (.iconst 3, 1) := by decide +kernel
theorem dX7_may_151 : decode cX7_may 151 = .ok (.if_icmp .ne 23, 3) := by decide +kernel
theorem dX7_may_154 : decode cX7_may 154 = .ok (.aload_n 0, 1) := by decide +kernel
theorem dX7_may_155 : decode cX7_may 155 = .ok (.bipush 8, 2) := by decide +kernel
theorem dX7_may_157 : decode cX7_may 157 = .ok (.iload 11, 2) := by decide +kernel
theorem dX7_may_159 : decode cX7_may 159 = .ok (.iload_n 1, 1) := by decide +kernel
theorem dX7_may_160 : decode cX7_may 160 = .ok (.iload 5, 2) := by decide +kernel
theorem dX7_may_162 : decode cX7_may 162 = .ok (.invokevirtual 138, 3) := by decide +kernel
theorem dX7_may_165 : decode cX7_may 165 = .ok (.ifCond .lt 9, 3) := by decide +kernel
theorem dX7_may_168 : decode cX7_may 168 = .ok (.iconst 1, 1) := by decide +kernel
theorem dX7_may_169 : decode cX7_may 169 = .ok (.istore 10, 2) := by decide +kernel
theorem dX7_may_171 : decode cX7_may 171 = .ok (.goto 23, 3) := by decide +kernel
theorem dX7_may_174 : decode cX7_may 174 = .ok (.iload 6, 2) := by decide +kernel
theorem dX7_may_176 : decode cX7_may 176 = .ok (.ifCond .lt 10, 3) := by decide +kernel
theorem dX7_may_179 : decode cX7_may 179 = .ok (.iload 12, 2) := by decide +kernel
theorem dX7_may_181 : decode cX7_may 181 = .ok (.iload 7, 2) := by decide +kernel
theorem dX7_may_183 : decode cX7_may 183 = .ok (.if_icmp .ge 11, 3) := by decide +kernel
theorem dX7_may_186 : decode cX7_may 186 = .ok (.iload 11, 2) := by decide +kernel
theorem dX7_may_188 : decode cX7_may 188 = .ok (.istore 6, 2) := by decide +kernel
theorem dX7_may_190 : decode cX7_may 190 = .ok (.iload 12, 2) := by decide +kernel
theorem dX7_may_192 : decode cX7_may 192 = .ok (.istore 7, 2) := by decide +kernel
theorem dX7_may_194 : decode cX7_may 194 = .ok (.iinc 11 1, 3) := by decide +kernel
theorem dX7_may_197 : decode cX7_may 197 = .ok (.goto (-139), 3) := by decide +kernel
theorem dX7_may_200 : decode cX7_may 200 = .ok (.iload 6, 2) := by decide +kernel
theorem dX7_may_202 : decode cX7_may 202 = .ok (.ifCond .lt 11, 3) := by decide +kernel
theorem dX7_may_205 : decode cX7_may 205 = .ok (.bipush 10, 2) := by decide +kernel
theorem dX7_may_207 : decode cX7_may 207 = .ok (.iload 6, 2) := by decide +kernel
theorem dX7_may_209 : decode cX7_may 209 = .ok (.iadd, 1) := by decide +kernel
theorem dX7_may_210 : decode cX7_may 210 = .ok (.goto 31, 3) := by decide +kernel
theorem dX7_may_213 : decode cX7_may 213 = .ok (.iload 8, 2) := by decide +kernel
theorem dX7_may_215 : decode cX7_may 215 = .ok (.ifCond .eq 7, 3) := by decide +kernel
theorem dX7_may_218 : decode cX7_may 218 = .ok (.iconst 1, 1) := by decide +kernel
theorem dX7_may_219 : decode cX7_may 219 = .ok (.goto 22, 3) := by decide +kernel
theorem dX7_may_222 : decode cX7_may 222 = .ok (.iload 9, 2) := by decide +kernel
theorem dX7_may_224 : decode cX7_may 224 = .ok (.ifCond .eq 7, 3) := by decide +kernel
theorem dX7_may_227 : decode cX7_may 227 = .ok (.iconst 2, 1) := by decide +kernel
theorem dX7_may_228 : decode cX7_may 228 = .ok (.goto 13, 3) := by decide +kernel
theorem dX7_may_231 : decode cX7_may 231 = .ok (.iload 10, 2) := by decide +kernel
theorem dX7_may_233 : decode cX7_may 233 = .ok (.ifCond .eq 7, 3) := by decide +kernel
theorem dX7_may_236 : decode cX7_may 236 = .ok (.iconst 3, 1) := by decide +kernel
theorem dX7_may_237 : decode cX7_may 237 = .ok (.goto 4, 3) := by decide +kernel
theorem dX7_may_240 : decode cX7_may 240 = .ok (.iconst 0, 1) := by decide +kernel
theorem dX7_may_241 : decode cX7_may 241 = .ok (.ireturn, 1) := by decide +kernel
theorem dX7_watch_0 : decode cX7_watch 0 = .ok (.aload_n 0, 1) := by decide +kernel
theorem dX7_watch_1 : decode cX7_watch 1 = .ok (.getfield 105, 3) := by decide +kernel
theorem dX7_watch_4 : decode cX7_watch 4 = .ok (.iconst 1, 1) := by decide +kernel
theorem dX7_watch_5 : decode cX7_watch 5 = .ok (.isub, 1) := by decide +kernel
theorem dX7_watch_6 : decode cX7_watch 6 = .ok (.istore_n 2, 1) := by decide +kernel
theorem dX7_watch_7 : decode cX7_watch 7 = .ok (.iload_n 2, 1) := by decide +kernel
theorem dX7_watch_8 : decode cX7_watch 8 = .ok (.ifCond .lt 19, 3) := by decide +kernel
theorem dX7_watch_11 : decode cX7_watch 11 = .ok (.aload_n 0, 1) := by decide +kernel
theorem dX7_watch_12 : decode cX7_watch 12 = .ok (.getfield 49, 3) := by decide +kernel
theorem dX7_watch_15 : decode cX7_watch 15 = .ok (.iload_n 2, 1) := by decide +kernel
theorem dX7_watch_16 : decode cX7_watch 16 = .ok (.iaload, 1) := by decide +kernel
theorem dX7_watch_17 : decode cX7_watch 17 = .ok (.iconst 1, 1) := by decide +kernel
theorem dX7_watch_18 : decode cX7_watch 18 = .ok (.if_icmp .eq 9, 3) := by decide +kernel
theorem dX7_watch_21 : decode cX7_watch 21 = .ok (.iinc 2 (-1), 3) := by decide +kernel
theorem dX7_watch_24 : decode cX7_watch 24 = .ok (.goto (-17), 3) := by decide +kernel
theorem dX7_watch_27 : decode cX7_watch 27 = .ok (.iload_n 2, 1) := by decide +kernel
theorem dX7_watch_28 : decode cX7_watch 28 = .ok (.ifCond .lt 7, 3) := by decide +kernel
theorem dX7_watch_31 : decode cX7_watch 31 = .ok (.iload_n 1, 1) := by decide +kernel
theorem dX7_watch_32 : decode cX7_watch 32 = .ok (.ifCond .ge 5, 3) := by decide +kernel
theorem dX7_watch_35 : decode cX7_watch 35 = .ok (.iconst (-1), 1) := by decide +kernel
theorem dX7_watch_36 : decode cX7_watch 36 = .ok (.ireturn, 1) := by decide +kernel
theorem dX7_watch_37 : decode cX7_watch 37 = .ok (.aload_n 0, 1) := by decide +kernel
theorem dX7_watch_38 : decode cX7_watch 38 = .ok (.getfield 52, 3) := by decide +kernel
theorem dX7_watch_41 : decode cX7_watch 41 = .ok (.iload_n 2, 1) := by decide +kernel
theorem dX7_watch_42 : decode cX7_watch 42 = .ok (.iaload, 1) := by decide +kernel
theorem dX7_watch_43 : decode cX7_watch 43 = .ok (.istore_n 3, 1) := by decide +kernel
theorem dX7_watch_44 : decode cX7_watch 44 = .ok (.iconst 0, 1) := by decide +kernel
theorem dX7_watch_45 : decode cX7_watch 45 = .ok (.istore 4, 2) := by decide +kernel
theorem dX7_watch_47 : decode cX7_watch 47 = .ok (.iconst 0, 1) := by decide +kernel
theorem dX7_watch_48 : decode cX7_watch 48 = .ok (.istore 5, 2) := by decide +kernel
theorem dX7_watch_50 : decode cX7_watch 50 = .ok (.iload 5, 2) := by decide +kernel
theorem dX7_watch_52 : decode cX7_watch 52 = .ok (.aload_n 0, 1) := by decide +kernel
theorem dX7_watch_53 : decode cX7_watch 53 = .ok (.getfield 83, 3) := by decide +kernel
theorem dX7_watch_56 : decode cX7_watch 56 = .ok (.if_icmp .ge 72, 3) := by decide +kernel
theorem dX7_watch_59 : decode cX7_watch 59 = .ok (.aload_n 0, 1) := by decide +kernel
theorem dX7_watch_60 : decode cX7_watch 60 = .ok (.getfield 34, 3) := by decide +kernel
theorem dX7_watch_63 : decode cX7_watch 63 = .ok (.iload 5, 2) := by decide +kernel
theorem dX7_watch_65 : decode cX7_watch 65 = .ok (.iaload, 1) := by decide +kernel
theorem dX7_watch_66 : decode cX7_watch 66 = .ok (.aload_n 0, 1) := by decide +kernel
theorem dX7_watch_67 : decode cX7_watch 67 = .ok (.getfield 34, 3) := by decide +kernel
theorem dX7_watch_70 : decode cX7_watch 70 = .ok (.iload_n 3, 1) := by decide +kernel
theorem dX7_watch_71 : decode cX7_watch 71 = .ok (.iaload, 1) := by decide +kernel
theorem dX7_watch_72 : decode cX7_watch 72 = .ok (.if_icmp .eq 50, 3) := by decide +kernel
theorem dX7_watch_75 : decode cX7_watch 75 = .ok (.aload_n 0, 1) := by decide +kernel
theorem dX7_watch_76 : decode cX7_watch 76 = .ok (.iload 5, 2) := by decide +kernel
theorem dX7_watch_78 : decode cX7_watch 78 = .ok (.iload_n 3, 1) := by decide +kernel
theorem dX7_watch_79 : decode cX7_watch 79 = .ok (.invokevirtual 173, 3) := by decide +kernel
theorem dX7_watch_82 : decode cX7_watch 82 = .ok (.ifCond .eq 40, 3) := by decide +kernel
theorem dX7_watch_85 : decode cX7_watch 85 = .ok (.aload_n 0, 1) := by decide +kernel
theorem dX7_watch_86 : decode cX7_watch 86 = .ok (.iload 5, 2) := by decide +kernel
theorem dX7_watch_88 : decode cX7_watch 88 = .ok (.iload_n 3, 1) := by decide +kernel
theorem dX7_watch_89 : decode cX7_watch 89 = .ok (.aload_n 0, 1) := by decide +kernel
theorem dX7_watch_90 : decode cX7_watch 90 = .ok (.getfield 55, 3) := by decide +kernel
theorem dX7_watch_93 : decode cX7_watch 93 = .ok (.iload_n 2, 1) := by decide +kernel
theorem dX7_watch_94 : decode cX7_watch 94 = .ok (.iaload, 1) := by decide +kernel
theorem dX7_watch_95 : decode cX7_watch 95 = .ok (.aload_n 0, 1) := by decide +kernel
theorem dX7_watch_96 : decode cX7_watch 96 = .ok (.getfield 58, 3) := by decide +kernel
theorem dX7_watch_99 : decode cX7_watch 99 = .ok (.iload_n 2, 1) := by decide +kernel
theorem dX7_watch_100 : decode cX7_watch 100 = .ok (.iaload, 1) := by decide +kernel
theorem dX7_watch_101 : decode cX7_watch 101 = .ok (.invokevirtual 218, 3) := by decide +kernel
theorem dX7_watch_104 : decode cX7_watch 104 = .ok (.ifCond .ne 6, 3) := by decide +kernel
theorem dX7_watch_107 : decode cX7_watch 107 = .ok (.goto 15, 3) := by decide +kernel
theorem dX7_watch_110 : decode cX7_watch 110 = .ok (.iload 4, 2) := by decide +kernel
theorem dX7_watch_112 : decode cX7_watch 112 = .ok (.iload_n 1, 1) := by decide +kernel
theorem dX7_watch_113 : decode cX7_watch 113 = .ok (.if_icmp .ne 6, 3) := by decide +kernel
theorem dX7_watch_116 : decode cX7_watch 116 = .ok (.iload 5, 2) := by decide +kernel
theorem dX7_watch_118 : decode cX7_watch 118 = .ok (.ireturn, 1) := by decide +kernel
theorem dX7_watch_119 : decode cX7_watch 119 = .ok (.iinc 4 1, 3) := by decide +kernel
theorem dX7_watch_122 : decode cX7_watch 122 = .ok (.iinc 5 1, 3) := by decide +kernel
theorem dX7_watch_125 : decode cX7_watch 125 = .ok (.goto (-75), 3) := by decide +kernel
theorem dX7_watch_128 : decode cX7_watch 128 = .ok (.iconst (-1), 1) := by decide +kernel
theorem dX7_watch_129 : decode cX7_watch 129 = .ok (.ireturn, 1) := by decide +kernel
theorem dX7_comesNear_0 : decode cX7_comesNear 0 = .ok (.aload_n 0, 1) := by decide +kernel
theorem dX7_comesNear_1 : decode cX7_comesNear 1 = .ok (.iload_n 2, 1) := by decide +kernel
theorem dX7_comesNear_2 : decode cX7_comesNear 2 = .ok (.iload 4, 2) := by decide +kernel
theorem dX7_comesNear_4 : decode cX7_comesNear 4 = .ok (.aload_n 0, 1) := by decide +kernel
theorem dX7_comesNear_5 : decode cX7_comesNear 5 = .ok (.getfield 73, 3) := by decide +kernel
theorem dX7_comesNear_8 : decode cX7_comesNear 8 = .ok (.invokevirtual 186, 3) := by decide +kernel
theorem dX7_comesNear_11 : decode cX7_comesNear 11 = .ok (.istore 5, 2) := by decide +kernel
theorem dX7_comesNear_13 : decode cX7_comesNear 13 = .ok (.iconst 0, 1) := by decide +kernel
theorem dX7_comesNear_14 : decode cX7_comesNear 14 = .ok (.istore 6, 2) := by decide +kernel
theorem dX7_comesNear_16 : decode cX7_comesNear 16 = .ok (.iconst 0, 1) := by decide +kernel
theorem dX7_comesNear_17 : decode cX7_comesNear 17 = .ok (.istore 7, 2) := by decide +kernel
theorem dX7_comesNear_19 : decode cX7_comesNear 19 = .ok (.iload 7, 2) := by decide +kernel
theorem dX7_comesNear_21 : decode cX7_comesNear 21 = .ok (.iload 5, 2) := by decide +kernel
theorem dX7_comesNear_23 : decode cX7_comesNear 23 = .ok (.if_icmp .ge 39, 3) := by decide +kernel
theorem dX7_comesNear_26 : decode cX7_comesNear 26 = .ok (.iload 6, 2) := by decide +kernel
theorem dX7_comesNear_28 : decode cX7_comesNear 28 = .ok (.ifCond .ne 34, 3) := by decide +kernel
theorem dX7_comesNear_31 : decode cX7_comesNear 31 = .ok (.aload_n 0, 1) := by decide +kernel
theorem dX7_comesNear_32 : decode cX7_comesNear 32 = .ok (.iload_n 1, 1) := by decide +kernel
theorem dX7_comesNear_33 : decode cX7_comesNear 33 = .ok (.aload_n 0, 1) := by decide +kernel
theorem dX7_comesNear_34 : decode cX7_comesNear 34 = .ok (.getfield 73, 3) := by decide +kernel
theorem dX7_comesNear_37 : decode cX7_comesNear 37 = .ok (.iload 7, 2) := by decide +kernel
theorem dX7_comesNear_39 : decode cX7_comesNear 39 = .ok (.iaload, 1) := by decide +kernel
theorem dX7_comesNear_40 : decode cX7_comesNear 40 = .ok (.iload_n 3, 1) := by decide +kernel
theorem dX7_comesNear_41 : decode cX7_comesNear 41 = .ok (.iload 4, 2) := by decide +kernel
theorem dX7_comesNear_43 : decode cX7_comesNear 43 = .ok (.invokevirtual 215, 3) := by decide +kernel
theorem dX7_comesNear_46 : decode cX7_comesNear 46 = .ok (.ifCond .lt 7, 3) := by decide +kernel
theorem dX7_comesNear_49 : decode cX7_comesNear 49 = .ok (.iconst 1, 1) := by decide +kernel
theorem dX7_comesNear_50 : decode cX7_comesNear 50 = .ok (.goto 4, 3) := by decide +kernel
theorem dX7_comesNear_53 : decode cX7_comesNear 53 = .ok (.iconst 0, 1) := by decide +kernel
theorem dX7_comesNear_54 : decode cX7_comesNear 54 = .ok (.istore 6, 2) := by decide +kernel
theorem dX7_comesNear_56 : decode cX7_comesNear 56 = .ok (.iinc 7 1, 3) := by decide +kernel
theorem dX7_comesNear_59 : decode cX7_comesNear 59 = .ok (.goto (-40), 3) := by decide +kernel
theorem dX7_comesNear_62 : decode cX7_comesNear 62 = .ok (.iload 6, 2) := by decide +kernel
theorem dX7_comesNear_64 : decode cX7_comesNear 64 = .ok (.ireturn, 1) := by decide +kernel
theorem dX7_about_0 : decode cX7_about 0 = .ok (.iload_n 1, 1) := by decide +kernel
theorem dX7_about_1 : decode cX7_about 1 = .ok (.tableswitch 87 0 5 #[39, 44, 49, 72, 77, 82], 39) := by decide +kernel
theorem dX7_about_40 : decode cX7_about 40 = .ok (.aload_n 0, 1) := by decide +kernel
theorem dX7_about_41 : decode cX7_about 41 = .ok (.getfield 83, 3) := by decide +kernel
theorem dX7_about_44 : decode cX7_about 44 = .ok (.ireturn, 1) := by decide +kernel
theorem dX7_about_45 : decode cX7_about 45 = .ok (.aload_n 0, 1) := by decide +kernel
theorem dX7_about_46 : decode cX7_about 46 = .ok (.getfield 105, 3) := by decide +kernel
theorem dX7_about_49 : decode cX7_about 49 = .ok (.ireturn, 1) := by decide +kernel
theorem dX7_about_50 : decode cX7_about 50 = .ok (.aload_n 0, 1) := by decide +kernel
theorem dX7_about_51 : decode cX7_about 51 = .ok (.getfield 105, 3) := by decide +kernel
theorem dX7_about_54 : decode cX7_about 54 = .ok (.ifCond .ne 7, 3) := by decide +kernel
theorem dX7_about_57 : decode cX7_about 57 = .ok (.iconst 0, 1) := by decide +kernel
theorem dX7_about_58 : decode cX7_about 58 = .ok (.goto 14, 3) := by decide +kernel
theorem dX7_about_61 : decode cX7_about 61 = .ok (.aload_n 0, 1) := by decide +kernel
theorem dX7_about_62 : decode cX7_about 62 = .ok (.getfield 58, 3) := by decide +kernel
theorem dX7_about_65 : decode cX7_about 65 = .ok (.aload_n 0, 1) := by decide +kernel
theorem dX7_about_66 : decode cX7_about 66 = .ok (.getfield 105, 3) := by decide +kernel
theorem dX7_about_69 : decode cX7_about 69 = .ok (.iconst 1, 1) := by decide +kernel
theorem dX7_about_70 : decode cX7_about 70 = .ok (.isub, 1) := by decide +kernel
theorem dX7_about_71 : decode cX7_about 71 = .ok (.iaload, 1) := by decide +kernel
theorem dX7_about_72 : decode cX7_about 72 = .ok (.ireturn, 1) := by decide +kernel
theorem dX7_about_73 : decode cX7_about 73 = .ok (.aload_n 0, 1) := by decide +kernel
theorem dX7_about_74 : decode cX7_about 74 = .ok (.getfield 91, 3) := by decide +kernel
theorem dX7_about_77 : decode cX7_about 77 = .ok (.ireturn, 1) := by decide +kernel
theorem dX7_about_78 : decode cX7_about 78 = .ok (.aload_n 0, 1) := by decide +kernel
theorem dX7_about_79 : decode cX7_about 79 = .ok (.getfield 76, 3) := by decide +kernel
theorem dX7_about_82 : decode cX7_about 82 = .ok (.ireturn, 1) := by decide +kernel
theorem dX7_about_83 : decode cX7_about 83 = .ok (.aload_n 0, 1) := by decide +kernel
theorem dX7_about_84 : decode cX7_about 84 = .ok (.getfield 80, 3) := by decide +kernel
theorem dX7_about_87 : decode cX7_about 87 = .ok (.ireturn, 1) := by decide +kernel
theorem dX7_about_88 : decode cX7_about 88 = .ok (.iconst (-1), 1) := by decide +kernel
theorem dX7_about_89 : decode cX7_about 89 = .ok (.ireturn, 1) := by decide +kernel
end
section
/-! THE WHOLE WORLD AS NUMBERS. A cell is (kind, length, references); ints apart. Address a of the picture is cell g_b g + a of the heap. -/
abbrev GP : Type := (Nat → ClassId) × (Nat → Nat → Nat) × ClassId × ClassId × ClassId × Nat
abbrev SC : Type := Nat × Nat × List (Option Nat)
abbrev SH : Type := List SC
abbrev IM : Type := Nat → Nat → Int32
abbrev ZQ : Type := Option Value → IM → SH → Prop
def g_b (g : GP) : Nat := g.2.2.2.2.2
def sv (b : Nat) : Value → Value
  | .ref a => .ref (b + a)
  | v => v
def isV : Value → Bool
  | .int _ => true
  | .ref _ => true
  | .null => true
  | _ => false
def srf (b : Nat) (r : Option Nat) : Option Nat := r.map (fun x => b + x)
def fTy (ci k : Nat) : Nat := (fTab.getD ci []).getD k 0
def fN (ci : Nat) : Nat := (fTab.getD ci []).length
def fVal (b ci : Nat) (f : Nat → Int32) (rs : List (Option Nat)) (k : Nat) : Value := if fTy ci k = 2 then va_rf (srf b (rs.getD k none)) else .int (f k)
def ent (g : GP) (f : Nat → Int32) (c : SC) : va_E :=
  if c.1 = 8 then .inl (g.2.2.1, c.2.1, .inl f)
  else if c.1 = 9 then .inl (g.2.2.2.1, c.2.1, .inl f)
  else if c.1 = 10 then .inl (g.2.2.2.2.1, c.2.1, .inr (.inr (.inr (.inr (fun j => srf (g_b g) (c.2.2.getD j none))))))
  else .inr (c.1, (List.range (fN c.1)).map (fVal (g_b g) c.1 f c.2.2))
def sc0 : SC := (11, 0, [])
def wl (g : GP) (I : IM) (S : SH) : va_W := (List.range S.length).map (fun a => (g_b g + a, ent g (I a) (S.getD a sc0)))
theorem wl_len {g : GP} {I : IM} {S : SH} : (wl g I S).length = S.length := by simp [wl]
theorem sh_lt {S : SH} {a : Nat} {c : SC} (h : S[a]? = some c) : a < S.length := (List.getElem?_eq_some_iff.mp h).1
theorem wl_at {g : GP} {I : IM} {S : SH} {a : Nat} {c : SC} (h : S[a]? = some c) : (wl g I S)[a]? = some (g_b g + a, ent g (I a) c) := by
  simp only [wl, List.getElem?_map, List.getElem?_range (sh_lt h), Option.map_some]
  rw [List.getD_eq_getElem?_getD, h]
  rfl
theorem wl_none {g : GP} {I : IM} {S : SH} {a : Nat} (h : S[a]? = none) : (wl g I S)[a]? = none := by
  rw [List.getElem?_eq_none_iff, wl_len]
  exact List.getElem?_eq_none_iff.mp h
theorem wl_inv {g : GP} {I : IM} {S : SH} {k : Nat} {q : Nat × va_E} (h : (wl g I S)[k]? = some q) : ∃ c, S[k]? = some c ∧ q = (g_b g + k, ent g (I k) c) := by
  cases hc : S[k]? with
  | none => rw [wl_none hc] at h; cases h
  | some c => rw [wl_at hc] at h; exact ⟨c, rfl, (Option.some.inj h).symm⟩
def mA (g : GP) : Nat → Prop := fun q => g_b g ≤ q
theorem wl_D {g : GP} {I : IM} {S : SH} : va_D (mA g) (wl g I S) := by
  refine ⟨fun i j p q hi hj hpq => ?_, fun k q hk => ?_⟩
  · obtain ⟨_, _, rfl⟩ := wl_inv hi
    obtain ⟨_, _, rfl⟩ := wl_inv hj
    exact Nat.add_left_cancel hpq
  · obtain ⟨_, _, rfl⟩ := wl_inv hk
    exact Nat.le_add_right _ _
theorem wl_setI {g : GP} {I : IM} {S : SH} {a : Nat} {c : SC} {f : Nat → Int32} (h : S[a]? = some c) : (wl g I S).set a (g_b g + a, ent g f c) = wl g (va_up I a f) S := by
  apply List.ext_getElem?
  intro k
  by_cases hk : k = a
  · subst hk
    rw [List.getElem?_set_self (by rw [wl_len]; exact sh_lt h), wl_at h]
    simp [va_up]
  · rw [List.getElem?_set_ne (Ne.symm hk)]
    cases hc : S[k]? with
    | none => rw [wl_none hc, wl_none hc]
    | some c' => rw [wl_at hc, wl_at hc]; simp [va_up, hk]
theorem wl_setS {g : GP} {I : IM} {S : SH} {a : Nat} {c c' : SC} (h : S[a]? = some c) : (wl g I S).set a (g_b g + a, ent g (I a) c') = wl g I (S.set a c') := by
  apply List.ext_getElem?
  intro k
  by_cases hk : k = a
  · subst hk
    rw [List.getElem?_set_self (by rw [wl_len]; exact sh_lt h), wl_at (List.getElem?_set_self (sh_lt h))]
  · rw [List.getElem?_set_ne (Ne.symm hk)]
    cases hc : S[k]? with
    | none => rw [wl_none hc, wl_none (by rw [List.getElem?_set_ne (Ne.symm hk)]; exact hc)]
    | some c' => rw [wl_at hc, wl_at (c := c') (by rw [List.getElem?_set_ne (Ne.symm hk)]; exact hc)]
theorem wl_push {g : GP} {I : IM} {S : SH} {x : SC} {f : Nat → Int32} : wl g I S ++ [(g_b g + S.length, ent g f x)] = wl g (va_up I S.length f) (S ++ [x]) := by
  apply List.ext_getElem?
  intro k
  rcases Nat.lt_trichotomy k S.length with hk | hk | hk
  · have hc : S[k]? = some S[k] := List.getElem?_eq_getElem hk
    rw [List.getElem?_append_left (by rw [wl_len]; exact hk), wl_at hc, wl_at (c := S[k]) (by rw [List.getElem?_append_left hk]; exact hc)]
    simp [va_up, Nat.ne_of_lt hk]
  · subst hk
    rw [List.getElem?_append_right (by rw [wl_len]; exact Nat.le_refl _), wl_len, Nat.sub_self, wl_at (c := x) (by rw [List.getElem?_append_right (Nat.le_refl _), Nat.sub_self]; rfl)]
    simp [va_up]
  · rw [List.getElem?_eq_none_iff.mpr (by rw [List.length_append, wl_len]; simp; omega), wl_none (List.getElem?_eq_none_iff.mpr (by rw [List.length_append]; simp; omega))]
def rep (g : GP) (I : IM) (S : SH) (H : Heap) : Prop := va_P (g.1, g.2.1) mCl (wl g I S) H ∧ H.size = g_b g + S.length
def nestL : List (String × Nat × MethodName) := [(RX6, 18, yX2_init), (RX6, 31, yX3_init), (RX6, 48, yX5_init), (RX6, 61, yX0_init), (RX5, 73, yX6_below), (RX4, 43, yX6_below)]
def mTys (g : GP) : List (ClassId × FieldType) := [(g.2.2.1, .int), (g.2.2.2.1, .boolean), (g.2.2.2.2.1, .object RX1)]
def mK (g : GP) (U : State) : Prop := va_K (g.1, g.2.1) mCl (mTys g) U ∧ (∀ q ∈ nestL, va_Nw (.methodLinkNest q.1 q.2.1 q.2.2 RX6) U) ∧ va_Nw (.fieldLinkNest RX6 247 (TX2 3).1 (TX2 3).2.1 (TX2 3).2.2.1 RX6) U ∧ va_AO RX1 U
theorem mK.warm {g : GP} {s U : State} (h : mK g s) (hW : s.WarmedH U.vm) : mK g U := ⟨va_K.moved hW.alike h.1, fun q hq => va_Nw.warmM hW (h.2.1 q hq), va_Nw.warmF hW h.2.2.1, va_AO.moved hW.alike h.2.2.2⟩
theorem mK.same {g : GP} {s U : State} (h : mK g s) (hv : s.vm = U.vm) : mK g U := ⟨va_K.moved (by rw [hv]; exact Vm.Alike.refl _) h.1, fun q hq => va_Nw.same rfl hv (h.2.1 q hq), va_Nw.same rfl hv h.2.2.1, va_AO.moved (by rw [hv]; exact Vm.Alike.refl _) h.2.2.2⟩
/-! the locals -/
def lvs (b : Nat) (L : List Value) : List (Nat × Value) := (List.range L.length).filterMap (fun i => match L[i]? with
  | some v => if isV v = true then some (i, sv b v) else none
  | none => none)
theorem lvs_mem {b : Nat} {L : List Value} {i : Nat} {v : Value} (h : L[i]? = some v) (hv : isV v = true) : (i, sv b v) ∈ lvs b L :=
  List.mem_filterMap.mpr ⟨i, List.mem_range.mpr (List.getElem?_eq_some_iff.mp h).1, by simp [h, hv]⟩
theorem lvs_inv {b : Nat} {L : List Value} {q : Nat × Value} (h : q ∈ lvs b L) : ∃ v, L[q.1]? = some v ∧ isV v = true ∧ q.2 = sv b v := by
  obtain ⟨i, hi, he⟩ := List.mem_filterMap.mp h
  cases hc : L[i]? with
  | none => rw [hc] at he; cases he
  | some v =>
    rw [hc] at he
    by_cases hv : isV v = true
    · simp only [hv, if_true] at he
      cases he
      exact ⟨v, hc, hv, rfl⟩
    · simp only [hv, if_false] at he
      cases he
theorem sv_cat {b : Nat} {v : Value} (h : isV v = true) : (sv b v).category = 1 := by
  cases v <;> first | rfl | (simp [isV] at h)
def lOk (b nL : Nat) (L : List Value) (ls : Array Slot) : Prop := L.length = nL ∧ lv_has ls nL (lvs b L)
theorem lOk.at {b nL : Nat} {L : List Value} {ls : Array Slot} (h : lOk b nL L ls) {i : Nat} {v : Value} (hi : L[i]? = some v) (hv : isV v = true) : ls[i]? = some (.val (sv b v)) := h.2.2.2 _ (lvs_mem hi hv)
theorem lOk.store {b nL : Nat} {L : List Value} {ls ls' : Array Slot} {i : Nat} {v : Value} (h : lOk b nL L ls) (hi : i < L.length)
    (h' : lv_has ls' nL ((i, sv b v) :: (lvs b L).filter (fun q => !(q.1 == i) && !(q.1 + 1 == i && q.2.category == 2)))) : lOk b nL (L.set i v) ls' := by
  refine ⟨by rw [List.length_set]; exact h.1, h'.1, h'.2.1, fun q hq => ?_⟩
  obtain ⟨w, h1, h2, h3⟩ := lvs_inv hq
  by_cases hqi : q.1 = i
  · rw [hqi, List.getElem?_set_self hi] at h1
    cases h1
    have := h'.2.2 (i, sv b v) List.mem_cons_self
    rw [hqi, h3]
    exact this
  · rw [List.getElem?_set_ne (Ne.symm hqi)] at h1
    have hm : (q.1, sv b w) ∈ lvs b L := lvs_mem h1 h2
    have := h'.2.2 (q.1, sv b w) (List.mem_cons_of_mem _ (List.mem_filter.mpr ⟨hm, by simp [hqi, sv_cat h2]⟩))
    rw [h3]
    exact this
theorem lOk.drop {b nL : Nat} {L : List Value} {ls : Array Slot} (h : lOk b nL L ls) (i : Nat) : lOk b nL (L.set i (.retAddr 0)) ls := by
  refine ⟨by rw [List.length_set]; exact h.1, h.2.1, h.2.2.1, fun q hq => ?_⟩
  obtain ⟨w, h1, h2, h3⟩ := lvs_inv hq
  by_cases hqi : q.1 = i
  · exfalso
    have hl := (List.getElem?_eq_some_iff.mp h1).1
    rw [List.length_set, hqi] at hl
    rw [hqi, List.getElem?_set_self hl] at h1
    cases h1
    cases h2
  · rw [List.getElem?_set_ne (Ne.symm hqi)] at h1
    rw [h3]
    exact h.at h1 h2
/-! the judgement -/
def zC (g : GP) (d : Nat) (M : MI) (p : Program) (R : Room) (s : State) (m : MethodId) (args : Array Value) (meth : Method) (c : Code) : Prop :=
  p.tables.exec = Jvm.exec ∧ c.code = M.2.1 ∧ meth.sig.returnType = M.2.2.2 ∧ meth.locks = false ∧ c.maxLocals = M.2.2.1 ∧ s.vm.findClass M.1.cls = some m.cls ∧ meth.name = M.1.name ∧ (∀ w, inT w → w.before args s = true) ∧ mK g s ∧ d ≤ R.frames ∧ 42 * d ≤ R.locals ∧ g_b g ≤ s.heap.size
def zD (g : GP) (nL mc ms : Nat) (L : List Value) (I : IM) (S : SH) (R : Room) (s : State) (H : Heap) (locs : List Loc) (cells slots mcF msF : Nat) (ls : Array Slot) : Prop :=
  rep g I S H ∧ va_S (mA g) s.heap H locs ∧ lOk (g_b g) nL L ls ∧ cells + mc = mcF ∧ slots + ms = msF ∧ mcF ≤ R.cells ∧ msF ≤ R.slots
def zQ (g : GP) (s : State) (args : Array Value) (Qc : Array Value → State → Outcome → State → Prop) (Q : ZQ) : Prop :=
  ∀ (v : Option Value) (I : IM) (S : SH) (t : State), Q v I S → rep g I S t.heap → va_F (mA g) s t → s.WarmedH t.vm → Qc args s (.returned (v.map (sv (g_b g)))) t
def Z (g : GP) (d mc ms : Nat) (M : MI) (pc : Nat) (L st : List Value) (I : IM) (S : SH) (Q : ZQ) : Prop :=
  ∀ (l : Launch) (p : Program) (e : Env) (R : Room) (s : State) (m : MethodId) (args : Array Value) (below : List Frame) (meth : Method) (c : Code) (H : Heap) (locs : List Loc) (cells slots mcF msF : Nat) (ls : Array Slot) (Qc : Array Value → State → Outcome → State → Prop),
    zC g d M p R s m args meth c → zD g M.2.2.1 mc ms L I S R s H locs cells slots mcF msF ls → zQ g s args Qc Q →
    W p l e R s m args below meth c H locs cells slots (MQ below Qc args s mcF msF (mA g)) (F0 m pc ls (st.map (sv (g_b g))))
section ZR
variable {g : GP} {d mc ms : Nat} {M : MI} {pc : Nat} {L st : List Value} {I : IM} {S : SH} {Q : ZQ}
theorem Z.conseq {Q' : ZQ} (hz : Z g d mc ms M pc L st I S Q') (h : ∀ v I S, Q' v I S → Q v I S) : Z g d mc ms M pc L st I S Q := by
  intro l p e R s m args below meth c H locs cells slots mcF msF ls Qc hC hD hQ
  exact hz l p e R s m args below meth c H locs cells slots mcF msF ls Qc hC hD (fun v I S t q => hQ v I S t (h v I S q))
theorem Z.drop {i : Nat} {L' : List Value} (hL : L.set i (.retAddr 0) = L') (kk : Z g d mc ms M pc L' st I S Q) : Z g d mc ms M pc L st I S Q := by
  intro l p e R s m args below meth c H locs cells slots mcF msF ls Qc hC hD hQ
  exact kk l p e R s m args below meth c H locs cells slots mcF msF ls Qc hC ⟨hD.1, hD.2.1, hL ▸ hD.2.2.1.drop i, hD.2.2.2⟩ hQ
theorem Z.step {pc' : Nat} {st' : List Value}
    (h : ∀ (p : Program) (l : Launch) (e : Env) (R : Room) (s : State) (m : MethodId) (args : Array Value) (below : List Frame) (meth : Method) (c : Code) (H : Heap) (locs : List Loc) (cells slots : Nat) (ls : Array Slot) (Qf : State → Prop), p.tables.exec = Jvm.exec → c.code = M.2.1 → s.vm.findClass M.1.cls = some m.cls → (∀ w, inT w → w.before args s = true) → lOk (g_b g) M.2.2.1 L ls →
      W p l e R s m args below meth c H locs cells slots Qf (F0 m pc' ls (st'.map (sv (g_b g)))) → W p l e R s m args below meth c H locs cells slots Qf (F0 m pc ls (st.map (sv (g_b g)))))
    (kk : Z g d mc ms M pc' L st' I S Q) : Z g d mc ms M pc L st I S Q := by
  intro l p e R s m args below meth c H locs cells slots mcF msF ls Qc hC hD hQ
  exact h p l e R s m args below meth c H locs cells slots ls _ hC.1 hC.2.1 hC.2.2.2.2.2.1 hC.2.2.2.2.2.2.2.1 hD.2.2.1 (kk l p e R s m args below meth c H locs cells slots mcF msF ls Qc hC hD hQ)
theorem Z.stepL {pc' : Nat} {L' st' : List Value}
    (h : ∀ (p : Program) (l : Launch) (e : Env) (R : Room) (s : State) (m : MethodId) (args : Array Value) (below : List Frame) (meth : Method) (c : Code) (H : Heap) (locs : List Loc) (cells slots : Nat) (ls : Array Slot) (Qf : State → Prop), p.tables.exec = Jvm.exec → c.code = M.2.1 → lOk (g_b g) M.2.2.1 L ls →
      (∀ ls' : Array Slot, lOk (g_b g) M.2.2.1 L' ls' → W p l e R s m args below meth c H locs cells slots Qf (F0 m pc' ls' (st'.map (sv (g_b g))))) → W p l e R s m args below meth c H locs cells slots Qf (F0 m pc ls (st.map (sv (g_b g)))))
    (kk : Z g d mc ms M pc' L' st' I S Q) : Z g d mc ms M pc L st I S Q := by
  intro l p e R s m args below meth c H locs cells slots mcF msF ls Qc hC hD hQ
  exact h p l e R s m args below meth c H locs cells slots ls _ hC.1 hC.2.1 hD.2.2.1 (fun ls' hl' => kk l p e R s m args below meth c H locs cells slots mcF msF ls' Qc hC ⟨hD.1, hD.2.1, hl', hD.2.2.2⟩ hQ)
theorem Z.branch {C : Prop} {pc1 pc2 : Nat} {st' : List Value}
    (h : ∀ (p : Program) (l : Launch) (e : Env) (R : Room) (s : State) (m : MethodId) (args : Array Value) (below : List Frame) (meth : Method) (c : Code) (H : Heap) (locs : List Loc) (cells slots : Nat) (ls : Array Slot) (Qf : State → Prop), p.tables.exec = Jvm.exec → c.code = M.2.1 →
      (C → W p l e R s m args below meth c H locs cells slots Qf (F0 m pc1 ls (st'.map (sv (g_b g))))) → (¬ C → W p l e R s m args below meth c H locs cells slots Qf (F0 m pc2 ls (st'.map (sv (g_b g))))) → W p l e R s m args below meth c H locs cells slots Qf (F0 m pc ls (st.map (sv (g_b g)))))
    (k1 : C → Z g d mc ms M pc1 L st' I S Q) (k2 : ¬ C → Z g d mc ms M pc2 L st' I S Q) : Z g d mc ms M pc L st I S Q := by
  intro l p e R s m args below meth c H locs cells slots mcF msF ls Qc hC hD hQ
  exact h p l e R s m args below meth c H locs cells slots ls _ hC.1 hC.2.1 (fun q => k1 q l p e R s m args below meth c H locs cells slots mcF msF ls Qc hC hD hQ) (fun q => k2 q l p e R s m args below meth c H locs cells slots mcF msF ls Qc hC hD hQ)

theorem Z.iconst {n : Int} {v : Int32} (hd : decode M.2.1 pc = .ok (.iconst n, 1)) (hv : Int32.ofInt n = v) (kk : Z g d mc ms M (pc + 1) L (.int v :: st) I S Q) : Z g d mc ms M pc L (st) I S Q :=
  Z.step (fun _ _ _ _ _ _ _ _ _ _ _ _ _ _ _ _ hx hb ho ht hl k => lv_iconst hx hb hd hv k) kk
theorem Z.bipush {n : Int} {v : Int32} (hd : decode M.2.1 pc = .ok (.bipush n, 2)) (hv : (Int8.ofInt n).toInt32 = v) (kk : Z g d mc ms M (pc + 2) L (.int v :: st) I S Q) : Z g d mc ms M pc L (st) I S Q :=
  Z.step (fun _ _ _ _ _ _ _ _ _ _ _ _ _ _ _ _ hx hb ho ht hl k => lv_bipush hx hb hd hv k) kk
theorem Z.sipush {n : Int} {v : Int32} (hd : decode M.2.1 pc = .ok (.sipush n, 3)) (hv : (Int16.ofInt n).toInt32 = v) (kk : Z g d mc ms M (pc + 3) L (.int v :: st) I S Q) : Z g d mc ms M pc L (st) I S Q :=
  Z.step (fun _ _ _ _ _ _ _ _ _ _ _ _ _ _ _ _ hx hb ho ht hl k => lv_sipush hx hb hd hv k) kk
theorem Z.ldc {index : Nat} {v : Int32} (hd : decode M.2.1 pc = .ok (.ldc index, 2)) (hv : inT (.constant M.1.cls index v)) (kk : Z g d mc ms M (pc + 2) L (.int v :: st) I S Q) : Z g d mc ms M pc L (st) I S Q :=
  Z.step (fun _ _ _ _ _ _ _ _ _ _ _ _ _ _ _ _ hx hb ho ht hl k => lv_ldc hx hb ho (ht _ hv) hd k) kk
theorem Z.iload_n {k : Fin 4} {v : Int32} (hd : decode M.2.1 pc = .ok (.iload_n k, 1)) (hv : L[(k : Nat)]? = some (.int v)) (kk : Z g d mc ms M (pc + 1) L (.int v :: st) I S Q) : Z g d mc ms M pc L (st) I S Q :=
  Z.step (fun _ _ _ _ _ _ _ _ _ _ _ _ _ _ _ _ hx hb ho ht hl k => lv_iload_n hx hb hd rfl (hl.at hv rfl) k) kk
theorem Z.iload {i : Nat} {v : Int32} (hd : decode M.2.1 pc = .ok (.iload i, 2)) (hv : L[i]? = some (.int v)) (kk : Z g d mc ms M (pc + 2) L (.int v :: st) I S Q) : Z g d mc ms M pc L (st) I S Q :=
  Z.step (fun _ _ _ _ _ _ _ _ _ _ _ _ _ _ _ _ hx hb ho ht hl k => lv_iload hx hb hd (hl.at hv rfl) k) kk
theorem Z.aload_n {k : Fin 4} {a : Nat} (hd : decode M.2.1 pc = .ok (.aload_n k, 1)) (hv : L[(k : Nat)]? = some (.ref a)) (kk : Z g d mc ms M (pc + 1) L (.ref a :: st) I S Q) : Z g d mc ms M pc L (st) I S Q :=
  Z.step (fun _ _ _ _ _ _ _ _ _ _ _ _ _ _ _ _ hx hb ho ht hl k => lv_aload_n hx hb hd rfl (hl.at hv rfl) k) kk
theorem Z.aload {i a : Nat} (hd : decode M.2.1 pc = .ok (.aload i, 2)) (hv : L[i]? = some (.ref a)) (kk : Z g d mc ms M (pc + 2) L (.ref a :: st) I S Q) : Z g d mc ms M pc L (st) I S Q :=
  Z.step (fun _ _ _ _ _ _ _ _ _ _ _ _ _ _ _ _ hx hb ho ht hl k => lv_aload hx hb hd (hl.at hv rfl) k) kk
theorem Z.aload_nN {k : Fin 4} (hd : decode M.2.1 pc = .ok (.aload_n k, 1)) (hv : L[(k : Nat)]? = some .null) (kk : Z g d mc ms M (pc + 1) L (.null :: st) I S Q) : Z g d mc ms M pc L (st) I S Q :=
  Z.step (fun _ _ _ _ _ _ _ _ _ _ _ _ _ _ _ _ hx hb ho ht hl k => lv_aload_nN hx hb hd rfl (hl.at hv rfl) k) kk
theorem Z.aloadN {i : Nat} (hd : decode M.2.1 pc = .ok (.aload i, 2)) (hv : L[i]? = some .null) (kk : Z g d mc ms M (pc + 2) L (.null :: st) I S Q) : Z g d mc ms M pc L (st) I S Q :=
  Z.step (fun _ _ _ _ _ _ _ _ _ _ _ _ _ _ _ _ hx hb ho ht hl k => lv_aloadN hx hb hd (hl.at hv rfl) k) kk
theorem Z.iadd {x y : Int32} (hd : decode M.2.1 pc = .ok (.iadd, 1)) (kk : Z g d mc ms M (pc + 1) L (.int (x + y) :: st) I S Q) : Z g d mc ms M pc L (.int y :: .int x :: st) I S Q :=
  Z.step (fun _ _ _ _ _ _ _ _ _ _ _ _ _ _ _ _ hx hb ho ht hl k => lv_iadd hx hb hd k) kk
theorem Z.isub {x y : Int32} (hd : decode M.2.1 pc = .ok (.isub, 1)) (kk : Z g d mc ms M (pc + 1) L (.int (x - y) :: st) I S Q) : Z g d mc ms M pc L (.int y :: .int x :: st) I S Q :=
  Z.step (fun _ _ _ _ _ _ _ _ _ _ _ _ _ _ _ _ hx hb ho ht hl k => lv_isub hx hb hd k) kk
theorem Z.imul {x y : Int32} (hd : decode M.2.1 pc = .ok (.imul, 1)) (kk : Z g d mc ms M (pc + 1) L (.int (x * y) :: st) I S Q) : Z g d mc ms M pc L (.int y :: .int x :: st) I S Q :=
  Z.step (fun _ _ _ _ _ _ _ _ _ _ _ _ _ _ _ _ hx hb ho ht hl k => lv_imul hx hb hd k) kk
theorem Z.iand {x y : Int32} (hd : decode M.2.1 pc = .ok (.iand, 1)) (kk : Z g d mc ms M (pc + 1) L (.int (x &&& y) :: st) I S Q) : Z g d mc ms M pc L (.int y :: .int x :: st) I S Q :=
  Z.step (fun _ _ _ _ _ _ _ _ _ _ _ _ _ _ _ _ hx hb ho ht hl k => lv_iand hx hb hd k) kk
theorem Z.idiv {x y : Int32} (hd : decode M.2.1 pc = .ok (.idiv, 1)) (hne : ¬ y = 0) (kk : Z g d mc ms M (pc + 1) L (.int (x / y) :: st) I S Q) : Z g d mc ms M pc L (.int y :: .int x :: st) I S Q :=
  Z.step (fun _ _ _ _ _ _ _ _ _ _ _ _ _ _ _ _ hx hb ho ht hl k => lv_idiv hx hb hd hne k) kk
theorem Z.dupI {x : Int32} (hd : decode M.2.1 pc = .ok (.dup, 1)) (kk : Z g d mc ms M (pc + 1) L (.int x :: .int x :: st) I S Q) : Z g d mc ms M pc L (.int x :: st) I S Q :=
  Z.step (fun _ _ _ _ _ _ _ _ _ _ _ _ _ _ _ _ hx hb ho ht hl k => lv_dup hx hb hd rfl k) kk
theorem Z.dupR {x : Nat} (hd : decode M.2.1 pc = .ok (.dup, 1)) (kk : Z g d mc ms M (pc + 1) L (.ref x :: .ref x :: st) I S Q) : Z g d mc ms M pc L (.ref x :: st) I S Q :=
  Z.step (fun _ _ _ _ _ _ _ _ _ _ _ _ _ _ _ _ hx hb ho ht hl k => lv_dup hx hb hd rfl k) kk
theorem Z.dup2 {x : Int32} {a : Nat} (hd : decode M.2.1 pc = .ok (.dup2, 1)) (kk : Z g d mc ms M (pc + 1) L (.int x :: .ref a :: .int x :: .ref a :: st) I S Q) : Z g d mc ms M pc L (.int x :: .ref a :: st) I S Q :=
  Z.step (fun _ _ _ _ _ _ _ _ _ _ _ _ _ _ _ _ hx hb ho ht hl k => lv_dup2_11 hx hb hd rfl rfl k) kk
theorem Z.null (hd : decode M.2.1 pc = .ok (.aconst_null, 1)) (kk : Z g d mc ms M (pc + 1) L (.null :: st) I S Q) : Z g d mc ms M pc L (st) I S Q :=
  Z.step (fun _ _ _ _ _ _ _ _ _ _ _ _ _ _ _ _ hx hb ho ht hl k => lv_null hx hb hd k) kk
theorem Z.goto {off : Int} {tgt : Nat} (hd : decode M.2.1 pc = .ok (.goto off, 3)) (ht : (pc : Int) + off = (tgt : Int)) (kk : Z g d mc ms M tgt L st I S Q) : Z g d mc ms M pc L st I S Q :=
  Z.step (fun _ _ _ _ _ _ _ _ _ _ _ _ _ _ _ _ hx hb _ _ _ k => lv_goto hx hb hd ht k) kk
theorem Z.if_eq {x : Int32} {off : Int} {tgt : Nat} (hd : decode M.2.1 pc = .ok (.ifCond .eq off, 3)) (ht : (pc : Int) + off = (tgt : Int)) (k1 : (x = 0) → Z g d mc ms M tgt L st I S Q) (k2 : ¬ (x = 0) → Z g d mc ms M (pc + 3) L st I S Q) : Z g d mc ms M pc L (.int x :: st) I S Q :=
  Z.branch (fun _ _ _ _ _ _ _ _ _ _ _ _ _ _ _ _ hx hb k1 k2 => lv_if_eq hx hb hd ht k1 k2) k1 k2
theorem Z.if_lt {x : Int32} {off : Int} {tgt : Nat} (hd : decode M.2.1 pc = .ok (.ifCond .lt off, 3)) (ht : (pc : Int) + off = (tgt : Int)) (k1 : (x < 0) → Z g d mc ms M tgt L st I S Q) (k2 : ¬ (x < 0) → Z g d mc ms M (pc + 3) L st I S Q) : Z g d mc ms M pc L (.int x :: st) I S Q :=
  Z.branch (fun _ _ _ _ _ _ _ _ _ _ _ _ _ _ _ _ hx hb k1 k2 => lv_if_lt hx hb hd ht k1 k2) k1 k2
theorem Z.if_gt {x : Int32} {off : Int} {tgt : Nat} (hd : decode M.2.1 pc = .ok (.ifCond .gt off, 3)) (ht : (pc : Int) + off = (tgt : Int)) (k1 : (0 < x) → Z g d mc ms M tgt L st I S Q) (k2 : ¬ (0 < x) → Z g d mc ms M (pc + 3) L st I S Q) : Z g d mc ms M pc L (.int x :: st) I S Q :=
  Z.branch (fun _ _ _ _ _ _ _ _ _ _ _ _ _ _ _ _ hx hb k1 k2 => lv_if_gt hx hb hd ht k1 k2) k1 k2
theorem Z.icmp_eq {x y : Int32} {off : Int} {tgt : Nat} (hd : decode M.2.1 pc = .ok (.if_icmp .eq off, 3)) (ht : (pc : Int) + off = (tgt : Int)) (k1 : (x = y) → Z g d mc ms M tgt L st I S Q) (k2 : ¬ (x = y) → Z g d mc ms M (pc + 3) L st I S Q) : Z g d mc ms M pc L (.int y :: .int x :: st) I S Q :=
  Z.branch (fun _ _ _ _ _ _ _ _ _ _ _ _ _ _ _ _ hx hb k1 k2 => lv_icmp_eq hx hb hd ht k1 k2) k1 k2
theorem Z.icmp_lt {x y : Int32} {off : Int} {tgt : Nat} (hd : decode M.2.1 pc = .ok (.if_icmp .lt off, 3)) (ht : (pc : Int) + off = (tgt : Int)) (k1 : (x < y) → Z g d mc ms M tgt L st I S Q) (k2 : ¬ (x < y) → Z g d mc ms M (pc + 3) L st I S Q) : Z g d mc ms M pc L (.int y :: .int x :: st) I S Q :=
  Z.branch (fun _ _ _ _ _ _ _ _ _ _ _ _ _ _ _ _ hx hb k1 k2 => lv_icmp_lt hx hb hd ht k1 k2) k1 k2
theorem Z.icmp_gt {x y : Int32} {off : Int} {tgt : Nat} (hd : decode M.2.1 pc = .ok (.if_icmp .gt off, 3)) (ht : (pc : Int) + off = (tgt : Int)) (k1 : (y < x) → Z g d mc ms M tgt L st I S Q) (k2 : ¬ (y < x) → Z g d mc ms M (pc + 3) L st I S Q) : Z g d mc ms M pc L (.int y :: .int x :: st) I S Q :=
  Z.branch (fun _ _ _ _ _ _ _ _ _ _ _ _ _ _ _ _ hx hb k1 k2 => lv_icmp_gt hx hb hd ht k1 k2) k1 k2
theorem Z.if_ge {x : Int32} {off : Int} {tgt : Nat} (hd : decode M.2.1 pc = .ok (.ifCond .ge off, 3)) (ht : (pc : Int) + off = (tgt : Int)) (k1 : ¬ x < 0 → Z g d mc ms M tgt L st I S Q) (k2 : x < 0 → Z g d mc ms M (pc + 3) L st I S Q) : Z g d mc ms M pc L (.int x :: st) I S Q :=
  Z.branch (fun _ _ _ _ _ _ _ _ _ _ _ _ _ _ _ _ hx hb k1 k2 => lv_if_ge hx hb hd ht k1 k2) (fun h => k1 (k2_nlt h)) (fun h => k2 (k2_lt h))
theorem Z.if_le {x : Int32} {off : Int} {tgt : Nat} (hd : decode M.2.1 pc = .ok (.ifCond .le off, 3)) (ht : (pc : Int) + off = (tgt : Int)) (k1 : ¬ 0 < x → Z g d mc ms M tgt L st I S Q) (k2 : 0 < x → Z g d mc ms M (pc + 3) L st I S Q) : Z g d mc ms M pc L (.int x :: st) I S Q :=
  Z.branch (fun _ _ _ _ _ _ _ _ _ _ _ _ _ _ _ _ hx hb k1 k2 => lv_if_le hx hb hd ht k1 k2) (fun h => k1 (k2_nlt h)) (fun h => k2 (k2_lt h))
theorem Z.icmp_ge {x y : Int32} {off : Int} {tgt : Nat} (hd : decode M.2.1 pc = .ok (.if_icmp .ge off, 3)) (ht : (pc : Int) + off = (tgt : Int)) (k1 : ¬ x < y → Z g d mc ms M tgt L st I S Q) (k2 : x < y → Z g d mc ms M (pc + 3) L st I S Q) : Z g d mc ms M pc L (.int y :: .int x :: st) I S Q :=
  Z.branch (fun _ _ _ _ _ _ _ _ _ _ _ _ _ _ _ _ hx hb k1 k2 => lv_icmp_ge hx hb hd ht k1 k2) (fun h => k1 (k2_nlt h)) (fun h => k2 (k2_lt h))
theorem Z.icmp_le {x y : Int32} {off : Int} {tgt : Nat} (hd : decode M.2.1 pc = .ok (.if_icmp .le off, 3)) (ht : (pc : Int) + off = (tgt : Int)) (k1 : ¬ y < x → Z g d mc ms M tgt L st I S Q) (k2 : y < x → Z g d mc ms M (pc + 3) L st I S Q) : Z g d mc ms M pc L (.int y :: .int x :: st) I S Q :=
  Z.branch (fun _ _ _ _ _ _ _ _ _ _ _ _ _ _ _ _ hx hb k1 k2 => lv_icmp_le hx hb hd ht k1 k2) (fun h => k1 (k2_nlt h)) (fun h => k2 (k2_lt h))
theorem Z.if_ne {x : Int32} {off : Int} {tgt : Nat} (hd : decode M.2.1 pc = .ok (.ifCond .ne off, 3)) (ht : (pc : Int) + off = (tgt : Int)) (k1 : ¬ x = 0 → Z g d mc ms M tgt L st I S Q) (k2 : x = 0 → Z g d mc ms M (pc + 3) L st I S Q) : Z g d mc ms M pc L (.int x :: st) I S Q :=
  Z.branch (fun _ _ _ _ _ _ _ _ _ _ _ _ _ _ _ _ hx hb k1 k2 => lv_if_ne hx hb hd ht k2 k1) k2 k1
theorem Z.icmp_ne {x y : Int32} {off : Int} {tgt : Nat} (hd : decode M.2.1 pc = .ok (.if_icmp .ne off, 3)) (ht : (pc : Int) + off = (tgt : Int)) (k1 : ¬ x = y → Z g d mc ms M tgt L st I S Q) (k2 : x = y → Z g d mc ms M (pc + 3) L st I S Q) : Z g d mc ms M pc L (.int y :: .int x :: st) I S Q :=
  Z.branch (fun _ _ _ _ _ _ _ _ _ _ _ _ _ _ _ _ hx hb k1 k2 => lv_icmp_ne hx hb hd ht k2 k1) k2 k1
theorem Z.ifnull {a : Nat} {off : Int} (hd : decode M.2.1 pc = .ok (.ifnull off, 3)) (kk : Z g d mc ms M (pc + 3) L st I S Q) : Z g d mc ms M pc L (.ref a :: st) I S Q :=
  Z.step (fun _ _ _ _ _ _ _ _ _ _ _ _ _ _ _ _ hx hb _ _ _ k => lv_ifnull hx hb hd k) kk
theorem Z.ifnullN {off : Int} {tgt : Nat} (hd : decode M.2.1 pc = .ok (.ifnull off, 3)) (ht : (pc : Int) + off = (tgt : Int)) (kk : Z g d mc ms M tgt L st I S Q) : Z g d mc ms M pc L (.null :: st) I S Q :=
  Z.step (fun _ _ _ _ _ _ _ _ _ _ _ _ _ _ _ _ hx hb _ _ _ k => lv_ifnullN hx hb hd ht k) kk
theorem Z.ifnonnull {a : Nat} {off : Int} {tgt : Nat} (hd : decode M.2.1 pc = .ok (.ifnonnull off, 3)) (ht : (pc : Int) + off = (tgt : Int)) (kk : Z g d mc ms M tgt L st I S Q) : Z g d mc ms M pc L (.ref a :: st) I S Q :=
  Z.step (fun _ _ _ _ _ _ _ _ _ _ _ _ _ _ _ _ hx hb _ _ _ k => lv_ifnonnull hx hb hd ht k) kk
theorem Z.ifnonnullN {off : Int} (hd : decode M.2.1 pc = .ok (.ifnonnull off, 3)) (kk : Z g d mc ms M (pc + 3) L st I S Q) : Z g d mc ms M pc L (.null :: st) I S Q :=
  Z.step (fun _ _ _ _ _ _ _ _ _ _ _ _ _ _ _ _ hx hb _ _ _ k => lv_ifnonnullN hx hb hd k) kk
theorem Z.tableOut {dflt lo hi : Int} {offs : Array Int} {len : Nat} {x : Int32} {tgt : Nat} (hd : decode M.2.1 pc = .ok (.tableswitch dflt lo hi offs, len)) (h : x.toInt < lo ∨ hi < x.toInt) (ht : (pc : Int) + dflt = (tgt : Int)) (kk : Z g d mc ms M tgt L st I S Q) : Z g d mc ms M pc L (.int x :: st) I S Q :=
  Z.step (fun _ _ _ _ _ _ _ _ _ _ _ _ _ _ _ _ hx hb _ _ _ k => lv_tableOut hx hb hd h ht k) kk
theorem Z.tableIn {dflt lo hi : Int} {offs : Array Int} {len : Nat} {x : Int32} {off : Int} {tgt : Nat} (hd : decode M.2.1 pc = .ok (.tableswitch dflt lo hi offs, len)) (h1 : ¬ x.toInt < lo) (h2 : ¬ hi < x.toInt) (ho : offs[(x.toInt - lo).toNat]? = some off) (ht : (pc : Int) + off = (tgt : Int)) (kk : Z g d mc ms M tgt L st I S Q) : Z g d mc ms M pc L (.int x :: st) I S Q :=
  Z.step (fun _ _ _ _ _ _ _ _ _ _ _ _ _ _ _ _ hx hb _ _ _ k => lv_tableIn hx hb hd h1 h2 ho ht k) kk
theorem Z.lookup {dflt : Int} {ps : Array (Int × Int)} {len : Nat} {x : Int32} {off : Int} {tgt : Nat} (hd : decode M.2.1 pc = .ok (.lookupswitch dflt ps, len)) (hp : (ps.toList.zip (ps.toList.drop 1)).all (fun (a, next) => a.1 < next.1) = true) (ho : Op.lookupswitch.offset ps.toList dflt x.toInt = off) (ht : (pc : Int) + off = (tgt : Int)) (kk : Z g d mc ms M tgt L st I S Q) : Z g d mc ms M pc L (.int x :: st) I S Q :=
  Z.step (fun _ _ _ _ _ _ _ _ _ _ _ _ _ _ _ _ hx hb _ _ _ k => lv_lookup hx hb hd hp ho ht k) kk
theorem Z.istore_n {k : Fin 4} {x : Int32} {L' : List Value} (hd : decode M.2.1 pc = .ok (.istore_n k, 1)) (hi : (k : Nat) < L.length) (hL : L.set (k : Nat) (.int x) = L') (kk : Z g d mc ms M (pc + 1) L' st I S Q) : Z g d mc ms M pc L (.int x :: st) I S Q :=
  Z.stepL (fun _ _ _ _ _ _ _ _ _ _ _ _ _ _ _ _ hx hb hl k => lv_istore_n hx hb hd rfl hl.2 (hl.1 ▸ hi) rfl (fun ls' hl' => k ls' (hL ▸ hl.store (v := .int x) hi hl'))) kk
theorem Z.istore {i : Nat} {x : Int32} {L' : List Value} (hd : decode M.2.1 pc = .ok (.istore i, 2)) (hi : i < L.length) (hL : L.set i (.int x) = L') (kk : Z g d mc ms M (pc + 2) L' st I S Q) : Z g d mc ms M pc L (.int x :: st) I S Q :=
  Z.stepL (fun _ _ _ _ _ _ _ _ _ _ _ _ _ _ _ _ hx hb hl k => lv_istore hx hb hd hl.2 (hl.1 ▸ hi) rfl (fun ls' hl' => k ls' (hL ▸ hl.store (v := .int x) hi hl'))) kk
theorem Z.astore_n {k : Fin 4} {x : Nat} {L' : List Value} (hd : decode M.2.1 pc = .ok (.astore_n k, 1)) (hi : (k : Nat) < L.length) (hL : L.set (k : Nat) (.ref x) = L') (kk : Z g d mc ms M (pc + 1) L' st I S Q) : Z g d mc ms M pc L (.ref x :: st) I S Q :=
  Z.stepL (fun _ _ _ _ _ _ _ _ _ _ _ _ _ _ _ _ hx hb hl k => lv_astore_n hx hb hd rfl hl.2 (hl.1 ▸ hi) rfl (fun ls' hl' => k ls' (hL ▸ hl.store (v := .ref x) hi hl'))) kk
theorem Z.astore {i : Nat} {x : Nat} {L' : List Value} (hd : decode M.2.1 pc = .ok (.astore i, 2)) (hi : i < L.length) (hL : L.set i (.ref x) = L') (kk : Z g d mc ms M (pc + 2) L' st I S Q) : Z g d mc ms M pc L (.ref x :: st) I S Q :=
  Z.stepL (fun _ _ _ _ _ _ _ _ _ _ _ _ _ _ _ _ hx hb hl k => lv_astore hx hb hd hl.2 (hl.1 ▸ hi) rfl (fun ls' hl' => k ls' (hL ▸ hl.store (v := .ref x) hi hl'))) kk
theorem Z.astore_nN {k : Fin 4} {L' : List Value} (hd : decode M.2.1 pc = .ok (.astore_n k, 1)) (hi : (k : Nat) < L.length) (hL : L.set (k : Nat) (.null) = L') (kk : Z g d mc ms M (pc + 1) L' st I S Q) : Z g d mc ms M pc L (.null :: st) I S Q :=
  Z.stepL (fun _ _ _ _ _ _ _ _ _ _ _ _ _ _ _ _ hx hb hl k => lv_astore_nN hx hb hd rfl hl.2 (hl.1 ▸ hi) rfl (fun ls' hl' => k ls' (hL ▸ hl.store (v := .null) hi hl'))) kk
theorem Z.astoreN {i : Nat} {L' : List Value} (hd : decode M.2.1 pc = .ok (.astore i, 2)) (hi : i < L.length) (hL : L.set i (.null) = L') (kk : Z g d mc ms M (pc + 2) L' st I S Q) : Z g d mc ms M pc L (.null :: st) I S Q :=
  Z.stepL (fun _ _ _ _ _ _ _ _ _ _ _ _ _ _ _ _ hx hb hl k => lv_astoreN hx hb hd hl.2 (hl.1 ▸ hi) rfl (fun ls' hl' => k ls' (hL ▸ hl.store (v := .null) hi hl'))) kk
theorem Z.iinc {i : Nat} {n : Int} {x v : Int32} {L' : List Value} (hd : decode M.2.1 pc = .ok (.iinc i n, 3)) (hx : L[i]? = some (.int x)) (hv : x + Int32.ofInt n = v) (hL : L.set i (.int v) = L') (kk : Z g d mc ms M (pc + 3) L' st I S Q) : Z g d mc ms M pc L st I S Q := by
  refine Z.stepL (fun _ _ _ _ _ _ _ _ _ _ _ _ _ _ _ _ hx' hb hl k => ?_) kk
  have hlt : i < L.length := (List.getElem?_eq_some_iff.mp hx).1
  obtain ⟨j, hj⟩ := List.getElem?_of_mem (lvs_mem (b := g_b g) hx rfl)
  exact lv_iinc hx' hb hd hl.2 hj hv (hl.1 ▸ hlt) rfl (fun ls' hl' => k ls' (hL ▸ hl.store (v := .int v) hlt hl'))
end ZR
end
section
def clOk (ci : Nat) (C : String) (T : u_T) (N : Nat) (ty : Nat → FieldType) : Prop :=
  mCl[ci]? = some (C, T, N) ∧ (∀ w ∈ u_ws C T N, inT w) ∧ (∀ k, k < N → parseFieldDescriptor (T k).2.2.1 = some (ty k)) ∧ (∀ a, a < N → ∀ b, b < N → a ≠ b → (T a).2.1 ≠ (T b).2.1) ∧ fN ci = N ∧ ci < 8 ∧ (∀ k, k < N → defaultValue (ty k) = if fTy ci k = 2 then .null else .int 0)

theorem cl0 : clOk 0 RX0 TX0 2 tyX0 := ⟨rfl, lz0, tyX0_ok, nmX0, by decide, by decide, by decide +kernel⟩
theorem cl1 : clOk 1 RX1 TX1 6 tyX1 := ⟨rfl, lz1, tyX1_ok, nmX1, by decide, by decide, by decide +kernel⟩
theorem cl2 : clOk 2 RX2 TX2 4 tyX2 := ⟨rfl, lz2, tyX2_ok, nmX2, by decide, by decide, by decide +kernel⟩
theorem cl3 : clOk 3 RX3 TX3 5 tyX3 := ⟨rfl, lz3, tyX3_ok, nmX3, by decide, by decide, by decide +kernel⟩
theorem cl4 : clOk 4 RX4 TX4 7 tyX4 := ⟨rfl, lz4, tyX4_ok, nmX4, by decide, by decide, by decide +kernel⟩
theorem cl5 : clOk 5 RX5 TX5 13 tyX5 := ⟨rfl, lz5, tyX5_ok, nmX5, by decide, by decide, by decide +kernel⟩
theorem cl6 : clOk 6 RX6 TX6 11 tyX6 := ⟨rfl, lz6, tyX6_ok, nmX6, by decide, by decide, by decide +kernel⟩
theorem cl7 : clOk 7 RX7 TX7 27 tyX7 := ⟨rfl, lz7, tyX7_ok, nmX7, by decide, by decide, by decide +kernel⟩
theorem ent_obj {g : GP} {f : Nat → Int32} {ci ln : Nat} {rs : List (Option Nat)} (h : ci < 8) : ent g f (ci, ln, rs) = .inr (ci, (List.range (fN ci)).map (fVal (g_b g) ci f rs)) := by
  unfold ent
  rw [if_neg (by show ¬ ci = 8; omega), if_neg (by show ¬ ci = 9; omega), if_neg (by show ¬ ci = 10; omega)]
theorem ent_8 {g : GP} {f : Nat → Int32} {ln : Nat} {rs : List (Option Nat)} : ent g f (8, ln, rs) = .inl (g.2.2.1, ln, .inl f) := rfl
theorem ent_9 {g : GP} {f : Nat → Int32} {ln : Nat} {rs : List (Option Nat)} : ent g f (9, ln, rs) = .inl (g.2.2.2.1, ln, .inl f) := rfl
theorem ent_10 {g : GP} {f : Nat → Int32} {ln : Nat} {rs : List (Option Nat)} : ent g f (10, ln, rs) = .inl (g.2.2.2.2.1, ln, .inr (.inr (.inr (.inr (fun j => srf (g_b g) (rs.getD j none)))))) := rfl
theorem fs_at {b ci k N : Nat} {f : Nat → Int32} {rs : List (Option Nat)} (hN : fN ci = N) (hk : k < N) : ((List.range (fN ci)).map (fVal b ci f rs))[k]? = some (fVal b ci f rs k) := by
  rw [List.getElem?_map, List.getElem?_range (by rw [hN]; exact hk)]
  rfl
theorem fs_setI {b ci k : Nat} {f : Nat → Int32} {rs : List (Option Nat)} {x : Int32} (ht : fTy ci k ≠ 2) : ((List.range (fN ci)).map (fVal b ci f rs)).set k (.int x) = (List.range (fN ci)).map (fVal b ci (upd f k x) rs) := by
  apply List.ext_getElem?
  intro j
  by_cases hj : j < fN ci
  · by_cases hk : j = k
    · subst hk
      rw [List.getElem?_set_self (by simpa using hj), List.getElem?_map, List.getElem?_range hj]
      simp [fVal, ht, upd]
    · rw [List.getElem?_set_ne (Ne.symm hk), List.getElem?_map, List.getElem?_map, List.getElem?_range hj]
      simp [fVal, upd, hk]
  · rw [List.getElem?_eq_none_iff.mpr (by simpa using hj), List.getElem?_eq_none_iff.mpr (by simpa using hj)]
theorem fs_setR {b ci k r : Nat} {f : Nat → Int32} {rs : List (Option Nat)} (ht : fTy ci k = 2) (hl : k < rs.length) : ((List.range (fN ci)).map (fVal b ci f rs)).set k (.ref (b + r)) = (List.range (fN ci)).map (fVal b ci f (rs.set k (some r))) := by
  apply List.ext_getElem?
  intro j
  by_cases hj : j < fN ci
  · by_cases hk : j = k
    · subst hk
      rw [List.getElem?_set_self (by simpa using hj), List.getElem?_map, List.getElem?_range hj]
      simp [fVal, ht, List.getD_eq_getElem?_getD, List.getElem?_set_self hl, srf, va_rf]
    · rw [List.getElem?_set_ne (Ne.symm hk), List.getElem?_map, List.getElem?_map, List.getElem?_range hj]
      simp [fVal, List.getD_eq_getElem?_getD, List.getElem?_set_ne (Ne.symm hk)]
  · rw [List.getElem?_eq_none_iff.mpr (by simpa using hj), List.getElem?_eq_none_iff.mpr (by simpa using hj)]
section ZH
variable {g : GP} {d mc ms : Nat} {M : MI} {pc : Nat} {L st : List Value} {I : IM} {S : SH} {Q : ZQ}
theorem Z.getI {idx ci k a ln N : Nat} {rs : List (Option Nat)} {C : String} {T : u_T} {ty : Nat → FieldType} (hd : decode M.2.1 pc = .ok (.getfield idx, 3)) (hc : clOk ci C T N ty) (hf : inT (.fieldLink M.1.cls idx (T k).1 (T k).2.1 (T k).2.2.1)) (hk : k < N ∧ fTy ci k ≠ 2) (hs : S[a]? = some (ci, ln, rs))
    (kk : Z g d mc ms M (pc + 3) L (.int (I a k) :: st) I S Q) : Z g d mc ms M pc L (.ref a :: st) I S Q := by
  intro l p e R s m args below meth c H locs cells slots mcF msF ls Qc hC hD hQ
  have hC0 := hC
  have hD0 := hD
  obtain ⟨hx, hb, hr, hlk, hml, ho, hnm, ht, hK, hfr, hlo, hbs⟩ := hC
  obtain ⟨⟨hP, hsz⟩, hS, hL, hcc, hss, hcr, hsr⟩ := hD
  have hts : ∀ w ∈ lw_tbl.filter goodWord, w.before args s = true := fun w hw => ht w (List.mem_filter.mp hw)
  refine va_get (Ts := lw_tbl.filter goodWord) (ci := ci) (v := .int (I a k)) hx hb hts (fun w hw => List.mem_filter.mpr (hc.2.1 w hw)) ho hK.1 hP a ((wl_at hs).trans (by rw [ent_obj hc.2.2.2.2.2.1])) hc.1 k hk.1 (ht _ hf) (fun _ h => h) ((fs_at hc.2.2.2.2.1 hk.1).trans (by simp [fVal, hk.2])) hd ?_
  exact kk l p e R s m args below meth c H locs cells slots mcF msF ls Qc hC0 hD0 hQ
theorem Z.getIN {k a ln : Nat} {rs : List (Option Nat)} (hM : M.1.cls = RX6) (hd : decode M.2.1 pc = .ok (.getfield 247, 3)) (hk : k = 3) (hs : S[a]? = some (2, ln, rs))
    (kk : Z g d mc ms M (pc + 3) L (.int (I a k) :: st) I S Q) : Z g d mc ms M pc L (.ref a :: st) I S Q := by
  subst hk
  intro l p e R s m args below meth c H locs cells slots mcF msF ls Qc hC hD hQ
  have hC0 := hC
  have hD0 := hD
  obtain ⟨hx, hb, hr, hlk, hml, ho, hnm, ht, hK, hfr, hlo, hbs⟩ := hC
  obtain ⟨⟨hP, hsz⟩, hS, hL, hcc, hss, hcr, hsr⟩ := hD
  have hts : ∀ w ∈ lw_tbl.filter goodWord, w.before args s = true := fun w hw => ht w (List.mem_filter.mp hw)
  refine va_getN (Ts := lw_tbl.filter goodWord) (ci := 2) (v := .int (I a 3)) (own := RX6) (host := RX6) hx hb hts (fun w hw => List.mem_filter.mpr (cl2.2.1 w hw)) (hM ▸ ho) hK.1 hP a ((wl_at hs).trans (by rw [ent_obj (by decide)])) cl2.1 3 (by decide) (va_Nw.use rfl hK.2.2.1) (fun _ h => h) ((fs_at cl2.2.2.2.2.1 (by decide)).trans (by simp [fVal, show fTy 2 3 ≠ 2 by decide])) hd ?_
  exact kk l p e R s m args below meth c H locs cells slots mcF msF ls Qc hC0 hD0 hQ
theorem Z.getR {idx ci k a ln N r : Nat} {rs : List (Option Nat)} {C : String} {T : u_T} {ty : Nat → FieldType} (hd : decode M.2.1 pc = .ok (.getfield idx, 3)) (hc : clOk ci C T N ty) (hf : inT (.fieldLink M.1.cls idx (T k).1 (T k).2.1 (T k).2.2.1)) (hk : k < N ∧ fTy ci k = 2) (hs : S[a]? = some (ci, ln, rs)) (hr : rs[k]? = some (some r))
    (kk : Z g d mc ms M (pc + 3) L (.ref r :: st) I S Q) : Z g d mc ms M pc L (.ref a :: st) I S Q := by
  have hrr := hr
  intro l p e R s m args below meth c H locs cells slots mcF msF ls Qc hC hD hQ
  have hC0 := hC
  have hD0 := hD
  obtain ⟨hx, hb, hr, hlk, hml, ho, hnm, ht, hK, hfr, hlo, hbs⟩ := hC
  obtain ⟨⟨hP, hsz⟩, hS, hL, hcc, hss, hcr, hsr⟩ := hD
  have hts : ∀ w ∈ lw_tbl.filter goodWord, w.before args s = true := fun w hw => ht w (List.mem_filter.mp hw)
  refine va_get (Ts := lw_tbl.filter goodWord) (ci := ci) (v := .ref (g_b g + r)) hx hb hts (fun w hw => List.mem_filter.mpr (hc.2.1 w hw)) ho hK.1 hP a ((wl_at hs).trans (by rw [ent_obj hc.2.2.2.2.2.1])) hc.1 k hk.1 (ht _ hf) (fun _ h => h) ((fs_at hc.2.2.2.2.1 hk.1).trans (by simp [fVal, hk.2, List.getD_eq_getElem?_getD, hrr, srf, va_rf])) hd ?_
  exact kk l p e R s m args below meth c H locs cells slots mcF msF ls Qc hC0 hD0 hQ

theorem Z.putI {idx ci k a ln N : Nat} {rs : List (Option Nat)} {C : String} {T : u_T} {ty : Nat → FieldType} {x : Int32} (hd : decode M.2.1 pc = .ok (.putfield idx, 3)) (hc : clOk ci C T N ty) (hf : inT (.fieldLink M.1.cls idx (T k).1 (T k).2.1 (T k).2.2.1)) (hk : k < N ∧ fTy ci k ≠ 2 ∧ (T k).2.2.2 = false) (hv : narrow (ty k) (.int x) = .int x ∧ fits (ty k) (.int x) = true) (hs : S[a]? = some (ci, ln, rs))
    (kk : Z g d mc ms M (pc + 3) L st (va_up I a (upd (I a) k x)) S Q) : Z g d mc ms M pc L (.int x :: .ref a :: st) I S Q := by
  intro l p e R s m args below meth c H locs cells slots mcF msF ls Qc hC hD hQ
  have hC0 := hC
  have hD0 := hD
  obtain ⟨hx, hb, hr, hlk, hml, ho, hnm, ht, hK, hfr, hlo, hbs⟩ := hC
  obtain ⟨⟨hP, hsz⟩, hS, hL, hcc, hss, hcr, hsr⟩ := hD
  have hts : ∀ w ∈ lw_tbl.filter goodWord, w.before args s = true := fun w hw => ht w (List.mem_filter.mp hw)
  have hin : ∀ w ∈ u_ws C T N, w ∈ lw_tbl.filter goodWord := fun w hw => List.mem_filter.mpr (hc.2.1 w hw)
  have hap := va_apart (own := M.1.cls) hts hin ty hc.2.2.1 hc.2.2.2.1 hK.1 hc.1
  have he : (wl g I S)[a]? = some (g_b g + a, .inr (ci, (List.range (fN ci)).map (fVal (g_b g) ci (I a) rs))) := (wl_at hs).trans (by rw [ent_obj hc.2.2.2.2.2.1])
  have hl : k < ((List.range (fN ci)).map (fVal (g_b g) ci (I a) rs)).length := by rw [List.length_map, List.length_range, hc.2.2.2.2.1]; exact hk.1
  obtain ⟨r, h1, cell, q1, q2, q3, q4⟩ := hP a _ he
  have hr' : r = (C, T, N) := Option.some.inj (h1.symm.trans hc.1)
  subst hr'
  obtain ⟨hSl, hfc, kC, hkC, hkind⟩ := hK.1.1 ci _ hc.1
  obtain ⟨cf, kf, fi, f, hi, hsl⟩ := hSl k hk.1
  have hlay := ht _ (hc.2.1 _ (u_in_lay hk.1))
  unfold u_lay at hlay
  rw [if_neg (by rw [hk.2.2]; decide)] at hlay
  have hst := (u_facts hfc hkC (u_lays hts hin hk.1) hi).1
  have h6 := u_store hfc hkC hkind hlay hi (hc.2.2.1 k hk.1) hv.1 hv.2
  refine W.putK hx hb (f := f) ⟨ho, ht _ hf, ⟨_, _, _, hi⟩, hst⟩ (by rw [q2]; exact h6) q1 q3 (by rw [hsl]; exact k2_hasslot (q4 k hk.1)) rfl rfl hd fun H' e1 e2 e3 => ?_
  rw [hsl] at e1 ⊢
  have hP' := hP.set wl_D he (e := .inr (ci, ((List.range (fN ci)).map (fVal (g_b g) ci (I a) rs)).set k (.int x))) ⟨_, hc.1, t_OB.to (V := updV (vp_V ((List.range (fN ci)).map (fVal (g_b g) ci (I a) rs))) k (.int x)) ⟨_, e1, q2, q3, t_set q4 hap hk.1 _⟩ (fun j _ => vp_updV_set hl _ j)⟩ e3
  rw [fs_setI hk.2.1, ← ent_obj (g := g) (ln := ln) hc.2.2.2.2.2.1, wl_setI hs] at hP'
  exact kk l p e R s m args below meth c H' _ cells slots mcF msF ls Qc hC0 ⟨⟨hP', e2.trans hsz⟩, hS.put e2 e3 (Nat.le_add_right _ _), hL, hcc, hss, hcr, hsr⟩ hQ

theorem Z.putFI {idx ci k a ln N : Nat} {rs : List (Option Nat)} {C : String} {T : u_T} {ty : Nat → FieldType} {x : Int32} (hd : decode M.2.1 pc = .ok (.putfield idx, 3)) (hc : clOk ci C T N ty) (hf : inT (.fieldLink M.1.cls idx (T k).1 (T k).2.1 (T k).2.2.1)) (hk : k < N ∧ fTy ci k ≠ 2 ∧ (T k).2.2.2 = true) (hv : narrow (ty k) (.int x) = .int x ∧ fits (ty k) (.int x) = true) (hdecl : (T k).1 = M.1.cls ∧ M.1.name = "<init>") (hs : S[a]? = some (ci, ln, rs))
    (kk : Z g d mc ms M (pc + 3) L st (va_up I a (upd (I a) k x)) S Q) : Z g d mc ms M pc L (.int x :: .ref a :: st) I S Q := by
  intro l p e R s m args below meth c H locs cells slots mcF msF ls Qc hC hD hQ
  have hC0 := hC
  have hD0 := hD
  obtain ⟨hx, hb, hr, hlk, hml, ho, hnm, ht, hK, hfr, hlo, hbs⟩ := hC
  obtain ⟨⟨hP, hsz⟩, hS, hL, hcc, hss, hcr, hsr⟩ := hD
  have hts : ∀ w ∈ lw_tbl.filter goodWord, w.before args s = true := fun w hw => ht w (List.mem_filter.mp hw)
  have hin : ∀ w ∈ u_ws C T N, w ∈ lw_tbl.filter goodWord := fun w hw => List.mem_filter.mpr (hc.2.1 w hw)
  have hap := va_apart (own := M.1.cls) hts hin ty hc.2.2.1 hc.2.2.2.1 hK.1 hc.1
  have he : (wl g I S)[a]? = some (g_b g + a, .inr (ci, (List.range (fN ci)).map (fVal (g_b g) ci (I a) rs))) := (wl_at hs).trans (by rw [ent_obj hc.2.2.2.2.2.1])
  have hl : k < ((List.range (fN ci)).map (fVal (g_b g) ci (I a) rs)).length := by rw [List.length_map, List.length_range, hc.2.2.2.2.1]; exact hk.1
  obtain ⟨r, h1, cell, q1, q2, q3, q4⟩ := hP a _ he
  have hr' : r = (C, T, N) := Option.some.inj (h1.symm.trans hc.1)
  subst hr'
  obtain ⟨hSl, hfc, kC, hkC, hkind⟩ := hK.1.1 ci _ hc.1
  obtain ⟨cf, kf, fi, f, hi, hsl⟩ := hSl k hk.1
  have hlay := ht _ (hc.2.1 _ (u_in_lay hk.1))
  unfold u_lay at hlay
  rw [if_pos hk.2.2] at hlay
  have hst := (u_facts hfc hkC (u_lays hts hin hk.1) hi).1
  have hcf : m.cls = cf := by
    obtain ⟨_, _, c', _, _, _, -, -, hf', -, -, -, hown2, -⟩ := Cond.laysFinal_spec hlay
    have e1 : c' = cf := by have := hi.symm.trans hf'; simp at this; exact this.1.symm
    rw [hdecl.1] at hown2
    rw [← e1]; exact Option.some.inj (ho.symm.trans hown2)
  have h6 := u_fits hfc hkC hkind (Or.inr hlay) hi (hc.2.2.1 k hk.1) hv.1 hv.2
  refine W.putFinK hx hb ho (ht _ hf) hi hst hcf (hnm.trans hdecl.2) (by rw [q2]; exact h6) q1 q3 (by rw [hsl]; exact k2_hasslot (q4 k hk.1)) rfl rfl hd fun H' e1 e2 e3 => ?_
  rw [hsl] at e1 ⊢
  have hP' := hP.set wl_D he (e := .inr (ci, ((List.range (fN ci)).map (fVal (g_b g) ci (I a) rs)).set k (.int x))) ⟨_, hc.1, t_OB.to (V := updV (vp_V ((List.range (fN ci)).map (fVal (g_b g) ci (I a) rs))) k (.int x)) ⟨_, e1, q2, q3, t_set q4 hap hk.1 _⟩ (fun j _ => vp_updV_set hl _ j)⟩ e3
  rw [fs_setI hk.2.1, ← ent_obj (g := g) (ln := ln) hc.2.2.2.2.2.1, wl_setI hs] at hP'
  exact kk l p e R s m args below meth c H' _ cells slots mcF msF ls Qc hC0 ⟨⟨hP', e2.trans hsz⟩, hS.put e2 e3 (Nat.le_add_right _ _), hL, hcc, hss, hcr, hsr⟩ hQ

theorem Z.putFR {idx ci k a ln N r : Nat} {rs : List (Option Nat)} {C : String} {T : u_T} {ty : Nat → FieldType} (hd : decode M.2.1 pc = .ok (.putfield idx, 3)) (hc : clOk ci C T N ty) (hf : inT (.fieldLink M.1.cls idx (T k).1 (T k).2.1 (T k).2.2.1)) (hk : k < N ∧ fTy ci k = 2 ∧ (T k).2.2.2 = true) (hv : ∀ r, narrow (ty k) (.ref r) = .ref r ∧ fits (ty k) (.ref r) = true) (hdecl : (T k).1 = M.1.cls ∧ M.1.name = "<init>") (hs : S[a]? = some (ci, ln, rs)) (hlr : k < rs.length)
    (kk : Z g d mc ms M (pc + 3) L st I (S.set a (ci, ln, rs.set k (some r))) Q) : Z g d mc ms M pc L (.ref r :: .ref a :: st) I S Q := by
  have hv := hv (g_b g + r)
  intro l p e R s m args below meth c H locs cells slots mcF msF ls Qc hC hD hQ
  have hC0 := hC
  have hD0 := hD
  obtain ⟨hx, hb, hr, hlk, hml, ho, hnm, ht, hK, hfr, hlo, hbs⟩ := hC
  obtain ⟨⟨hP, hsz⟩, hS, hL, hcc, hss, hcr, hsr⟩ := hD
  have hts : ∀ w ∈ lw_tbl.filter goodWord, w.before args s = true := fun w hw => ht w (List.mem_filter.mp hw)
  have hin : ∀ w ∈ u_ws C T N, w ∈ lw_tbl.filter goodWord := fun w hw => List.mem_filter.mpr (hc.2.1 w hw)
  have hap := va_apart (own := M.1.cls) hts hin ty hc.2.2.1 hc.2.2.2.1 hK.1 hc.1
  have he : (wl g I S)[a]? = some (g_b g + a, .inr (ci, (List.range (fN ci)).map (fVal (g_b g) ci (I a) rs))) := (wl_at hs).trans (by rw [ent_obj hc.2.2.2.2.2.1])
  have hl : k < ((List.range (fN ci)).map (fVal (g_b g) ci (I a) rs)).length := by rw [List.length_map, List.length_range, hc.2.2.2.2.1]; exact hk.1
  obtain ⟨r9, h1, cell, q1, q2, q3, q4⟩ := hP a _ he
  have hr' : r9 = (C, T, N) := Option.some.inj (h1.symm.trans hc.1)
  subst hr'
  obtain ⟨hSl, hfc, kC, hkC, hkind⟩ := hK.1.1 ci _ hc.1
  obtain ⟨cf, kf, fi, f, hi, hsl⟩ := hSl k hk.1
  have hlay := ht _ (hc.2.1 _ (u_in_lay hk.1))
  unfold u_lay at hlay
  rw [if_pos hk.2.2] at hlay
  have hst := (u_facts hfc hkC (u_lays hts hin hk.1) hi).1
  have hcf : m.cls = cf := by
    obtain ⟨_, _, c', _, _, _, -, -, hf', -, -, -, hown2, -⟩ := Cond.laysFinal_spec hlay
    have e1 : c' = cf := by have := hi.symm.trans hf'; simp at this; exact this.1.symm
    rw [hdecl.1] at hown2
    rw [← e1]; exact Option.some.inj (ho.symm.trans hown2)
  have h6 := u_fits hfc hkC hkind (Or.inr hlay) hi (hc.2.2.1 k hk.1) hv.1 hv.2
  refine W.putFinK hx hb ho (ht _ hf) hi hst hcf (hnm.trans hdecl.2) (by rw [q2]; exact h6) q1 q3 (by rw [hsl]; exact k2_hasslot (q4 k hk.1)) rfl rfl hd fun H' e1 e2 e3 => ?_
  rw [hsl] at e1 ⊢
  have hP' := hP.set wl_D he (e := .inr (ci, ((List.range (fN ci)).map (fVal (g_b g) ci (I a) rs)).set k (.ref (g_b g + r)))) ⟨_, hc.1, t_OB.to (V := updV (vp_V ((List.range (fN ci)).map (fVal (g_b g) ci (I a) rs))) k (.ref (g_b g + r))) ⟨_, e1, q2, q3, t_set q4 hap hk.1 _⟩ (fun j _ => vp_updV_set hl _ j)⟩ e3
  rw [fs_setR hk.2.1 hlr, ← ent_obj (g := g) (ln := ln) hc.2.2.2.2.2.1, wl_setS hs] at hP'
  exact kk l p e R s m args below meth c H' _ cells slots mcF msF ls Qc hC0 ⟨⟨hP', (e2.trans hsz).trans (by rw [List.length_set])⟩, hS.put e2 e3 (Nat.le_add_right _ _), hL, hcc, hss, hcr, hsr⟩ hQ

theorem in_nI {i : Int32} {j n : Nat} (hi : i = nI j) (hj : j < n) (hn : n < 2 ^ 31) : vp_in i n ∧ i.toNatClampNeg = j := by
  subst hi
  exact ⟨vp_in_nI hj hn, nI_clamp (Nat.lt_trans hj hn)⟩
theorem Z.iald {a j n : Nat} {rs : List (Option Nat)} {i : Int32} (hd : decode M.2.1 pc = .ok (.iaload, 1)) (hs : S[a]? = some (8, n, rs)) (hi : i = nI j) (hj : j < n) (hn : n < 2 ^ 31)
    (kk : Z g d mc ms M (pc + 1) L (.int (I a j) :: st) I S Q) : Z g d mc ms M pc L (.int i :: .ref a :: st) I S Q := by
  obtain ⟨h1, h2⟩ := in_nI hi hj hn
  intro l p e R s m args below meth c H locs cells slots mcF msF ls Qc hC hD hQ
  have hC0 := hC
  have hD0 := hD
  obtain ⟨hx, hb, hr, hlk, hml, ho, hnm, ht, hK, hfr, hlo, hbs⟩ := hC
  obtain ⟨⟨hP, hsz⟩, hS, hL, hcc, hss, hcr, hsr⟩ := hD
  have hts : ∀ w ∈ lw_tbl.filter goodWord, w.before args s = true := fun w hw => ht w (List.mem_filter.mp hw)
  refine va_iald hx hb hK.1 hP a 0 (wl_at hs) rfl h1 hd ?_
  rw [h2]
  exact kk l p e R s m args below meth c H locs cells slots mcF msF ls Qc hC0 hD0 hQ
theorem Z.zald {a j n : Nat} {rs : List (Option Nat)} {i : Int32} (hd : decode M.2.1 pc = .ok (.baload, 1)) (hs : S[a]? = some (9, n, rs)) (hi : i = nI j) (hj : j < n) (hn : n < 2 ^ 31)
    (kk : Z g d mc ms M (pc + 1) L (.int (I a j) :: st) I S Q) : Z g d mc ms M pc L (.int i :: .ref a :: st) I S Q := by
  obtain ⟨h1, h2⟩ := in_nI hi hj hn
  intro l p e R s m args below meth c H locs cells slots mcF msF ls Qc hC hD hQ
  have hC0 := hC
  have hD0 := hD
  obtain ⟨hx, hb, hr, hlk, hml, ho, hnm, ht, hK, hfr, hlo, hbs⟩ := hC
  obtain ⟨⟨hP, hsz⟩, hS, hL, hcc, hss, hcr, hsr⟩ := hD
  have hts : ∀ w ∈ lw_tbl.filter goodWord, w.before args s = true := fun w hw => ht w (List.mem_filter.mp hw)
  refine va_zald hx hb hK.1 hP a 1 (wl_at hs) rfl h1 hd ?_
  rw [h2]
  exact kk l p e R s m args below meth c H locs cells slots mcF msF ls Qc hC0 hD0 hQ
theorem Z.aald {a j n r : Nat} {rs : List (Option Nat)} {i : Int32} (hd : decode M.2.1 pc = .ok (.aaload, 1)) (hs : S[a]? = some (10, n, rs)) (hi : i = nI j) (hj : j < n) (hn : n < 2 ^ 31) (hr : rs[j]? = some (some r))
    (kk : Z g d mc ms M (pc + 1) L (.ref r :: st) I S Q) : Z g d mc ms M pc L (.int i :: .ref a :: st) I S Q := by
  obtain ⟨h1, h2⟩ := in_nI hi hj hn
  have hrr := hr
  intro l p e R s m args below meth c H locs cells slots mcF msF ls Qc hC hD hQ
  have hC0 := hC
  have hD0 := hD
  obtain ⟨hx, hb, hr, hlk, hml, ho, hnm, ht, hK, hfr, hlo, hbs⟩ := hC
  obtain ⟨⟨hP, hsz⟩, hS, hL, hcc, hss, hcr, hsr⟩ := hD
  have hts : ∀ w ∈ lw_tbl.filter goodWord, w.before args s = true := fun w hw => ht w (List.mem_filter.mp hw)
  refine va_aldq hx hb hK.1 hP a 2 (wl_at hs) rfl h1 hd ?_
  rw [h2, List.getD_eq_getElem?_getD, hrr]
  exact kk l p e R s m args below meth c H locs cells slots mcF msF ls Qc hC0 hD0 hQ
theorem Z.alen {a n k : Nat} {rs : List (Option Nat)} (hd : decode M.2.1 pc = .ok (.arraylength, 1)) (hs : S[a]? = some (8, n, rs)) 
    (kk : Z g d mc ms M (pc + 1) L (.int (nI n) :: st) I S Q) : Z g d mc ms M pc L (.ref a :: st) I S Q := by
  intro l p e R s m args below meth c H locs cells slots mcF msF ls Qc hC hD hQ
  have hC0 := hC
  have hD0 := hD
  obtain ⟨hx, hb, hr, hlk, hml, ho, hnm, ht, hK, hfr, hlo, hbs⟩ := hC
  obtain ⟨⟨hP, hsz⟩, hS, hL, hcc, hss, hcr, hsr⟩ := hD
  have hts : ∀ w ∈ lw_tbl.filter goodWord, w.before args s = true := fun w hw => ht w (List.mem_filter.mp hw)
  refine va_alen hx hb hK.1 hP a 0 (wl_at hs) (ty := .int) rfl (v := nI n) rfl hd ?_
  exact kk l p e R s m args below meth c H locs cells slots mcF msF ls Qc hC0 hD0 hQ
theorem Z.iast {a j n : Nat} {rs : List (Option Nat)} {i x : Int32} (hd : decode M.2.1 pc = .ok (.iastore, 1)) (hs : S[a]? = some (8, n, rs)) (hi : i = nI j) (hj : j < n) (hn : n < 2 ^ 31)
    (kk : Z g d mc ms M (pc + 1) L st (va_up I a (upd (I a) j x)) S Q) : Z g d mc ms M pc L (.int x :: .int i :: .ref a :: st) I S Q := by
  obtain ⟨h1, h2⟩ := in_nI hi hj hn
  intro l p e R s m args below meth c H locs cells slots mcF msF ls Qc hC hD hQ
  have hC0 := hC
  have hD0 := hD
  obtain ⟨hx, hb, hr, hlk, hml, ho, hnm, ht, hK, hfr, hlo, hbs⟩ := hC
  obtain ⟨⟨hP, hsz⟩, hS, hL, hcc, hss, hcr, hsr⟩ := hD
  have hts : ∀ w ∈ lw_tbl.filter goodWord, w.before args s = true := fun w hw => ht w (List.mem_filter.mp hw)
  have ha : (wl g I S)[a]? = some (g_b g + a, .inl (g.2.2.1, n, .inl (I a))) := wl_at hs
  refine W.iast hx hb (hP a _ ha) ((hK.1.2 0 _ (show (mTys g)[0]? = some (g.2.2.1, .int) from rfl)).1 n (fun j => .int (I a j))) (fun q => by cases q) (by show ¬ (i < 0 ∨ (arrV _ _ _).slots.size ≤ _); rw [arrV_size]; exact h1) rfl rfl hd fun H1 e9 z oq => ?_
  have hP' := hP.set wl_D ha (e := .inl (g.2.2.1, n, .inl (upd (I a) j x))) (by
    show H1[_]? = some (vp_cell _ _)
    rw [e9, vp_cell_i, vp_cell_i, arrV_store, h2]
    congr 2
    funext q
    by_cases hq : q = j
    · subst hq
      simp [updV, upd]
    · simp [updV, upd, hq]) oq
  rw [← ent_8 (rs := rs), wl_setI hs] at hP'
  exact kk l p e R s m args below meth c H1 _ cells slots mcF msF ls Qc hC0 ⟨⟨hP', z.trans hsz⟩, hS.put z oq (Nat.le_add_right _ _), hL, hcc, hss, hcr, hsr⟩ hQ
theorem Z.zast {a j n : Nat} {rs : List (Option Nat)} {i x : Int32} (hd : decode M.2.1 pc = .ok (.bastore, 1)) (hs : S[a]? = some (9, n, rs)) (hi : i = nI j) (hj : j < n) (hn : n < 2 ^ 31)
    (kk : Z g d mc ms M (pc + 1) L st (va_up I a (upd (I a) j (x &&& 1))) S Q) : Z g d mc ms M pc L (.int x :: .int i :: .ref a :: st) I S Q := by
  obtain ⟨h1, h2⟩ := in_nI hi hj hn
  intro l p e R s m args below meth c H locs cells slots mcF msF ls Qc hC hD hQ
  have hC0 := hC
  have hD0 := hD
  obtain ⟨hx, hb, hr, hlk, hml, ho, hnm, ht, hK, hfr, hlo, hbs⟩ := hC
  obtain ⟨⟨hP, hsz⟩, hS, hL, hcc, hss, hcr, hsr⟩ := hD
  have hts : ∀ w ∈ lw_tbl.filter goodWord, w.before args s = true := fun w hw => ht w (List.mem_filter.mp hw)
  have ha : (wl g I S)[a]? = some (g_b g + a, .inl (g.2.2.2.1, n, .inl (I a))) := wl_at hs
  refine W.zast hx hb (hP a _ ha) ((hK.1.2 1 _ (show (mTys g)[1]? = some (g.2.2.2.1, .boolean) from rfl)).1 n (fun j => .int (I a j))) (fun q => by cases q) (by show ¬ (i < 0 ∨ (arrV _ _ _).slots.size ≤ _); rw [arrV_size]; exact h1) rfl rfl hd fun H1 e9 z oq => ?_
  have hP' := hP.set wl_D ha (e := .inl (g.2.2.2.1, n, .inl (upd (I a) j (x &&& 1)))) (by
    show H1[_]? = some (vp_cell _ _)
    rw [e9, vp_cell_i, vp_cell_i, show narrow .boolean (.int x) = .int (x &&& 1) from rfl, arrV_store, h2]
    congr 2
    funext q
    by_cases hq : q = j
    · subst hq
      simp [updV, upd]
    · simp [updV, upd, hq]) oq
  rw [← ent_9 (rs := rs), wl_setI hs] at hP'
  exact kk l p e R s m args below meth c H1 _ cells slots mcF msF ls Qc hC0 ⟨⟨hP', z.trans hsz⟩, hS.put z oq (Nat.le_add_right _ _), hL, hcc, hss, hcr, hsr⟩ hQ

theorem Z.iret {v : Int32} (hd : decode M.2.1 pc = .ok (.ireturn, 1)) (hM : M.2.2.2 = some .int) (hq : Q (some (.int v)) I S) : Z g d mc ms M pc L [.int v] I S Q := by
  intro l p e R s m args below meth c H locs cells slots mcF msF ls Qc hC hD hQ
  have hC0 := hC
  have hD0 := hD
  obtain ⟨hx, hb, hr, hlk, hml, ho, hnm, ht, hK, hfr, hlo, hbs⟩ := hC
  obtain ⟨⟨hP, hsz⟩, hS, hL, hcc, hss, hcr, hsr⟩ := hD
  have hts : ∀ w ∈ lw_tbl.filter goodWord, w.before args s = true := fun w hw => ht w (List.mem_filter.mp hw)
  refine W.widen (k := mcF) (n := msF) (by omega) (by omega) ?_
  exact W.iret (v := v) hx hb (hr.trans hM) (fun t hth hW => hQ (some (.int v)) I S t hq (by rw [hth]; exact ⟨hP, hsz⟩) (hS.F hth) hW) hS.2.2 hd hlk
theorem Z.zret {v : Int32} (hd : decode M.2.1 pc = .ok (.ireturn, 1)) (hM : M.2.2.2 = some .boolean) (hv : v = 0 ∨ v = 1) (hq : Q (some (.int v)) I S) : Z g d mc ms M pc L [.int v] I S Q := by
  intro l p e R s m args below meth c H locs cells slots mcF msF ls Qc hC hD hQ
  have hC0 := hC
  have hD0 := hD
  obtain ⟨hx, hb, hr, hlk, hml, ho, hnm, ht, hK, hfr, hlo, hbs⟩ := hC
  obtain ⟨⟨hP, hsz⟩, hS, hL, hcc, hss, hcr, hsr⟩ := hD
  have hts : ∀ w ∈ lw_tbl.filter goodWord, w.before args s = true := fun w hw => ht w (List.mem_filter.mp hw)
  refine W.widen (k := mcF) (n := msF) (by omega) (by omega) ?_
  exact W.zret (v := v) hx hb (hr.trans hM) (by rcases hv with rfl | rfl <;> decide) (fun t hth hW => hQ (some (.int v)) I S t hq (by rw [hth]; exact ⟨hP, hsz⟩) (hS.F hth) hW) hS.2.2 hd hlk
theorem Z.vret (hd : decode M.2.1 pc = .ok (.return_, 1)) (hM : M.2.2.2 = none) (hq : Q none I S) : Z g d mc ms M pc L [] I S Q := by
  intro l p e R s m args below meth c H locs cells slots mcF msF ls Qc hC hD hQ
  have hC0 := hC
  have hD0 := hD
  obtain ⟨hx, hb, hr, hlk, hml, ho, hnm, ht, hK, hfr, hlo, hbs⟩ := hC
  obtain ⟨⟨hP, hsz⟩, hS, hL, hcc, hss, hcr, hsr⟩ := hD
  have hts : ∀ w ∈ lw_tbl.filter goodWord, w.before args s = true := fun w hw => ht w (List.mem_filter.mp hw)
  refine W.widen (k := mcF) (n := msF) (by omega) (by omega) ?_
  exact W.vret hx hb (hr.trans hM) (fun t hth hW => hQ none I S t hq (by rw [hth]; exact ⟨hP, hsz⟩) (hS.F hth) hW) hS.2.2 hd hlk
theorem Z.aret {v : Value} {n : String} (hd : decode M.2.1 pc = .ok (.areturn, 1)) (hM : M.2.2.2 = some (.object n)) (hv : v = .null ∨ ∃ a, v = .ref a) (hq : Q (some v) I S) : Z g d mc ms M pc L [v] I S Q := by
  intro l p e R s m args below meth c H locs cells slots mcF msF ls Qc hC hD hQ
  have hC0 := hC
  have hD0 := hD
  obtain ⟨hx, hb, hr, hlk, hml, ho, hnm, ht, hK, hfr, hlo, hbs⟩ := hC
  obtain ⟨⟨hP, hsz⟩, hS, hL, hcc, hss, hcr, hsr⟩ := hD
  have hts : ∀ w ∈ lw_tbl.filter goodWord, w.before args s = true := fun w hw => ht w (List.mem_filter.mp hw)
  refine W.widen (k := mcF) (n := msF) (by omega) (by omega) ?_
  exact W.aret (v := sv (g_b g) v) hx hb (hr.trans hM) (Or.inl ⟨n, rfl⟩) (by rcases hv with rfl | ⟨a, rfl⟩; exact Or.inl rfl; exact Or.inr ⟨_, rfl⟩) (fun t hth hW => hQ (some v) I S t hq (by rw [hth]; exact ⟨hP, hsz⟩) (hS.F hth) hW) hS.2.2 hd hlk

end ZH
end
section
theorem lg_sl_cat (vs : List Value) (h : ∀ v ∈ vs, v.category = 1) : (lg_sl vs).length = vs.length := by
  induction vs with
  | nil => rfl
  | cons v vs ih =>
    have h1 : ¬ v.category = 2 := by rw [h v List.mem_cons_self]; decide
    have h2 := ih (fun w hw => h w (List.mem_cons_of_mem _ hw))
    simp only [lg_sl, List.flatMap_cons, if_neg h1, List.length_append, List.length_cons, List.length_nil] at h2 ⊢
    omega
theorem lv_args_mem (vs : List Value) (h : ∀ v ∈ vs, v.category = 1) : ∀ (k i : Nat) (v : Value), vs[i]? = some v → (k + i, v) ∈ lv_args k vs := by
  induction vs with
  | nil => intro k i v hv; simp at hv
  | cons w vs ih =>
    intro k i v hv
    have h1 : ¬ w.category = 2 := by rw [h w List.mem_cons_self]; decide
    cases i with
    | zero =>
      simp at hv
      subst hv
      exact List.mem_cons_self
    | succ i =>
      simp only [List.getElem?_cons_succ] at hv
      have h2 := ih (fun w hw => h w (List.mem_cons_of_mem _ hw)) (k + 1) i v hv
      unfold lv_args
      rw [if_neg h1]
      refine List.mem_cons_of_mem _ ?_
      rw [show k + (i + 1) = k + 1 + i by omega]
      exact h2
def enL (M : MI) (av : List Value) : List Value := av ++ List.replicate (M.2.2.1 - av.length) (.retAddr 0)
def mWs (M : MI) : List Cond := .code M.1 M.2.1 M.2.2.1 M.2.2.2 :: lw_tbl.filter goodWord
def mPc (g : GP) (av : List Value) (I : IM) (S : SH) : Array Value → State → Prop := va_Pc (av.map (sv (g_b g))) (fun U => rep g I S U.heap ∧ mK g U)
def mQc (g : GP) (Q : ZQ) : Array Value → State → Outcome → State → Prop := fun _ st oc t => (∃ (v : Option Value) (I : IM) (S : SH), oc = .returned (v.map (sv (g_b g))) ∧ Q v I S ∧ rep g I S t.heap) ∧ va_F (mA g) st t
abbrev mRm (d mc ms : Nat) : Room := { frames := d, cells := mc, slots := ms, locals := 42 * d }
def avOk (M : MI) (av : List Value) : Prop := av.all isV = true ∧ av.length ≤ M.2.2.1
theorem Z.met {g : GP} {d mc ms : Nat} {M : MI} {av : List Value} {I : IM} {S : SH} {Q : ZQ} (hz : Z g d mc ms M 0 (enL M av) [] I S Q) (hp : plainName M.1.cls = true) (ha : avOk M av) (l : Launch) :
    Met l M.1 (mWs M) (mRm d mc ms) (mPc g av I S) (mQc g Q) mc ms (mA g) := by
  refine Met.ofW (cc := M.2.1) (maxL := M.2.2.1) (ret := M.2.2.2) hp rfl ?_
  intro p e s m args below meth c s₁ B hml hv
  obtain ⟨rfl, hR, hK⟩ := hv
  have hts := atoms_spec (ws := mWs M) B.pre
  have hown := findClass_of_methodNamed B.named
  have hav : ∀ v ∈ av, isV v = true := List.all_eq_true.mp ha.1
  have hcat : ∀ v ∈ av.map (sv (g_b g)), v.category = 1 := fun v hv => by
    obtain ⟨w, hw, rfl⟩ := List.mem_map.mp hv
    exact sv_cat (hav w hw)
  have hlen := lg_sl_cat _ hcat
  rw [List.length_map] at hlen
  have hl := lv_entry (av.map (sv (g_b g))) (n := M.2.2.1) (by rw [hlen]; exact ha.2)
  rw [lg_entry_eq]
  generalize (lg_sl (av.map (sv (g_b g))) ++ List.replicate (M.2.2.1 - (lg_sl (av.map (sv (g_b g)))).length) Slot.unset).toArray = ls at hl ⊢
  have hl2 : lOk (g_b g) M.2.2.1 (enL M av) ls := by
    refine ⟨?_, hl.1, hl.2.1, fun q hq => ?_⟩
    · have := ha.2
      simp [enL]
      omega
    · obtain ⟨w, h1, h2, h3⟩ := lvs_inv hq
      by_cases hq1 : q.1 < av.length
      · rw [enL, List.getElem?_append_left hq1] at h1
        have h4 := lv_args_mem _ hcat 0 q.1 (sv (g_b g) w) (by rw [List.getElem?_map, h1]; rfl)
        rw [Nat.zero_add, ← h3] at h4
        exact hl.2.2 _ h4
      · rw [enL, List.getElem?_append_right (by omega)] at h1
        have h5 := List.eq_of_mem_replicate (List.mem_of_getElem? h1)
        rw [h5] at h2
        cases h2
  exact hz l p e _ s m _ below meth c s.heap [] 0 0 mc ms ls (mQc g Q) ⟨B.exec, B.bytes, B.returns, B.notSynchronized, hml, hown, (name_of_methodNamed B.named B.method).1, fun w hw => hts w (List.mem_cons_of_mem _ (List.mem_filter.mpr hw)), hK, Nat.le_refl _, Nat.le_refl _, by rw [hR.2]; exact Nat.le_add_right _ _⟩
    ⟨hR, va_S.rf, hl2, Nat.zero_add _, Nat.zero_add _, Nat.le_refl _, Nat.le_refl _⟩ (fun v I S t hq hr hf _ => ⟨⟨v, I, S, rfl, hq, hr⟩, hf⟩)
theorem mPc_blind {g : GP} {av : List Value} {I : IM} {S : SH} : FrameBlind (mPc g av I S) := fun a U f mk h => ⟨h.1, h.2.1, h.2.2.same rfl⟩
theorem cat_sum {b : Nat} : ∀ (st : List Value), st.all isV = true → ((st.map (sv b)).map fun v => v.category).sum = st.length
  | [], _ => rfl
  | v :: st, h => by
    simp only [List.all_cons, Bool.and_eq_true] at h
    simp only [List.map_cons, List.sum_cons, sv_cat h.1, cat_sum st h.2, List.length_cons]
    omega
/-- what a callee must be -/
def mOk (N : MI) (n : Nat) : Prop := (inT (.initialized N.1.cls) ∧ inT (.code N.1 N.2.1 N.2.2.1 N.2.2.2)) ∧ plainName N.1.cls = true ∧ (N.1.cls ≠ "java/lang/invoke/MethodHandle" ∧ N.1.cls ≠ "java/lang/invoke/VarHandle") ∧ (parseMethodDescriptor N.1.desc).map (fun d => d.parameters.length) = some n ∧ N.2.2.1 ≤ 23
theorem mOk.len {N : MI} {n : Nat} (h : mOk N n) : ∀ sig, parseMethodDescriptor N.1.desc = some sig → n = sig.parameters.length := fun sig hs => by
  have h2 := h.2.2.2.1
  rw [hs] at h2
  exact (Option.some.inj h2).symm
theorem mWs_ok {N : MI} {n : Nat} (h : mOk N n) {args : Array Value} {s : State} (ht : ∀ w, inT w → w.before args s = true) : ∀ w ∈ mWs N, ∀ (a' : Array Value) (U : State), s.WarmedH U.vm → w.before a' U = true := by
  intro w hw a' U hW
  have hi : inT w := by
    rcases List.mem_cons.mp hw with rfl | hw
    · exact h.1.2
    · exact List.mem_filter.mp hw
  exact word_at hW (good_of_word hi.2) (ht w hi)
section ZC
variable {g : GP} {d mc ms : Nat} {M : MI} {pc : Nat} {L st : List Value} {I : IM} {S : SH} {Q : ZQ}
/-- behind a call -/
theorem Z.after {l : Launch} {p : Program} {e : Env} {R : Room} {s : State} {m : MethodId} {args : Array Value} {below : List Frame} {meth : Method} {c : Code} {H : Heap} {locs : List Loc} {cells slots mcF msF mc1 ms1 : Nat} {ls : Array Slot} {Qc : Array Value → State → Outcome → State → Prop} {Q1 : ZQ} {st0 : List Value} {av : Array Value}
    (hr : va_Run p l e R s m args below meth c H locs cells slots mc1 ms1 (F0 m pc ls st0) (st.map (sv (g_b g))) (mQc g Q1 av) (mA g))
    (hC : zC g d M p R s m args meth c) (hD : zD g M.2.2.1 mc ms L I S R s H locs cells slots mcF msF ls) (hQ : zQ g s args Qc Q) (h1 : mc1 ≤ mc) (h2 : ms1 ≤ ms)
    (kk : ∀ v I' S', Q1 v I' S' → Z g d (mc - mc1) (ms - ms1) M (pc + 3) L (v.toList ++ st) I' S' Q) :
    W p l e R s m args below meth c H locs cells slots (MQ below Qc args s mcF msF (mA g)) (F0 m pc ls st0) := by
  obtain ⟨⟨hP, hsz⟩, hS, hL, hcc, hss, hcr, hsr⟩ := hD
  intro T hT X
  obtain ⟨v, st₀, t, T', Lc, h0, X', hLc, e1, e2, ⟨⟨v', I', S', hv, hq, hrp⟩, hz, hk⟩, stp⟩ := hr T hT X
  rw [h0] at hz hk
  have hS' : va_S (mA g) s.heap T'.heap (locs ++ Lc) := by
    refine ⟨Nat.le_trans hS.1 (by rw [e1]; exact hz), fun q a1 a2 => ?_, fun q hq => ?_⟩
    · rw [e1, hk q (Nat.lt_of_lt_of_le a1 hS.1) a2]
      exact hS.2.1 q a1 a2
    · rcases List.mem_append.mp hq with h | h
      · exact hS.2.2 q h
      · exact hLc q h
  obtain ⟨t2, a1, b1⟩ := kk v' I' S' hq l p e R s m args below meth c T'.heap (locs ++ Lc) (cells + mc1) (slots + ms1) mcF msF ls Qc hC ⟨by rw [e1]; exact hrp, hS', hL, by omega, by omega, hcr, hsr⟩ hQ T' rfl X'
  refine ⟨t2, stp t2 ?_, b1⟩
  have hv2 : v = v'.map (sv (g_b g)) := by injection hv
  rw [hv2]
  cases v' <;> exact a1

theorem Z.callV {idx n d1 mc1 ms1 b ci ln N0 : Nat} {rs : List (Option Nat)} {N : MI} {C : String} {T : u_T} {ty : Nat → FieldType} {As : List Value} {Q1 : ZQ} (hd : decode M.2.1 pc = .ok (.invokevirtual idx, 3)) (hlink : inT (.methodLink M.1.cls idx N.1)) (hN : mOk N n) (him : inT (.instanceMethod N.1)) (hse : inT (.selects N.1.cls N.1 N.1)) (hs : S[b]? = some (ci, ln, rs)) (hc : clOk ci C T N0 ty) (hcn : C = N.1.cls) (hk : d1 + 1 ≤ d) (hn : As.length = n) (hav : avOk N (.ref b :: As)) (hst : st.all isV = true ∧ st.length ≤ 8) (hb1 : mc1 ≤ mc) (hb2 : ms1 ≤ ms)
    (hcal : Z g d1 mc1 ms1 N 0 (enL N (.ref b :: As)) [] I S Q1)
    (kk : ∀ v I' S', Q1 v I' S' → Z g d (mc - mc1) (ms - ms1) M (pc + 3) L (v.toList ++ st) I' S' Q) : Z g d mc ms M pc L (As.reverse ++ .ref b :: st) I S Q := by
  intro l p e R s m args below meth c H locs cells slots mcF msF ls Qc hC hD hQ
  have hC0 := hC
  have hD0 := hD
  obtain ⟨hx, hb, hr, hlk, hml, ho, hnm, ht, hK, hfr, hlo, hbs⟩ := hC
  obtain ⟨⟨hP, hsz⟩, hS, hL, hcc, hss, hcr, hsr⟩ := hD
  have hts : ∀ w ∈ lw_tbl.filter goodWord, w.before args s = true := fun w hw => ht w (List.mem_filter.mp hw)
  refine Z.after (mc1 := mc1) (ms1 := ms1) (va_runV (C := N.1.cls) (b := g_b g + b) (As := As.map (sv (g_b g))) (Ts := lw_tbl.filter goodWord) ⟨hx, hb, hml, ho, hts⟩ (hcal.met hN.2.1 hav l) ⟨⟨rfl, rfl, by show d1 + 1 ≤ R.frames; omega, by show 8 + (N.2.2.1 + 11) + 42 * d1 ≤ R.locals; have := hN.2.2.2.2; omega, mWs_ok hN ht, List.mem_cons_self, ht _ hN.1.2, ht _ hN.1.1, hN.2.2.1, hN.len, ht _ hlink⟩, ht _ him, ht _ hse⟩ ⟨mPc_blind, hcn ▸ va_recv hK.1 hP hc.1 ((wl_at hs).trans (by rw [ent_obj hc.2.2.2.2.2.1])), fun U hU hW => ⟨rfl, by rw [hU]; exact ⟨hP, hsz⟩, hK.warm hW⟩⟩ rfl (by rw [List.length_map]; exact hn) (hL.2.1) (by simp [List.map_append, List.map_reverse, sv]) (lv_room (by rw [cat_sum st hst.1]; exact hst.2)) hd ⟨by omega, by omega⟩) hC0 hD0 hQ hb1 hb2 kk
theorem Z.callS {idx n d1 mc1 ms1 : Nat} {N : MI} {As : List Value} {Q1 : ZQ} (hd : decode M.2.1 pc = .ok (.invokestatic idx, 3)) (hlink : inT (.methodLink M.1.cls idx N.1)) (hN : mOk N n) (hsta : inT (.static N.1)) (hk : d1 + 1 ≤ d) (hn : As.length = n) (hav : avOk N As) (hst : st.all isV = true ∧ st.length ≤ 8) (hb1 : mc1 ≤ mc) (hb2 : ms1 ≤ ms)
    (hcal : Z g d1 mc1 ms1 N 0 (enL N As) [] I S Q1)
    (kk : ∀ v I' S', Q1 v I' S' → Z g d (mc - mc1) (ms - ms1) M (pc + 3) L (v.toList ++ st) I' S' Q) : Z g d mc ms M pc L (As.reverse ++ st) I S Q := by
  intro l p e R s m args below meth c H locs cells slots mcF msF ls Qc hC hD hQ
  have hC0 := hC
  have hD0 := hD
  obtain ⟨hx, hb, hr, hlk, hml, ho, hnm, ht, hK, hfr, hlo, hbs⟩ := hC
  obtain ⟨⟨hP, hsz⟩, hS, hL, hcc, hss, hcr, hsr⟩ := hD
  have hts : ∀ w ∈ lw_tbl.filter goodWord, w.before args s = true := fun w hw => ht w (List.mem_filter.mp hw)
  refine Z.after (mc1 := mc1) (ms1 := ms1) (va_runS (As := As.map (sv (g_b g))) (Ts := lw_tbl.filter goodWord) ⟨hx, hb, hml, ho, hts⟩ (hcal.met hN.2.1 hav l) ⟨⟨rfl, rfl, by show d1 + 1 ≤ R.frames; omega, by show 8 + (N.2.2.1 + 11) + 42 * d1 ≤ R.locals; have := hN.2.2.2.2; omega, mWs_ok hN ht, List.mem_cons_self, ht _ hN.1.2, ht _ hN.1.1, hN.2.2.1, hN.len, ht _ hlink⟩, ht _ hsta⟩ ⟨mPc_blind, fun U hU hW => ⟨rfl, by rw [hU]; exact ⟨hP, hsz⟩, hK.warm hW⟩⟩ rfl (by rw [List.length_map]; exact hn) (hL.2.1) (by simp [List.map_append, List.map_reverse, sv]) (lv_room (by rw [cat_sum st hst.1]; exact hst.2)) hd ⟨by omega, by omega⟩) hC0 hD0 hQ hb1 hb2 kk
theorem Z.callSN {idx n d1 mc1 ms1 : Nat} {N : MI} {As : List Value} {Q1 : ZQ} (hd : decode M.2.1 pc = .ok (.invokestatic idx, 3)) (hlink : (M.1.cls, idx, N.1) ∈ nestL) (hN : mOk N n) (hsta : inT (.static N.1)) (hk : d1 + 1 ≤ d) (hn : As.length = n) (hav : avOk N As) (hst : st.all isV = true ∧ st.length ≤ 8) (hb1 : mc1 ≤ mc) (hb2 : ms1 ≤ ms)
    (hcal : Z g d1 mc1 ms1 N 0 (enL N As) [] I S Q1)
    (kk : ∀ v I' S', Q1 v I' S' → Z g d (mc - mc1) (ms - ms1) M (pc + 3) L (v.toList ++ st) I' S' Q) : Z g d mc ms M pc L (As.reverse ++ st) I S Q := by
  intro l p e R s m args below meth c H locs cells slots mcF msF ls Qc hC hD hQ
  have hC0 := hC
  have hD0 := hD
  obtain ⟨hx, hb, hr, hlk, hml, ho, hnm, ht, hK, hfr, hlo, hbs⟩ := hC
  obtain ⟨⟨hP, hsz⟩, hS, hL, hcc, hss, hcr, hsr⟩ := hD
  have hts : ∀ w ∈ lw_tbl.filter goodWord, w.before args s = true := fun w hw => ht w (List.mem_filter.mp hw)
  refine Z.after (mc1 := mc1) (ms1 := ms1) (va_runSN (host := RX6) (As := As.map (sv (g_b g))) (Ts := lw_tbl.filter goodWord) ⟨hx, hb, hml, ho, hts⟩ (hcal.met hN.2.1 hav l) ⟨⟨⟨rfl, rfl, by show d1 + 1 ≤ R.frames; omega, by show 8 + (N.2.2.1 + 11) + 42 * d1 ≤ R.locals; have := hN.2.2.2.2; omega, mWs_ok hN ht, List.mem_cons_self⟩, ht _ hN.1.2, ht _ hN.1.1, hN.2.2.1, hN.len, va_Nw.use rfl (hK.2.1 _ hlink)⟩, ht _ hsta, trivial⟩ ⟨mPc_blind, fun U hU hW => ⟨rfl, by rw [hU]; exact ⟨hP, hsz⟩, hK.warm hW⟩⟩ rfl (by rw [List.length_map]; exact hn) (hL.2.1) (by simp [List.map_append, List.map_reverse, sv]) (lv_room (by rw [cat_sum st hst.1]; exact hst.2)) hd ⟨by omega, by omega⟩) hC0 hD0 hQ hb1 hb2 kk
theorem Z.callI {idx n d1 mc1 ms1 b : Nat} {N : MI} {As : List Value} {Q1 : ZQ} (hd : decode M.2.1 pc = .ok (.invokespecial idx, 3)) (hlink : inT (.methodLink M.1.cls idx N.1)) (hN : mOk N n) (him : inT (.instanceMethod N.1)) (hini : N.1.name = "<init>" ∧ N.2.2.2 = none) (hk : d1 + 1 ≤ d) (hn : As.length = n) (hav : avOk N (.ref b :: As)) (hst : st.all isV = true ∧ st.length ≤ 8) (hb1 : mc1 ≤ mc) (hb2 : ms1 ≤ ms)
    (hcal : Z g d1 mc1 ms1 N 0 (enL N (.ref b :: As)) [] I S Q1)
    (kk : ∀ v I' S', Q1 v I' S' → Z g d (mc - mc1) (ms - ms1) M (pc + 3) L (v.toList ++ st) I' S' Q) : Z g d mc ms M pc L (As.reverse ++ .ref b :: st) I S Q := by
  intro l p e R s m args below meth c H locs cells slots mcF msF ls Qc hC hD hQ
  have hC0 := hC
  have hD0 := hD
  obtain ⟨hx, hb, hr, hlk, hml, ho, hnm, ht, hK, hfr, hlo, hbs⟩ := hC
  obtain ⟨⟨hP, hsz⟩, hS, hL, hcc, hss, hcr, hsr⟩ := hD
  have hts : ∀ w ∈ lw_tbl.filter goodWord, w.before args s = true := fun w hw => ht w (List.mem_filter.mp hw)
  have hcode := hN.1.2
  rw [hini.2] at hcode
  refine Z.after (mc1 := mc1) (ms1 := ms1) (va_runI (b := g_b g + b) (As := As.map (sv (g_b g))) (Ts := lw_tbl.filter goodWord) ⟨hx, hb, hml, ho, hts⟩ (hcal.met hN.2.1 hav l) ⟨⟨rfl, rfl, by show d1 + 1 ≤ R.frames; omega, by show 8 + (N.2.2.1 + 11) + 42 * d1 ≤ R.locals; have := hN.2.2.2.2; omega, mWs_ok hN ht, by rw [mWs, hini.2]; exact List.mem_cons_self, ht _ hcode, ht _ hN.1.1, hN.2.2.1, hN.len, ht _ hlink⟩, hini.1, ht _ him⟩ ⟨mPc_blind, fun U hU hW => ⟨rfl, by rw [hU]; exact ⟨hP, hsz⟩, hK.warm hW⟩⟩ rfl (by rw [List.length_map]; exact hn) (hL.2.1) (by simp [List.map_append, List.map_reverse, sv]) (lv_room (by rw [cat_sum st hst.1]; exact hst.2)) hd ⟨by omega, by omega⟩) hC0 hD0 hQ hb1 hb2 kk
theorem Z.callIN {idx n d1 mc1 ms1 b : Nat} {N : MI} {As : List Value} {Q1 : ZQ} (hd : decode M.2.1 pc = .ok (.invokespecial idx, 3)) (hlink : (M.1.cls, idx, N.1) ∈ nestL) (hN : mOk N n) (him : inT (.instanceMethod N.1)) (hini : N.1.name = "<init>" ∧ N.2.2.2 = none) (hk : d1 + 1 ≤ d) (hn : As.length = n) (hav : avOk N (.ref b :: As)) (hst : st.all isV = true ∧ st.length ≤ 8) (hb1 : mc1 ≤ mc) (hb2 : ms1 ≤ ms)
    (hcal : Z g d1 mc1 ms1 N 0 (enL N (.ref b :: As)) [] I S Q1)
    (kk : ∀ v I' S', Q1 v I' S' → Z g d (mc - mc1) (ms - ms1) M (pc + 3) L (v.toList ++ st) I' S' Q) : Z g d mc ms M pc L (As.reverse ++ .ref b :: st) I S Q := by
  intro l p e R s m args below meth c H locs cells slots mcF msF ls Qc hC hD hQ
  have hC0 := hC
  have hD0 := hD
  obtain ⟨hx, hb, hr, hlk, hml, ho, hnm, ht, hK, hfr, hlo, hbs⟩ := hC
  obtain ⟨⟨hP, hsz⟩, hS, hL, hcc, hss, hcr, hsr⟩ := hD
  have hts : ∀ w ∈ lw_tbl.filter goodWord, w.before args s = true := fun w hw => ht w (List.mem_filter.mp hw)
  have hcode := hN.1.2
  rw [hini.2] at hcode
  refine Z.after (mc1 := mc1) (ms1 := ms1) (va_runIN (host := RX6) (b := g_b g + b) (As := As.map (sv (g_b g))) (Ts := lw_tbl.filter goodWord) ⟨hx, hb, hml, ho, hts⟩ (hcal.met hN.2.1 hav l) ⟨⟨⟨rfl, rfl, by show d1 + 1 ≤ R.frames; omega, by show 8 + (N.2.2.1 + 11) + 42 * d1 ≤ R.locals; have := hN.2.2.2.2; omega, mWs_ok hN ht, by rw [mWs, hini.2]; exact List.mem_cons_self⟩, ht _ hcode, ht _ hN.1.1, hN.2.2.1, hN.len, va_Nw.use rfl (hK.2.1 _ hlink)⟩, hini.1, ht _ him⟩ ⟨mPc_blind, fun U hU hW => ⟨rfl, by rw [hU]; exact ⟨hP, hsz⟩, hK.warm hW⟩⟩ rfl (by rw [List.length_map]; exact hn) (hL.2.1) (by simp [List.map_append, List.map_reverse, sv]) (lv_room (by rw [cat_sum st hst.1]; exact hst.2)) hd ⟨by omega, by omega⟩) hC0 hD0 hQ hb1 hb2 kk
theorem Z.objInit {idx a : Nat} (hd : decode M.2.1 pc = .ok (.invokespecial idx, 3)) (hlink : inT (.methodLink M.1.cls idx objectInit)) (hk : 1 ≤ d) (hst : st.all isV = true ∧ st.length ≤ 8) (kk : Z g d mc ms M (pc + 3) L st I S Q) : Z g d mc ms M pc L (.ref a :: st) I S Q := by
  intro l p e R s m args below meth c H locs cells slots mcF msF ls Qc hC hD hQ
  have hC0 := hC
  have hD0 := hD
  obtain ⟨hx, hb, hr, hlk, hml, ho, hnm, ht, hK, hfr, hlo, hbs⟩ := hC
  obtain ⟨⟨hP, hsz⟩, hS, hL, hcc, hss, hcr, hsr⟩ := hD
  have hts : ∀ w ∈ lw_tbl.filter goodWord, w.before args s = true := fun w hw => ht w (List.mem_filter.mp hw)
  refine W.objInit hx hb ho (ht _ hlink) (ht _ obI) (ht _ obC) rfl (by rw [hml]; exact hL.2.1) rfl hd (by omega) (by show 2 * 0 + _ + 12 ≤ R.locals; rw [cat_sum st hst.1]; have := hst.2; omega) ?_
  exact kk l p e R s m args below meth c H locs cells slots mcF msF ls Qc hC0 hD0 hQ
theorem Z.mmax {idx : Nat} {x y : Int32} (hd : decode M.2.1 pc = .ok (.invokestatic idx, 3)) (hlink : inT (.methodLink M.1.cls idx mJ9_max_7cf53.1)) (hk : 1 ≤ d) (hst : st.all isV = true ∧ st.length ≤ 8) (kk : Z g d mc ms M (pc + 3) L (.int (if x < y then y else x) :: st) I S Q) : Z g d mc ms M pc L (.int y :: .int x :: st) I S Q := by
  intro l p e R s m args below meth c H locs cells slots mcF msF ls Qc hC hD hQ
  have hC0 := hC
  have hD0 := hD
  obtain ⟨hx, hb, hr, hlk, hml, ho, hnm, ht, hK, hfr, hlo, hbs⟩ := hC
  obtain ⟨⟨hP, hsz⟩, hS, hL, hcc, hss, hcr, hsr⟩ := hD
  have hts : ∀ w ∈ lw_tbl.filter goodWord, w.before args s = true := fun w hw => ht w (List.mem_filter.mp hw)
  refine va_mmax hx hb (hml.trans hL.2.1.symm) ho (ht _ hlink) (ht _ stJ9_max_7cf53) (ht _ okJ9_max_7cf53.1) (ht _ okJ9_max_7cf53.2) (by omega) (by rw [cat_sum st hst.1]; have := hst.2; omega) (by omega) (by omega) hd ?_
  exact kk l p e R s m args below meth c H locs cells slots mcF msF ls Qc hC0 hD0 hQ
theorem Z.mmin {idx : Nat} {x y : Int32} (hd : decode M.2.1 pc = .ok (.invokestatic idx, 3)) (hlink : inT (.methodLink M.1.cls idx mJ9_min_7cf53.1)) (hk : 1 ≤ d) (hst : st.all isV = true ∧ st.length ≤ 8) (kk : Z g d mc ms M (pc + 3) L (.int (if y < x then y else x) :: st) I S Q) : Z g d mc ms M pc L (.int y :: .int x :: st) I S Q := by
  intro l p e R s m args below meth c H locs cells slots mcF msF ls Qc hC hD hQ
  have hC0 := hC
  have hD0 := hD
  obtain ⟨hx, hb, hr, hlk, hml, ho, hnm, ht, hK, hfr, hlo, hbs⟩ := hC
  obtain ⟨⟨hP, hsz⟩, hS, hL, hcc, hss, hcr, hsr⟩ := hD
  have hts : ∀ w ∈ lw_tbl.filter goodWord, w.before args s = true := fun w hw => ht w (List.mem_filter.mp hw)
  refine va_mmin hx hb (hml.trans hL.2.1.symm) ho (ht _ hlink) (ht _ stJ9_min_7cf53) (ht _ okJ9_min_7cf53.1) (ht _ okJ9_min_7cf53.2) (by omega) (by rw [cat_sum st hst.1]; have := hst.2; omega) (by omega) (by omega) hd ?_
  exact kk l p e R s m args below meth c H locs cells slots mcF msF ls Qc hC0 hD0 hQ
theorem Z.new {idx ci N : Nat} {C : String} {T : u_T} {ty : Nat → FieldType} (hd : decode M.2.1 pc = .ok (.new idx, 3)) (hc : clOk ci C T N ty) (hlink : inT (.classLink M.1.cls idx C)) (hia : inT (.instantiable C N)) (hini : inT (.initialized C)) (hb1 : 1 ≤ mc) (hb2 : N ≤ ms)
    (kk : Z g d (mc - 1) (ms - N) M (pc + 3) L (.ref S.length :: st) (va_up I S.length (fun _ => 0)) (S ++ [(ci, 0, List.replicate N none)]) Q) : Z g d mc ms M pc L st I S Q := by
  intro l p e R s m args below meth c H locs cells slots mcF msF ls Qc hC hD hQ
  have hC0 := hC
  have hD0 := hD
  obtain ⟨hx, hb, hr, hlk, hml, ho, hnm, ht, hK, hfr, hlo, hbs⟩ := hC
  obtain ⟨⟨hP, hsz⟩, hS, hL, hcc, hss, hcr, hsr⟩ := hD
  have hts : ∀ w ∈ lw_tbl.filter goodWord, w.before args s = true := fun w hw => ht w (List.mem_filter.mp hw)
  have hin : ∀ w ∈ u_ws C T N, w ∈ lw_tbl.filter goodWord := fun w hw => List.mem_filter.mpr (hc.2.1 w hw)
  have hKn := hK.1.1 ci _ hc.1
  refine W.newcK hx hb ho (ht _ hlink) (ht _ hia) (ht _ hini) rfl hd (by omega) (by omega) hKn.2.1 hsz fun H1 kC hkC e1 z1 o1 => ?_
  have hP' : va_P (g.1, g.2.1) mCl (wl g (va_up I S.length (fun _ => 0)) (S ++ [(ci, 0, List.replicate N none)])) H1 := by
    rw [← wl_push]
    refine (hP.kept (fun k x hx => o1 x.1 (hsz ▸ (hP k x hx).lt))).app (fun k x hx => ?_)
    have hz : k < 1 := (List.getElem?_eq_some_iff.mp hx).1
    rw [show k = 0 by omega] at hx
    cases hx
    rw [ent_obj hc.2.2.2.2.2.1]
    refine ⟨_, hc.1, (u_born ty hts hin hKn hkC e1 hc.2.2.1).to (fun k hk => ?_)⟩
    rw [hc.2.2.2.2.2.2 k hk, vp_V, List.getD_eq_getElem?_getD, fs_at hc.2.2.2.2.1 hk, fVal]
    by_cases h2 : fTy ci k = 2
    · rw [if_pos h2, if_pos h2, List.getD_eq_getElem?_getD, List.getElem?_replicate]
      simp [hk, srf, va_rf]
    · rw [if_neg h2, if_neg h2]
      rfl
  exact kk l p e R s m args below meth c H1 locs (cells + 1) (slots + N) mcF msF ls Qc hC0 ⟨⟨hP', by rw [z1, List.length_append]; rfl⟩, ⟨Nat.le_trans hS.1 (by omega), fun x h1 h2 => (o1 x (by rw [← hsz]; exact Nat.lt_of_lt_of_le h1 hS.1)).trans (hS.2.1 x h1 h2), hS.2.2⟩, hL, by omega, by omega, hcr, hsr⟩ hQ
theorem Z.newa {at' : ArrayType} {ck n : Nat} {i : Int32} (hd : decode M.2.1 pc = .ok (.newarray at', 2)) (hty : at' = .int ∧ ck = 8 ∨ at' = .boolean ∧ ck = 9) (hi : i = nI n) (hn : n < 100000) (hb1 : 1 ≤ mc) (hb2 : n ≤ ms)
    (kk : Z g d (mc - 1) (ms - n) M (pc + 2) L (.ref S.length :: st) (va_up I S.length (fun _ => 0)) (S ++ [(ck, n, [])]) Q) : Z g d mc ms M pc L (.int i :: st) I S Q := by
  intro l p e R s m args below meth c H locs cells slots mcF msF ls Qc hC hD hQ
  have hC0 := hC
  have hD0 := hD
  obtain ⟨hx, hb, hr, hlk, hml, ho, hnm, ht, hK, hfr, hlo, hbs⟩ := hC
  obtain ⟨⟨hP, hsz⟩, hS, hL, hcc, hss, hcr, hsr⟩ := hD
  have hts : ∀ w ∈ lw_tbl.filter goodWord, w.before args s = true := fun w hw => ht w (List.mem_filter.mp hw)
  have hi0 : ¬ i < 0 := by rw [hi]; exact nI_pos (by omega)
  have hiN : i.toNatClampNeg = n := by rw [hi]; exact nI_clamp (by omega)
  have hbt : n * componentBytes (newarray.typeOf at') ≤ 536870912 := by
    rcases hty with ⟨rfl, -⟩ | ⟨rfl, -⟩
    · show n * 4 ≤ _; omega
    · show n * 1 ≤ _; omega
  refine va_newaK hx hb (by rcases hty with ⟨rfl, -⟩ | ⟨rfl, -⟩; exact ht _ acI; exact ht _ acZ) rfl hd rfl hi0 hiN hbt (by omega) (by omega) hsz fun H1 cA e1 z1 o1 hAr hNm => ?_
  have hP' : va_P (g.1, g.2.1) mCl (wl g (va_up I S.length (fun _ => 0)) (S ++ [(ck, n, [])])) H1 := by
    rw [← wl_push]
    refine (hP.kept (fun k x hx => o1 x.1 (hsz ▸ (hP k x hx).lt))).app (fun k x hx => ?_)
    have hz : k < 1 := (List.getElem?_eq_some_iff.mp hx).1
    rw [show k = 0 by omega] at hx
    cases hx
    rcases hty with ⟨rfl, rfl⟩ | ⟨rfl, rfl⟩
    · have hcA : cA = g.2.2.1 := Option.some.inj (hNm.symm.trans (hK.1.2 0 _ (show (mTys g)[0]? = some (g.2.2.1, .int) from rfl)).2)
      rw [hcA] at e1
      exact e1
    · have hcA : cA = g.2.2.2.1 := Option.some.inj (hNm.symm.trans (hK.1.2 1 _ (show (mTys g)[1]? = some (g.2.2.2.1, .boolean) from rfl)).2)
      rw [hcA] at e1
      exact e1
  exact kk l p e R s m args below meth c H1 locs (cells + 1) (slots + n) mcF msF ls Qc hC0 ⟨⟨hP', by rw [z1, List.length_append]; rfl⟩, ⟨Nat.le_trans hS.1 (by omega), fun x h1 h2 => (o1 x (by rw [← hsz]; exact Nat.lt_of_lt_of_le h1 hS.1)).trans (hS.2.1 x h1 h2), hS.2.2⟩, hL, by omega, by omega, hcr, hsr⟩ hQ
theorem Z.anew {idx n : Nat} {i : Int32} (hd : decode M.2.1 pc = .ok (.anewarray idx, 3)) (hlink : inT (.classLink M.1.cls idx RX1)) (hi : i = nI n) (hn : n < 100000) (hb1 : 1 ≤ mc) (hb2 : n ≤ ms)
    (kk : Z g d (mc - 1) (ms - n) M (pc + 3) L (.ref S.length :: st) (va_up I S.length (fun _ => 0)) (S ++ [(10, n, List.replicate n none)]) Q) : Z g d mc ms M pc L (.int i :: st) I S Q := by
  intro l p e R s m args below meth c H locs cells slots mcF msF ls Qc hC hD hQ
  have hC0 := hC
  have hD0 := hD
  obtain ⟨hx, hb, hr, hlk, hml, ho, hnm, ht, hK, hfr, hlo, hbs⟩ := hC
  obtain ⟨⟨hP, hsz⟩, hS, hL, hcc, hss, hcr, hsr⟩ := hD
  have hts : ∀ w ∈ lw_tbl.filter goodWord, w.before args s = true := fun w hw => ht w (List.mem_filter.mp hw)
  have hi0 : ¬ i < 0 := by rw [hi]; exact nI_pos (by omega)
  have hiN : i.toNatClampNeg = n := by rw [hi]; exact nI_clamp (by omega)
  subst hiN
  refine W.anew hx hb ho (ht _ hlink) (va_AO.use hK.2.2.2) rfl hd rfl hi0 (by omega) (by omega) (by omega) fun cA kA comp f1 f2 f3 f4 => ?_
  generalize hH1 : H.push ({ cls := cA, slots := Array.replicate i.toNatClampNeg .null, vm := .none } : Cell) = H1
  have z1 : H1.size = H.size + 1 := by rw [← hH1, Array.size_push]
  have e1 : H1[H.size]? = some (arrV cA i.toNatClampNeg (fun _ => .null)) := by rw [← hH1, Array.getElem?_push_size, ← arrV_new]
  have o1 : ∀ q : Nat, q < H.size → H1[q]? = H[q]? := fun q hq => by rw [← hH1, Array.getElem?_push, if_neg (Nat.ne_of_lt hq)]
  have hP' : va_P (g.1, g.2.1) mCl (wl g (va_up I S.length (fun _ => 0)) (S ++ [(10, i.toNatClampNeg, List.replicate i.toNatClampNeg none)])) H1 := by
    rw [← wl_push]
    refine (hP.kept (fun k x hx => o1 x.1 ((hP k x hx).lt))).app (fun k x hx => ?_)
    have hz : k < 1 := (List.getElem?_eq_some_iff.mp hx).1
    rw [show k = 0 by omega] at hx
    cases hx
    have hcA : cA = g.2.2.2.2.1 := by
      obtain ⟨_, _, _, _, _, h4⟩ := (hK.1.2 2 _ (show (mTys g)[2]? = some (g.2.2.2.2.1, .object RX1) from rfl)).2
      exact Option.some.inj (f1.symm.trans h4)
    rw [hcA, hsz] at e1
    rw [ent_10]
    show H1[_]? = some (vp_cell _ _)
    rw [vp_cell_q, e1]
    congr 2
    funext q
    rw [List.getD_eq_getElem?_getD, List.getElem?_replicate]
    by_cases hq : q < i.toNatClampNeg <;> simp [hq, srf, va_rf]
  rw [hsz]
  exact kk l p e R s m args below meth c H1 locs (cells + 1) (slots + i.toNatClampNeg) mcF msF ls Qc hC0 ⟨⟨hP', by rw [z1, hsz, List.length_append]; rfl⟩, ⟨Nat.le_trans hS.1 (by omega), fun x h1 h2 => (o1 x (Nat.lt_of_lt_of_le h1 hS.1)).trans (hS.2.1 x h1 h2), hS.2.2⟩, hL, by omega, by omega, hcr, hsr⟩ hQ
theorem Z.aast {a j n v ln : Nat} {rs rv : List (Option Nat)} {i : Int32} (hd : decode M.2.1 pc = .ok (.aastore, 1)) (hs : S[a]? = some (10, n, rs)) (hi : i = nI j) (hj : j < n) (hn : n < 2 ^ 31) (hrs : rs.length = n) (hv : S[v]? = some (1, ln, rv))
    (kk : Z g d mc ms M (pc + 1) L st I (S.set a (10, n, rs.set j (some v))) Q) : Z g d mc ms M pc L (.ref v :: .int i :: .ref a :: st) I S Q := by
  obtain ⟨h1, h2⟩ := in_nI hi hj hn
  intro l p e R s m args below meth c H locs cells slots mcF msF ls Qc hC hD hQ
  have hC0 := hC
  have hD0 := hD
  obtain ⟨hx, hb, hr, hlk, hml, ho, hnm, ht, hK, hfr, hlo, hbs⟩ := hC
  obtain ⟨⟨hP, hsz⟩, hS, hL, hcc, hss, hcr, hsr⟩ := hD
  have hts : ∀ w ∈ lw_tbl.filter goodWord, w.before args s = true := fun w hw => ht w (List.mem_filter.mp hw)
  have ha : (wl g I S)[a]? = some (g_b g + a, .inl (g.2.2.2.2.1, n, .inr (.inr (.inr (.inr (fun j => srf (g_b g) (rs.getD j none))))))) := wl_at hs
  have hvv : (wl g I S)[v]? = some (g_b g + v, .inr (1, (List.range (fN 1)).map (fVal (g_b g) 1 (I v) rv))) := (wl_at hv).trans (by rw [ent_obj (by decide)])
  have hlt : i.toNatClampNeg < n := Nat.not_le.mp fun q => h1 (Or.inr q)
  have h0 : ¬ i < 0 := fun q => h1 (Or.inl q)
  obtain ⟨r', hr', cellV, g1, g2, g3, -⟩ := hP v _ hvv
  have hcls := (hK.1.1 1 _ cl1.1).2
  obtain ⟨kA, comp, k1, k2, k3, -⟩ := (hK.1.2 2 _ (show (mTys g)[2]? = some (g.2.2.2.2.1, .object RX1) from rfl)).2
  have hcomp : comp = g.1 1 := Option.some.inj (k3.symm.trans hcls.1)
  subst hcomp
  obtain ⟨kC, hkC, -⟩ := id hcls.2
  refine W.aast hx hb (hP a _ ha) (fun q h => by cases h) (fun h => by cases h) k1 k2 rfl hkC ⟨h0, by show _ < (arrV _ _ _).slots.size; rw [arrV_size]; exact hlt⟩ g1 (fun q h => by rw [g3] at h; cases h) (by rw [g2]; exact hkC) (by rw [g2]; exact va_assign hcls) rfl rfl hd fun H1 e9 z oq => ?_
  have hP' := hP.set wl_D ha (e := ent g (I a) (10, n, rs.set j (some v))) (by
    rw [ent_10]
    show H1[_]? = some (vp_cell _ _)
    rw [e9, vp_cell_q, vp_cell_q, arrV_store, h2]
    congr 2
    funext q
    by_cases hq : q = j
    · subst hq
      simp [updV, va_rf, srf, List.getD_eq_getElem?_getD, List.getElem?_set_self (hrs ▸ hj)]
    · simp [updV, hq, List.getD_eq_getElem?_getD, List.getElem?_set_ne (Ne.symm hq)]) oq
  rw [wl_setS hs] at hP'
  exact kk l p e R s m args below meth c H1 _ cells slots mcF msF ls Qc hC0 ⟨⟨hP', (z.trans hsz).trans (by rw [List.length_set])⟩, hS.put z oq (Nat.le_add_right _ _), hL, hcc, hss, hcr, hsr⟩ hQ
end ZC
end
section
def bI (b : Bool) : Int32 := if b = true then 1 else 0
theorem bI_01 (b : Bool) : bI b = 0 ∨ bI b = 1 := by cases b <;> decide
theorem bI_0 {b : Bool} : bI b = 0 ↔ b = false := by cases b <;> decide
theorem bI_n0 {b : Bool} : ¬ bI b = 0 ↔ b = true := by cases b <;> decide
theorem nI_sub {a b : Nat} (h : b ≤ a) : nI a - nI b = nI (a - b) := pk_sub h
theorem upZ {P : Nat → Prop} (N : Nat) (h : ∀ i, i ≤ N → (i < N → P (i + 1)) → P i) : ∀ i, i ≤ N → P i := by
  have key : ∀ n i, i ≤ N → N ≤ i + n → P i := by
    intro n
    induction n with
    | zero => intro i h1 h2; exact h i h1 (fun q => absurd q (by omega))
    | succ n ih => intro i h1 h2; exact h i h1 (fun q => ih (i + 1) (by omega) (by omega))
  intro i hi
  exact key N i hi (by omega)
theorem dnZ {P : Nat → Prop} (h : ∀ i, (∀ j, i = j + 1 → P j) → P i) : ∀ i, P i := by
  intro i
  induction i with
  | zero => exact h 0 (fun j q => absurd q (by omega))
  | succ i ih => exact h (i + 1) (fun j q => by have : i = j := by omega
                                                subst this; exact ih)
theorem up_1 {α : Type} {I : Nat → α} {a b : Nat} {f h f' : α} (hab : a ≠ b) : va_up (va_up (va_up I a f) b h) a f' = va_up (va_up I b h) a f' := by
  funext q
  by_cases h1 : q = a <;> by_cases h2 : q = b <;> simp [va_up, h1, h2]
theorem up_2 {α : Type} {I : Nat → α} {a b c : Nat} {f h k f' : α} (hab : a ≠ b) (hac : a ≠ c) : va_up (va_up (va_up (va_up I a f) b h) c k) a f' = va_up (va_up (va_up I b h) c k) a f' := by
  funext q
  by_cases h1 : q = a <;> by_cases h2 : q = b <;> by_cases h3 : q = c <;> simp [va_up, h1, h2, h3]
theorem up_3 {α : Type} {I : Nat → α} {a b c d : Nat} {f h k l f' : α} (hab : a ≠ b) (hac : a ≠ c) (had : a ≠ d) : va_up (va_up (va_up (va_up (va_up I a f) b h) c k) d l) a f' = va_up (va_up (va_up (va_up I b h) c k) d l) a f' := by
  funext q
  by_cases h1 : q = a <;> by_cases h2 : q = b <;> by_cases h3 : q = c <;> by_cases h4 : q = d <;> simp [va_up, h1, h2, h3, h4]
theorem up_4 {α : Type} {I : Nat → α} {a b c d e : Nat} {f h k l m f' : α} (hab : a ≠ b) (hac : a ≠ c) (had : a ≠ d) (hae : a ≠ e) : va_up (va_up (va_up (va_up (va_up (va_up I a f) b h) c k) d l) e m) a f' = va_up (va_up (va_up (va_up (va_up I b h) c k) d l) e m) a f' := by
  funext q
  by_cases h1 : q = a <;> by_cases h2 : q = b <;> by_cases h3 : q = c <;> by_cases h4 : q = d <;> by_cases h5 : q = e <;> simp [va_up, h1, h2, h3, h4, h5]
section ZV
variable {g : GP} {d mc ms : Nat} {M : MI} {pc : Nat} {L st : List Value} {I : IM} {S : SH} {Q : ZQ}
theorem Z.getIv {idx ci k a ln N : Nat} {rs : List (Option Nat)} {C : String} {T : u_T} {ty : Nat → FieldType} {v : Int32} (hd : decode M.2.1 pc = .ok (.getfield idx, 3)) (hc : clOk ci C T N ty) (hf : inT (.fieldLink M.1.cls idx (T k).1 (T k).2.1 (T k).2.2.1)) (hk : k < N ∧ fTy ci k ≠ 2) (hs : S[a]? = some (ci, ln, rs)) (hv : I a k = v)
    (kk : Z g d mc ms M (pc + 3) L (.int v :: st) I S Q) : Z g d mc ms M pc L (.ref a :: st) I S Q := Z.getI hd hc hf hk hs (by rw [hv]; exact kk)
theorem Z.ialdv {a j n : Nat} {rs : List (Option Nat)} {i v : Int32} (hd : decode M.2.1 pc = .ok (.iaload, 1)) (hs : S[a]? = some (8, n, rs)) (hi : i = nI j) (hj : j < n) (hn : n < 2 ^ 31) (hv : I a j = v)
    (kk : Z g d mc ms M (pc + 1) L (.int v :: st) I S Q) : Z g d mc ms M pc L (.int i :: .ref a :: st) I S Q := Z.iald hd hs hi hj hn (by rw [hv]; exact kk)
theorem Z.zaldv {a j n : Nat} {rs : List (Option Nat)} {i v : Int32} (hd : decode M.2.1 pc = .ok (.baload, 1)) (hs : S[a]? = some (9, n, rs)) (hi : i = nI j) (hj : j < n) (hn : n < 2 ^ 31) (hv : I a j = v)
    (kk : Z g d mc ms M (pc + 1) L (.int v :: st) I S Q) : Z g d mc ms M pc L (.int i :: .ref a :: st) I S Q := Z.zald hd hs hi hj hn (by rw [hv]; exact kk)
theorem Z.iaddN {a b : Nat} (hd : decode M.2.1 pc = .ok (.iadd, 1)) (kk : Z g d mc ms M (pc + 1) L (.int (nI (a + b)) :: st) I S Q) : Z g d mc ms M pc L (.int (nI b) :: .int (nI a) :: st) I S Q := Z.iadd hd (by rw [nI_add]; exact kk)
theorem Z.isubN {a b : Nat} (h : b ≤ a) (hd : decode M.2.1 pc = .ok (.isub, 1)) (kk : Z g d mc ms M (pc + 1) L (.int (nI (a - b)) :: st) I S Q) : Z g d mc ms M pc L (.int (nI b) :: .int (nI a) :: st) I S Q := Z.isub hd (by rw [nI_sub h]; exact kk)
theorem Z.imulN {a b : Nat} (hd : decode M.2.1 pc = .ok (.imul, 1)) (kk : Z g d mc ms M (pc + 1) L (.int (nI (a * b)) :: st) I S Q) : Z g d mc ms M pc L (.int (nI b) :: .int (nI a) :: st) I S Q := Z.imul hd (by rw [pk_mul]; exact kk)
theorem Z.if_eqB {b : Bool} {off : Int} {tgt : Nat} (hd : decode M.2.1 pc = .ok (.ifCond .eq off, 3)) (ht : (pc : Int) + off = (tgt : Int)) (k1 : b = false → Z g d mc ms M tgt L st I S Q) (k2 : b = true → Z g d mc ms M (pc + 3) L st I S Q) : Z g d mc ms M pc L (.int (bI b) :: st) I S Q := Z.if_eq hd ht (fun h => k1 (bI_0.mp h)) (fun h => k2 (bI_n0.mp h))
theorem Z.if_neB {b : Bool} {off : Int} {tgt : Nat} (hd : decode M.2.1 pc = .ok (.ifCond .ne off, 3)) (ht : (pc : Int) + off = (tgt : Int)) (k1 : b = true → Z g d mc ms M tgt L st I S Q) (k2 : b = false → Z g d mc ms M (pc + 3) L st I S Q) : Z g d mc ms M pc L (.int (bI b) :: st) I S Q := Z.if_ne hd ht (fun h => k1 (bI_n0.mp h)) (fun h => k2 (bI_0.mp h))

theorem Z.icmp_eqN {a b : Nat} {off : Int} {tgt : Nat} (ha : a < 2 ^ 31) (hb : b < 2 ^ 31) (hd : decode M.2.1 pc = .ok (.if_icmp .eq off, 3)) (ht : (pc : Int) + off = (tgt : Int)) (k1 : a = b → Z g d mc ms M tgt L st I S Q) (k2 : ¬ a = b → Z g d mc ms M (pc + 3) L st I S Q) : Z g d mc ms M pc L (.int (nI b) :: .int (nI a) :: st) I S Q := Z.icmp_eq hd ht (fun h => k1 ((nI_eq ha hb).mp h)) (fun h => k2 (fun q => h ((nI_eq ha hb).mpr q)))
theorem Z.icmp_ltN {a b : Nat} {off : Int} {tgt : Nat} (ha : a < 2 ^ 31) (hb : b < 2 ^ 31) (hd : decode M.2.1 pc = .ok (.if_icmp .lt off, 3)) (ht : (pc : Int) + off = (tgt : Int)) (k1 : a < b → Z g d mc ms M tgt L st I S Q) (k2 : b ≤ a → Z g d mc ms M (pc + 3) L st I S Q) : Z g d mc ms M pc L (.int (nI b) :: .int (nI a) :: st) I S Q := Z.icmp_lt hd ht (fun h => k1 ((nI_ltI ha hb).mp h)) (fun h => k2 (Nat.not_lt.mp (fun q => h ((nI_ltI ha hb).mpr q))))
theorem Z.icmp_gtN {a b : Nat} {off : Int} {tgt : Nat} (ha : a < 2 ^ 31) (hb : b < 2 ^ 31) (hd : decode M.2.1 pc = .ok (.if_icmp .gt off, 3)) (ht : (pc : Int) + off = (tgt : Int)) (k1 : b < a → Z g d mc ms M tgt L st I S Q) (k2 : a ≤ b → Z g d mc ms M (pc + 3) L st I S Q) : Z g d mc ms M pc L (.int (nI b) :: .int (nI a) :: st) I S Q := Z.icmp_gt hd ht (fun h => k1 ((nI_ltI hb ha).mp h)) (fun h => k2 (Nat.not_lt.mp (fun q => h ((nI_ltI hb ha).mpr q))))
theorem Z.icmp_geN {a b : Nat} {off : Int} {tgt : Nat} (ha : a < 2 ^ 31) (hb : b < 2 ^ 31) (hd : decode M.2.1 pc = .ok (.if_icmp .ge off, 3)) (ht : (pc : Int) + off = (tgt : Int)) (k1 : b ≤ a → Z g d mc ms M tgt L st I S Q) (k2 : a < b → Z g d mc ms M (pc + 3) L st I S Q) : Z g d mc ms M pc L (.int (nI b) :: .int (nI a) :: st) I S Q := Z.icmp_ge hd ht (fun h => k1 (Nat.not_lt.mp (fun q => h ((nI_ltI ha hb).mpr q)))) (fun h => k2 ((nI_ltI ha hb).mp h))
theorem Z.icmp_leN {a b : Nat} {off : Int} {tgt : Nat} (ha : a < 2 ^ 31) (hb : b < 2 ^ 31) (hd : decode M.2.1 pc = .ok (.if_icmp .le off, 3)) (ht : (pc : Int) + off = (tgt : Int)) (k1 : a ≤ b → Z g d mc ms M tgt L st I S Q) (k2 : b < a → Z g d mc ms M (pc + 3) L st I S Q) : Z g d mc ms M pc L (.int (nI b) :: .int (nI a) :: st) I S Q := Z.icmp_le hd ht (fun h => k1 (Nat.not_lt.mp (fun q => h ((nI_ltI hb ha).mpr q)))) (fun h => k2 ((nI_ltI hb ha).mp h))
theorem Z.icmp_neN {a b : Nat} {off : Int} {tgt : Nat} (ha : a < 2 ^ 31) (hb : b < 2 ^ 31) (hd : decode M.2.1 pc = .ok (.if_icmp .ne off, 3)) (ht : (pc : Int) + off = (tgt : Int)) (k1 : ¬ a = b → Z g d mc ms M tgt L st I S Q) (k2 : a = b → Z g d mc ms M (pc + 3) L st I S Q) : Z g d mc ms M pc L (.int (nI b) :: .int (nI a) :: st) I S Q := Z.icmp_ne hd ht (fun h => k1 (fun q => h ((nI_eq ha hb).mpr q))) (fun h => k2 ((nI_eq ha hb).mp h))
/-- a method that answers r and leaves the world as it is -/
def PQ (r : Value) (I : IM) (S : SH) : ZQ := fun v I' S' => v = some r ∧ I' = I ∧ S' = S
theorem Z.callVp {idx n d1 b ci ln N0 : Nat} {rs : List (Option Nat)} {N : MI} {C : String} {T : u_T} {ty : Nat → FieldType} {As : List Value} {r : Value} (hd : decode M.2.1 pc = .ok (.invokevirtual idx, 3)) (hlink : inT (.methodLink M.1.cls idx N.1)) (hN : mOk N n) (him : inT (.instanceMethod N.1)) (hse : inT (.selects N.1.cls N.1 N.1)) (hs : S[b]? = some (ci, ln, rs)) (hc : clOk ci C T N0 ty) (hcn : C = N.1.cls) (hk : d1 + 1 ≤ d) (hn : As.length = n) (hav : avOk N (.ref b :: As)) (hst : st.all isV = true ∧ st.length ≤ 8)
    (hcal : Z g d1 0 0 N 0 (enL N (.ref b :: As)) [] I S (PQ r I S)) {st0 : List Value} (he : st0 = As.reverse ++ .ref b :: st)
    (kk : Z g d mc ms M (pc + 3) L (r :: st) I S Q) : Z g d mc ms M pc L st0 I S Q := by
  subst he
  refine Z.callV hd hlink hN him hse hs hc hcn hk hn hav hst (Nat.zero_le _) (Nat.zero_le _) hcal (fun v I' S' h => ?_)
  obtain ⟨rfl, rfl, rfl⟩ := h
  exact kk
theorem Z.callSp {idx n d1 : Nat} {N : MI} {As : List Value} {r : Value} (hd : decode M.2.1 pc = .ok (.invokestatic idx, 3)) (hlink : inT (.methodLink M.1.cls idx N.1)) (hN : mOk N n) (hsta : inT (.static N.1)) (hk : d1 + 1 ≤ d) (hn : As.length = n) (hav : avOk N As) (hst : st.all isV = true ∧ st.length ≤ 8)
    (hcal : Z g d1 0 0 N 0 (enL N As) [] I S (PQ r I S)) {st0 : List Value} (he : st0 = As.reverse ++ st)
    (kk : Z g d mc ms M (pc + 3) L (r :: st) I S Q) : Z g d mc ms M pc L st0 I S Q := by
  subst he
  refine Z.callS hd hlink hN hsta hk hn hav hst (Nat.zero_le _) (Nat.zero_le _) hcal (fun v I' S' h => ?_)
  obtain ⟨rfl, rfl, rfl⟩ := h
  exact kk
theorem Z.callSNp {idx n d1 : Nat} {N : MI} {As : List Value} {r : Value} (hd : decode M.2.1 pc = .ok (.invokestatic idx, 3)) (hlink : (M.1.cls, idx, N.1) ∈ nestL) (hN : mOk N n) (hsta : inT (.static N.1)) (hk : d1 + 1 ≤ d) (hn : As.length = n) (hav : avOk N As) (hst : st.all isV = true ∧ st.length ≤ 8)
    (hcal : Z g d1 0 0 N 0 (enL N As) [] I S (PQ r I S)) {st0 : List Value} (he : st0 = As.reverse ++ st)
    (kk : Z g d mc ms M (pc + 3) L (r :: st) I S Q) : Z g d mc ms M pc L st0 I S Q := by
  subst he
  refine Z.callSN hd hlink hN hsta hk hn hav hst (Nat.zero_le _) (Nat.zero_le _) hcal (fun v I' S' h => ?_)
  obtain ⟨rfl, rfl, rfl⟩ := h
  exact kk
theorem Z.callVg {idx n d1 b ci ln N0 : Nat} {rs : List (Option Nat)} {N : MI} {C : String} {T : u_T} {ty : Nat → FieldType} {As : List Value} {Q1 : ZQ} (hd : decode M.2.1 pc = .ok (.invokevirtual idx, 3)) (hlink : inT (.methodLink M.1.cls idx N.1)) (hN : mOk N n) (him : inT (.instanceMethod N.1)) (hse : inT (.selects N.1.cls N.1 N.1)) (hs : S[b]? = some (ci, ln, rs)) (hc : clOk ci C T N0 ty) (hcn : C = N.1.cls) (hk : d1 + 1 ≤ d) (hn : As.length = n) (hav : avOk N (.ref b :: As)) (hst : st.all isV = true ∧ st.length ≤ 8)
    (hcal : Z g d1 0 0 N 0 (enL N (.ref b :: As)) [] I S Q1) {st0 : List Value} (he : st0 = As.reverse ++ .ref b :: st)
    (kk : ∀ v I' S', Q1 v I' S' → Z g d mc ms M (pc + 3) L (v.toList ++ st) I' S' Q) : Z g d mc ms M pc L st0 I S Q := by
  subst he
  exact Z.callV hd hlink hN him hse hs hc hcn hk hn hav hst (Nat.zero_le _) (Nat.zero_le _) hcal kk
theorem Z.eqLs {L' st' : List Value} (hL : L = L') (hs : st = st') (kk : Z g d mc ms M pc L' st' I S Q) : Z g d mc ms M pc L st I S Q := by
  subst hL
  subst hs
  exact kk
theorem Z.eqI {I' : IM} (h : I = I') (kk : Z g d mc ms M pc L st I' S Q) : Z g d mc ms M pc L st I S Q := by
  subst h
  exact kk
theorem Z.callSg {idx n d1 : Nat} {N : MI} {As : List Value} {Q1 : ZQ} (hd : decode M.2.1 pc = .ok (.invokestatic idx, 3)) (hlink : inT (.methodLink M.1.cls idx N.1)) (hN : mOk N n) (hsta : inT (.static N.1)) (hk : d1 + 1 ≤ d) (hn : As.length = n) (hav : avOk N As) (hst : st.all isV = true ∧ st.length ≤ 8)
    (hcal : Z g d1 0 0 N 0 (enL N As) [] I S Q1) {st0 : List Value} (he : st0 = As.reverse ++ st)
    (kk : ∀ v I' S', Q1 v I' S' → Z g d mc ms M (pc + 3) L (v.toList ++ st) I' S' Q) : Z g d mc ms M pc L st0 I S Q := by
  subst he
  exact Z.callS hd hlink hN hsta hk hn hav hst (Nat.zero_le _) (Nat.zero_le _) hcal kk
end ZV
theorem mkX0_init : mOk mX0_init 0 := ⟨okX0_init, by decide +kernel, ⟨by decide +kernel, by decide +kernel⟩, by decide +kernel, by decide⟩
theorem mkX0_clear : mOk mX0_clear 0 := ⟨okX0_clear, by decide +kernel, ⟨by decide +kernel, by decide +kernel⟩, by decide +kernel, by decide⟩
theorem mkX0_isThere : mOk mX0_isThere 0 := ⟨okX0_isThere, by decide +kernel, ⟨by decide +kernel, by decide +kernel⟩, by decide +kernel, by decide⟩
theorem mkX0_add : mOk mX0_add 3 := ⟨okX0_add, by decide +kernel, ⟨by decide +kernel, by decide +kernel⟩, by decide +kernel, by decide⟩
theorem mkX1_init : mOk mX1_init 2 := ⟨okX1_init, by decide +kernel, ⟨by decide +kernel, by decide +kernel⟩, by decide +kernel, by decide⟩
theorem mkX1_hasPicture : mOk mX1_hasPicture 0 := ⟨okX1_hasPicture, by decide +kernel, ⟨by decide +kernel, by decide +kernel⟩, by decide +kernel, by decide⟩
theorem mkX1_addLetter : mOk mX1_addLetter 1 := ⟨okX1_addLetter, by decide +kernel, ⟨by decide +kernel, by decide +kernel⟩, by decide +kernel, by decide⟩
theorem mkX1_addCode : mOk mX1_addCode 1 := ⟨okX1_addCode, by decide +kernel, ⟨by decide +kernel, by decide +kernel⟩, by decide +kernel, by decide⟩
theorem mkX1_likeOfPictures : mOk mX1_likeOfPictures 1 := ⟨okX1_likeOfPictures, by decide +kernel, ⟨by decide +kernel, by decide +kernel⟩, by decide +kernel, by decide⟩
theorem mkX1_hasCode : mOk mX1_hasCode 1 := ⟨okX1_hasCode, by decide +kernel, ⟨by decide +kernel, by decide +kernel⟩, by decide +kernel, by decide⟩
theorem mkX2_init : mOk mX2_init 0 := ⟨okX2_init, by decide +kernel, ⟨by decide +kernel, by decide +kernel⟩, by decide +kernel, by decide⟩
theorem mkX2_nearOf : mOk mX2_nearOf 2 := ⟨okX2_nearOf, by decide +kernel, ⟨by decide +kernel, by decide +kernel⟩, by decide +kernel, by decide⟩
theorem mkX2_tell : mOk mX2_tell 3 := ⟨okX2_tell, by decide +kernel, ⟨by decide +kernel, by decide +kernel⟩, by decide +kernel, by decide⟩
theorem mkX2_find : mOk mX2_find 2 := ⟨okX2_find, by decide +kernel, ⟨by decide +kernel, by decide +kernel⟩, by decide +kernel, by decide⟩
theorem mkX2_append : mOk mX2_append 3 := ⟨okX2_append, by decide +kernel, ⟨by decide +kernel, by decide +kernel⟩, by decide +kernel, by decide⟩
theorem mkX2_forget : mOk mX2_forget 1 := ⟨okX2_forget, by decide +kernel, ⟨by decide +kernel, by decide +kernel⟩, by decide +kernel, by decide⟩
theorem mkX3_init : mOk mX3_init 0 := ⟨okX3_init, by decide +kernel, ⟨by decide +kernel, by decide +kernel⟩, by decide +kernel, by decide⟩
theorem mkX3_latestDay : mOk mX3_latestDay 0 := ⟨okX3_latestDay, by decide +kernel, ⟨by decide +kernel, by decide +kernel⟩, by decide +kernel, by decide⟩
theorem mkX3_take : mOk mX3_take 1 := ⟨okX3_take, by decide +kernel, ⟨by decide +kernel, by decide +kernel⟩, by decide +kernel, by decide⟩
theorem mkX3_add : mOk mX3_add 4 := ⟨okX3_add, by decide +kernel, ⟨by decide +kernel, by decide +kernel⟩, by decide +kernel, by decide⟩
theorem mkX3_takeBack : mOk mX3_takeBack 0 := ⟨okX3_takeBack, by decide +kernel, ⟨by decide +kernel, by decide +kernel⟩, by decide +kernel, by decide⟩
theorem mkX3_areOf : mOk mX3_areOf 1 := ⟨okX3_areOf, by decide +kernel, ⟨by decide +kernel, by decide +kernel⟩, by decide +kernel, by decide⟩
theorem mkX3_tell : mOk mX3_tell 4 := ⟨okX3_tell, by decide +kernel, ⟨by decide +kernel, by decide +kernel⟩, by decide +kernel, by decide⟩
theorem mkX3_latest : mOk mX3_latest 1 := ⟨okX3_latest, by decide +kernel, ⟨by decide +kernel, by decide +kernel⟩, by decide +kernel, by decide⟩
theorem mkX4_init : mOk mX4_init 0 := ⟨okX4_init, by decide +kernel, ⟨by decide +kernel, by decide +kernel⟩, by decide +kernel, by decide⟩
theorem mkX4_placesOf : mOk mX4_placesOf 1 := ⟨okX4_placesOf, by decide +kernel, ⟨by decide +kernel, by decide +kernel⟩, by decide +kernel, by decide⟩
theorem mkX4_setPlaces : mOk mX4_setPlaces 2 := ⟨okX4_setPlaces, by decide +kernel, ⟨by decide +kernel, by decide +kernel⟩, by decide +kernel, by decide⟩
theorem mkX4_setPlace : mOk mX4_setPlace 3 := ⟨okX4_setPlace, by decide +kernel, ⟨by decide +kernel, by decide +kernel⟩, by decide +kernel, by decide⟩
theorem mkX4_setPutCost : mOk mX4_setPutCost 2 := ⟨okX4_setPutCost, by decide +kernel, ⟨by decide +kernel, by decide +kernel⟩, by decide +kernel, by decide⟩
theorem mkX4_setChangeCost : mOk mX4_setChangeCost 3 := ⟨okX4_setChangeCost, by decide +kernel, ⟨by decide +kernel, by decide +kernel⟩, by decide +kernel, by decide⟩
theorem mkX4_countOf : mOk mX4_countOf 1 := ⟨okX4_countOf, by decide +kernel, ⟨by decide +kernel, by decide +kernel⟩, by decide +kernel, by decide⟩
theorem mkX4_at : mOk mX4_at 2 := ⟨okX4_at, by decide +kernel, ⟨by decide +kernel, by decide +kernel⟩, by decide +kernel, by decide⟩
theorem mkX4_costOf : mOk mX4_costOf 2 := ⟨okX4_costOf, by decide +kernel, ⟨by decide +kernel, by decide +kernel⟩, by decide +kernel, by decide⟩
theorem mkX4_likeOf : mOk mX4_likeOf 2 := ⟨okX4_likeOf, by decide +kernel, ⟨by decide +kernel, by decide +kernel⟩, by decide +kernel, by decide⟩
theorem mkX4_spell : mOk mX4_spell 2 := ⟨okX4_spell, by decide +kernel, ⟨by decide +kernel, by decide +kernel⟩, by decide +kernel, by decide⟩
theorem mkX4_heard : mOk mX4_heard 2 := ⟨okX4_heard, by decide +kernel, ⟨by decide +kernel, by decide +kernel⟩, by decide +kernel, by decide⟩
theorem mkX4_leastSum : mOk mX4_leastSum 2 := ⟨okX4_leastSum, by decide +kernel, ⟨by decide +kernel, by decide +kernel⟩, by decide +kernel, by decide⟩
theorem mkX5_init : mOk mX5_init 0 := ⟨okX5_init, by decide +kernel, ⟨by decide +kernel, by decide +kernel⟩, by decide +kernel, by decide⟩
theorem mkX5_read : mOk mX5_read 4 := ⟨okX5_read, by decide +kernel, ⟨by decide +kernel, by decide +kernel⟩, by decide +kernel, by decide⟩
theorem mkX5_isEntered : mOk mX5_isEntered 0 := ⟨okX5_isEntered, by decide +kernel, ⟨by decide +kernel, by decide +kernel⟩, by decide +kernel, by decide⟩
theorem mkX5_termEnd : mOk mX5_termEnd 0 := ⟨okX5_termEnd, by decide +kernel, ⟨by decide +kernel, by decide +kernel⟩, by decide +kernel, by decide⟩
theorem mkX5_isLapsed : mOk mX5_isLapsed 0 := ⟨okX5_isLapsed, by decide +kernel, ⟨by decide +kernel, by decide +kernel⟩, by decide +kernel, by decide⟩
theorem mkX5_isTimeToRenew : mOk mX5_isTimeToRenew 0 := ⟨okX5_isTimeToRenew, by decide +kernel, ⟨by decide +kernel, by decide +kernel⟩, by decide +kernel, by decide⟩
theorem mkX5_find : mOk mX5_find 1 := ⟨okX5_find, by decide +kernel, ⟨by decide +kernel, by decide +kernel⟩, by decide +kernel, by decide⟩
theorem mkX5_keeps : mOk mX5_keeps 1 := ⟨okX5_keeps, by decide +kernel, ⟨by decide +kernel, by decide +kernel⟩, by decide +kernel, by decide⟩
theorem mkX5_sinceAt : mOk mX5_sinceAt 1 := ⟨okX5_sinceAt, by decide +kernel, ⟨by decide +kernel, by decide +kernel⟩, by decide +kernel, by decide⟩
theorem mkX5_rightAt : mOk mX5_rightAt 1 := ⟨okX5_rightAt, by decide +kernel, ⟨by decide +kernel, by decide +kernel⟩, by decide +kernel, by decide⟩
theorem mkX5_standsAt : mOk mX5_standsAt 1 := ⟨okX5_standsAt, by decide +kernel, ⟨by decide +kernel, by decide +kernel⟩, by decide +kernel, by decide⟩
theorem mkX5_standsForAny : mOk mX5_standsForAny 0 := ⟨okX5_standsForAny, by decide +kernel, ⟨by decide +kernel, by decide +kernel⟩, by decide +kernel, by decide⟩
theorem mkX5_clear : mOk mX5_clear 1 := ⟨okX5_clear, by decide +kernel, ⟨by decide +kernel, by decide +kernel⟩, by decide +kernel, by decide⟩
theorem mkX5_readPaper : mOk mX5_readPaper 4 := ⟨okX5_readPaper, by decide +kernel, ⟨by decide +kernel, by decide +kernel⟩, by decide +kernel, by decide⟩
theorem mkX5_readEnter : mOk mX5_readEnter 3 := ⟨okX5_readEnter, by decide +kernel, ⟨by decide +kernel, by decide +kernel⟩, by decide +kernel, by decide⟩
theorem mkX5_readGoods : mOk mX5_readGoods 2 := ⟨okX5_readGoods, by decide +kernel, ⟨by decide +kernel, by decide +kernel⟩, by decide +kernel, by decide⟩
theorem mkX5_readGive : mOk mX5_readGive 2 := ⟨okX5_readGive, by decide +kernel, ⟨by decide +kernel, by decide +kernel⟩, by decide +kernel, by decide⟩
theorem mkX5_readUse : mOk mX5_readUse 2 := ⟨okX5_readUse, by decide +kernel, ⟨by decide +kernel, by decide +kernel⟩, by decide +kernel, by decide⟩
theorem mkX6_init : mOk mX6_init 0 := ⟨okX6_init, by decide +kernel, ⟨by decide +kernel, by decide +kernel⟩, by decide +kernel, by decide⟩
theorem mkX6_row : mOk mX6_row 2 := ⟨okX6_row, by decide +kernel, ⟨by decide +kernel, by decide +kernel⟩, by decide +kernel, by decide⟩
theorem mkX6_sound : mOk mX6_sound 3 := ⟨okX6_sound, by decide +kernel, ⟨by decide +kernel, by decide +kernel⟩, by decide +kernel, by decide⟩
theorem mkX6_cost : mOk mX6_cost 3 := ⟨okX6_cost, by decide +kernel, ⟨by decide +kernel, by decide +kernel⟩, by decide +kernel, by decide⟩
theorem mkX6_near : mOk mX6_near 3 := ⟨okX6_near, by decide +kernel, ⟨by decide +kernel, by decide +kernel⟩, by decide +kernel, by decide⟩
theorem mkX6_levels : mOk mX6_levels 2 := ⟨okX6_levels, by decide +kernel, ⟨by decide +kernel, by decide +kernel⟩, by decide +kernel, by decide⟩
theorem mkX6_mark : mOk mX6_mark 2 := ⟨okX6_mark, by decide +kernel, ⟨by decide +kernel, by decide +kernel⟩, by decide +kernel, by decide⟩
theorem mkX6_letter : mOk mX6_letter 2 := ⟨okX6_letter, by decide +kernel, ⟨by decide +kernel, by decide +kernel⟩, by decide +kernel, by decide⟩
theorem mkX6_code : mOk mX6_code 2 := ⟨okX6_code, by decide +kernel, ⟨by decide +kernel, by decide +kernel⟩, by decide +kernel, by decide⟩
theorem mkX6_paper : mOk mX6_paper 4 := ⟨okX6_paper, by decide +kernel, ⟨by decide +kernel, by decide +kernel⟩, by decide +kernel, by decide⟩
theorem mkX6_oppose : mOk mX6_oppose 3 := ⟨okX6_oppose, by decide +kernel, ⟨by decide +kernel, by decide +kernel⟩, by decide +kernel, by decide⟩
theorem mkX6_undo : mOk mX6_undo 0 := ⟨okX6_undo, by decide +kernel, ⟨by decide +kernel, by decide +kernel⟩, by decide +kernel, by decide⟩
theorem mkX6_paperOf : mOk mX6_paperOf 2 := ⟨okX6_paperOf, by decide +kernel, ⟨by decide +kernel, by decide +kernel⟩, by decide +kernel, by decide⟩
theorem mkX6_markOf : mOk mX6_markOf 2 := ⟨okX6_markOf, by decide +kernel, ⟨by decide +kernel, by decide +kernel⟩, by decide +kernel, by decide⟩
theorem mkX6_soundOf : mOk mX6_soundOf 2 := ⟨okX6_soundOf, by decide +kernel, ⟨by decide +kernel, by decide +kernel⟩, by decide +kernel, by decide⟩
theorem mkX6_like : mOk mX6_like 3 := ⟨okX6_like, by decide +kernel, ⟨by decide +kernel, by decide +kernel⟩, by decide +kernel, by decide⟩
theorem mkX6_right : mOk mX6_right 5 := ⟨okX6_right, by decide +kernel, ⟨by decide +kernel, by decide +kernel⟩, by decide +kernel, by decide⟩
theorem mkX6_state : mOk mX6_state 3 := ⟨okX6_state, by decide +kernel, ⟨by decide +kernel, by decide +kernel⟩, by decide +kernel, by decide⟩
theorem mkX6_clash : mOk mX6_clash 4 := ⟨okX6_clash, by decide +kernel, ⟨by decide +kernel, by decide +kernel⟩, by decide +kernel, by decide⟩
theorem mkX6_first : mOk mX6_first 3 := ⟨okX6_first, by decide +kernel, ⟨by decide +kernel, by decide +kernel⟩, by decide +kernel, by decide⟩
theorem mkX6_may : mOk mX6_may 5 := ⟨okX6_may, by decide +kernel, ⟨by decide +kernel, by decide +kernel⟩, by decide +kernel, by decide⟩
theorem mkX6_watch : mOk mX6_watch 1 := ⟨okX6_watch, by decide +kernel, ⟨by decide +kernel, by decide +kernel⟩, by decide +kernel, by decide⟩
theorem mkX6_about : mOk mX6_about 1 := ⟨okX6_about, by decide +kernel, ⟨by decide +kernel, by decide +kernel⟩, by decide +kernel, by decide⟩
theorem mkX6_below : mOk mX6_below 2 := ⟨okX6_below, by decide +kernel, ⟨by decide +kernel, by decide +kernel⟩, by decide +kernel, by decide⟩
theorem mkX6_isDay : mOk mX6_isDay 1 := ⟨okX6_isDay, by decide +kernel, ⟨by decide +kernel, by decide +kernel⟩, by decide +kernel, by decide⟩
theorem mkX6_markAt : mOk mX6_markAt 1 := ⟨okX6_markAt, by decide +kernel, ⟨by decide +kernel, by decide +kernel⟩, by decide +kernel, by decide⟩
theorem mkX6_boundOfX : mOk mX6_boundOfX 1 := ⟨okX6_boundOfX, by decide +kernel, ⟨by decide +kernel, by decide +kernel⟩, by decide +kernel, by decide⟩
theorem mkX6_canBe : mOk mX6_canBe 4 := ⟨okX6_canBe, by decide +kernel, ⟨by decide +kernel, by decide +kernel⟩, by decide +kernel, by decide⟩
theorem mkX6_isOfKind : mOk mX6_isOfKind 2 := ⟨okX6_isOfKind, by decide +kernel, ⟨by decide +kernel, by decide +kernel⟩, by decide +kernel, by decide⟩
theorem mkX6_haveOneOwner : mOk mX6_haveOneOwner 2 := ⟨okX6_haveOneOwner, by decide +kernel, ⟨by decide +kernel, by decide +kernel⟩, by decide +kernel, by decide⟩
theorem mkX6_likeOf : mOk mX6_likeOf 2 := ⟨okX6_likeOf, by decide +kernel, ⟨by decide +kernel, by decide +kernel⟩, by decide +kernel, by decide⟩
theorem mkX6_areAlike : mOk mX6_areAlike 2 := ⟨okX6_areAlike, by decide +kernel, ⟨by decide +kernel, by decide +kernel⟩, by decide +kernel, by decide⟩
theorem mkX6_isNear : mOk mX6_isNear 2 := ⟨okX6_isNear, by decide +kernel, ⟨by decide +kernel, by decide +kernel⟩, by decide +kernel, by decide⟩
theorem mkX6_earliestNear : mOk mX6_earliestNear 1 := ⟨okX6_earliestNear, by decide +kernel, ⟨by decide +kernel, by decide +kernel⟩, by decide +kernel, by decide⟩
theorem mkX6_standsNearYounger : mOk mX6_standsNearYounger 0 := ⟨okX6_standsNearYounger, by decide +kernel, ⟨by decide +kernel, by decide +kernel⟩, by decide +kernel, by decide⟩
theorem mkX6_claimOf : mOk mX6_claimOf 3 := ⟨okX6_claimOf, by decide +kernel, ⟨by decide +kernel, by decide +kernel⟩, by decide +kernel, by decide⟩
theorem mkX6_findClash : mOk mX6_findClash 4 := ⟨okX6_findClash, by decide +kernel, ⟨by decide +kernel, by decide +kernel⟩, by decide +kernel, by decide⟩
theorem mkX6_findClashOver : mOk mX6_findClashOver 4 := ⟨okX6_findClashOver, by decide +kernel, ⟨by decide +kernel, by decide +kernel⟩, by decide +kernel, by decide⟩
theorem mkX7_init : mOk mX7_init 0 := ⟨okX7_init, by decide +kernel, ⟨by decide +kernel, by decide +kernel⟩, by decide +kernel, by decide⟩
theorem mkX7_in : mOk mX7_in 3 := ⟨okX7_in, by decide +kernel, ⟨by decide +kernel, by decide +kernel⟩, by decide +kernel, by decide⟩
theorem mkX7_isMark : mOk mX7_isMark 1 := ⟨okX7_isMark, by decide +kernel, ⟨by decide +kernel, by decide +kernel⟩, by decide +kernel, by decide⟩
theorem mkX7_isDay : mOk mX7_isDay 1 := ⟨okX7_isDay, by decide +kernel, ⟨by decide +kernel, by decide +kernel⟩, by decide +kernel, by decide⟩
theorem mkX7_isCountry : mOk mX7_isCountry 1 := ⟨okX7_isCountry, by decide +kernel, ⟨by decide +kernel, by decide +kernel⟩, by decide +kernel, by decide⟩
theorem mkX7_isGoods : mOk mX7_isGoods 1 := ⟨okX7_isGoods, by decide +kernel, ⟨by decide +kernel, by decide +kernel⟩, by decide +kernel, by decide⟩
theorem mkX7_isPerson : mOk mX7_isPerson 1 := ⟨okX7_isPerson, by decide +kernel, ⟨by decide +kernel, by decide +kernel⟩, by decide +kernel, by decide⟩
theorem mkX7_row : mOk mX7_row 2 := ⟨okX7_row, by decide +kernel, ⟨by decide +kernel, by decide +kernel⟩, by decide +kernel, by decide⟩
theorem mkX7_sound : mOk mX7_sound 3 := ⟨okX7_sound, by decide +kernel, ⟨by decide +kernel, by decide +kernel⟩, by decide +kernel, by decide⟩
theorem mkX7_cost : mOk mX7_cost 3 := ⟨okX7_cost, by decide +kernel, ⟨by decide +kernel, by decide +kernel⟩, by decide +kernel, by decide⟩
theorem mkX7_pairOf : mOk mX7_pairOf 2 := ⟨okX7_pairOf, by decide +kernel, ⟨by decide +kernel, by decide +kernel⟩, by decide +kernel, by decide⟩
theorem mkX7_near : mOk mX7_near 3 := ⟨okX7_near, by decide +kernel, ⟨by decide +kernel, by decide +kernel⟩, by decide +kernel, by decide⟩
theorem mkX7_nearOf : mOk mX7_nearOf 2 := ⟨okX7_nearOf, by decide +kernel, ⟨by decide +kernel, by decide +kernel⟩, by decide +kernel, by decide⟩
theorem mkX7_levels : mOk mX7_levels 2 := ⟨okX7_levels, by decide +kernel, ⟨by decide +kernel, by decide +kernel⟩, by decide +kernel, by decide⟩
theorem mkX7_mark : mOk mX7_mark 2 := ⟨okX7_mark, by decide +kernel, ⟨by decide +kernel, by decide +kernel⟩, by decide +kernel, by decide⟩
theorem mkX7_hasPaper : mOk mX7_hasPaper 1 := ⟨okX7_hasPaper, by decide +kernel, ⟨by decide +kernel, by decide +kernel⟩, by decide +kernel, by decide⟩
theorem mkX7_letter : mOk mX7_letter 2 := ⟨okX7_letter, by decide +kernel, ⟨by decide +kernel, by decide +kernel⟩, by decide +kernel, by decide⟩
theorem mkX7_code : mOk mX7_code 2 := ⟨okX7_code, by decide +kernel, ⟨by decide +kernel, by decide +kernel⟩, by decide +kernel, by decide⟩
theorem mkX7_hasCode : mOk mX7_hasCode 2 := ⟨okX7_hasCode, by decide +kernel, ⟨by decide +kernel, by decide +kernel⟩, by decide +kernel, by decide⟩
theorem mkX7_soundOfLetter : mOk mX7_soundOfLetter 2 := ⟨okX7_soundOfLetter, by decide +kernel, ⟨by decide +kernel, by decide +kernel⟩, by decide +kernel, by decide⟩
theorem mkX7_soundsInto : mOk mX7_soundsInto 2 := ⟨okX7_soundsInto, by decide +kernel, ⟨by decide +kernel, by decide +kernel⟩, by decide +kernel, by decide⟩
theorem mkX7_costOf : mOk mX7_costOf 2 := ⟨okX7_costOf, by decide +kernel, ⟨by decide +kernel, by decide +kernel⟩, by decide +kernel, by decide⟩
theorem mkX7_wordsLike : mOk mX7_wordsLike 2 := ⟨okX7_wordsLike, by decide +kernel, ⟨by decide +kernel, by decide +kernel⟩, by decide +kernel, by decide⟩
theorem mkX7_codesLike : mOk mX7_codesLike 2 := ⟨okX7_codesLike, by decide +kernel, ⟨by decide +kernel, by decide +kernel⟩, by decide +kernel, by decide⟩
theorem mkX7_likeOf : mOk mX7_likeOf 2 := ⟨okX7_likeOf, by decide +kernel, ⟨by decide +kernel, by decide +kernel⟩, by decide +kernel, by decide⟩
theorem mkX7_isAlike : mOk mX7_isAlike 2 := ⟨okX7_isAlike, by decide +kernel, ⟨by decide +kernel, by decide +kernel⟩, by decide +kernel, by decide⟩
theorem mkX7_latest : mOk mX7_latest 4 := ⟨okX7_latest, by decide +kernel, ⟨by decide +kernel, by decide +kernel⟩, by decide +kernel, by decide⟩
theorem mkX7_earliest : mOk mX7_earliest 4 := ⟨okX7_earliest, by decide +kernel, ⟨by decide +kernel, by decide +kernel⟩, by decide +kernel, by decide⟩
theorem mkX7_countOf : mOk mX7_countOf 3 := ⟨okX7_countOf, by decide +kernel, ⟨by decide +kernel, by decide +kernel⟩, by decide +kernel, by decide⟩
theorem mkX7_since : mOk mX7_since 3 := ⟨okX7_since, by decide +kernel, ⟨by decide +kernel, by decide +kernel⟩, by decide +kernel, by decide⟩
theorem mkX7_firstOf : mOk mX7_firstOf 2 := ⟨okX7_firstOf, by decide +kernel, ⟨by decide +kernel, by decide +kernel⟩, by decide +kernel, by decide⟩
theorem mkX7_termEnd : mOk mX7_termEnd 2 := ⟨okX7_termEnd, by decide +kernel, ⟨by decide +kernel, by decide +kernel⟩, by decide +kernel, by decide⟩
theorem mkX7_hasLapsed : mOk mX7_hasLapsed 2 := ⟨okX7_hasLapsed, by decide +kernel, ⟨by decide +kernel, by decide +kernel⟩, by decide +kernel, by decide⟩
theorem mkX7_isStruck : mOk mX7_isStruck 2 := ⟨okX7_isStruck, by decide +kernel, ⟨by decide +kernel, by decide +kernel⟩, by decide +kernel, by decide⟩
theorem mkX7_rightOf : mOk mX7_rightOf 4 := ⟨okX7_rightOf, by decide +kernel, ⟨by decide +kernel, by decide +kernel⟩, by decide +kernel, by decide⟩
theorem mkX7_stands : mOk mX7_stands 4 := ⟨okX7_stands, by decide +kernel, ⟨by decide +kernel, by decide +kernel⟩, by decide +kernel, by decide⟩
theorem mkX7_goodsInto : mOk mX7_goodsInto 3 := ⟨okX7_goodsInto, by decide +kernel, ⟨by decide +kernel, by decide +kernel⟩, by decide +kernel, by decide⟩
theorem mkX7_isNear : mOk mX7_isNear 4 := ⟨okX7_isNear, by decide +kernel, ⟨by decide +kernel, by decide +kernel⟩, by decide +kernel, by decide⟩
theorem mkX7_hasLeave : mOk mX7_hasLeave 3 := ⟨okX7_hasLeave, by decide +kernel, ⟨by decide +kernel, by decide +kernel⟩, by decide +kernel, by decide⟩
theorem mkX7_mayClash : mOk mX7_mayClash 3 := ⟨okX7_mayClash, by decide +kernel, ⟨by decide +kernel, by decide +kernel⟩, by decide +kernel, by decide⟩
theorem mkX7_clashes : mOk mX7_clashes 6 := ⟨okX7_clashes, by decide +kernel, ⟨by decide +kernel, by decide +kernel⟩, by decide +kernel, by decide⟩
theorem mkX7_clashOf : mOk mX7_clashOf 4 := ⟨okX7_clashOf, by decide +kernel, ⟨by decide +kernel, by decide +kernel⟩, by decide +kernel, by decide⟩
theorem mkX7_clashRight : mOk mX7_clashRight 4 := ⟨okX7_clashRight, by decide +kernel, ⟨by decide +kernel, by decide +kernel⟩, by decide +kernel, by decide⟩
theorem mkX7_isX : mOk mX7_isX 2 := ⟨okX7_isX, by decide +kernel, ⟨by decide +kernel, by decide +kernel⟩, by decide +kernel, by decide⟩
theorem mkX7_canBe : mOk mX7_canBe 4 := ⟨okX7_canBe, by decide +kernel, ⟨by decide +kernel, by decide +kernel⟩, by decide +kernel, by decide⟩
theorem mkX7_paper : mOk mX7_paper 4 := ⟨okX7_paper, by decide +kernel, ⟨by decide +kernel, by decide +kernel⟩, by decide +kernel, by decide⟩
theorem mkX7_oppose : mOk mX7_oppose 3 := ⟨okX7_oppose, by decide +kernel, ⟨by decide +kernel, by decide +kernel⟩, by decide +kernel, by decide⟩
theorem mkX7_undo : mOk mX7_undo 0 := ⟨okX7_undo, by decide +kernel, ⟨by decide +kernel, by decide +kernel⟩, by decide +kernel, by decide⟩
theorem mkX7_paperOf : mOk mX7_paperOf 2 := ⟨okX7_paperOf, by decide +kernel, ⟨by decide +kernel, by decide +kernel⟩, by decide +kernel, by decide⟩
theorem mkX7_markOf : mOk mX7_markOf 2 := ⟨okX7_markOf, by decide +kernel, ⟨by decide +kernel, by decide +kernel⟩, by decide +kernel, by decide⟩
theorem mkX7_soundOf : mOk mX7_soundOf 2 := ⟨okX7_soundOf, by decide +kernel, ⟨by decide +kernel, by decide +kernel⟩, by decide +kernel, by decide⟩
theorem mkX7_like : mOk mX7_like 3 := ⟨okX7_like, by decide +kernel, ⟨by decide +kernel, by decide +kernel⟩, by decide +kernel, by decide⟩
theorem mkX7_right : mOk mX7_right 5 := ⟨okX7_right, by decide +kernel, ⟨by decide +kernel, by decide +kernel⟩, by decide +kernel, by decide⟩
theorem mkX7_state : mOk mX7_state 3 := ⟨okX7_state, by decide +kernel, ⟨by decide +kernel, by decide +kernel⟩, by decide +kernel, by decide⟩
theorem mkX7_clash : mOk mX7_clash 4 := ⟨okX7_clash, by decide +kernel, ⟨by decide +kernel, by decide +kernel⟩, by decide +kernel, by decide⟩
theorem mkX7_first : mOk mX7_first 3 := ⟨okX7_first, by decide +kernel, ⟨by decide +kernel, by decide +kernel⟩, by decide +kernel, by decide⟩
theorem mkX7_nearRight : mOk mX7_nearRight 4 := ⟨okX7_nearRight, by decide +kernel, ⟨by decide +kernel, by decide +kernel⟩, by decide +kernel, by decide⟩
theorem mkX7_may : mOk mX7_may 5 := ⟨okX7_may, by decide +kernel, ⟨by decide +kernel, by decide +kernel⟩, by decide +kernel, by decide⟩
theorem mkX7_watch : mOk mX7_watch 1 := ⟨okX7_watch, by decide +kernel, ⟨by decide +kernel, by decide +kernel⟩, by decide +kernel, by decide⟩
theorem mkX7_comesNear : mOk mX7_comesNear 4 := ⟨okX7_comesNear, by decide +kernel, ⟨by decide +kernel, by decide +kernel⟩, by decide +kernel, by decide⟩
theorem mkX7_about : mOk mX7_about 1 := ⟨okX7_about, by decide +kernel, ⟨by decide +kernel, by decide +kernel⟩, by decide +kernel, by decide⟩
theorem mkJ7_fill_53178 : mOk mJ7_fill_53178 2 := ⟨okJ7_fill_53178, by decide +kernel, ⟨by decide +kernel, by decide +kernel⟩, by decide +kernel, by decide⟩
end
section
/-! the shape of the world: 58 cells that stand from the start, then three for each mark -/
def fx : SH := [(6, 0, [some 1, some 9, some 13, some 14, none, none, none, some 19, some 24, some 29, some 34]), (4, 0, [some 2, some 3, some 4, some 5, some 6, some 7, some 8]), (8, 26, []), (8, 702, []), (8, 66, []), (8, 4356, []), (8, 40, []), (8, 40, []), (8, 41, []), (2, 0, [some 10, some 11, some 12, none]), (8, 100, []), (8, 100, []), (8, 100, []), (10, 120, []), (3, 0, [some 15, some 16, some 17, some 18, none]), (8, 400, []), (8, 400, []), (8, 400, []), (8, 400, []), (5, 0, [none, none, none, none, none, none, none, none, none, some 20, some 21, some 22, some 23]), (8, 20, []), (8, 20, []), (8, 20, []), (9, 20, []), (5, 0, [none, none, none, none, none, none, none, none, none, some 25, some 26, some 27, some 28]), (8, 20, []), (8, 20, []), (8, 20, []), (9, 20, []), (5, 0, [none, none, none, none, none, none, none, none, none, some 30, some 31, some 32, some 33]), (8, 20, []), (8, 20, []), (8, 20, []), (9, 20, []), (0, 0, [none, none]), (7, 0, [some 36, some 37, some 38, some 39, some 40, some 41, some 42, none, none, none, none, some 43, some 44, some 45, some 46, some 47, some 48, none, some 49, some 50, some 51, some 52, some 53, some 54, some 55, some 56, some 57]), (8, 26, []), (8, 702, []), (8, 4356, []), (8, 66, []), (8, 100, []), (8, 100, []), (8, 100, []), (8, 120, []), (8, 120, []), (8, 120, []), (8, 4800, []), (8, 120, []), (8, 1440, []), (8, 400, []), (8, 400, []), (8, 400, []), (8, 400, []), (8, 40, []), (8, 40, []), (8, 1681, []), (8, 400, []), (8, 400, [])]
def Fx (S : SH) : Prop := ∀ a, a < 58 → a ≠ 13 → S[a]? = fx[a]?

theorem fx0 {S : SH} (h : Fx S) : S[0]? = some (6, 0, [some 1, some 9, some 13, some 14, none, none, none, some 19, some 24, some 29, some 34]) := h 0 (by decide) (by decide)
theorem fx1 {S : SH} (h : Fx S) : S[1]? = some (4, 0, [some 2, some 3, some 4, some 5, some 6, some 7, some 8]) := h 1 (by decide) (by decide)
theorem fx2 {S : SH} (h : Fx S) : S[2]? = some (8, 26, []) := h 2 (by decide) (by decide)
theorem fx3 {S : SH} (h : Fx S) : S[3]? = some (8, 702, []) := h 3 (by decide) (by decide)
theorem fx4 {S : SH} (h : Fx S) : S[4]? = some (8, 66, []) := h 4 (by decide) (by decide)
theorem fx5 {S : SH} (h : Fx S) : S[5]? = some (8, 4356, []) := h 5 (by decide) (by decide)
theorem fx6 {S : SH} (h : Fx S) : S[6]? = some (8, 40, []) := h 6 (by decide) (by decide)
theorem fx7 {S : SH} (h : Fx S) : S[7]? = some (8, 40, []) := h 7 (by decide) (by decide)
theorem fx8 {S : SH} (h : Fx S) : S[8]? = some (8, 41, []) := h 8 (by decide) (by decide)
theorem fx9 {S : SH} (h : Fx S) : S[9]? = some (2, 0, [some 10, some 11, some 12, none]) := h 9 (by decide) (by decide)
theorem fx10 {S : SH} (h : Fx S) : S[10]? = some (8, 100, []) := h 10 (by decide) (by decide)
theorem fx11 {S : SH} (h : Fx S) : S[11]? = some (8, 100, []) := h 11 (by decide) (by decide)
theorem fx12 {S : SH} (h : Fx S) : S[12]? = some (8, 100, []) := h 12 (by decide) (by decide)
theorem fx14 {S : SH} (h : Fx S) : S[14]? = some (3, 0, [some 15, some 16, some 17, some 18, none]) := h 14 (by decide) (by decide)
theorem fx15 {S : SH} (h : Fx S) : S[15]? = some (8, 400, []) := h 15 (by decide) (by decide)
theorem fx16 {S : SH} (h : Fx S) : S[16]? = some (8, 400, []) := h 16 (by decide) (by decide)
theorem fx17 {S : SH} (h : Fx S) : S[17]? = some (8, 400, []) := h 17 (by decide) (by decide)
theorem fx18 {S : SH} (h : Fx S) : S[18]? = some (8, 400, []) := h 18 (by decide) (by decide)
theorem fx19 {S : SH} (h : Fx S) : S[19]? = some (5, 0, [none, none, none, none, none, none, none, none, none, some 20, some 21, some 22, some 23]) := h 19 (by decide) (by decide)
theorem fx20 {S : SH} (h : Fx S) : S[20]? = some (8, 20, []) := h 20 (by decide) (by decide)
theorem fx21 {S : SH} (h : Fx S) : S[21]? = some (8, 20, []) := h 21 (by decide) (by decide)
theorem fx22 {S : SH} (h : Fx S) : S[22]? = some (8, 20, []) := h 22 (by decide) (by decide)
theorem fx23 {S : SH} (h : Fx S) : S[23]? = some (9, 20, []) := h 23 (by decide) (by decide)
theorem fx24 {S : SH} (h : Fx S) : S[24]? = some (5, 0, [none, none, none, none, none, none, none, none, none, some 25, some 26, some 27, some 28]) := h 24 (by decide) (by decide)
theorem fx25 {S : SH} (h : Fx S) : S[25]? = some (8, 20, []) := h 25 (by decide) (by decide)
theorem fx26 {S : SH} (h : Fx S) : S[26]? = some (8, 20, []) := h 26 (by decide) (by decide)
theorem fx27 {S : SH} (h : Fx S) : S[27]? = some (8, 20, []) := h 27 (by decide) (by decide)
theorem fx28 {S : SH} (h : Fx S) : S[28]? = some (9, 20, []) := h 28 (by decide) (by decide)
theorem fx29 {S : SH} (h : Fx S) : S[29]? = some (5, 0, [none, none, none, none, none, none, none, none, none, some 30, some 31, some 32, some 33]) := h 29 (by decide) (by decide)
theorem fx30 {S : SH} (h : Fx S) : S[30]? = some (8, 20, []) := h 30 (by decide) (by decide)
theorem fx31 {S : SH} (h : Fx S) : S[31]? = some (8, 20, []) := h 31 (by decide) (by decide)
theorem fx32 {S : SH} (h : Fx S) : S[32]? = some (8, 20, []) := h 32 (by decide) (by decide)
theorem fx33 {S : SH} (h : Fx S) : S[33]? = some (9, 20, []) := h 33 (by decide) (by decide)
theorem fx34 {S : SH} (h : Fx S) : S[34]? = some (0, 0, [none, none]) := h 34 (by decide) (by decide)
theorem fx35 {S : SH} (h : Fx S) : S[35]? = some (7, 0, [some 36, some 37, some 38, some 39, some 40, some 41, some 42, none, none, none, none, some 43, some 44, some 45, some 46, some 47, some 48, none, some 49, some 50, some 51, some 52, some 53, some 54, some 55, some 56, some 57]) := h 35 (by decide) (by decide)
theorem fx36 {S : SH} (h : Fx S) : S[36]? = some (8, 26, []) := h 36 (by decide) (by decide)
theorem fx37 {S : SH} (h : Fx S) : S[37]? = some (8, 702, []) := h 37 (by decide) (by decide)
theorem fx38 {S : SH} (h : Fx S) : S[38]? = some (8, 4356, []) := h 38 (by decide) (by decide)
theorem fx39 {S : SH} (h : Fx S) : S[39]? = some (8, 66, []) := h 39 (by decide) (by decide)
theorem fx40 {S : SH} (h : Fx S) : S[40]? = some (8, 100, []) := h 40 (by decide) (by decide)
theorem fx41 {S : SH} (h : Fx S) : S[41]? = some (8, 100, []) := h 41 (by decide) (by decide)
theorem fx42 {S : SH} (h : Fx S) : S[42]? = some (8, 100, []) := h 42 (by decide) (by decide)
theorem fx43 {S : SH} (h : Fx S) : S[43]? = some (8, 120, []) := h 43 (by decide) (by decide)
theorem fx44 {S : SH} (h : Fx S) : S[44]? = some (8, 120, []) := h 44 (by decide) (by decide)
theorem fx45 {S : SH} (h : Fx S) : S[45]? = some (8, 120, []) := h 45 (by decide) (by decide)
theorem fx46 {S : SH} (h : Fx S) : S[46]? = some (8, 4800, []) := h 46 (by decide) (by decide)
theorem fx47 {S : SH} (h : Fx S) : S[47]? = some (8, 120, []) := h 47 (by decide) (by decide)
theorem fx48 {S : SH} (h : Fx S) : S[48]? = some (8, 1440, []) := h 48 (by decide) (by decide)
theorem fx49 {S : SH} (h : Fx S) : S[49]? = some (8, 400, []) := h 49 (by decide) (by decide)
theorem fx50 {S : SH} (h : Fx S) : S[50]? = some (8, 400, []) := h 50 (by decide) (by decide)
theorem fx51 {S : SH} (h : Fx S) : S[51]? = some (8, 400, []) := h 51 (by decide) (by decide)
theorem fx52 {S : SH} (h : Fx S) : S[52]? = some (8, 400, []) := h 52 (by decide) (by decide)
theorem fx53 {S : SH} (h : Fx S) : S[53]? = some (8, 40, []) := h 53 (by decide) (by decide)
theorem fx54 {S : SH} (h : Fx S) : S[54]? = some (8, 40, []) := h 54 (by decide) (by decide)
theorem fx55 {S : SH} (h : Fx S) : S[55]? = some (8, 1681, []) := h 55 (by decide) (by decide)
theorem fx56 {S : SH} (h : Fx S) : S[56]? = some (8, 400, []) := h 56 (by decide) (by decide)
theorem fx57 {S : SH} (h : Fx S) : S[57]? = some (8, 400, []) := h 57 (by decide) (by decide)
def mkC (x : Nat) : SC := (1, 0, [none, none, some (x + 1), some (x + 2), none, none])
/-- a mark at x, whose row of codes has c places -/
def Mk (S : SH) (x c : Nat) : Prop := S[x]? = some (mkC x) ∧ S[x + 1]? = some (8, 40, []) ∧ S[x + 2]? = some (8, c, [])
def Sh (S : SH) (m : Nat) (c : Nat → Nat) : Prop := Fx S ∧ S.length = 58 + 3 * m ∧ (∃ mr, S[13]? = some (10, 120, mr) ∧ mr.length = 120 ∧ ∀ j, j < m → mr[j]? = some (some (58 + 3 * j))) ∧ ∀ j, j < m → Mk S (58 + 3 * j) (c j)
/-! switches -/
theorem sw_aux {N : Nat} {x : Int32} (h : ¬ (x.toInt < 0 ∨ (N : Int) < x.toInt)) (hN : N < 2 ^ 31) : ∃ j : Nat, j ≤ N ∧ x = nI j := by
  refine ⟨x.toInt.toNat, by omega, Int32.toInt_inj.mp ?_⟩
  rw [nI_toInt (by omega)]
  omega

theorem sw_0_1 (x : Int32) : x = 0 ∨ x = 1 ∨ (x.toInt < 0 ∨ 1 < x.toInt) := by
  by_cases h : x.toInt < 0 ∨ ((1 : Nat) : Int) < x.toInt
  · rcases h with h | h <;> (right; right <;> omega)
  · obtain ⟨j, hj, rfl⟩ := sw_aux h (by decide)
    match j, hj with
    | 0, _ => exact Or.inl rfl
    | 1, _ => exact Or.inr (Or.inl rfl)
    | j + 2, hj => exact absurd hj (by omega)
theorem sw_0_2 (x : Int32) : x = 0 ∨ x = 1 ∨ x = 2 ∨ (x.toInt < 0 ∨ 2 < x.toInt) := by
  by_cases h : x.toInt < 0 ∨ ((2 : Nat) : Int) < x.toInt
  · rcases h with h | h <;> (right; right; right <;> omega)
  · obtain ⟨j, hj, rfl⟩ := sw_aux h (by decide)
    match j, hj with
    | 0, _ => exact Or.inl rfl
    | 1, _ => exact Or.inr (Or.inl rfl)
    | 2, _ => exact Or.inr (Or.inr (Or.inl rfl))
    | j + 3, hj => exact absurd hj (by omega)
theorem sw_0_3 (x : Int32) : x = 0 ∨ x = 1 ∨ x = 2 ∨ x = 3 ∨ (x.toInt < 0 ∨ 3 < x.toInt) := by
  by_cases h : x.toInt < 0 ∨ ((3 : Nat) : Int) < x.toInt
  · rcases h with h | h <;> (right; right; right; right <;> omega)
  · obtain ⟨j, hj, rfl⟩ := sw_aux h (by decide)
    match j, hj with
    | 0, _ => exact Or.inl rfl
    | 1, _ => exact Or.inr (Or.inl rfl)
    | 2, _ => exact Or.inr (Or.inr (Or.inl rfl))
    | 3, _ => exact Or.inr (Or.inr (Or.inr (Or.inl rfl)))
    | j + 4, hj => exact absurd hj (by omega)
theorem sw_0_4 (x : Int32) : x = 0 ∨ x = 1 ∨ x = 2 ∨ x = 3 ∨ x = 4 ∨ (x.toInt < 0 ∨ 4 < x.toInt) := by
  by_cases h : x.toInt < 0 ∨ ((4 : Nat) : Int) < x.toInt
  · rcases h with h | h <;> (right; right; right; right; right <;> omega)
  · obtain ⟨j, hj, rfl⟩ := sw_aux h (by decide)
    match j, hj with
    | 0, _ => exact Or.inl rfl
    | 1, _ => exact Or.inr (Or.inl rfl)
    | 2, _ => exact Or.inr (Or.inr (Or.inl rfl))
    | 3, _ => exact Or.inr (Or.inr (Or.inr (Or.inl rfl)))
    | 4, _ => exact Or.inr (Or.inr (Or.inr (Or.inr (Or.inl rfl))))
    | j + 5, hj => exact absurd hj (by omega)
theorem sw_0_5 (x : Int32) : x = 0 ∨ x = 1 ∨ x = 2 ∨ x = 3 ∨ x = 4 ∨ x = 5 ∨ (x.toInt < 0 ∨ 5 < x.toInt) := by
  by_cases h : x.toInt < 0 ∨ ((5 : Nat) : Int) < x.toInt
  · rcases h with h | h <;> (right; right; right; right; right; right <;> omega)
  · obtain ⟨j, hj, rfl⟩ := sw_aux h (by decide)
    match j, hj with
    | 0, _ => exact Or.inl rfl
    | 1, _ => exact Or.inr (Or.inl rfl)
    | 2, _ => exact Or.inr (Or.inr (Or.inl rfl))
    | 3, _ => exact Or.inr (Or.inr (Or.inr (Or.inl rfl)))
    | 4, _ => exact Or.inr (Or.inr (Or.inr (Or.inr (Or.inl rfl))))
    | 5, _ => exact Or.inr (Or.inr (Or.inr (Or.inr (Or.inr (Or.inl rfl)))))
    | j + 6, hj => exact absurd hj (by omega)
theorem sw_0_8 (x : Int32) : x = 0 ∨ x = 1 ∨ x = 2 ∨ x = 3 ∨ x = 4 ∨ x = 5 ∨ x = 6 ∨ x = 7 ∨ x = 8 ∨ (x.toInt < 0 ∨ 8 < x.toInt) := by
  by_cases h : x.toInt < 0 ∨ ((8 : Nat) : Int) < x.toInt
  · rcases h with h | h <;> (right; right; right; right; right; right; right; right; right <;> omega)
  · obtain ⟨j, hj, rfl⟩ := sw_aux h (by decide)
    match j, hj with
    | 0, _ => exact Or.inl rfl
    | 1, _ => exact Or.inr (Or.inl rfl)
    | 2, _ => exact Or.inr (Or.inr (Or.inl rfl))
    | 3, _ => exact Or.inr (Or.inr (Or.inr (Or.inl rfl)))
    | 4, _ => exact Or.inr (Or.inr (Or.inr (Or.inr (Or.inl rfl))))
    | 5, _ => exact Or.inr (Or.inr (Or.inr (Or.inr (Or.inr (Or.inl rfl)))))
    | 6, _ => exact Or.inr (Or.inr (Or.inr (Or.inr (Or.inr (Or.inr (Or.inl rfl))))))
    | 7, _ => exact Or.inr (Or.inr (Or.inr (Or.inr (Or.inr (Or.inr (Or.inr (Or.inl rfl)))))))
    | 8, _ => exact Or.inr (Or.inr (Or.inr (Or.inr (Or.inr (Or.inr (Or.inr (Or.inr (Or.inl rfl))))))))
    | j + 9, hj => exact absurd hj (by omega)
theorem sw_2_7 (x : Int32) : x = 2 ∨ x = 3 ∨ x = 4 ∨ x = 5 ∨ x = 6 ∨ x = 7 ∨ (x.toInt < 2 ∨ 7 < x.toInt) := by
  by_cases h : x.toInt < 0 ∨ ((7 : Nat) : Int) < x.toInt
  · rcases h with h | h <;> (right; right; right; right; right; right <;> omega)
  · obtain ⟨j, hj, rfl⟩ := sw_aux h (by decide)
    match j, hj with
    | 0, _ => exact Or.inr (Or.inr (Or.inr (Or.inr (Or.inr (Or.inr (by decide))))))
    | 1, _ => exact Or.inr (Or.inr (Or.inr (Or.inr (Or.inr (Or.inr (by decide))))))
    | 2, _ => exact Or.inl rfl
    | 3, _ => exact Or.inr (Or.inl rfl)
    | 4, _ => exact Or.inr (Or.inr (Or.inl rfl))
    | 5, _ => exact Or.inr (Or.inr (Or.inr (Or.inl rfl)))
    | 6, _ => exact Or.inr (Or.inr (Or.inr (Or.inr (Or.inl rfl))))
    | 7, _ => exact Or.inr (Or.inr (Or.inr (Or.inr (Or.inr (Or.inl rfl)))))
    | j + 8, hj => exact absurd hj (by omega)
/-! the log of papers -/
abbrev PL : Type := (Nat → Int32) × (Nat → Int32) × (Nat → Int32) × (Nat → Int32) × Nat
def mt (p : PL) (k m x t : Int32) (i : Nat) : Bool := decide (p.1 i = k) && (decide (p.2.1 i = m) && ((decide (x = -1) || decide (p.2.2.1 i = x)) && !decide (t < p.2.2.2.1 i)))
def latU (p : PL) (k m x t : Int32) : Nat → Int32
  | 0 => -1
  | i + 1 => if mt p k m x t i = true then nI i else latU p k m x t i
def latF (p : PL) (k m x t : Int32) : Int32 := latU p k m x t p.2.2.2.2
def eaU (p : PL) (k m x t : Int32) : Nat → Int32 → Int32
  | 0, f => f
  | i + 1, f => eaU p k m x t i (if mt p k m x t i = true then nI i else f)
def eaF (p : PL) (k m x t : Int32) : Int32 := eaU p k m x t p.2.2.2.2 (-1)
def cntU (p : PL) (k m t : Int32) : Nat → Nat
  | 0 => 0
  | i + 1 => cntU p k m t i + (if decide (p.1 i = k) && (decide (p.2.1 i = m) && !decide (t < p.2.2.2.1 i)) then 1 else 0)
def cntF (p : PL) (k m t : Int32) : Nat := cntU p k m t p.2.2.2.2
def inB (v lo hi : Int32) : Bool := !decide (v < lo) && !decide (hi < v)
/-- the reference's papers, as the world holds them -/
def pM (I : IM) (n : Nat) : PL := (I 49, I 50, I 51, I 52, n)
def Mp (I : IM) (n : Nat) : Prop := I 35 17 = nI n ∧ n ≤ 400
theorem nI_dec {c : Nat} (h : 0 < c) : nI c + Int32.ofInt (-1) = nI (c - 1) := by
  obtain ⟨c, rfl⟩ : ∃ e, c = e + 1 := ⟨c - 1, by omega⟩
  exact pk_m1 c
theorem nI_m1 (c : Nat) : nI c + Int32.ofInt (-1) = nI c - 1 := by
  rw [Int32.sub_eq_add_neg]
  rfl
/-! rows that a call may leave otherwise without anyone seeing it -/
def scr (a : Nat) : Bool := [6, 7, 8, 19, 20, 21, 22, 23, 24, 25, 26, 27, 28, 29, 30, 31, 32, 33, 34, 53, 54, 55, 56, 57].contains a
def Ex (I J : IM) : Prop := ∀ a, scr a = false → J a = I a
theorem Ex.at {I J : IM} (h : Ex I J) (a k : Nat) (hs : scr a = false) : J a k = I a k := congrFun (h a hs) k
theorem Ex.rf {I : IM} : Ex I I := fun _ _ => rfl
theorem Ex.up {I J : IM} {a : Nat} {f : Nat → Int32} (h : Ex I J) (hs : scr a = true) : Ex I (va_up J a f) := fun b hb => by
  have hne : ¬ b = a := fun q => by rw [q, hs] at hb; cases hb
  simp [va_up, hne, h b hb]
theorem Ex.upB {I J : IM} {a : Nat} {f : Nat → Int32} (h : Ex I J) : Ex (va_up I a f) (va_up J a f) := fun b hb => by
  by_cases hba : b = a
  · simp [va_up, hba]
  · simp [va_up, hba, h b hb]
theorem scr_ge {a : Nat} (h : 58 ≤ a) : scr a = false := by
  unfold scr
  simp only [List.contains_eq_mem, List.mem_cons, List.not_mem_nil, or_false, decide_eq_false_iff_not]
  omega
def NQ (r : Value) (I : IM) (S : SH) : ZQ := fun v J T => v = some r ∧ Ex I J ∧ T = S
theorem nq_of {g : GP} {d mc ms : Nat} {M : MI} {pc : Nat} {L st : List Value} {I J : IM} {S : SH} {r : Value} (hE : Ex I J) (h : Z g d mc ms M pc L st J S (PQ r J S)) : Z g d mc ms M pc L st J S (NQ r I S) := h.conseq (fun v J' T q => ⟨q.1, by rw [q.2.1]; exact hE, q.2.2⟩)
end
section
/-! what the log says: plain functions -/
theorem tn_eq {x : Int32} (h : ¬ x < 0) : x = nI x.toNatClampNeg := by
  obtain ⟨j, hj, rfl⟩ := nI_of h
  rw [nI_clamp hj]
theorem tI0 : (0 : Int32).toInt = 0 := by decide
theorem latU_lt {p : PL} {k m x t : Int32} : ∀ {i : Nat}, i ≤ 400 → ¬ latU p k m x t i < 0 → (latU p k m x t i).toNatClampNeg < i
  | 0, _, h => absurd (show (-1 : Int32) < 0 by decide) h
  | i + 1, hi, h => by
    unfold latU at h ⊢
    by_cases c : mt p k m x t i = true
    · rw [if_pos c, nI_clamp (by omega)]
      omega
    · rw [if_neg c] at h ⊢
      exact Nat.lt_succ_of_lt (latU_lt (by omega) h)
theorem latF_lt {p : PL} {k m x t : Int32} (hn : p.2.2.2.2 ≤ 400) (h : ¬ latF p k m x t < 0) : (latF p k m x t).toNatClampNeg < p.2.2.2.2 := latU_lt hn h
theorem eaU_lt {p : PL} {k m x t : Int32} {N : Nat} (hN : N ≤ 400) : ∀ {i : Nat} {f : Int32}, i ≤ N → (¬ f < 0 → f.toNatClampNeg < N) → ¬ eaU p k m x t i f < 0 → (eaU p k m x t i f).toNatClampNeg < N
  | 0, _, _, h, h2 => h h2
  | i + 1, f, hi, h, h2 => by
    unfold eaU at h2 ⊢
    refine eaU_lt hN (by omega) (fun h3 => ?_) h2
    by_cases c : mt p k m x t i = true
    · rw [if_pos c, nI_clamp (by omega)]
      omega
    · rw [if_neg c] at h3 ⊢
      exact h h3
theorem eaF_lt {p : PL} {k m x t : Int32} (hn : p.2.2.2.2 ≤ 400) (h : ¬ eaF p k m x t < 0) : (eaF p k m x t).toNatClampNeg < p.2.2.2.2 := eaU_lt hn (Nat.le_refl _) (fun h => absurd (by decide) h) h
theorem cntU_le {p : PL} {k m t : Int32} : ∀ (i : Nat), cntU p k m t i ≤ i
  | 0 => Nat.le_refl _
  | i + 1 => by
    have := cntU_le (p := p) (k := k) (m := m) (t := t) i
    unfold cntU
    split <;> omega
def dyF (p : PL) (i : Int32) : Int32 := p.2.2.2.1 i.toNatClampNeg
theorem dyM {I : IM} {n : Nat} {x : Int32} : dyF (pM I n) x = I 52 x.toNatClampNeg := rfl
theorem mtM {I : IM} {n : Nat} {k m x t : Int32} {i : Nat} : mt (pM I n) k m x t i = (decide (I 49 i = k) && (decide (I 50 i = m) && ((decide (x = -1) || decide (I 51 i = x)) && !decide (t < I 52 i)))) := rfl
theorem pM_k {I : IM} {n : Nat} : (pM I n).1 = I 49 := rfl
theorem pM_m {I : IM} {n : Nat} : (pM I n).2.1 = I 50 := rfl
theorem pM_x {I : IM} {n : Nat} : (pM I n).2.2.1 = I 51 := rfl
theorem pM_d {I : IM} {n : Nat} : (pM I n).2.2.2.1 = I 52 := rfl
theorem pM_n {I : IM} {n : Nat} : (pM I n).2.2.2.2 = n := rfl
def sinceF (p : PL) (m g t : Int32) : Int32 := if latF p 0 m g t < 0 ∨ (latF p 0 m g t < latF p 3 m g t ∧ ¬ dyF p (latF p 3 m g t) = t) then -1 else dyF p (latF p 0 m g t)
def firF (p : PL) (m t : Int32) : Int32 := if eaF p 1 m (-1) t < 0 then -1 else dyF p (eaF p 1 m (-1) t)
def termF (p : PL) (m t : Int32) : Int32 := firF p m t + nI (3650 * (1 + cntF p 2 m t))
def lapF (p : PL) (m t : Int32) : Bool := decide (termF p m t + 180 < t)
def strF (p : PL) (m t : Int32) : Bool := !decide (latF p 4 m (-1) t < 0)
def rightF (p : PL) (m g c t : Int32) : Int32 := if sinceF p m g t < 0 ∨ eaF p 1 m c t < 0 then -1 else
  if (if ¬ 182 < dyF p (eaF p 1 m c t) - firF p m t ∧ ¬ firF p m t < sinceF p m g t then firF p m t else dyF p (eaF p 1 m c t)) < sinceF p m g t then sinceF p m g t
  else (if ¬ 182 < dyF p (eaF p 1 m c t) - firF p m t ∧ ¬ firF p m t < sinceF p m g t then firF p m t else dyF p (eaF p 1 m c t))
def lastF (p : PL) (m g c t : Int32) : Int32 := if ¬ latF p 6 m g t < 0 ∧ rightF p m g c t < dyF p (latF p 6 m g t) then dyF p (latF p 6 m g t) else rightF p m g c t
def standsF (p : PL) (m g c t : Int32) : Bool := !(decide (rightF p m g c t < 0) || (decide (t < rightF p m g c t) || (lapF p m t || strF p m t))) && !decide (1825 < t - lastF p m g c t)
def hasPU (p : PL) (m : Int32) : Nat → Bool
  | 0 => false
  | i + 1 => hasPU p m i || decide (p.2.1 i = m)
def hasPF (p : PL) (m : Int32) : Bool := hasPU p m p.2.2.2.2
/-! pairs of goods: low, high, near, how many -/
abbrev NP : Type := (Nat → Int32) × (Nat → Int32) × (Nat → Int32) × Nat
def lowF (g h : Int32) : Int32 := if g < h then g else h
def highF (g h : Int32) : Int32 := if g < h then h else g
def prU (q : NP) (g h : Int32) : Nat → Int32
  | 0 => -1
  | i + 1 => if q.1 i = lowF g h ∧ q.2.1 i = highF g h then nI i else prU q g h i
def prF (q : NP) (g h : Int32) : Int32 := prU q g h q.2.2.2
theorem prU_lt {q : NP} {g h : Int32} : ∀ {i : Nat}, i ≤ 400 → ¬ prU q g h i < 0 → (prU q g h i).toNatClampNeg < i
  | 0, _, h => absurd (show (-1 : Int32) < 0 by decide) h
  | i + 1, hi, h2 => by
    unfold prU at h2 ⊢
    by_cases c : q.1 i = lowF g h ∧ q.2.1 i = highF g h
    · rw [if_pos c, nI_clamp (by omega)]
      omega
    · rw [if_neg c] at h2 ⊢
      exact Nat.lt_succ_of_lt (prU_lt (by omega) h2)
def nearF (q : NP) (g h : Int32) : Int32 := if g = h then 1000 else if prF q g h < 0 then 0 else q.2.2.1 (prF q g h).toNatClampNeg
def qM (I : IM) (n : Nat) : NP := (I 40, I 41, I 42, n)
theorem qM_l {I : IM} {n : Nat} : (qM I n).1 = I 40 := rfl
theorem qM_h {I : IM} {n : Nat} : (qM I n).2.1 = I 41 := rfl
theorem qM_v {I : IM} {n : Nat} : (qM I n).2.2.1 = I 42 := rfl
theorem qM_n {I : IM} {n : Nat} : (qM I n).2.2.2 = n := rfl
def Mq (I : IM) (n : Nat) : Prop := I 35 7 = nI n ∧ n ≤ 100
theorem i32_lt {a b : Int32} (h1 : ¬ a < 0) (h2 : a < b) : ¬ b < 0 := by
  rw [Int32.lt_iff_toInt_lt] at *
  rw [tI0] at *
  omega
/-- a number from 0 to hi -/
def rg (x : Int32) (hi : Nat) : Prop := x = nI x.toNatClampNeg ∧ x.toNatClampNeg ≤ hi
theorem rg_nI {a hi : Nat} (h : a ≤ hi) (hh : hi < 2 ^ 31) : rg (nI a) hi := by
  unfold rg
  rw [nI_clamp (by omega)]
  exact ⟨rfl, h⟩
theorem rg_0 (hi : Nat) : rg 0 hi := ⟨rfl, Nat.zero_le _⟩
theorem inB_rg {v : Int32} {hi : Nat} (h : inB v 0 (nI hi) = true) (hh : hi < 2 ^ 31) : rg v hi := by
  unfold inB at h
  simp only [Bool.and_eq_true, Bool.not_eq_true', decide_eq_false_iff_not] at h
  refine ⟨tn_eq h.1, ?_⟩
  have h2 := h.2
  rw [tn_eq h.1] at h2
  have h3 : v.toNatClampNeg < 2 ^ 31 := by
    obtain ⟨j, hj, rfl⟩ := nI_of h.1
    rw [nI_clamp hj]
    exact hj
  exact Nat.not_lt.mp (fun q => h2 ((nI_ltI hh h3).mpr q))
theorem rg_inB {v : Int32} {hi : Nat} (h : rg v hi) (hh : hi < 2 ^ 31) : inB v 0 (nI hi) = true := by
  unfold inB
  have h2 := h.2
  have e0 : ¬ v < 0 := by rw [h.1]; exact nI_pos (by omega)
  have e1 : ¬ nI hi < v := by rw [h.1]; exact nI_nlt h2 hh
  simp [e0, e1]
theorem rg_lt {x : Int32} {hi : Nat} (h : rg x hi) (hh : hi < 2 ^ 31) : ¬ x < 0 := by rw [h.1]; have := h.2; exact nI_pos (by omega)
/-- f, with zeros from b on for k places -/
def zf (f : Nat → Int32) (b : Nat) : Nat → (Nat → Int32)
  | 0 => f
  | k + 1 => upd (zf f b k) (b + k) 0

/-! words and pictures -/
def hasCU (f : Nat → Int32) (b : Nat) (c : Int32) : Nat → Bool
  | 0 => false
  | i + 1 => hasCU f b c i || decide (f (b + i) = c)
def hasCF (f : Nat → Int32) (b : Nat) (k c : Int32) : Bool := hasCU f b c k.toNatClampNeg
/-- what the reference's rows hold of marks, sounds and costs -/
def MIv (I : IM) : Prop := (∀ j, j < 120 → rg (I 43 j) 4) ∧ (∀ j, j < 120 → rg (I 44 j) 99) ∧ (∀ j, j < 120 → rg (I 45 j) 40) ∧ (∀ j, j < 120 → rg (I 47 j) 12) ∧ (∀ i, i < 4800 → rg (I 46 i) 25) ∧
  (∀ l, l < 26 → I 36 l = -1 ∨ rg (I 36 l) 27) ∧ (∀ i, i < 702 → rg (I 37 i) 39) ∧ (∀ i, i < 66 → rg (I 39 i) 100) ∧ (∀ i, i < 4356 → rg (I 38 i) 100)
end
section
set_option maxHeartbeats 4000000 in
set_option maxRecDepth 100000 in
theorem ct_in {g : GP} {I J : IM} {S : SH} (hE : Ex I J) (v lo hi : Int32)  : Z g 0 0 0 mX7_in 0 (enL mX7_in [.int v, .int lo, .int hi]) [] J S (PQ (.int (bI (inB v lo hi))) J S) := by
  show Z g 0 0 0 mX7_in 0 [.int v, .int lo, .int hi] [] J S _
  refine Z.iload_n dX7_in_0 rfl ?_
  refine Z.iload_n dX7_in_1 rfl ?_
  refine Z.icmp_lt (tgt := 14) dX7_in_2 (by decide) (fun h1 => ?_) (fun h1 => ?_)
  · refine Z.iconst (v := 0) dX7_in_14 (by decide) ?_
    exact Z.zret dX7_in_15 rfl (by decide) ⟨by simp [bI, inB, h1], rfl, rfl⟩
  · refine Z.iload_n dX7_in_5 rfl ?_
    refine Z.iload_n dX7_in_6 rfl ?_
    refine Z.icmp_gt (tgt := 14) dX7_in_7 (by decide) (fun h2 => ?_) (fun h2 => ?_)
    · refine Z.iconst (v := 0) dX7_in_14 (by decide) ?_
      exact Z.zret dX7_in_15 rfl (by decide) ⟨by simp [bI, inB, h1, h2], rfl, rfl⟩
    · refine Z.iconst (v := 1) dX7_in_10 (by decide) ?_
      refine Z.goto (tgt := 15) dX7_in_11 (by decide) ?_
      exact Z.zret dX7_in_15 rfl (by decide) ⟨by simp [bI, inB, h1, h2], rfl, rfl⟩

set_option maxHeartbeats 4000000 in
set_option maxRecDepth 100000 in
theorem ct_isDay {g : GP} {I J : IM} {S : SH} (hE : Ex I J) (v : Int32)  : Z g 1 0 0 mX7_isDay 0 (enL mX7_isDay [.int v]) [] J S (PQ (.int (bI (inB v 0 60000))) J S) := by
  show Z g 1 0 0 mX7_isDay 0 [.int v] [] J S _
  refine Z.iload_n dX7_isDay_0 rfl ?_
  refine Z.iconst (v := 0) dX7_isDay_1 (by decide) ?_
  refine Z.ldc (v := 60000) dX7_isDay_2 cnX7_90 ?_
  refine Z.callSp (M := mX7_isDay) (pc := 4) (st := []) (N := mX7_in) (n := 3) (r := .int (bI (inB v 0 60000))) dX7_isDay_4 mlX7_86 mkX7_in stX7_in (d1 := 0) (by decide) (As := [.int v, .int 0, .int 60000]) rfl ⟨rfl, Nat.le_of_ble_eq_true rfl⟩ ⟨rfl, Nat.le_of_ble_eq_true rfl⟩ (ct_in hE v 0 60000) rfl ?_
  exact Z.zret dX7_isDay_7 rfl (bI_01 _) ⟨rfl, rfl, rfl⟩

set_option maxHeartbeats 4000000 in
set_option maxRecDepth 100000 in
theorem ct_isCountry {g : GP} {I J : IM} {S : SH} (hE : Ex I J) (v : Int32)  : Z g 1 0 0 mX7_isCountry 0 (enL mX7_isCountry [.int v]) [] J S (PQ (.int (bI (inB v 0 15))) J S) := by
  show Z g 1 0 0 mX7_isCountry 0 [.int v] [] J S _
  refine Z.iload_n dX7_isCountry_0 rfl ?_
  refine Z.iconst (v := 0) dX7_isCountry_1 (by decide) ?_
  refine Z.bipush (v := 15) dX7_isCountry_2 (by decide) ?_
  refine Z.callSp (M := mX7_isCountry) (pc := 4) (st := []) (N := mX7_in) (n := 3) (r := .int (bI (inB v 0 15))) dX7_isCountry_4 mlX7_86 mkX7_in stX7_in (d1 := 0) (by decide) (As := [.int v, .int 0, .int 15]) rfl ⟨rfl, Nat.le_of_ble_eq_true rfl⟩ ⟨rfl, Nat.le_of_ble_eq_true rfl⟩ (ct_in hE v 0 15) rfl ?_
  exact Z.zret dX7_isCountry_7 rfl (bI_01 _) ⟨rfl, rfl, rfl⟩

set_option maxHeartbeats 4000000 in
set_option maxRecDepth 100000 in
theorem ct_isGoods {g : GP} {I J : IM} {S : SH} (hE : Ex I J) (v : Int32)  : Z g 1 0 0 mX7_isGoods 0 (enL mX7_isGoods [.int v]) [] J S (PQ (.int (bI (inB v 0 359))) J S) := by
  show Z g 1 0 0 mX7_isGoods 0 [.int v] [] J S _
  refine Z.iload_n dX7_isGoods_0 rfl ?_
  refine Z.iconst (v := 0) dX7_isGoods_1 (by decide) ?_
  refine Z.sipush (v := 359) dX7_isGoods_2 (by decide) ?_
  refine Z.callSp (M := mX7_isGoods) (pc := 5) (st := []) (N := mX7_in) (n := 3) (r := .int (bI (inB v 0 359))) dX7_isGoods_5 mlX7_86 mkX7_in stX7_in (d1 := 0) (by decide) (As := [.int v, .int 0, .int 359]) rfl ⟨rfl, Nat.le_of_ble_eq_true rfl⟩ ⟨rfl, Nat.le_of_ble_eq_true rfl⟩ (ct_in hE v 0 359) rfl ?_
  exact Z.zret dX7_isGoods_8 rfl (bI_01 _) ⟨rfl, rfl, rfl⟩

set_option maxHeartbeats 4000000 in
set_option maxRecDepth 100000 in
theorem ct_isPerson {g : GP} {I J : IM} {S : SH} (hE : Ex I J) (v : Int32)  : Z g 1 0 0 mX7_isPerson 0 (enL mX7_isPerson [.int v]) [] J S (PQ (.int (bI (inB v 0 99))) J S) := by
  show Z g 1 0 0 mX7_isPerson 0 [.int v] [] J S _
  refine Z.iload_n dX7_isPerson_0 rfl ?_
  refine Z.iconst (v := 0) dX7_isPerson_1 (by decide) ?_
  refine Z.bipush (v := 99) dX7_isPerson_2 (by decide) ?_
  refine Z.callSp (M := mX7_isPerson) (pc := 4) (st := []) (N := mX7_in) (n := 3) (r := .int (bI (inB v 0 99))) dX7_isPerson_4 mlX7_86 mkX7_in stX7_in (d1 := 0) (by decide) (As := [.int v, .int 0, .int 99]) rfl ⟨rfl, Nat.le_of_ble_eq_true rfl⟩ ⟨rfl, Nat.le_of_ble_eq_true rfl⟩ (ct_in hE v 0 99) rfl ?_
  exact Z.zret dX7_isPerson_7 rfl (bI_01 _) ⟨rfl, rfl, rfl⟩

set_option maxHeartbeats 4000000 in
set_option maxRecDepth 100000 in
theorem ct_isMark {g : GP} {I J : IM} {S : SH} (hE : Ex I J) (v : Int32) (hF : Fx S) : Z g 1 0 0 mX7_isMark 0 (enL mX7_isMark [.ref 35, .int v]) [] J S (PQ (.int (bI (inB v 0 (I 35 10 - 1)))) J S) := by
  show Z g 1 0 0 mX7_isMark 0 [.ref 35, .int v] [] J S _
  refine Z.iload_n dX7_isMark_0 rfl ?_
  refine Z.iconst (v := 0) dX7_isMark_1 (by decide) ?_
  refine Z.aload_n dX7_isMark_2 rfl ?_
  refine Z.getIv (v := I 35 10) dX7_isMark_3 cl7 flX7_83 (by decide) (fx35 hF) (hE.at 35 10 rfl) ?_
  refine Z.iconst (v := 1) dX7_isMark_6 (by decide) ?_
  refine Z.isub dX7_isMark_7 ?_
  refine Z.callSp (M := mX7_isMark) (pc := 8) (st := []) (N := mX7_in) (n := 3) (r := .int (bI (inB v 0 ((I 35 10) - 1)))) dX7_isMark_8 mlX7_86 mkX7_in stX7_in (d1 := 0) (by decide) (As := [.int v, .int 0, .int ((I 35 10) - 1)]) rfl ⟨rfl, Nat.le_of_ble_eq_true rfl⟩ ⟨rfl, Nat.le_of_ble_eq_true rfl⟩ (ct_in hE v 0 ((I 35 10) - 1)) rfl ?_
  exact Z.zret dX7_isMark_11 rfl (bI_01 _) ⟨rfl, rfl, rfl⟩

set_option maxHeartbeats 4000000 in
set_option maxRecDepth 100000 in
theorem lp_latest {g : GP} {I J : IM} {S : SH} (hE : Ex I J) (k m x t : Int32) (hF : Fx S) {n : Nat} (hn : Mp I n) : ∀ i, i ≤ n → Z g 0 0 0 mX7_latest 6 [.ref 35, .int k, .int m, .int x, .int t, .int (latU (pM I n) k m x t i), .int (nI i)] [] J S (PQ (.int (latF (pM I n) k m x t)) J S) := by
  refine upZ n (fun i hi ih => ?_)
  have hn2 := hn.2
  refine Z.iload dX7_latest_6 rfl ?_
  refine Z.aload_n dX7_latest_8 rfl ?_
  refine Z.getIv (v := nI n) dX7_latest_9 cl7 flX7_105 (by decide) (fx35 hF) ((hE.at 35 17 rfl).trans hn.1) ?_
  refine Z.icmp_geN (a := i) (b := n) (by omega) (by omega) (tgt := 80) dX7_latest_12 (by decide) (fun h1 => ?_) (fun h1 => ?_)
  · refine Z.iload dX7_latest_80 rfl ?_
    exact Z.iret dX7_latest_82 rfl ⟨by rw [show i = n by omega]; rfl, rfl, rfl⟩
  · refine Z.aload_n dX7_latest_15 rfl ?_
    refine Z.getR (r := 49) dX7_latest_16 cl7 flX7_49 (by decide) (fx35 hF) rfl ?_
    refine Z.iload dX7_latest_19 rfl ?_
    refine Z.ialdv (j := i) (v := I 49 i) dX7_latest_21 (fx49 hF) rfl (by omega) (by decide) (hE.at 49 i rfl) ?_
    refine Z.iload_n dX7_latest_22 rfl ?_
    refine Z.icmp_ne (tgt := 70) dX7_latest_23 (by decide) (fun h2 => ?_) (fun h2 => ?_)
    · refine Z.iload dX7_latest_70 rfl ?_
      refine Z.istore (L' := [.ref 35, .int k, .int m, .int x, .int t, .int (latU (pM I n) k m x t i), .int (nI i)]) dX7_latest_72 (Nat.le_of_ble_eq_true rfl) rfl ?_
      refine Z.iinc (v := nI (i + 1)) (L' := [.ref 35, .int k, .int m, .int x, .int t, .int (latU (pM I n) k m x t i), .int (nI (i + 1))]) dX7_latest_74 rfl (nI_1 _) rfl ?_
      refine Z.goto (tgt := 6) dX7_latest_77 (by decide) ?_
      have e := ih (by omega)
      rw [show latU (pM I n) k m x t (i + 1) = latU (pM I n) k m x t i by simp [latU, mtM, h1, h2]] at e
      exact e
    · refine Z.aload_n dX7_latest_26 rfl ?_
      refine Z.getR (r := 50) dX7_latest_27 cl7 flX7_52 (by decide) (fx35 hF) rfl ?_
      refine Z.iload dX7_latest_30 rfl ?_
      refine Z.ialdv (j := i) (v := I 50 i) dX7_latest_32 (fx50 hF) rfl (by omega) (by decide) (hE.at 50 i rfl) ?_
      refine Z.iload_n dX7_latest_33 rfl ?_
      refine Z.icmp_ne (tgt := 70) dX7_latest_34 (by decide) (fun h3 => ?_) (fun h3 => ?_)
      · refine Z.iload dX7_latest_70 rfl ?_
        refine Z.istore (L' := [.ref 35, .int k, .int m, .int x, .int t, .int (latU (pM I n) k m x t i), .int (nI i)]) dX7_latest_72 (Nat.le_of_ble_eq_true rfl) rfl ?_
        refine Z.iinc (v := nI (i + 1)) (L' := [.ref 35, .int k, .int m, .int x, .int t, .int (latU (pM I n) k m x t i), .int (nI (i + 1))]) dX7_latest_74 rfl (nI_1 _) rfl ?_
        refine Z.goto (tgt := 6) dX7_latest_77 (by decide) ?_
        have e := ih (by omega)
        rw [show latU (pM I n) k m x t (i + 1) = latU (pM I n) k m x t i by simp [latU, mtM, h1, h2, h3]] at e
        exact e
      · refine Z.iload_n dX7_latest_37 rfl ?_
        refine Z.iconst (v := (-1)) dX7_latest_38 (by decide) ?_
        refine Z.icmp_eq (tgt := 53) dX7_latest_39 (by decide) (fun h4 => ?_) (fun h4 => ?_)
        · refine Z.aload_n dX7_latest_53 rfl ?_
          refine Z.getR (r := 52) dX7_latest_54 cl7 flX7_58 (by decide) (fx35 hF) rfl ?_
          refine Z.iload dX7_latest_57 rfl ?_
          refine Z.ialdv (j := i) (v := I 52 i) dX7_latest_59 (fx52 hF) rfl (by omega) (by decide) (hE.at 52 i rfl) ?_
          refine Z.iload dX7_latest_60 rfl ?_
          refine Z.icmp_gt (tgt := 70) dX7_latest_62 (by decide) (fun h5 => ?_) (fun h5 => ?_)
          · refine Z.iload dX7_latest_70 rfl ?_
            refine Z.istore (L' := [.ref 35, .int k, .int m, .int x, .int t, .int (latU (pM I n) k m x t i), .int (nI i)]) dX7_latest_72 (Nat.le_of_ble_eq_true rfl) rfl ?_
            refine Z.iinc (v := nI (i + 1)) (L' := [.ref 35, .int k, .int m, .int x, .int t, .int (latU (pM I n) k m x t i), .int (nI (i + 1))]) dX7_latest_74 rfl (nI_1 _) rfl ?_
            refine Z.goto (tgt := 6) dX7_latest_77 (by decide) ?_
            have e := ih (by omega)
            rw [show latU (pM I n) k m x t (i + 1) = latU (pM I n) k m x t i by simp [latU, mtM, h1, h2, h3, h4, h5]] at e
            exact e
          · refine Z.iload dX7_latest_65 rfl ?_
            refine Z.goto (tgt := 72) dX7_latest_67 (by decide) ?_
            refine Z.istore (L' := [.ref 35, .int k, .int m, .int x, .int t, .int (nI i), .int (nI i)]) dX7_latest_72 (Nat.le_of_ble_eq_true rfl) rfl ?_
            refine Z.iinc (v := nI (i + 1)) (L' := [.ref 35, .int k, .int m, .int x, .int t, .int (nI i), .int (nI (i + 1))]) dX7_latest_74 rfl (nI_1 _) rfl ?_
            refine Z.goto (tgt := 6) dX7_latest_77 (by decide) ?_
            have e := ih (by omega)
            rw [show latU (pM I n) k m x t (i + 1) = nI i by simp [latU, mtM, h1, h2, h3, h4, h5]] at e
            exact e
        · refine Z.aload_n dX7_latest_42 rfl ?_
          refine Z.getR (r := 51) dX7_latest_43 cl7 flX7_55 (by decide) (fx35 hF) rfl ?_
          refine Z.iload dX7_latest_46 rfl ?_
          refine Z.ialdv (j := i) (v := I 51 i) dX7_latest_48 (fx51 hF) rfl (by omega) (by decide) (hE.at 51 i rfl) ?_
          refine Z.iload_n dX7_latest_49 rfl ?_
          refine Z.icmp_ne (tgt := 70) dX7_latest_50 (by decide) (fun h6 => ?_) (fun h6 => ?_)
          · refine Z.iload dX7_latest_70 rfl ?_
            refine Z.istore (L' := [.ref 35, .int k, .int m, .int x, .int t, .int (latU (pM I n) k m x t i), .int (nI i)]) dX7_latest_72 (Nat.le_of_ble_eq_true rfl) rfl ?_
            refine Z.iinc (v := nI (i + 1)) (L' := [.ref 35, .int k, .int m, .int x, .int t, .int (latU (pM I n) k m x t i), .int (nI (i + 1))]) dX7_latest_74 rfl (nI_1 _) rfl ?_
            refine Z.goto (tgt := 6) dX7_latest_77 (by decide) ?_
            have e := ih (by omega)
            rw [show latU (pM I n) k m x t (i + 1) = latU (pM I n) k m x t i by simp [latU, mtM, h1, h2, h3, h4, h6]] at e
            exact e
          · refine Z.aload_n dX7_latest_53 rfl ?_
            refine Z.getR (r := 52) dX7_latest_54 cl7 flX7_58 (by decide) (fx35 hF) rfl ?_
            refine Z.iload dX7_latest_57 rfl ?_
            refine Z.ialdv (j := i) (v := I 52 i) dX7_latest_59 (fx52 hF) rfl (by omega) (by decide) (hE.at 52 i rfl) ?_
            refine Z.iload dX7_latest_60 rfl ?_
            refine Z.icmp_gt (tgt := 70) dX7_latest_62 (by decide) (fun h7 => ?_) (fun h7 => ?_)
            · refine Z.iload dX7_latest_70 rfl ?_
              refine Z.istore (L' := [.ref 35, .int k, .int m, .int x, .int t, .int (latU (pM I n) k m x t i), .int (nI i)]) dX7_latest_72 (Nat.le_of_ble_eq_true rfl) rfl ?_
              refine Z.iinc (v := nI (i + 1)) (L' := [.ref 35, .int k, .int m, .int x, .int t, .int (latU (pM I n) k m x t i), .int (nI (i + 1))]) dX7_latest_74 rfl (nI_1 _) rfl ?_
              refine Z.goto (tgt := 6) dX7_latest_77 (by decide) ?_
              have e := ih (by omega)
              rw [show latU (pM I n) k m x t (i + 1) = latU (pM I n) k m x t i by simp [latU, mtM, h1, h2, h3, h4, h6, h7]] at e
              exact e
            · refine Z.iload dX7_latest_65 rfl ?_
              refine Z.goto (tgt := 72) dX7_latest_67 (by decide) ?_
              refine Z.istore (L' := [.ref 35, .int k, .int m, .int x, .int t, .int (nI i), .int (nI i)]) dX7_latest_72 (Nat.le_of_ble_eq_true rfl) rfl ?_
              refine Z.iinc (v := nI (i + 1)) (L' := [.ref 35, .int k, .int m, .int x, .int t, .int (nI i), .int (nI (i + 1))]) dX7_latest_74 rfl (nI_1 _) rfl ?_
              refine Z.goto (tgt := 6) dX7_latest_77 (by decide) ?_
              have e := ih (by omega)
              rw [show latU (pM I n) k m x t (i + 1) = nI i by simp [latU, mtM, h1, h2, h3, h4, h6, h7]] at e
              exact e

set_option maxHeartbeats 4000000 in
set_option maxRecDepth 100000 in
theorem ct_latest {g : GP} {I J : IM} {S : SH} (hE : Ex I J) (k m x t : Int32) (hF : Fx S) {n : Nat} (hn : Mp I n) : Z g 0 0 0 mX7_latest 0 (enL mX7_latest [.ref 35, .int k, .int m, .int x, .int t]) [] J S (PQ (.int (latF (pM I n) k m x t)) J S) := by
  show Z g 0 0 0 mX7_latest 0 [.ref 35, .int k, .int m, .int x, .int t, .retAddr 0, .retAddr 0] [] J S _
  refine Z.iconst (v := (-1)) dX7_latest_0 (by decide) ?_
  refine Z.istore (L' := [.ref 35, .int k, .int m, .int x, .int t, .int ((-1)), .retAddr 0]) dX7_latest_1 (Nat.le_of_ble_eq_true rfl) rfl ?_
  refine Z.iconst (v := 0) dX7_latest_3 (by decide) ?_
  refine Z.istore (L' := [.ref 35, .int k, .int m, .int x, .int t, .int ((-1)), .int 0]) dX7_latest_4 (Nat.le_of_ble_eq_true rfl) rfl ?_
  exact lp_latest hE k m x t hF hn 0 (Nat.zero_le _)

set_option maxHeartbeats 4000000 in
set_option maxRecDepth 100000 in
theorem lp_earliest {g : GP} {I J : IM} {S : SH} (hE : Ex I J) (k m x t : Int32) (hF : Fx S) {n : Nat} (hn : Mp I n) : ∀ c, c ≤ n → ∀ f, Z g 0 0 0 mX7_earliest 11 [.ref 35, .int k, .int m, .int x, .int t, .int f, .int (nI c - 1)] [] J S (PQ (.int (eaU (pM I n) k m x t c f)) J S) := by
  have hn2 := hn.2
  intro c
  induction c with
  | zero =>
    intro hc f
    refine Z.iload dX7_earliest_11 rfl ?_
    refine Z.if_lt (tgt := 81) dX7_earliest_13 (by decide) (fun h1 => ?_) (fun h1 => absurd h1 (by decide))
    refine Z.iload dX7_earliest_81 rfl ?_
    exact Z.iret dX7_earliest_83 rfl ⟨rfl, rfl, rfl⟩
  | succ c ih0 =>
    intro hc f
    have ih := fun f h => ih0 h f
    rw [nI_pred]
    refine Z.iload dX7_earliest_11 rfl ?_
    refine Z.if_lt (tgt := 81) dX7_earliest_13 (by decide) (fun h2 => absurd h2 (nI_pos (by omega))) (fun h2 => ?_)
    refine Z.aload_n dX7_earliest_16 rfl ?_
    refine Z.getR (r := 49) dX7_earliest_17 cl7 flX7_49 (by decide) (fx35 hF) rfl ?_
    refine Z.iload dX7_earliest_20 rfl ?_
    refine Z.ialdv (j := c) (v := I 49 c) dX7_earliest_22 (fx49 hF) rfl (by omega) (by decide) (hE.at 49 c rfl) ?_
    refine Z.iload_n dX7_earliest_23 rfl ?_
    refine Z.icmp_ne (tgt := 71) dX7_earliest_24 (by decide) (fun h3 => ?_) (fun h3 => ?_)
    · refine Z.iload dX7_earliest_71 rfl ?_
      refine Z.istore (L' := [.ref 35, .int k, .int m, .int x, .int t, .int f, .int (nI c)]) dX7_earliest_73 (Nat.le_of_ble_eq_true rfl) rfl ?_
      refine Z.iinc (v := nI c - 1) (L' := [.ref 35, .int k, .int m, .int x, .int t, .int f, .int (nI c - 1)]) dX7_earliest_75 rfl (nI_m1 _) rfl ?_
      refine Z.goto (tgt := 11) dX7_earliest_78 (by decide) ?_
      have e := ih f (by omega)
      refine Z.conseq (Q' := _) ?_ (fun _ _ _ h => h)
      rw [show eaU (pM I n) k m x t (c + 1) f = eaU (pM I n) k m x t c f by simp [eaU, mtM, h2, h3]]
      exact e
    · refine Z.aload_n dX7_earliest_27 rfl ?_
      refine Z.getR (r := 50) dX7_earliest_28 cl7 flX7_52 (by decide) (fx35 hF) rfl ?_
      refine Z.iload dX7_earliest_31 rfl ?_
      refine Z.ialdv (j := c) (v := I 50 c) dX7_earliest_33 (fx50 hF) rfl (by omega) (by decide) (hE.at 50 c rfl) ?_
      refine Z.iload_n dX7_earliest_34 rfl ?_
      refine Z.icmp_ne (tgt := 71) dX7_earliest_35 (by decide) (fun h4 => ?_) (fun h4 => ?_)
      · refine Z.iload dX7_earliest_71 rfl ?_
        refine Z.istore (L' := [.ref 35, .int k, .int m, .int x, .int t, .int f, .int (nI c)]) dX7_earliest_73 (Nat.le_of_ble_eq_true rfl) rfl ?_
        refine Z.iinc (v := nI c - 1) (L' := [.ref 35, .int k, .int m, .int x, .int t, .int f, .int (nI c - 1)]) dX7_earliest_75 rfl (nI_m1 _) rfl ?_
        refine Z.goto (tgt := 11) dX7_earliest_78 (by decide) ?_
        have e := ih f (by omega)
        refine Z.conseq (Q' := _) ?_ (fun _ _ _ h => h)
        rw [show eaU (pM I n) k m x t (c + 1) f = eaU (pM I n) k m x t c f by simp [eaU, mtM, h2, h3, h4]]
        exact e
      · refine Z.iload_n dX7_earliest_38 rfl ?_
        refine Z.iconst (v := (-1)) dX7_earliest_39 (by decide) ?_
        refine Z.icmp_eq (tgt := 54) dX7_earliest_40 (by decide) (fun h5 => ?_) (fun h5 => ?_)
        · refine Z.aload_n dX7_earliest_54 rfl ?_
          refine Z.getR (r := 52) dX7_earliest_55 cl7 flX7_58 (by decide) (fx35 hF) rfl ?_
          refine Z.iload dX7_earliest_58 rfl ?_
          refine Z.ialdv (j := c) (v := I 52 c) dX7_earliest_60 (fx52 hF) rfl (by omega) (by decide) (hE.at 52 c rfl) ?_
          refine Z.iload dX7_earliest_61 rfl ?_
          refine Z.icmp_gt (tgt := 71) dX7_earliest_63 (by decide) (fun h6 => ?_) (fun h6 => ?_)
          · refine Z.iload dX7_earliest_71 rfl ?_
            refine Z.istore (L' := [.ref 35, .int k, .int m, .int x, .int t, .int f, .int (nI c)]) dX7_earliest_73 (Nat.le_of_ble_eq_true rfl) rfl ?_
            refine Z.iinc (v := nI c - 1) (L' := [.ref 35, .int k, .int m, .int x, .int t, .int f, .int (nI c - 1)]) dX7_earliest_75 rfl (nI_m1 _) rfl ?_
            refine Z.goto (tgt := 11) dX7_earliest_78 (by decide) ?_
            have e := ih f (by omega)
            refine Z.conseq (Q' := _) ?_ (fun _ _ _ h => h)
            rw [show eaU (pM I n) k m x t (c + 1) f = eaU (pM I n) k m x t c f by simp [eaU, mtM, h2, h3, h4, h5, h6]]
            exact e
          · refine Z.iload dX7_earliest_66 rfl ?_
            refine Z.goto (tgt := 73) dX7_earliest_68 (by decide) ?_
            refine Z.istore (L' := [.ref 35, .int k, .int m, .int x, .int t, .int (nI c), .int (nI c)]) dX7_earliest_73 (Nat.le_of_ble_eq_true rfl) rfl ?_
            refine Z.iinc (v := nI c - 1) (L' := [.ref 35, .int k, .int m, .int x, .int t, .int (nI c), .int (nI c - 1)]) dX7_earliest_75 rfl (nI_m1 _) rfl ?_
            refine Z.goto (tgt := 11) dX7_earliest_78 (by decide) ?_
            have e := ih (nI c) (by omega)
            refine Z.conseq (Q' := _) ?_ (fun _ _ _ h => h)
            rw [show eaU (pM I n) k m x t (c + 1) f = eaU (pM I n) k m x t c (nI c) by simp [eaU, mtM, h2, h3, h4, h5, h6]]
            exact e
        · refine Z.aload_n dX7_earliest_43 rfl ?_
          refine Z.getR (r := 51) dX7_earliest_44 cl7 flX7_55 (by decide) (fx35 hF) rfl ?_
          refine Z.iload dX7_earliest_47 rfl ?_
          refine Z.ialdv (j := c) (v := I 51 c) dX7_earliest_49 (fx51 hF) rfl (by omega) (by decide) (hE.at 51 c rfl) ?_
          refine Z.iload_n dX7_earliest_50 rfl ?_
          refine Z.icmp_ne (tgt := 71) dX7_earliest_51 (by decide) (fun h7 => ?_) (fun h7 => ?_)
          · refine Z.iload dX7_earliest_71 rfl ?_
            refine Z.istore (L' := [.ref 35, .int k, .int m, .int x, .int t, .int f, .int (nI c)]) dX7_earliest_73 (Nat.le_of_ble_eq_true rfl) rfl ?_
            refine Z.iinc (v := nI c - 1) (L' := [.ref 35, .int k, .int m, .int x, .int t, .int f, .int (nI c - 1)]) dX7_earliest_75 rfl (nI_m1 _) rfl ?_
            refine Z.goto (tgt := 11) dX7_earliest_78 (by decide) ?_
            have e := ih f (by omega)
            refine Z.conseq (Q' := _) ?_ (fun _ _ _ h => h)
            rw [show eaU (pM I n) k m x t (c + 1) f = eaU (pM I n) k m x t c f by simp [eaU, mtM, h2, h3, h4, h5, h7]]
            exact e
          · refine Z.aload_n dX7_earliest_54 rfl ?_
            refine Z.getR (r := 52) dX7_earliest_55 cl7 flX7_58 (by decide) (fx35 hF) rfl ?_
            refine Z.iload dX7_earliest_58 rfl ?_
            refine Z.ialdv (j := c) (v := I 52 c) dX7_earliest_60 (fx52 hF) rfl (by omega) (by decide) (hE.at 52 c rfl) ?_
            refine Z.iload dX7_earliest_61 rfl ?_
            refine Z.icmp_gt (tgt := 71) dX7_earliest_63 (by decide) (fun h8 => ?_) (fun h8 => ?_)
            · refine Z.iload dX7_earliest_71 rfl ?_
              refine Z.istore (L' := [.ref 35, .int k, .int m, .int x, .int t, .int f, .int (nI c)]) dX7_earliest_73 (Nat.le_of_ble_eq_true rfl) rfl ?_
              refine Z.iinc (v := nI c - 1) (L' := [.ref 35, .int k, .int m, .int x, .int t, .int f, .int (nI c - 1)]) dX7_earliest_75 rfl (nI_m1 _) rfl ?_
              refine Z.goto (tgt := 11) dX7_earliest_78 (by decide) ?_
              have e := ih f (by omega)
              refine Z.conseq (Q' := _) ?_ (fun _ _ _ h => h)
              rw [show eaU (pM I n) k m x t (c + 1) f = eaU (pM I n) k m x t c f by simp [eaU, mtM, h2, h3, h4, h5, h7, h8]]
              exact e
            · refine Z.iload dX7_earliest_66 rfl ?_
              refine Z.goto (tgt := 73) dX7_earliest_68 (by decide) ?_
              refine Z.istore (L' := [.ref 35, .int k, .int m, .int x, .int t, .int (nI c), .int (nI c)]) dX7_earliest_73 (Nat.le_of_ble_eq_true rfl) rfl ?_
              refine Z.iinc (v := nI c - 1) (L' := [.ref 35, .int k, .int m, .int x, .int t, .int (nI c), .int (nI c - 1)]) dX7_earliest_75 rfl (nI_m1 _) rfl ?_
              refine Z.goto (tgt := 11) dX7_earliest_78 (by decide) ?_
              have e := ih (nI c) (by omega)
              refine Z.conseq (Q' := _) ?_ (fun _ _ _ h => h)
              rw [show eaU (pM I n) k m x t (c + 1) f = eaU (pM I n) k m x t c (nI c) by simp [eaU, mtM, h2, h3, h4, h5, h7, h8]]
              exact e

set_option maxHeartbeats 4000000 in
set_option maxRecDepth 100000 in
theorem ct_earliest {g : GP} {I J : IM} {S : SH} (hE : Ex I J) (k m x t : Int32) (hF : Fx S) {n : Nat} (hn : Mp I n) : Z g 0 0 0 mX7_earliest 0 (enL mX7_earliest [.ref 35, .int k, .int m, .int x, .int t]) [] J S (PQ (.int (eaF (pM I n) k m x t)) J S) := by
  show Z g 0 0 0 mX7_earliest 0 [.ref 35, .int k, .int m, .int x, .int t, .retAddr 0, .retAddr 0] [] J S _
  refine Z.iconst (v := (-1)) dX7_earliest_0 (by decide) ?_
  refine Z.istore (L' := [.ref 35, .int k, .int m, .int x, .int t, .int ((-1)), .retAddr 0]) dX7_earliest_1 (Nat.le_of_ble_eq_true rfl) rfl ?_
  refine Z.aload_n dX7_earliest_3 rfl ?_
  refine Z.getIv (v := nI n) dX7_earliest_4 cl7 flX7_105 (by decide) (fx35 hF) ((hE.at 35 17 rfl).trans hn.1) ?_
  refine Z.iconst (v := 1) dX7_earliest_7 (by decide) ?_
  refine Z.isub dX7_earliest_8 ?_
  refine Z.istore (L' := [.ref 35, .int k, .int m, .int x, .int t, .int ((-1)), .int ((nI n) - 1)]) dX7_earliest_9 (Nat.le_of_ble_eq_true rfl) rfl ?_
  exact lp_earliest hE k m x t hF hn n (Nat.le_refl _) (-1)

set_option maxHeartbeats 4000000 in
set_option maxRecDepth 100000 in
theorem lp_countOf {g : GP} {I J : IM} {S : SH} (hE : Ex I J) (k m t : Int32) (hF : Fx S) {n : Nat} (hn : Mp I n) : ∀ i, i ≤ n → Z g 0 0 0 mX7_countOf 6 [.ref 35, .int k, .int m, .int t, .int (nI (cntU (pM I n) k m t i)), .int (nI i)] [] J S (PQ (.int (nI (cntF (pM I n) k m t))) J S) := by
  refine upZ n (fun i hi ih => ?_)
  have hn2 := hn.2
  refine Z.iload dX7_countOf_6 rfl ?_
  refine Z.aload_n dX7_countOf_8 rfl ?_
  refine Z.getIv (v := nI n) dX7_countOf_9 cl7 flX7_105 (by decide) (fx35 hF) ((hE.at 35 17 rfl).trans hn.1) ?_
  refine Z.icmp_geN (a := i) (b := n) (by omega) (by omega) (tgt := 64) dX7_countOf_12 (by decide) (fun h1 => ?_) (fun h1 => ?_)
  · refine Z.iload dX7_countOf_64 rfl ?_
    exact Z.iret dX7_countOf_66 rfl ⟨by rw [show i = n by omega]; rfl, rfl, rfl⟩
  · refine Z.iload dX7_countOf_15 rfl ?_
    refine Z.aload_n dX7_countOf_17 rfl ?_
    refine Z.getR (r := 49) dX7_countOf_18 cl7 flX7_49 (by decide) (fx35 hF) rfl ?_
    refine Z.iload dX7_countOf_21 rfl ?_
    refine Z.ialdv (j := i) (v := I 49 i) dX7_countOf_23 (fx49 hF) rfl (by omega) (by decide) (hE.at 49 i rfl) ?_
    refine Z.iload_n dX7_countOf_24 rfl ?_
    refine Z.icmp_ne (tgt := 54) dX7_countOf_25 (by decide) (fun h2 => ?_) (fun h2 => ?_)
    · refine Z.iconst (v := 0) dX7_countOf_54 (by decide) ?_
      refine Z.iaddN (a := cntU (pM I n) k m t i) (b := 0) dX7_countOf_55 ?_
      refine Z.istore (L' := [.ref 35, .int k, .int m, .int t, .int (nI ((cntU (pM I n) k m t i) + 0)), .int (nI i)]) dX7_countOf_56 (Nat.le_of_ble_eq_true rfl) rfl ?_
      refine Z.iinc (v := nI (i + 1)) (L' := [.ref 35, .int k, .int m, .int t, .int (nI ((cntU (pM I n) k m t i) + 0)), .int (nI (i + 1))]) dX7_countOf_58 rfl (nI_1 _) rfl ?_
      refine Z.goto (tgt := 6) dX7_countOf_61 (by decide) ?_
      have e := ih (by omega)
      rw [show cntU (pM I n) k m t (i + 1) = (cntU (pM I n) k m t i) + 0 by simp [cntU, pM, h1, h2]] at e
      exact e
    · refine Z.aload_n dX7_countOf_28 rfl ?_
      refine Z.getR (r := 50) dX7_countOf_29 cl7 flX7_52 (by decide) (fx35 hF) rfl ?_
      refine Z.iload dX7_countOf_32 rfl ?_
      refine Z.ialdv (j := i) (v := I 50 i) dX7_countOf_34 (fx50 hF) rfl (by omega) (by decide) (hE.at 50 i rfl) ?_
      refine Z.iload_n dX7_countOf_35 rfl ?_
      refine Z.icmp_ne (tgt := 54) dX7_countOf_36 (by decide) (fun h3 => ?_) (fun h3 => ?_)
      · refine Z.iconst (v := 0) dX7_countOf_54 (by decide) ?_
        refine Z.iaddN (a := cntU (pM I n) k m t i) (b := 0) dX7_countOf_55 ?_
        refine Z.istore (L' := [.ref 35, .int k, .int m, .int t, .int (nI ((cntU (pM I n) k m t i) + 0)), .int (nI i)]) dX7_countOf_56 (Nat.le_of_ble_eq_true rfl) rfl ?_
        refine Z.iinc (v := nI (i + 1)) (L' := [.ref 35, .int k, .int m, .int t, .int (nI ((cntU (pM I n) k m t i) + 0)), .int (nI (i + 1))]) dX7_countOf_58 rfl (nI_1 _) rfl ?_
        refine Z.goto (tgt := 6) dX7_countOf_61 (by decide) ?_
        have e := ih (by omega)
        rw [show cntU (pM I n) k m t (i + 1) = (cntU (pM I n) k m t i) + 0 by simp [cntU, pM, h1, h2, h3]] at e
        exact e
      · refine Z.aload_n dX7_countOf_39 rfl ?_
        refine Z.getR (r := 52) dX7_countOf_40 cl7 flX7_58 (by decide) (fx35 hF) rfl ?_
        refine Z.iload dX7_countOf_43 rfl ?_
        refine Z.ialdv (j := i) (v := I 52 i) dX7_countOf_45 (fx52 hF) rfl (by omega) (by decide) (hE.at 52 i rfl) ?_
        refine Z.iload_n dX7_countOf_46 rfl ?_
        refine Z.icmp_gt (tgt := 54) dX7_countOf_47 (by decide) (fun h4 => ?_) (fun h4 => ?_)
        · refine Z.iconst (v := 0) dX7_countOf_54 (by decide) ?_
          refine Z.iaddN (a := cntU (pM I n) k m t i) (b := 0) dX7_countOf_55 ?_
          refine Z.istore (L' := [.ref 35, .int k, .int m, .int t, .int (nI ((cntU (pM I n) k m t i) + 0)), .int (nI i)]) dX7_countOf_56 (Nat.le_of_ble_eq_true rfl) rfl ?_
          refine Z.iinc (v := nI (i + 1)) (L' := [.ref 35, .int k, .int m, .int t, .int (nI ((cntU (pM I n) k m t i) + 0)), .int (nI (i + 1))]) dX7_countOf_58 rfl (nI_1 _) rfl ?_
          refine Z.goto (tgt := 6) dX7_countOf_61 (by decide) ?_
          have e := ih (by omega)
          rw [show cntU (pM I n) k m t (i + 1) = (cntU (pM I n) k m t i) + 0 by simp [cntU, pM, h1, h2, h3, h4]] at e
          exact e
        · refine Z.iconst (v := 1) dX7_countOf_50 (by decide) ?_
          refine Z.goto (tgt := 55) dX7_countOf_51 (by decide) ?_
          refine Z.iaddN (a := cntU (pM I n) k m t i) (b := 1) dX7_countOf_55 ?_
          refine Z.istore (L' := [.ref 35, .int k, .int m, .int t, .int (nI ((cntU (pM I n) k m t i) + 1)), .int (nI i)]) dX7_countOf_56 (Nat.le_of_ble_eq_true rfl) rfl ?_
          refine Z.iinc (v := nI (i + 1)) (L' := [.ref 35, .int k, .int m, .int t, .int (nI ((cntU (pM I n) k m t i) + 1)), .int (nI (i + 1))]) dX7_countOf_58 rfl (nI_1 _) rfl ?_
          refine Z.goto (tgt := 6) dX7_countOf_61 (by decide) ?_
          have e := ih (by omega)
          rw [show cntU (pM I n) k m t (i + 1) = (cntU (pM I n) k m t i) + 1 by simp [cntU, pM, h1, h2, h3, h4]] at e
          exact e

set_option maxHeartbeats 4000000 in
set_option maxRecDepth 100000 in
theorem ct_countOf {g : GP} {I J : IM} {S : SH} (hE : Ex I J) (k m t : Int32) (hF : Fx S) {n : Nat} (hn : Mp I n) : Z g 0 0 0 mX7_countOf 0 (enL mX7_countOf [.ref 35, .int k, .int m, .int t]) [] J S (PQ (.int (nI (cntF (pM I n) k m t))) J S) := by
  show Z g 0 0 0 mX7_countOf 0 [.ref 35, .int k, .int m, .int t, .retAddr 0, .retAddr 0] [] J S _
  refine Z.iconst (v := 0) dX7_countOf_0 (by decide) ?_
  refine Z.istore (L' := [.ref 35, .int k, .int m, .int t, .int 0, .retAddr 0]) dX7_countOf_1 (Nat.le_of_ble_eq_true rfl) rfl ?_
  refine Z.iconst (v := 0) dX7_countOf_3 (by decide) ?_
  refine Z.istore (L' := [.ref 35, .int k, .int m, .int t, .int 0, .int 0]) dX7_countOf_4 (Nat.le_of_ble_eq_true rfl) rfl ?_
  exact lp_countOf hE k m t hF hn 0 (Nat.zero_le _)
end
section
set_option maxHeartbeats 4000000 in
set_option maxRecDepth 100000 in
theorem ct_since {g : GP} {I J : IM} {S : SH} (hE : Ex I J) (m g_ t : Int32) (hF : Fx S) {n : Nat} (hn : Mp I n) : Z g 1 0 0 mX7_since 0 (enL mX7_since [.ref 35, .int m, .int g_, .int t]) [] J S (PQ (.int (sinceF (pM I n) m g_ t)) J S) := by
  show Z g 1 0 0 mX7_since 0 [.ref 35, .int m, .int g_, .int t, .retAddr 0, .retAddr 0] [] J S _
  refine Z.aload_n dX7_since_0 rfl ?_
  refine Z.iconst (v := 0) dX7_since_1 (by decide) ?_
  refine Z.iload_n dX7_since_2 rfl ?_
  refine Z.iload_n dX7_since_3 rfl ?_
  refine Z.iload_n dX7_since_4 rfl ?_
  refine Z.callVp (M := mX7_since) (pc := 5) (st := []) (N := mX7_latest) (n := 4) (r := .int (latF (pM I n) 0 m g_ t)) dX7_since_5 mlX7_138 mkX7_latest imX7_latest seX7_latest (fx35 hF) cl7 rfl (d1 := 0) (by decide) (As := [.int 0, .int m, .int g_, .int t]) rfl ⟨rfl, Nat.le_of_ble_eq_true rfl⟩ ⟨rfl, Nat.le_of_ble_eq_true rfl⟩ (ct_latest hE 0 m g_ t hF hn) rfl ?_
  refine Z.istore (L' := [.ref 35, .int m, .int g_, .int t, .int (latF (pM I n) 0 m g_ t), .retAddr 0]) dX7_since_8 (Nat.le_of_ble_eq_true rfl) rfl ?_
  refine Z.aload_n dX7_since_10 rfl ?_
  refine Z.iconst (v := 3) dX7_since_11 (by decide) ?_
  refine Z.iload_n dX7_since_12 rfl ?_
  refine Z.iload_n dX7_since_13 rfl ?_
  refine Z.iload_n dX7_since_14 rfl ?_
  refine Z.callVp (M := mX7_since) (pc := 15) (st := []) (N := mX7_latest) (n := 4) (r := .int (latF (pM I n) 3 m g_ t)) dX7_since_15 mlX7_138 mkX7_latest imX7_latest seX7_latest (fx35 hF) cl7 rfl (d1 := 0) (by decide) (As := [.int 3, .int m, .int g_, .int t]) rfl ⟨rfl, Nat.le_of_ble_eq_true rfl⟩ ⟨rfl, Nat.le_of_ble_eq_true rfl⟩ (ct_latest hE 3 m g_ t hF hn) rfl ?_
  refine Z.istore (L' := [.ref 35, .int m, .int g_, .int t, .int (latF (pM I n) 0 m g_ t), .int (latF (pM I n) 3 m g_ t)]) dX7_since_18 (Nat.le_of_ble_eq_true rfl) rfl ?_
  refine Z.iload dX7_since_20 rfl ?_
  refine Z.if_lt (tgt := 43) dX7_since_22 (by decide) (fun h1 => ?_) (fun h1 => ?_)
  · refine Z.iconst (v := (-1)) dX7_since_43 (by decide) ?_
    exact Z.iret dX7_since_44 rfl ⟨by first | (simp [sinceF, dyM, h1]; done) | contradiction, rfl, rfl⟩
  · refine Z.iload dX7_since_25 rfl ?_
    refine Z.iload dX7_since_27 rfl ?_
    refine Z.icmp_le (tgt := 45) dX7_since_29 (by decide) (fun h2 => ?_) (fun h2 => ?_)
    · refine Z.aload_n dX7_since_45 rfl ?_
      refine Z.getR (r := 52) dX7_since_46 cl7 flX7_58 (by decide) (fx35 hF) rfl ?_
      refine Z.iload dX7_since_49 rfl ?_
      refine Z.ialdv (j := (latF (pM I n) 0 m g_ t).toNatClampNeg) (v := I 52 ((latF (pM I n) 0 m g_ t).toNatClampNeg)) dX7_since_51 (fx52 hF) (tn_eq h1) (Nat.lt_of_lt_of_le (latF_lt (p := pM I n) hn.2 h1) hn.2) (by decide) (hE.at 52 ((latF (pM I n) 0 m g_ t).toNatClampNeg) rfl) ?_
      exact Z.iret dX7_since_52 rfl ⟨by first | (simp [sinceF, dyM, h1, h2]; done) | contradiction, rfl, rfl⟩
    · refine Z.aload_n dX7_since_32 rfl ?_
      refine Z.getR (r := 52) dX7_since_33 cl7 flX7_58 (by decide) (fx35 hF) rfl ?_
      refine Z.iload dX7_since_36 rfl ?_
      refine Z.ialdv (j := (latF (pM I n) 3 m g_ t).toNatClampNeg) (v := I 52 ((latF (pM I n) 3 m g_ t).toNatClampNeg)) dX7_since_38 (fx52 hF) (tn_eq (i32_lt h1 h2)) (Nat.lt_of_lt_of_le (latF_lt (p := pM I n) hn.2 (i32_lt h1 h2)) hn.2) (by decide) (hE.at 52 ((latF (pM I n) 3 m g_ t).toNatClampNeg) rfl) ?_
      refine Z.iload_n dX7_since_39 rfl ?_
      refine Z.icmp_eq (tgt := 45) dX7_since_40 (by decide) (fun h3 => ?_) (fun h3 => ?_)
      · refine Z.aload_n dX7_since_45 rfl ?_
        refine Z.getR (r := 52) dX7_since_46 cl7 flX7_58 (by decide) (fx35 hF) rfl ?_
        refine Z.iload dX7_since_49 rfl ?_
        refine Z.ialdv (j := (latF (pM I n) 0 m g_ t).toNatClampNeg) (v := I 52 ((latF (pM I n) 0 m g_ t).toNatClampNeg)) dX7_since_51 (fx52 hF) (tn_eq h1) (Nat.lt_of_lt_of_le (latF_lt (p := pM I n) hn.2 h1) hn.2) (by decide) (hE.at 52 ((latF (pM I n) 0 m g_ t).toNatClampNeg) rfl) ?_
        exact Z.iret dX7_since_52 rfl ⟨by first | (simp [sinceF, dyM, h1, h2, h3]; done) | contradiction, rfl, rfl⟩
      · refine Z.iconst (v := (-1)) dX7_since_43 (by decide) ?_
        exact Z.iret dX7_since_44 rfl ⟨by first | (simp [sinceF, dyM, h1, h2, h3]; done) | contradiction, rfl, rfl⟩

set_option maxHeartbeats 4000000 in
set_option maxRecDepth 100000 in
theorem ct_firstOf {g : GP} {I J : IM} {S : SH} (hE : Ex I J) (m t : Int32) (hF : Fx S) {n : Nat} (hn : Mp I n) : Z g 1 0 0 mX7_firstOf 0 (enL mX7_firstOf [.ref 35, .int m, .int t]) [] J S (PQ (.int (firF (pM I n) m t)) J S) := by
  show Z g 1 0 0 mX7_firstOf 0 [.ref 35, .int m, .int t, .retAddr 0] [] J S _
  refine Z.aload_n dX7_firstOf_0 rfl ?_
  refine Z.iconst (v := 1) dX7_firstOf_1 (by decide) ?_
  refine Z.iload_n dX7_firstOf_2 rfl ?_
  refine Z.iconst (v := (-1)) dX7_firstOf_3 (by decide) ?_
  refine Z.iload_n dX7_firstOf_4 rfl ?_
  refine Z.callVp (M := mX7_firstOf) (pc := 5) (st := []) (N := mX7_earliest) (n := 4) (r := .int (eaF (pM I n) 1 m (-1) t)) dX7_firstOf_5 mlX7_142 mkX7_earliest imX7_earliest seX7_earliest (fx35 hF) cl7 rfl (d1 := 0) (by decide) (As := [.int 1, .int m, .int ((-1)), .int t]) rfl ⟨rfl, Nat.le_of_ble_eq_true rfl⟩ ⟨rfl, Nat.le_of_ble_eq_true rfl⟩ (ct_earliest hE 1 m (-1) t hF hn) rfl ?_
  refine Z.istore_n (L' := [.ref 35, .int m, .int t, .int (eaF (pM I n) 1 m (-1) t)]) dX7_firstOf_8 (Nat.le_of_ble_eq_true rfl) rfl ?_
  refine Z.iload_n dX7_firstOf_9 rfl ?_
  refine Z.if_ge (tgt := 17) dX7_firstOf_10 (by decide) (fun h1 => ?_) (fun h1 => ?_)
  · refine Z.aload_n dX7_firstOf_17 rfl ?_
    refine Z.getR (r := 52) dX7_firstOf_18 cl7 flX7_58 (by decide) (fx35 hF) rfl ?_
    refine Z.iload_n dX7_firstOf_21 rfl ?_
    refine Z.ialdv (j := (eaF (pM I n) 1 m (-1) t).toNatClampNeg) (v := I 52 ((eaF (pM I n) 1 m (-1) t).toNatClampNeg)) dX7_firstOf_22 (fx52 hF) (tn_eq h1) (Nat.lt_of_lt_of_le (eaF_lt (p := pM I n) hn.2 h1) hn.2) (by decide) (hE.at 52 ((eaF (pM I n) 1 m (-1) t).toNatClampNeg) rfl) ?_
    exact Z.iret dX7_firstOf_23 rfl ⟨by first | (simp [firF, dyM, h1]; done) | contradiction, rfl, rfl⟩
  · refine Z.iconst (v := (-1)) dX7_firstOf_13 (by decide) ?_
    refine Z.goto (tgt := 23) dX7_firstOf_14 (by decide) ?_
    exact Z.iret dX7_firstOf_23 rfl ⟨by first | (simp [firF, dyM, h1]; done) | contradiction, rfl, rfl⟩

set_option maxHeartbeats 4000000 in
set_option maxRecDepth 100000 in
theorem ct_termEnd {g : GP} {I J : IM} {S : SH} (hE : Ex I J) (m t : Int32) (hF : Fx S) {n : Nat} (hn : Mp I n) : Z g 2 0 0 mX7_termEnd 0 (enL mX7_termEnd [.ref 35, .int m, .int t]) [] J S (PQ (.int (termF (pM I n) m t)) J S) := by
  show Z g 2 0 0 mX7_termEnd 0 [.ref 35, .int m, .int t] [] J S _
  refine Z.aload_n dX7_termEnd_0 rfl ?_
  refine Z.iload_n dX7_termEnd_1 rfl ?_
  refine Z.iload_n dX7_termEnd_2 rfl ?_
  refine Z.callVp (M := mX7_termEnd) (pc := 3) (st := []) (N := mX7_firstOf) (n := 2) (r := .int (firF (pM I n) m t)) dX7_termEnd_3 mlX7_145 mkX7_firstOf imX7_firstOf seX7_firstOf (fx35 hF) cl7 rfl (d1 := 1) (by decide) (As := [.int m, .int t]) rfl ⟨rfl, Nat.le_of_ble_eq_true rfl⟩ ⟨rfl, Nat.le_of_ble_eq_true rfl⟩ (ct_firstOf hE m t hF hn) rfl ?_
  refine Z.sipush (v := 3650) dX7_termEnd_6 (by decide) ?_
  refine Z.iconst (v := 1) dX7_termEnd_9 (by decide) ?_
  refine Z.aload_n dX7_termEnd_10 rfl ?_
  refine Z.iconst (v := 2) dX7_termEnd_11 (by decide) ?_
  refine Z.iload_n dX7_termEnd_12 rfl ?_
  refine Z.iload_n dX7_termEnd_13 rfl ?_
  refine Z.callVp (M := mX7_termEnd) (pc := 14) (st := [.int 1, .int 3650, .int (firF (pM I n) m t)]) (N := mX7_countOf) (n := 3) (r := .int (nI (cntF (pM I n) 2 m t))) dX7_termEnd_14 mlX7_148 mkX7_countOf imX7_countOf seX7_countOf (fx35 hF) cl7 rfl (d1 := 0) (by decide) (As := [.int 2, .int m, .int t]) rfl ⟨rfl, Nat.le_of_ble_eq_true rfl⟩ ⟨rfl, Nat.le_of_ble_eq_true rfl⟩ (ct_countOf hE 2 m t hF hn) rfl ?_
  refine Z.iaddN (a := 1) (b := cntF (pM I n) 2 m t) dX7_termEnd_17 ?_
  refine Z.imulN (a := 3650) (b := 1 + (cntF (pM I n) 2 m t)) dX7_termEnd_18 ?_
  refine Z.iadd dX7_termEnd_19 ?_
  exact Z.iret dX7_termEnd_20 rfl ⟨by first | (simp [termF]; done) | contradiction, rfl, rfl⟩

set_option maxHeartbeats 4000000 in
set_option maxRecDepth 100000 in
theorem ct_hasLapsed {g : GP} {I J : IM} {S : SH} (hE : Ex I J) (m t : Int32) (hF : Fx S) {n : Nat} (hn : Mp I n) : Z g 3 0 0 mX7_hasLapsed 0 (enL mX7_hasLapsed [.ref 35, .int m, .int t]) [] J S (PQ (.int (bI (lapF (pM I n) m t))) J S) := by
  show Z g 3 0 0 mX7_hasLapsed 0 [.ref 35, .int m, .int t] [] J S _
  refine Z.iload_n dX7_hasLapsed_0 rfl ?_
  refine Z.aload_n dX7_hasLapsed_1 rfl ?_
  refine Z.iload_n dX7_hasLapsed_2 rfl ?_
  refine Z.iload_n dX7_hasLapsed_3 rfl ?_
  refine Z.callVp (M := mX7_hasLapsed) (pc := 4) (st := [.int t]) (N := mX7_termEnd) (n := 2) (r := .int (termF (pM I n) m t)) dX7_hasLapsed_4 mlX7_152 mkX7_termEnd imX7_termEnd seX7_termEnd (fx35 hF) cl7 rfl (d1 := 2) (by decide) (As := [.int m, .int t]) rfl ⟨rfl, Nat.le_of_ble_eq_true rfl⟩ ⟨rfl, Nat.le_of_ble_eq_true rfl⟩ (ct_termEnd hE m t hF hn) rfl ?_
  refine Z.sipush (v := 180) dX7_hasLapsed_7 (by decide) ?_
  refine Z.iadd dX7_hasLapsed_10 ?_
  refine Z.icmp_le (tgt := 18) dX7_hasLapsed_11 (by decide) (fun h1 => ?_) (fun h1 => ?_)
  · refine Z.iconst (v := 0) dX7_hasLapsed_18 (by decide) ?_
    exact Z.zret dX7_hasLapsed_19 rfl (by decide) ⟨by first | (simp [lapF, bI, h1]; done) | contradiction, rfl, rfl⟩
  · refine Z.iconst (v := 1) dX7_hasLapsed_14 (by decide) ?_
    refine Z.goto (tgt := 19) dX7_hasLapsed_15 (by decide) ?_
    exact Z.zret dX7_hasLapsed_19 rfl (by decide) ⟨by first | (simp [lapF, bI, h1]; done) | contradiction, rfl, rfl⟩

set_option maxHeartbeats 4000000 in
set_option maxRecDepth 100000 in
theorem ct_isStruck {g : GP} {I J : IM} {S : SH} (hE : Ex I J) (m t : Int32) (hF : Fx S) {n : Nat} (hn : Mp I n) : Z g 1 0 0 mX7_isStruck 0 (enL mX7_isStruck [.ref 35, .int m, .int t]) [] J S (PQ (.int (bI (strF (pM I n) m t))) J S) := by
  show Z g 1 0 0 mX7_isStruck 0 [.ref 35, .int m, .int t] [] J S _
  refine Z.aload_n dX7_isStruck_0 rfl ?_
  refine Z.iconst (v := 4) dX7_isStruck_1 (by decide) ?_
  refine Z.iload_n dX7_isStruck_2 rfl ?_
  refine Z.iconst (v := (-1)) dX7_isStruck_3 (by decide) ?_
  refine Z.iload_n dX7_isStruck_4 rfl ?_
  refine Z.callVp (M := mX7_isStruck) (pc := 5) (st := []) (N := mX7_latest) (n := 4) (r := .int (latF (pM I n) 4 m (-1) t)) dX7_isStruck_5 mlX7_138 mkX7_latest imX7_latest seX7_latest (fx35 hF) cl7 rfl (d1 := 0) (by decide) (As := [.int 4, .int m, .int ((-1)), .int t]) rfl ⟨rfl, Nat.le_of_ble_eq_true rfl⟩ ⟨rfl, Nat.le_of_ble_eq_true rfl⟩ (ct_latest hE 4 m (-1) t hF hn) rfl ?_
  refine Z.if_lt (tgt := 15) dX7_isStruck_8 (by decide) (fun h1 => ?_) (fun h1 => ?_)
  · refine Z.iconst (v := 0) dX7_isStruck_15 (by decide) ?_
    exact Z.zret dX7_isStruck_16 rfl (by decide) ⟨by first | (simp [strF, bI, h1]; done) | contradiction, rfl, rfl⟩
  · refine Z.iconst (v := 1) dX7_isStruck_11 (by decide) ?_
    refine Z.goto (tgt := 16) dX7_isStruck_12 (by decide) ?_
    exact Z.zret dX7_isStruck_16 rfl (by decide) ⟨by first | (simp [strF, bI, h1]; done) | contradiction, rfl, rfl⟩

set_option maxHeartbeats 4000000 in
set_option maxRecDepth 100000 in
theorem ct_rightOf {g : GP} {I J : IM} {S : SH} (hE : Ex I J) (m g_ c t : Int32) (hF : Fx S) {n : Nat} (hn : Mp I n) : Z g 2 0 0 mX7_rightOf 0 (enL mX7_rightOf [.ref 35, .int m, .int g_, .int c, .int t]) [] J S (PQ (.int (rightF (pM I n) m g_ c t)) J S) := by
  show Z g 2 0 0 mX7_rightOf 0 [.ref 35, .int m, .int g_, .int c, .int t, .retAddr 0, .retAddr 0, .retAddr 0, .retAddr 0] [] J S _
  refine Z.aload_n dX7_rightOf_0 rfl ?_
  refine Z.iload_n dX7_rightOf_1 rfl ?_
  refine Z.iload_n dX7_rightOf_2 rfl ?_
  refine Z.iload dX7_rightOf_3 rfl ?_
  refine Z.callVp (M := mX7_rightOf) (pc := 5) (st := []) (N := mX7_since) (n := 3) (r := .int (sinceF (pM I n) m g_ t)) dX7_rightOf_5 mlX7_155 mkX7_since imX7_since seX7_since (fx35 hF) cl7 rfl (d1 := 1) (by decide) (As := [.int m, .int g_, .int t]) rfl ⟨rfl, Nat.le_of_ble_eq_true rfl⟩ ⟨rfl, Nat.le_of_ble_eq_true rfl⟩ (ct_since hE m g_ t hF hn) rfl ?_
  refine Z.istore (L' := [.ref 35, .int m, .int g_, .int c, .int t, .int (sinceF (pM I n) m g_ t), .retAddr 0, .retAddr 0, .retAddr 0]) dX7_rightOf_8 (Nat.le_of_ble_eq_true rfl) rfl ?_
  refine Z.aload_n dX7_rightOf_10 rfl ?_
  refine Z.iconst (v := 1) dX7_rightOf_11 (by decide) ?_
  refine Z.iload_n dX7_rightOf_12 rfl ?_
  refine Z.iload_n dX7_rightOf_13 rfl ?_
  refine Z.iload dX7_rightOf_14 rfl ?_
  refine Z.callVp (M := mX7_rightOf) (pc := 16) (st := []) (N := mX7_earliest) (n := 4) (r := .int (eaF (pM I n) 1 m c t)) dX7_rightOf_16 mlX7_142 mkX7_earliest imX7_earliest seX7_earliest (fx35 hF) cl7 rfl (d1 := 0) (by decide) (As := [.int 1, .int m, .int c, .int t]) rfl ⟨rfl, Nat.le_of_ble_eq_true rfl⟩ ⟨rfl, Nat.le_of_ble_eq_true rfl⟩ (ct_earliest hE 1 m c t hF hn) rfl ?_
  refine Z.istore (L' := [.ref 35, .int m, .int g_, .int c, .int t, .int (sinceF (pM I n) m g_ t), .int (eaF (pM I n) 1 m c t), .retAddr 0, .retAddr 0]) dX7_rightOf_19 (Nat.le_of_ble_eq_true rfl) rfl ?_
  refine Z.iload dX7_rightOf_21 rfl ?_
  refine Z.if_lt (tgt := 31) dX7_rightOf_23 (by decide) (fun h1 => ?_) (fun h1 => ?_)
  · refine Z.iconst (v := (-1)) dX7_rightOf_31 (by decide) ?_
    exact Z.iret dX7_rightOf_32 rfl ⟨by first | (simp [rightF, dyM, h1]; done) | contradiction, rfl, rfl⟩
  · refine Z.iload dX7_rightOf_26 rfl ?_
    refine Z.if_ge (tgt := 33) dX7_rightOf_28 (by decide) (fun h2 => ?_) (fun h2 => ?_)
    · refine Z.aload_n dX7_rightOf_33 rfl ?_
      refine Z.iload_n dX7_rightOf_34 rfl ?_
      refine Z.iload dX7_rightOf_35 rfl ?_
      refine Z.callVp (M := mX7_rightOf) (pc := 37) (st := []) (N := mX7_firstOf) (n := 2) (r := .int (firF (pM I n) m t)) dX7_rightOf_37 mlX7_145 mkX7_firstOf imX7_firstOf seX7_firstOf (fx35 hF) cl7 rfl (d1 := 1) (by decide) (As := [.int m, .int t]) rfl ⟨rfl, Nat.le_of_ble_eq_true rfl⟩ ⟨rfl, Nat.le_of_ble_eq_true rfl⟩ (ct_firstOf hE m t hF hn) rfl ?_
      refine Z.istore (L' := [.ref 35, .int m, .int g_, .int c, .int t, .int (sinceF (pM I n) m g_ t), .int (eaF (pM I n) 1 m c t), .int (firF (pM I n) m t), .retAddr 0]) dX7_rightOf_40 (Nat.le_of_ble_eq_true rfl) rfl ?_
      refine Z.aload_n dX7_rightOf_42 rfl ?_
      refine Z.getR (r := 52) dX7_rightOf_43 cl7 flX7_58 (by decide) (fx35 hF) rfl ?_
      refine Z.iload dX7_rightOf_46 rfl ?_
      refine Z.ialdv (j := (eaF (pM I n) 1 m c t).toNatClampNeg) (v := I 52 ((eaF (pM I n) 1 m c t).toNatClampNeg)) dX7_rightOf_48 (fx52 hF) (tn_eq h2) (Nat.lt_of_lt_of_le (eaF_lt (p := pM I n) hn.2 h2) hn.2) (by decide) (hE.at 52 ((eaF (pM I n) 1 m c t).toNatClampNeg) rfl) ?_
      refine Z.iload dX7_rightOf_49 rfl ?_
      refine Z.isub dX7_rightOf_51 ?_
      refine Z.sipush (v := 182) dX7_rightOf_52 (by decide) ?_
      refine Z.icmp_gt (tgt := 70) dX7_rightOf_55 (by decide) (fun h3 => ?_) (fun h3 => ?_)
      · refine Z.aload_n dX7_rightOf_70 rfl ?_
        refine Z.getR (r := 52) dX7_rightOf_71 cl7 flX7_58 (by decide) (fx35 hF) rfl ?_
        refine Z.iload dX7_rightOf_74 rfl ?_
        refine Z.ialdv (j := (eaF (pM I n) 1 m c t).toNatClampNeg) (v := I 52 ((eaF (pM I n) 1 m c t).toNatClampNeg)) dX7_rightOf_76 (fx52 hF) (tn_eq h2) (Nat.lt_of_lt_of_le (eaF_lt (p := pM I n) hn.2 h2) hn.2) (by decide) (hE.at 52 ((eaF (pM I n) 1 m c t).toNatClampNeg) rfl) ?_
        refine Z.istore (L' := [.ref 35, .int m, .int g_, .int c, .int t, .int (sinceF (pM I n) m g_ t), .int (eaF (pM I n) 1 m c t), .int (firF (pM I n) m t), .int (I 52 ((eaF (pM I n) 1 m c t).toNatClampNeg))]) dX7_rightOf_77 (Nat.le_of_ble_eq_true rfl) rfl ?_
        refine Z.iload dX7_rightOf_79 rfl ?_
        refine Z.iload dX7_rightOf_81 rfl ?_
        refine Z.icmp_ge (tgt := 91) dX7_rightOf_83 (by decide) (fun h4 => ?_) (fun h4 => ?_)
        · refine Z.iload dX7_rightOf_91 rfl ?_
          exact Z.iret dX7_rightOf_93 rfl ⟨by first | (simp [rightF, dyM, h1, h2, h3, h4]; done) | contradiction, rfl, rfl⟩
        · refine Z.iload dX7_rightOf_86 rfl ?_
          refine Z.goto (tgt := 93) dX7_rightOf_88 (by decide) ?_
          exact Z.iret dX7_rightOf_93 rfl ⟨by first | (simp [rightF, dyM, h1, h2, h3, h4]; done) | contradiction, rfl, rfl⟩
      · refine Z.iload dX7_rightOf_58 rfl ?_
        refine Z.iload dX7_rightOf_60 rfl ?_
        refine Z.icmp_gt (tgt := 70) dX7_rightOf_62 (by decide) (fun h5 => ?_) (fun h5 => ?_)
        · refine Z.aload_n dX7_rightOf_70 rfl ?_
          refine Z.getR (r := 52) dX7_rightOf_71 cl7 flX7_58 (by decide) (fx35 hF) rfl ?_
          refine Z.iload dX7_rightOf_74 rfl ?_
          refine Z.ialdv (j := (eaF (pM I n) 1 m c t).toNatClampNeg) (v := I 52 ((eaF (pM I n) 1 m c t).toNatClampNeg)) dX7_rightOf_76 (fx52 hF) (tn_eq h2) (Nat.lt_of_lt_of_le (eaF_lt (p := pM I n) hn.2 h2) hn.2) (by decide) (hE.at 52 ((eaF (pM I n) 1 m c t).toNatClampNeg) rfl) ?_
          refine Z.istore (L' := [.ref 35, .int m, .int g_, .int c, .int t, .int (sinceF (pM I n) m g_ t), .int (eaF (pM I n) 1 m c t), .int (firF (pM I n) m t), .int (I 52 ((eaF (pM I n) 1 m c t).toNatClampNeg))]) dX7_rightOf_77 (Nat.le_of_ble_eq_true rfl) rfl ?_
          refine Z.iload dX7_rightOf_79 rfl ?_
          refine Z.iload dX7_rightOf_81 rfl ?_
          refine Z.icmp_ge (tgt := 91) dX7_rightOf_83 (by decide) (fun h6 => ?_) (fun h6 => ?_)
          · refine Z.iload dX7_rightOf_91 rfl ?_
            exact Z.iret dX7_rightOf_93 rfl ⟨by first | (simp [rightF, dyM, h1, h2, h3, h5, h6]; done) | contradiction, rfl, rfl⟩
          · refine Z.iload dX7_rightOf_86 rfl ?_
            refine Z.goto (tgt := 93) dX7_rightOf_88 (by decide) ?_
            exact Z.iret dX7_rightOf_93 rfl ⟨by first | (simp [rightF, dyM, h1, h2, h3, h5, h6]; done) | contradiction, rfl, rfl⟩
        · refine Z.iload dX7_rightOf_65 rfl ?_
          refine Z.goto (tgt := 77) dX7_rightOf_67 (by decide) ?_
          refine Z.istore (L' := [.ref 35, .int m, .int g_, .int c, .int t, .int (sinceF (pM I n) m g_ t), .int (eaF (pM I n) 1 m c t), .int (firF (pM I n) m t), .int (firF (pM I n) m t)]) dX7_rightOf_77 (Nat.le_of_ble_eq_true rfl) rfl ?_
          refine Z.iload dX7_rightOf_79 rfl ?_
          refine Z.iload dX7_rightOf_81 rfl ?_
          refine Z.icmp_ge (tgt := 91) dX7_rightOf_83 (by decide) (fun h7 => ?_) (fun h7 => ?_)
          · refine Z.iload dX7_rightOf_91 rfl ?_
            exact Z.iret dX7_rightOf_93 rfl ⟨by first | (simp [rightF, dyM, h1, h2, h3, h5, h7]; done) | contradiction, rfl, rfl⟩
          · refine Z.iload dX7_rightOf_86 rfl ?_
            refine Z.goto (tgt := 93) dX7_rightOf_88 (by decide) ?_
            exact Z.iret dX7_rightOf_93 rfl ⟨by first | (simp [rightF, dyM, h1, h2, h3, h5, h7]; done) | contradiction, rfl, rfl⟩
    · refine Z.iconst (v := (-1)) dX7_rightOf_31 (by decide) ?_
      exact Z.iret dX7_rightOf_32 rfl ⟨by first | (simp [rightF, dyM, h1, h2]; done) | contradiction, rfl, rfl⟩

set_option maxHeartbeats 4000000 in
set_option maxRecDepth 100000 in
theorem ct_stands {g : GP} {I J : IM} {S : SH} (hE : Ex I J) (m g_ c t : Int32) (hF : Fx S) {n : Nat} (hn : Mp I n) : Z g 4 0 0 mX7_stands 0 (enL mX7_stands [.ref 35, .int m, .int g_, .int c, .int t]) [] J S (PQ (.int (bI (standsF (pM I n) m g_ c t))) J S) := by
  show Z g 4 0 0 mX7_stands 0 [.ref 35, .int m, .int g_, .int c, .int t, .retAddr 0, .retAddr 0, .retAddr 0] [] J S _
  refine Z.aload_n dX7_stands_0 rfl ?_
  refine Z.iload_n dX7_stands_1 rfl ?_
  refine Z.iload_n dX7_stands_2 rfl ?_
  refine Z.iload_n dX7_stands_3 rfl ?_
  refine Z.iload dX7_stands_4 rfl ?_
  refine Z.callVp (M := mX7_stands) (pc := 6) (st := []) (N := mX7_rightOf) (n := 4) (r := .int (rightF (pM I n) m g_ c t)) dX7_stands_6 mlX7_158 mkX7_rightOf imX7_rightOf seX7_rightOf (fx35 hF) cl7 rfl (d1 := 2) (by decide) (As := [.int m, .int g_, .int c, .int t]) rfl ⟨rfl, Nat.le_of_ble_eq_true rfl⟩ ⟨rfl, Nat.le_of_ble_eq_true rfl⟩ (ct_rightOf hE m g_ c t hF hn) rfl ?_
  refine Z.istore (L' := [.ref 35, .int m, .int g_, .int c, .int t, .int (rightF (pM I n) m g_ c t), .retAddr 0, .retAddr 0]) dX7_stands_9 (Nat.le_of_ble_eq_true rfl) rfl ?_
  refine Z.iload dX7_stands_11 rfl ?_
  refine Z.if_lt (tgt := 43) dX7_stands_13 (by decide) (fun h1 => ?_) (fun h1 => ?_)
  · refine Z.iconst (v := 0) dX7_stands_43 (by decide) ?_
    exact Z.zret dX7_stands_44 rfl (by decide) ⟨by first | (simp [standsF, lastF, dyM, bI, h1]; done) | contradiction, rfl, rfl⟩
  · refine Z.iload dX7_stands_16 rfl ?_
    refine Z.iload dX7_stands_18 rfl ?_
    refine Z.icmp_gt (tgt := 43) dX7_stands_20 (by decide) (fun h2 => ?_) (fun h2 => ?_)
    · refine Z.iconst (v := 0) dX7_stands_43 (by decide) ?_
      exact Z.zret dX7_stands_44 rfl (by decide) ⟨by first | (simp [standsF, lastF, dyM, bI, h1, h2]; done) | contradiction, rfl, rfl⟩
    · refine Z.aload_n dX7_stands_23 rfl ?_
      refine Z.iload_n dX7_stands_24 rfl ?_
      refine Z.iload dX7_stands_25 rfl ?_
      refine Z.callVp (M := mX7_stands) (pc := 27) (st := []) (N := mX7_hasLapsed) (n := 2) (r := .int (bI (lapF (pM I n) m t))) dX7_stands_27 mlX7_161 mkX7_hasLapsed imX7_hasLapsed seX7_hasLapsed (fx35 hF) cl7 rfl (d1 := 3) (by decide) (As := [.int m, .int t]) rfl ⟨rfl, Nat.le_of_ble_eq_true rfl⟩ ⟨rfl, Nat.le_of_ble_eq_true rfl⟩ (ct_hasLapsed hE m t hF hn) rfl ?_
      refine Z.if_neB (tgt := 43) dX7_stands_30 (by decide) (fun h3 => ?_) (fun h3 => ?_)
      · refine Z.iconst (v := 0) dX7_stands_43 (by decide) ?_
        exact Z.zret dX7_stands_44 rfl (by decide) ⟨by first | (simp [standsF, lastF, dyM, bI, h1, h2, h3]; done) | contradiction, rfl, rfl⟩
      · refine Z.aload_n dX7_stands_33 rfl ?_
        refine Z.iload_n dX7_stands_34 rfl ?_
        refine Z.iload dX7_stands_35 rfl ?_
        refine Z.callVp (M := mX7_stands) (pc := 37) (st := []) (N := mX7_isStruck) (n := 2) (r := .int (bI (strF (pM I n) m t))) dX7_stands_37 mlX7_164 mkX7_isStruck imX7_isStruck seX7_isStruck (fx35 hF) cl7 rfl (d1 := 1) (by decide) (As := [.int m, .int t]) rfl ⟨rfl, Nat.le_of_ble_eq_true rfl⟩ ⟨rfl, Nat.le_of_ble_eq_true rfl⟩ (ct_isStruck hE m t hF hn) rfl ?_
        refine Z.if_eqB (tgt := 45) dX7_stands_40 (by decide) (fun h4 => ?_) (fun h4 => ?_)
        · refine Z.aload_n dX7_stands_45 rfl ?_
          refine Z.bipush (v := 6) dX7_stands_46 (by decide) ?_
          refine Z.iload_n dX7_stands_48 rfl ?_
          refine Z.iload_n dX7_stands_49 rfl ?_
          refine Z.iload dX7_stands_50 rfl ?_
          refine Z.callVp (M := mX7_stands) (pc := 52) (st := []) (N := mX7_latest) (n := 4) (r := .int (latF (pM I n) 6 m g_ t)) dX7_stands_52 mlX7_138 mkX7_latest imX7_latest seX7_latest (fx35 hF) cl7 rfl (d1 := 0) (by decide) (As := [.int 6, .int m, .int g_, .int t]) rfl ⟨rfl, Nat.le_of_ble_eq_true rfl⟩ ⟨rfl, Nat.le_of_ble_eq_true rfl⟩ (ct_latest hE 6 m g_ t hF hn) rfl ?_
          refine Z.istore (L' := [.ref 35, .int m, .int g_, .int c, .int t, .int (rightF (pM I n) m g_ c t), .int (latF (pM I n) 6 m g_ t), .retAddr 0]) dX7_stands_55 (Nat.le_of_ble_eq_true rfl) rfl ?_
          refine Z.iload dX7_stands_57 rfl ?_
          refine Z.if_lt (tgt := 84) dX7_stands_59 (by decide) (fun h5 => ?_) (fun h5 => ?_)
          · refine Z.iload dX7_stands_84 rfl ?_
            refine Z.istore (L' := [.ref 35, .int m, .int g_, .int c, .int t, .int (rightF (pM I n) m g_ c t), .int (latF (pM I n) 6 m g_ t), .int (rightF (pM I n) m g_ c t)]) dX7_stands_86 (Nat.le_of_ble_eq_true rfl) rfl ?_
            refine Z.iload dX7_stands_88 rfl ?_
            refine Z.iload dX7_stands_90 rfl ?_
            refine Z.isub dX7_stands_92 ?_
            refine Z.sipush (v := 1825) dX7_stands_93 (by decide) ?_
            refine Z.icmp_gt (tgt := 103) dX7_stands_96 (by decide) (fun h6 => ?_) (fun h6 => ?_)
            · refine Z.iconst (v := 0) dX7_stands_103 (by decide) ?_
              exact Z.zret dX7_stands_104 rfl (by decide) ⟨by first | (simp [standsF, lastF, dyM, bI, h1, h2, h3, h4, h5, h6]; done) | contradiction, rfl, rfl⟩
            · refine Z.iconst (v := 1) dX7_stands_99 (by decide) ?_
              refine Z.goto (tgt := 104) dX7_stands_100 (by decide) ?_
              exact Z.zret dX7_stands_104 rfl (by decide) ⟨by first | (simp [standsF, lastF, dyM, bI, h1, h2, h3, h4, h5, h6]; done) | contradiction, rfl, rfl⟩
          · refine Z.aload_n dX7_stands_62 rfl ?_
            refine Z.getR (r := 52) dX7_stands_63 cl7 flX7_58 (by decide) (fx35 hF) rfl ?_
            refine Z.iload dX7_stands_66 rfl ?_
            refine Z.ialdv (j := (latF (pM I n) 6 m g_ t).toNatClampNeg) (v := I 52 ((latF (pM I n) 6 m g_ t).toNatClampNeg)) dX7_stands_68 (fx52 hF) (tn_eq h5) (Nat.lt_of_lt_of_le (latF_lt (p := pM I n) hn.2 h5) hn.2) (by decide) (hE.at 52 ((latF (pM I n) 6 m g_ t).toNatClampNeg) rfl) ?_
            refine Z.iload dX7_stands_69 rfl ?_
            refine Z.icmp_le (tgt := 84) dX7_stands_71 (by decide) (fun h7 => ?_) (fun h7 => ?_)
            · refine Z.iload dX7_stands_84 rfl ?_
              refine Z.istore (L' := [.ref 35, .int m, .int g_, .int c, .int t, .int (rightF (pM I n) m g_ c t), .int (latF (pM I n) 6 m g_ t), .int (rightF (pM I n) m g_ c t)]) dX7_stands_86 (Nat.le_of_ble_eq_true rfl) rfl ?_
              refine Z.iload dX7_stands_88 rfl ?_
              refine Z.iload dX7_stands_90 rfl ?_
              refine Z.isub dX7_stands_92 ?_
              refine Z.sipush (v := 1825) dX7_stands_93 (by decide) ?_
              refine Z.icmp_gt (tgt := 103) dX7_stands_96 (by decide) (fun h8 => ?_) (fun h8 => ?_)
              · refine Z.iconst (v := 0) dX7_stands_103 (by decide) ?_
                exact Z.zret dX7_stands_104 rfl (by decide) ⟨by first | (simp [standsF, lastF, dyM, bI, h1, h2, h3, h4, h5, h7, h8]; done) | contradiction, rfl, rfl⟩
              · refine Z.iconst (v := 1) dX7_stands_99 (by decide) ?_
                refine Z.goto (tgt := 104) dX7_stands_100 (by decide) ?_
                exact Z.zret dX7_stands_104 rfl (by decide) ⟨by first | (simp [standsF, lastF, dyM, bI, h1, h2, h3, h4, h5, h7, h8]; done) | contradiction, rfl, rfl⟩
            · refine Z.aload_n dX7_stands_74 rfl ?_
              refine Z.getR (r := 52) dX7_stands_75 cl7 flX7_58 (by decide) (fx35 hF) rfl ?_
              refine Z.iload dX7_stands_78 rfl ?_
              refine Z.ialdv (j := (latF (pM I n) 6 m g_ t).toNatClampNeg) (v := I 52 ((latF (pM I n) 6 m g_ t).toNatClampNeg)) dX7_stands_80 (fx52 hF) (tn_eq h5) (Nat.lt_of_lt_of_le (latF_lt (p := pM I n) hn.2 h5) hn.2) (by decide) (hE.at 52 ((latF (pM I n) 6 m g_ t).toNatClampNeg) rfl) ?_
              refine Z.goto (tgt := 86) dX7_stands_81 (by decide) ?_
              refine Z.istore (L' := [.ref 35, .int m, .int g_, .int c, .int t, .int (rightF (pM I n) m g_ c t), .int (latF (pM I n) 6 m g_ t), .int (I 52 ((latF (pM I n) 6 m g_ t).toNatClampNeg))]) dX7_stands_86 (Nat.le_of_ble_eq_true rfl) rfl ?_
              refine Z.iload dX7_stands_88 rfl ?_
              refine Z.iload dX7_stands_90 rfl ?_
              refine Z.isub dX7_stands_92 ?_
              refine Z.sipush (v := 1825) dX7_stands_93 (by decide) ?_
              refine Z.icmp_gt (tgt := 103) dX7_stands_96 (by decide) (fun h9 => ?_) (fun h9 => ?_)
              · refine Z.iconst (v := 0) dX7_stands_103 (by decide) ?_
                exact Z.zret dX7_stands_104 rfl (by decide) ⟨by first | (simp [standsF, lastF, dyM, bI, h1, h2, h3, h4, h5, h7, h9]; done) | contradiction, rfl, rfl⟩
              · refine Z.iconst (v := 1) dX7_stands_99 (by decide) ?_
                refine Z.goto (tgt := 104) dX7_stands_100 (by decide) ?_
                exact Z.zret dX7_stands_104 rfl (by decide) ⟨by first | (simp [standsF, lastF, dyM, bI, h1, h2, h3, h4, h5, h7, h9]; done) | contradiction, rfl, rfl⟩
        · refine Z.iconst (v := 0) dX7_stands_43 (by decide) ?_
          exact Z.zret dX7_stands_44 rfl (by decide) ⟨by first | (simp [standsF, lastF, dyM, bI, h1, h2, h3, h4]; done) | contradiction, rfl, rfl⟩

set_option maxHeartbeats 4000000 in
set_option maxRecDepth 100000 in
theorem ct_hasLeave {g : GP} {I J : IM} {S : SH} (hE : Ex I J) (a x t : Int32) (hF : Fx S) {n : Nat} (hn : Mp I n) : Z g 1 0 0 mX7_hasLeave 0 (enL mX7_hasLeave [.ref 35, .int a, .int x, .int t]) [] J S (PQ (.int (bI (!decide (latF (pM I n) 5 a x t < 0)))) J S) := by
  show Z g 1 0 0 mX7_hasLeave 0 [.ref 35, .int a, .int x, .int t] [] J S _
  refine Z.aload_n dX7_hasLeave_0 rfl ?_
  refine Z.iconst (v := 5) dX7_hasLeave_1 (by decide) ?_
  refine Z.iload_n dX7_hasLeave_2 rfl ?_
  refine Z.iload_n dX7_hasLeave_3 rfl ?_
  refine Z.iload_n dX7_hasLeave_4 rfl ?_
  refine Z.callVp (M := mX7_hasLeave) (pc := 5) (st := []) (N := mX7_latest) (n := 4) (r := .int (latF (pM I n) 5 a x t)) dX7_hasLeave_5 mlX7_138 mkX7_latest imX7_latest seX7_latest (fx35 hF) cl7 rfl (d1 := 0) (by decide) (As := [.int 5, .int a, .int x, .int t]) rfl ⟨rfl, Nat.le_of_ble_eq_true rfl⟩ ⟨rfl, Nat.le_of_ble_eq_true rfl⟩ (ct_latest hE 5 a x t hF hn) rfl ?_
  refine Z.if_lt (tgt := 15) dX7_hasLeave_8 (by decide) (fun h1 => ?_) (fun h1 => ?_)
  · refine Z.iconst (v := 0) dX7_hasLeave_15 (by decide) ?_
    exact Z.zret dX7_hasLeave_16 rfl (by decide) ⟨by first | (simp [bI, h1]; done) | contradiction, rfl, rfl⟩
  · refine Z.iconst (v := 1) dX7_hasLeave_11 (by decide) ?_
    refine Z.goto (tgt := 16) dX7_hasLeave_12 (by decide) ?_
    exact Z.zret dX7_hasLeave_16 rfl (by decide) ⟨by first | (simp [bI, h1]; done) | contradiction, rfl, rfl⟩
end
section
set_option maxHeartbeats 4000000 in
set_option maxRecDepth 100000 in
theorem lp_pairOf {g : GP} {I J : IM} {S : SH} (hE : Ex I J) (g_ h_ : Int32) (hF : Fx S) {nq : Nat} (hq : Mq I nq) : ∀ i, i ≤ nq → Z g 0 0 0 mX7_pairOf 29 [.ref 35, .int g_, .int h_, .int (lowF g_ h_), .int (highF g_ h_), .int (prU (qM I nq) g_ h_ i), .int (nI i)] [] J S (PQ (.int (prF (qM I nq) g_ h_)) J S) := by
  refine upZ nq (fun i hi ih => ?_)
  have hq2 := hq.2
  refine Z.iload dX7_pairOf_29 rfl ?_
  refine Z.aload_n dX7_pairOf_31 rfl ?_
  refine Z.getIv (v := nI nq) dX7_pairOf_32 cl7 flX7_91 (by decide) (fx35 hF) ((hE.at 35 7 rfl).trans hq.1) ?_
  refine Z.icmp_geN (a := i) (b := nq) (by omega) (by omega) (tgt := 76) dX7_pairOf_35 (by decide) (fun h1 => ?_) (fun h1 => ?_)
  · refine Z.iload dX7_pairOf_76 rfl ?_
    exact Z.iret dX7_pairOf_78 rfl ⟨by rw [show i = nq by omega]; rfl, rfl, rfl⟩
  · refine Z.aload_n dX7_pairOf_38 rfl ?_
    refine Z.getR (r := 40) dX7_pairOf_39 cl7 flX7_22 (by decide) (fx35 hF) rfl ?_
    refine Z.iload dX7_pairOf_42 rfl ?_
    refine Z.ialdv (j := i) (v := I 40 i) dX7_pairOf_44 (fx40 hF) rfl (by omega) (by decide) (hE.at 40 i rfl) ?_
    refine Z.iload_n dX7_pairOf_45 rfl ?_
    refine Z.icmp_ne (tgt := 66) dX7_pairOf_46 (by decide) (fun h2 => ?_) (fun h2 => ?_)
    · refine Z.iload dX7_pairOf_66 rfl ?_
      refine Z.istore (L' := [.ref 35, .int g_, .int h_, .int (lowF g_ h_), .int (highF g_ h_), .int (prU (qM I nq) g_ h_ i), .int (nI i)]) dX7_pairOf_68 (Nat.le_of_ble_eq_true rfl) rfl ?_
      refine Z.iinc (v := nI (i + 1)) (L' := [.ref 35, .int g_, .int h_, .int (lowF g_ h_), .int (highF g_ h_), .int (prU (qM I nq) g_ h_ i), .int (nI (i + 1))]) dX7_pairOf_70 rfl (nI_1 _) rfl ?_
      refine Z.goto (tgt := 29) dX7_pairOf_73 (by decide) ?_
      have e := ih (by omega)
      rw [show prU (qM I nq) g_ h_ (i + 1) = prU (qM I nq) g_ h_ i by simp [prU, qM_l, qM_h, h1, h2]] at e
      exact e
    · refine Z.aload_n dX7_pairOf_49 rfl ?_
      refine Z.getR (r := 41) dX7_pairOf_50 cl7 flX7_25 (by decide) (fx35 hF) rfl ?_
      refine Z.iload dX7_pairOf_53 rfl ?_
      refine Z.ialdv (j := i) (v := I 41 i) dX7_pairOf_55 (fx41 hF) rfl (by omega) (by decide) (hE.at 41 i rfl) ?_
      refine Z.iload dX7_pairOf_56 rfl ?_
      refine Z.icmp_ne (tgt := 66) dX7_pairOf_58 (by decide) (fun h3 => ?_) (fun h3 => ?_)
      · refine Z.iload dX7_pairOf_66 rfl ?_
        refine Z.istore (L' := [.ref 35, .int g_, .int h_, .int (lowF g_ h_), .int (highF g_ h_), .int (prU (qM I nq) g_ h_ i), .int (nI i)]) dX7_pairOf_68 (Nat.le_of_ble_eq_true rfl) rfl ?_
        refine Z.iinc (v := nI (i + 1)) (L' := [.ref 35, .int g_, .int h_, .int (lowF g_ h_), .int (highF g_ h_), .int (prU (qM I nq) g_ h_ i), .int (nI (i + 1))]) dX7_pairOf_70 rfl (nI_1 _) rfl ?_
        refine Z.goto (tgt := 29) dX7_pairOf_73 (by decide) ?_
        have e := ih (by omega)
        rw [show prU (qM I nq) g_ h_ (i + 1) = prU (qM I nq) g_ h_ i by simp [prU, qM_l, qM_h, h1, h2, h3]] at e
        exact e
      · refine Z.iload dX7_pairOf_61 rfl ?_
        refine Z.goto (tgt := 68) dX7_pairOf_63 (by decide) ?_
        refine Z.istore (L' := [.ref 35, .int g_, .int h_, .int (lowF g_ h_), .int (highF g_ h_), .int (nI i), .int (nI i)]) dX7_pairOf_68 (Nat.le_of_ble_eq_true rfl) rfl ?_
        refine Z.iinc (v := nI (i + 1)) (L' := [.ref 35, .int g_, .int h_, .int (lowF g_ h_), .int (highF g_ h_), .int (nI i), .int (nI (i + 1))]) dX7_pairOf_70 rfl (nI_1 _) rfl ?_
        refine Z.goto (tgt := 29) dX7_pairOf_73 (by decide) ?_
        have e := ih (by omega)
        rw [show prU (qM I nq) g_ h_ (i + 1) = nI i by simp [prU, qM_l, qM_h, h1, h2, h3]] at e
        exact e

set_option maxHeartbeats 4000000 in
set_option maxRecDepth 100000 in
theorem ct_pairOf {g : GP} {I J : IM} {S : SH} (hE : Ex I J) (g_ h_ : Int32) (hF : Fx S) {nq : Nat} (hq : Mq I nq) : Z g 0 0 0 mX7_pairOf 0 (enL mX7_pairOf [.ref 35, .int g_, .int h_]) [] J S (PQ (.int (prF (qM I nq) g_ h_)) J S) := by
  show Z g 0 0 0 mX7_pairOf 0 [.ref 35, .int g_, .int h_, .retAddr 0, .retAddr 0, .retAddr 0, .retAddr 0] [] J S _
  refine Z.iload_n dX7_pairOf_0 rfl ?_
  refine Z.iload_n dX7_pairOf_1 rfl ?_
  refine Z.icmp_ge (tgt := 9) dX7_pairOf_2 (by decide) (fun h1 => ?_) (fun h1 => ?_)
  · refine Z.iload_n dX7_pairOf_9 rfl ?_
    refine Z.istore_n (L' := [.ref 35, .int g_, .int h_, .int h_, .retAddr 0, .retAddr 0, .retAddr 0]) dX7_pairOf_10 (Nat.le_of_ble_eq_true rfl) rfl ?_
    refine Z.iload_n dX7_pairOf_11 rfl ?_
    refine Z.iload_n dX7_pairOf_12 rfl ?_
    refine Z.icmp_ge (tgt := 20) dX7_pairOf_13 (by decide) (fun h2 => ?_) (fun h2 => ?_)
    · refine Z.iload_n dX7_pairOf_20 rfl ?_
      refine Z.istore (L' := [.ref 35, .int g_, .int h_, .int h_, .int g_, .retAddr 0, .retAddr 0]) dX7_pairOf_21 (Nat.le_of_ble_eq_true rfl) rfl ?_
      refine Z.iconst (v := (-1)) dX7_pairOf_23 (by decide) ?_
      refine Z.istore (L' := [.ref 35, .int g_, .int h_, .int h_, .int g_, .int ((-1)), .retAddr 0]) dX7_pairOf_24 (Nat.le_of_ble_eq_true rfl) rfl ?_
      refine Z.iconst (v := 0) dX7_pairOf_26 (by decide) ?_
      refine Z.istore (L' := [.ref 35, .int g_, .int h_, .int h_, .int g_, .int ((-1)), .int 0]) dX7_pairOf_27 (Nat.le_of_ble_eq_true rfl) rfl ?_
      have e := lp_pairOf hE (g := g) g_ h_ hF hq 0 (Nat.zero_le _)
      rw [show lowF g_ h_ = h_ by simp [lowF, h1, h2], show highF g_ h_ = g_ by simp [highF, h1, h2]] at e
      exact e
    · refine Z.iload_n dX7_pairOf_16 rfl ?_
      refine Z.goto (tgt := 21) dX7_pairOf_17 (by decide) ?_
      refine Z.istore (L' := [.ref 35, .int g_, .int h_, .int h_, .int h_, .retAddr 0, .retAddr 0]) dX7_pairOf_21 (Nat.le_of_ble_eq_true rfl) rfl ?_
      refine Z.iconst (v := (-1)) dX7_pairOf_23 (by decide) ?_
      refine Z.istore (L' := [.ref 35, .int g_, .int h_, .int h_, .int h_, .int ((-1)), .retAddr 0]) dX7_pairOf_24 (Nat.le_of_ble_eq_true rfl) rfl ?_
      refine Z.iconst (v := 0) dX7_pairOf_26 (by decide) ?_
      refine Z.istore (L' := [.ref 35, .int g_, .int h_, .int h_, .int h_, .int ((-1)), .int 0]) dX7_pairOf_27 (Nat.le_of_ble_eq_true rfl) rfl ?_
      contradiction
  · refine Z.iload_n dX7_pairOf_5 rfl ?_
    refine Z.goto (tgt := 10) dX7_pairOf_6 (by decide) ?_
    refine Z.istore_n (L' := [.ref 35, .int g_, .int h_, .int g_, .retAddr 0, .retAddr 0, .retAddr 0]) dX7_pairOf_10 (Nat.le_of_ble_eq_true rfl) rfl ?_
    refine Z.iload_n dX7_pairOf_11 rfl ?_
    refine Z.iload_n dX7_pairOf_12 rfl ?_
    refine Z.icmp_ge (tgt := 20) dX7_pairOf_13 (by decide) (fun h3 => ?_) (fun h3 => ?_)
    · refine Z.iload_n dX7_pairOf_20 rfl ?_
      refine Z.istore (L' := [.ref 35, .int g_, .int h_, .int g_, .int g_, .retAddr 0, .retAddr 0]) dX7_pairOf_21 (Nat.le_of_ble_eq_true rfl) rfl ?_
      refine Z.iconst (v := (-1)) dX7_pairOf_23 (by decide) ?_
      refine Z.istore (L' := [.ref 35, .int g_, .int h_, .int g_, .int g_, .int ((-1)), .retAddr 0]) dX7_pairOf_24 (Nat.le_of_ble_eq_true rfl) rfl ?_
      refine Z.iconst (v := 0) dX7_pairOf_26 (by decide) ?_
      refine Z.istore (L' := [.ref 35, .int g_, .int h_, .int g_, .int g_, .int ((-1)), .int 0]) dX7_pairOf_27 (Nat.le_of_ble_eq_true rfl) rfl ?_
      contradiction
    · refine Z.iload_n dX7_pairOf_16 rfl ?_
      refine Z.goto (tgt := 21) dX7_pairOf_17 (by decide) ?_
      refine Z.istore (L' := [.ref 35, .int g_, .int h_, .int g_, .int h_, .retAddr 0, .retAddr 0]) dX7_pairOf_21 (Nat.le_of_ble_eq_true rfl) rfl ?_
      refine Z.iconst (v := (-1)) dX7_pairOf_23 (by decide) ?_
      refine Z.istore (L' := [.ref 35, .int g_, .int h_, .int g_, .int h_, .int ((-1)), .retAddr 0]) dX7_pairOf_24 (Nat.le_of_ble_eq_true rfl) rfl ?_
      refine Z.iconst (v := 0) dX7_pairOf_26 (by decide) ?_
      refine Z.istore (L' := [.ref 35, .int g_, .int h_, .int g_, .int h_, .int ((-1)), .int 0]) dX7_pairOf_27 (Nat.le_of_ble_eq_true rfl) rfl ?_
      have e := lp_pairOf hE (g := g) g_ h_ hF hq 0 (Nat.zero_le _)
      rw [show lowF g_ h_ = g_ by simp [lowF, h1, h3], show highF g_ h_ = h_ by simp [highF, h1, h3]] at e
      exact e

set_option maxHeartbeats 4000000 in
set_option maxRecDepth 100000 in
theorem ct_nearOf {g : GP} {I J : IM} {S : SH} (hE : Ex I J) (g_ h_ : Int32) (hF : Fx S) {nq : Nat} (hq : Mq I nq) : Z g 1 0 0 mX7_nearOf 0 (enL mX7_nearOf [.ref 35, .int g_, .int h_]) [] J S (PQ (.int (nearF (qM I nq) g_ h_)) J S) := by
  show Z g 1 0 0 mX7_nearOf 0 [.ref 35, .int g_, .int h_, .retAddr 0] [] J S _
  refine Z.iload_n dX7_nearOf_0 rfl ?_
  refine Z.iload_n dX7_nearOf_1 rfl ?_
  refine Z.icmp_ne (tgt := 9) dX7_nearOf_2 (by decide) (fun h1 => ?_) (fun h1 => ?_)
  · refine Z.aload_n dX7_nearOf_9 rfl ?_
    refine Z.iload_n dX7_nearOf_10 rfl ?_
    refine Z.iload_n dX7_nearOf_11 rfl ?_
    refine Z.callVp (M := mX7_nearOf) (pc := 12) (st := []) (N := mX7_pairOf) (n := 2) (r := .int (prF (qM I nq) g_ h_)) dX7_nearOf_12 mlX7_98 mkX7_pairOf imX7_pairOf seX7_pairOf (fx35 hF) cl7 rfl (d1 := 0) (by decide) (As := [.int g_, .int h_]) rfl ⟨rfl, Nat.le_of_ble_eq_true rfl⟩ ⟨rfl, Nat.le_of_ble_eq_true rfl⟩ (ct_pairOf hE g_ h_ hF hq) rfl ?_
    refine Z.istore_n (L' := [.ref 35, .int g_, .int h_, .int (prF (qM I nq) g_ h_)]) dX7_nearOf_15 (Nat.le_of_ble_eq_true rfl) rfl ?_
    refine Z.iload_n dX7_nearOf_16 rfl ?_
    refine Z.if_ge (tgt := 24) dX7_nearOf_17 (by decide) (fun h2 => ?_) (fun h2 => ?_)
    · refine Z.aload_n dX7_nearOf_24 rfl ?_
      refine Z.getR (r := 42) dX7_nearOf_25 cl7 flX7_28 (by decide) (fx35 hF) rfl ?_
      refine Z.iload_n dX7_nearOf_28 rfl ?_
      refine Z.ialdv (j := (prF (qM I nq) g_ h_).toNatClampNeg) (v := I 42 ((prF (qM I nq) g_ h_).toNatClampNeg)) dX7_nearOf_29 (fx42 hF) (tn_eq h2) (Nat.lt_of_lt_of_le (prU_lt (q := qM I nq) (i := nq) (by have := hq.2; omega) h2) hq.2) (by decide) (hE.at 42 ((prF (qM I nq) g_ h_).toNatClampNeg) rfl) ?_
      exact Z.iret dX7_nearOf_30 rfl ⟨by simp [nearF, qM_v, h1, h2], rfl, rfl⟩
    · refine Z.iconst (v := 0) dX7_nearOf_20 (by decide) ?_
      refine Z.goto (tgt := 30) dX7_nearOf_21 (by decide) ?_
      exact Z.iret dX7_nearOf_30 rfl ⟨by simp [nearF, qM_v, h1, h2], rfl, rfl⟩
  · refine Z.sipush (v := 1000) dX7_nearOf_5 (by decide) ?_
    exact Z.iret dX7_nearOf_8 rfl ⟨by simp [nearF, qM_v, h1], rfl, rfl⟩

set_option maxHeartbeats 4000000 in
set_option maxRecDepth 100000 in
theorem ct_isNear {g : GP} {I J : IM} {S : SH} (hE : Ex I J) (a g_ h_ t : Int32) (hF : Fx S) {n : Nat} (hn : Mp I n) {nq : Nat} (hq : Mq I nq) : Z g 2 0 0 mX7_isNear 0 (enL mX7_isNear [.ref 35, .int a, .int g_, .int h_, .int t]) [] J S (PQ (.int (bI (!decide (nearF (qM I nq) g_ h_ < I 35 9) || !decide (latF (pM I n) 7 a (-1) t < 0)))) J S) := by
  show Z g 2 0 0 mX7_isNear 0 [.ref 35, .int a, .int g_, .int h_, .int t] [] J S _
  refine Z.aload_n dX7_isNear_0 rfl ?_
  refine Z.iload_n dX7_isNear_1 rfl ?_
  refine Z.iload_n dX7_isNear_2 rfl ?_
  refine Z.callVp (M := mX7_isNear) (pc := 3) (st := []) (N := mX7_nearOf) (n := 2) (r := .int (nearF (qM I nq) g_ h_)) dX7_isNear_3 mlX7_167 mkX7_nearOf imX7_nearOf seX7_nearOf (fx35 hF) cl7 rfl (d1 := 1) (by decide) (As := [.int g_, .int h_]) rfl ⟨rfl, Nat.le_of_ble_eq_true rfl⟩ ⟨rfl, Nat.le_of_ble_eq_true rfl⟩ (ct_nearOf hE g_ h_ hF hq) rfl ?_
  refine Z.aload_n dX7_isNear_6 rfl ?_
  refine Z.getIv (v := I 35 9) dX7_isNear_7 cl7 flX7_80 (by decide) (fx35 hF) (hE.at 35 9 rfl) ?_
  refine Z.icmp_ge (tgt := 26) dX7_isNear_10 (by decide) (fun h1 => ?_) (fun h1 => ?_)
  · refine Z.iconst (v := 1) dX7_isNear_26 (by decide) ?_
    refine Z.goto (tgt := 31) dX7_isNear_27 (by decide) ?_
    exact Z.zret dX7_isNear_31 rfl (by decide) ⟨by simp [bI, h1], rfl, rfl⟩
  · refine Z.aload_n dX7_isNear_13 rfl ?_
    refine Z.bipush (v := 7) dX7_isNear_14 (by decide) ?_
    refine Z.iload_n dX7_isNear_16 rfl ?_
    refine Z.iconst (v := (-1)) dX7_isNear_17 (by decide) ?_
    refine Z.iload dX7_isNear_18 rfl ?_
    refine Z.callVp (M := mX7_isNear) (pc := 20) (st := []) (N := mX7_latest) (n := 4) (r := .int (latF (pM I n) 7 a (-1) t)) dX7_isNear_20 mlX7_138 mkX7_latest imX7_latest seX7_latest (fx35 hF) cl7 rfl (d1 := 0) (by decide) (As := [.int 7, .int a, .int ((-1)), .int t]) rfl ⟨rfl, Nat.le_of_ble_eq_true rfl⟩ ⟨rfl, Nat.le_of_ble_eq_true rfl⟩ (ct_latest hE 7 a (-1) t hF hn) rfl ?_
    refine Z.if_lt (tgt := 30) dX7_isNear_23 (by decide) (fun h2 => ?_) (fun h2 => ?_)
    · refine Z.iconst (v := 0) dX7_isNear_30 (by decide) ?_
      exact Z.zret dX7_isNear_31 rfl (by decide) ⟨by simp [bI, h1, h2], rfl, rfl⟩
    · refine Z.iconst (v := 1) dX7_isNear_26 (by decide) ?_
      refine Z.goto (tgt := 31) dX7_isNear_27 (by decide) ?_
      exact Z.zret dX7_isNear_31 rfl (by decide) ⟨by simp [bI, h1, h2], rfl, rfl⟩

set_option maxHeartbeats 4000000 in
set_option maxRecDepth 100000 in
theorem lp_hasPaper {g : GP} {I J : IM} {S : SH} (hE : Ex I J) (m : Int32) (hF : Fx S) {n : Nat} (hn : Mp I n) : ∀ i, i ≤ n → Z g 0 0 0 mX7_hasPaper 4 [.ref 35, .int m, .int (bI (hasPU (pM I n) m i)), .int (nI i)] [] J S (PQ (.int (bI (hasPF (pM I n) m))) J S) := by
  refine upZ n (fun i hi ih => ?_)
  have hn2 := hn.2
  refine Z.iload_n dX7_hasPaper_4 rfl ?_
  refine Z.aload_n dX7_hasPaper_5 rfl ?_
  refine Z.getIv (v := nI n) dX7_hasPaper_6 cl7 flX7_105 (by decide) (fx35 hF) ((hE.at 35 17 rfl).trans hn.1) ?_
  refine Z.icmp_geN (a := i) (b := n) (by omega) (by omega) (tgt := 38) dX7_hasPaper_9 (by decide) (fun h1 => ?_) (fun h1 => ?_)
  · refine Z.iload_n dX7_hasPaper_38 rfl ?_
    exact Z.zret dX7_hasPaper_39 rfl (bI_01 _) ⟨by rw [show i = n by omega]; rfl, rfl, rfl⟩
  · refine Z.iload_n dX7_hasPaper_12 rfl ?_
    refine Z.if_neB (tgt := 26) dX7_hasPaper_13 (by decide) (fun h2 => ?_) (fun h2 => ?_)
    · refine Z.iconst (v := 1) dX7_hasPaper_26 (by decide) ?_
      refine Z.goto (tgt := 31) dX7_hasPaper_27 (by decide) ?_
      refine Z.istore_n (L' := [.ref 35, .int m, .int 1, .int (nI i)]) dX7_hasPaper_31 (Nat.le_of_ble_eq_true rfl) rfl ?_
      refine Z.iinc (v := nI (i + 1)) (L' := [.ref 35, .int m, .int 1, .int (nI (i + 1))]) dX7_hasPaper_32 rfl (nI_1 _) rfl ?_
      refine Z.goto (tgt := 4) dX7_hasPaper_35 (by decide) ?_
      have e := ih (by omega)
      rw [show bI (hasPU (pM I n) m (i + 1)) = 1 by simp [hasPU, pM_m, bI, h1, h2]] at e
      exact e
    · refine Z.aload_n dX7_hasPaper_16 rfl ?_
      refine Z.getR (r := 50) dX7_hasPaper_17 cl7 flX7_52 (by decide) (fx35 hF) rfl ?_
      refine Z.iload_n dX7_hasPaper_20 rfl ?_
      refine Z.ialdv (j := i) (v := I 50 i) dX7_hasPaper_21 (fx50 hF) rfl (by omega) (by decide) (hE.at 50 i rfl) ?_
      refine Z.iload_n dX7_hasPaper_22 rfl ?_
      refine Z.icmp_ne (tgt := 30) dX7_hasPaper_23 (by decide) (fun h3 => ?_) (fun h3 => ?_)
      · refine Z.iconst (v := 0) dX7_hasPaper_30 (by decide) ?_
        refine Z.istore_n (L' := [.ref 35, .int m, .int 0, .int (nI i)]) dX7_hasPaper_31 (Nat.le_of_ble_eq_true rfl) rfl ?_
        refine Z.iinc (v := nI (i + 1)) (L' := [.ref 35, .int m, .int 0, .int (nI (i + 1))]) dX7_hasPaper_32 rfl (nI_1 _) rfl ?_
        refine Z.goto (tgt := 4) dX7_hasPaper_35 (by decide) ?_
        have e := ih (by omega)
        rw [show bI (hasPU (pM I n) m (i + 1)) = 0 by simp [hasPU, pM_m, bI, h1, h2, h3]] at e
        exact e
      · refine Z.iconst (v := 1) dX7_hasPaper_26 (by decide) ?_
        refine Z.goto (tgt := 31) dX7_hasPaper_27 (by decide) ?_
        refine Z.istore_n (L' := [.ref 35, .int m, .int 1, .int (nI i)]) dX7_hasPaper_31 (Nat.le_of_ble_eq_true rfl) rfl ?_
        refine Z.iinc (v := nI (i + 1)) (L' := [.ref 35, .int m, .int 1, .int (nI (i + 1))]) dX7_hasPaper_32 rfl (nI_1 _) rfl ?_
        refine Z.goto (tgt := 4) dX7_hasPaper_35 (by decide) ?_
        have e := ih (by omega)
        rw [show bI (hasPU (pM I n) m (i + 1)) = 1 by simp [hasPU, pM_m, bI, h1, h2, h3]] at e
        exact e

set_option maxHeartbeats 4000000 in
set_option maxRecDepth 100000 in
theorem ct_hasPaper {g : GP} {I J : IM} {S : SH} (hE : Ex I J) (m : Int32) (hF : Fx S) {n : Nat} (hn : Mp I n) : Z g 0 0 0 mX7_hasPaper 0 (enL mX7_hasPaper [.ref 35, .int m]) [] J S (PQ (.int (bI (hasPF (pM I n) m))) J S) := by
  show Z g 0 0 0 mX7_hasPaper 0 [.ref 35, .int m, .retAddr 0, .retAddr 0] [] J S _
  refine Z.iconst (v := 0) dX7_hasPaper_0 (by decide) ?_
  refine Z.istore_n (L' := [.ref 35, .int m, .int 0, .retAddr 0]) dX7_hasPaper_1 (Nat.le_of_ble_eq_true rfl) rfl ?_
  refine Z.iconst (v := 0) dX7_hasPaper_2 (by decide) ?_
  refine Z.istore_n (L' := [.ref 35, .int m, .int 0, .int 0]) dX7_hasPaper_3 (Nat.le_of_ble_eq_true rfl) rfl ?_
  exact lp_hasPaper hE m hF hn 0 (Nat.zero_le _)

set_option maxHeartbeats 4000000 in
set_option maxRecDepth 100000 in
theorem lp_hasCode {g : GP} {I J : IM} {S : SH} (hE : Ex I J) (j : Nat) (c : Int32) (hF : Fx S) (hM : MIv I) (hj : j < 120) : ∀ i, i ≤ (I 47 j).toNatClampNeg → Z g 0 0 0 mX7_hasCode 8 [.ref 35, .int (nI j), .int c, .int (bI (hasCU (I 48) (12 * j) c i)), .int (nI (12 * j + i))] [] J S (PQ (.int (bI (hasCF (I 48) (12 * j) (I 47 j) c))) J S) := by
  refine upZ ((I 47 j).toNatClampNeg) (fun i hi ih => ?_)
  have hc := hM.2.2.2.1 j hj
  have hc2 := hc.2
  refine Z.iload dX7_hasCode_8 rfl ?_
  refine Z.bipush (v := 12) dX7_hasCode_10 (by decide) ?_
  refine Z.iload_n dX7_hasCode_12 rfl ?_
  refine Z.imulN (a := 12) (b := j) dX7_hasCode_13 ?_
  refine Z.aload_n dX7_hasCode_14 rfl ?_
  refine Z.getR (r := 47) dX7_hasCode_15 cl7 flX7_43 (by decide) (fx35 hF) rfl ?_
  refine Z.iload_n dX7_hasCode_18 rfl ?_
  refine Z.ialdv (j := j) (v := nI ((I 47 j).toNatClampNeg)) dX7_hasCode_19 (fx47 hF) rfl (by omega) (by decide) ((hE.at 47 j rfl).trans hc.1) ?_
  refine Z.iaddN (a := 12 * j) (b := (I 47 j).toNatClampNeg) dX7_hasCode_20 ?_
  refine Z.icmp_geN (a := 12 * j + i) (b := (12 * j) + ((I 47 j).toNatClampNeg)) (by omega) (by omega) (tgt := 51) dX7_hasCode_21 (by decide) (fun h1 => ?_) (fun h1 => ?_)
  · refine Z.iload_n dX7_hasCode_51 rfl ?_
    exact Z.zret dX7_hasCode_52 rfl (bI_01 _) ⟨by rw [show i = (I 47 j).toNatClampNeg by omega]; rfl, rfl, rfl⟩
  · refine Z.iload_n dX7_hasCode_24 rfl ?_
    refine Z.if_neB (tgt := 39) dX7_hasCode_25 (by decide) (fun h2 => ?_) (fun h2 => ?_)
    · refine Z.iconst (v := 1) dX7_hasCode_39 (by decide) ?_
      refine Z.goto (tgt := 44) dX7_hasCode_40 (by decide) ?_
      refine Z.istore_n (L' := [.ref 35, .int (nI j), .int c, .int 1, .int (nI (12 * j + i))]) dX7_hasCode_44 (Nat.le_of_ble_eq_true rfl) rfl ?_
      refine Z.iinc (v := nI ((12 * j + i) + 1)) (L' := [.ref 35, .int (nI j), .int c, .int 1, .int (nI ((12 * j + i) + 1))]) dX7_hasCode_45 rfl (nI_1 _) rfl ?_
      refine Z.goto (tgt := 8) dX7_hasCode_48 (by decide) ?_
      have e := ih (by omega)
      rw [show bI (hasCU (I 48) (12 * j) c (i + 1)) = 1 by simp [hasCU, bI, h1, h2]] at e
      exact e
    · refine Z.aload_n dX7_hasCode_28 rfl ?_
      refine Z.getR (r := 48) dX7_hasCode_29 cl7 flX7_46 (by decide) (fx35 hF) rfl ?_
      refine Z.iload dX7_hasCode_32 rfl ?_
      refine Z.ialdv (j := 12 * j + i) (v := I 48 (12 * j + i)) dX7_hasCode_34 (fx48 hF) rfl (by omega) (by decide) (hE.at 48 (12 * j + i) rfl) ?_
      refine Z.iload_n dX7_hasCode_35 rfl ?_
      refine Z.icmp_ne (tgt := 43) dX7_hasCode_36 (by decide) (fun h3 => ?_) (fun h3 => ?_)
      · refine Z.iconst (v := 0) dX7_hasCode_43 (by decide) ?_
        refine Z.istore_n (L' := [.ref 35, .int (nI j), .int c, .int 0, .int (nI (12 * j + i))]) dX7_hasCode_44 (Nat.le_of_ble_eq_true rfl) rfl ?_
        refine Z.iinc (v := nI ((12 * j + i) + 1)) (L' := [.ref 35, .int (nI j), .int c, .int 0, .int (nI ((12 * j + i) + 1))]) dX7_hasCode_45 rfl (nI_1 _) rfl ?_
        refine Z.goto (tgt := 8) dX7_hasCode_48 (by decide) ?_
        have e := ih (by omega)
        rw [show bI (hasCU (I 48) (12 * j) c (i + 1)) = 0 by simp [hasCU, bI, h1, h2, h3]] at e
        exact e
      · refine Z.iconst (v := 1) dX7_hasCode_39 (by decide) ?_
        refine Z.goto (tgt := 44) dX7_hasCode_40 (by decide) ?_
        refine Z.istore_n (L' := [.ref 35, .int (nI j), .int c, .int 1, .int (nI (12 * j + i))]) dX7_hasCode_44 (Nat.le_of_ble_eq_true rfl) rfl ?_
        refine Z.iinc (v := nI ((12 * j + i) + 1)) (L' := [.ref 35, .int (nI j), .int c, .int 1, .int (nI ((12 * j + i) + 1))]) dX7_hasCode_45 rfl (nI_1 _) rfl ?_
        refine Z.goto (tgt := 8) dX7_hasCode_48 (by decide) ?_
        have e := ih (by omega)
        rw [show bI (hasCU (I 48) (12 * j) c (i + 1)) = 1 by simp [hasCU, bI, h1, h2, h3]] at e
        exact e

set_option maxHeartbeats 4000000 in
set_option maxRecDepth 100000 in
theorem ct_hasCode {g : GP} {I J : IM} {S : SH} (hE : Ex I J) (j : Nat) (c : Int32) (hF : Fx S) (hM : MIv I) (hj : j < 120) : Z g 0 0 0 mX7_hasCode 0 (enL mX7_hasCode [.ref 35, .int (nI j), .int c]) [] J S (PQ (.int (bI (hasCF (I 48) (12 * j) (I 47 j) c))) J S) := by
  show Z g 0 0 0 mX7_hasCode 0 [.ref 35, .int (nI j), .int c, .retAddr 0, .retAddr 0] [] J S _
  refine Z.iconst (v := 0) dX7_hasCode_0 (by decide) ?_
  refine Z.istore_n (L' := [.ref 35, .int (nI j), .int c, .int 0, .retAddr 0]) dX7_hasCode_1 (Nat.le_of_ble_eq_true rfl) rfl ?_
  refine Z.bipush (v := 12) dX7_hasCode_2 (by decide) ?_
  refine Z.iload_n dX7_hasCode_4 rfl ?_
  refine Z.imulN (a := 12) (b := j) dX7_hasCode_5 ?_
  refine Z.istore (L' := [.ref 35, .int (nI j), .int c, .int 0, .int (nI (12 * j))]) dX7_hasCode_6 (Nat.le_of_ble_eq_true rfl) rfl ?_
  exact lp_hasCode hE j c hF hM hj 0 (Nat.zero_le _)
end
