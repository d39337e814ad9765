-- ===== PART A: goes FIRST, ahead of the names: the tables' words, and 'selects' of the private methods out of them =====
/-- a private method of a class that the tables say can be made, by its rows of tables_1 -/
def lw_okq (q : MethodName × Nat) : Prop := (q.1.cls ≠ "java/lang/invoke/MethodHandle" ∧ q.1.cls ≠ "java/lang/invoke/VarHandle") ∧ Cond.instantiable q.1.cls q.2 ∈ tables_1 ∧ Cond.privateMethod q.1 ∈ tables_1 ∧ Cond.instanceMethod q.1 ∈ tables_1
theorem lw_p0 : lw_okq (⟨"MarksRegister$NearPairs", "find", "(II)I"⟩, 4) := ⟨⟨by decide +kernel, by decide +kernel⟩, List.mem_of_getElem? (i := 52) (by decide +kernel), List.mem_of_getElem? (i := 252) (by decide +kernel), List.mem_of_getElem? (i := 253) (by decide +kernel)⟩
theorem lw_p1 : lw_okq (⟨"MarksRegister$NearPairs", "forget", "(I)V"⟩, 4) := ⟨⟨by decide +kernel, by decide +kernel⟩, List.mem_of_getElem? (i := 52) (by decide +kernel), List.mem_of_getElem? (i := 256) (by decide +kernel), List.mem_of_getElem? (i := 257) (by decide +kernel)⟩
theorem lw_p2 : lw_okq (⟨"MarksRegister$NearPairs", "append", "(III)Z"⟩, 4) := ⟨⟨by decide +kernel, by decide +kernel⟩, List.mem_of_getElem? (i := 52) (by decide +kernel), List.mem_of_getElem? (i := 260) (by decide +kernel), List.mem_of_getElem? (i := 261) (by decide +kernel)⟩
theorem lw_p3 : lw_okq (⟨"MarksRegister", "markAt", "(I)LMarksRegister$Mark;"⟩, 11) := ⟨⟨by decide +kernel, by decide +kernel⟩, List.mem_of_getElem? (i := 12) (by decide +kernel), List.mem_of_getElem? (i := 306) (by decide +kernel), List.mem_of_getElem? (i := 307) (by decide +kernel)⟩
theorem lw_p4 : lw_okq (⟨"MarksRegister$Mark", "hasCode", "(I)Z"⟩, 6) := ⟨⟨by decide +kernel, by decide +kernel⟩, List.mem_of_getElem? (i := 271) (by decide +kernel), List.mem_of_getElem? (i := 327) (by decide +kernel), List.mem_of_getElem? (i := 328) (by decide +kernel)⟩
theorem lw_p5 : lw_okq (⟨"MarksRegister$View", "clear", "(I)V"⟩, 13) := ⟨⟨by decide +kernel, by decide +kernel⟩, List.mem_of_getElem? (i := 106) (by decide +kernel), List.mem_of_getElem? (i := 354) (by decide +kernel), List.mem_of_getElem? (i := 355) (by decide +kernel)⟩
theorem lw_p6 : lw_okq (⟨"MarksRegister$View", "readPaper", "(IIII)V"⟩, 13) := ⟨⟨by decide +kernel, by decide +kernel⟩, List.mem_of_getElem? (i := 106) (by decide +kernel), List.mem_of_getElem? (i := 358) (by decide +kernel), List.mem_of_getElem? (i := 359) (by decide +kernel)⟩
theorem lw_p7 : lw_okq (⟨"MarksRegister$View", "readGoods", "(II)V"⟩, 13) := ⟨⟨by decide +kernel, by decide +kernel⟩, List.mem_of_getElem? (i := 106) (by decide +kernel), List.mem_of_getElem? (i := 362) (by decide +kernel), List.mem_of_getElem? (i := 363) (by decide +kernel)⟩
theorem lw_p8 : lw_okq (⟨"MarksRegister$View", "readEnter", "(III)V"⟩, 13) := ⟨⟨by decide +kernel, by decide +kernel⟩, List.mem_of_getElem? (i := 106) (by decide +kernel), List.mem_of_getElem? (i := 370) (by decide +kernel), List.mem_of_getElem? (i := 371) (by decide +kernel)⟩
theorem lw_p9 : lw_okq (⟨"MarksRegister$View", "readGive", "(II)V"⟩, 13) := ⟨⟨by decide +kernel, by decide +kernel⟩, List.mem_of_getElem? (i := 106) (by decide +kernel), List.mem_of_getElem? (i := 374) (by decide +kernel), List.mem_of_getElem? (i := 375) (by decide +kernel)⟩
theorem lw_p10 : lw_okq (⟨"MarksRegister$View", "readUse", "(II)V"⟩, 13) := ⟨⟨by decide +kernel, by decide +kernel⟩, List.mem_of_getElem? (i := 106) (by decide +kernel), List.mem_of_getElem? (i := 378) (by decide +kernel), List.mem_of_getElem? (i := 379) (by decide +kernel)⟩
theorem lw_p11 : lw_okq (⟨"MarksRegister", "canBe", "(IIII)Z"⟩, 11) := ⟨⟨by decide +kernel, by decide +kernel⟩, List.mem_of_getElem? (i := 12) (by decide +kernel), List.mem_of_getElem? (i := 382) (by decide +kernel), List.mem_of_getElem? (i := 383) (by decide +kernel)⟩
theorem lw_p12 : lw_okq (⟨"MarksRegister", "isOfKind", "(II)Z"⟩, 11) := ⟨⟨by decide +kernel, by decide +kernel⟩, List.mem_of_getElem? (i := 12) (by decide +kernel), List.mem_of_getElem? (i := 407) (by decide +kernel), List.mem_of_getElem? (i := 408) (by decide +kernel)⟩
theorem lw_p13 : lw_okq (⟨"MarksRegister", "findClash", "(IIII)V"⟩, 11) := ⟨⟨by decide +kernel, by decide +kernel⟩, List.mem_of_getElem? (i := 12) (by decide +kernel), List.mem_of_getElem? (i := 419) (by decide +kernel), List.mem_of_getElem? (i := 420) (by decide +kernel)⟩
theorem lw_p14 : lw_okq (⟨"MarksRegister", "haveOneOwner", "(II)Z"⟩, 11) := ⟨⟨by decide +kernel, by decide +kernel⟩, List.mem_of_getElem? (i := 12) (by decide +kernel), List.mem_of_getElem? (i := 427) (by decide +kernel), List.mem_of_getElem? (i := 428) (by decide +kernel)⟩
theorem lw_p15 : lw_okq (⟨"MarksRegister", "areAlike", "(II)Z"⟩, 11) := ⟨⟨by decide +kernel, by decide +kernel⟩, List.mem_of_getElem? (i := 12) (by decide +kernel), List.mem_of_getElem? (i := 451) (by decide +kernel), List.mem_of_getElem? (i := 452) (by decide +kernel)⟩
def lw_privs_1 : List (MethodName × Nat) := [(⟨"MarksRegister$NearPairs", "find", "(II)I"⟩, 4), (⟨"MarksRegister$NearPairs", "forget", "(I)V"⟩, 4), (⟨"MarksRegister$NearPairs", "append", "(III)Z"⟩, 4), (⟨"MarksRegister", "markAt", "(I)LMarksRegister$Mark;"⟩, 11), (⟨"MarksRegister$Mark", "hasCode", "(I)Z"⟩, 6), (⟨"MarksRegister$View", "clear", "(I)V"⟩, 13), (⟨"MarksRegister$View", "readPaper", "(IIII)V"⟩, 13), (⟨"MarksRegister$View", "readGoods", "(II)V"⟩, 13), (⟨"MarksRegister$View", "readEnter", "(III)V"⟩, 13), (⟨"MarksRegister$View", "readGive", "(II)V"⟩, 13), (⟨"MarksRegister$View", "readUse", "(II)V"⟩, 13), (⟨"MarksRegister", "canBe", "(IIII)Z"⟩, 11), (⟨"MarksRegister", "isOfKind", "(II)Z"⟩, 11), (⟨"MarksRegister", "findClash", "(IIII)V"⟩, 11), (⟨"MarksRegister", "haveOneOwner", "(II)Z"⟩, 11), (⟨"MarksRegister", "areAlike", "(II)Z"⟩, 11)]
theorem lw_r1 : ∀ q ∈ lw_privs_1, lw_okq q := List.forall_mem_cons.mpr ⟨lw_p0, List.forall_mem_cons.mpr ⟨lw_p1, List.forall_mem_cons.mpr ⟨lw_p2, List.forall_mem_cons.mpr ⟨lw_p3, List.forall_mem_cons.mpr ⟨lw_p4, List.forall_mem_cons.mpr ⟨lw_p5, List.forall_mem_cons.mpr ⟨lw_p6, List.forall_mem_cons.mpr ⟨lw_p7, List.forall_mem_cons.mpr ⟨lw_p8, List.forall_mem_cons.mpr ⟨lw_p9, List.forall_mem_cons.mpr ⟨lw_p10, List.forall_mem_cons.mpr ⟨lw_p11, List.forall_mem_cons.mpr ⟨lw_p12, List.forall_mem_cons.mpr ⟨lw_p13, List.forall_mem_cons.mpr ⟨lw_p14, List.forall_mem_cons.mpr ⟨lw_p15, fun _ h => absurd h List.not_mem_nil⟩⟩⟩⟩⟩⟩⟩⟩⟩⟩⟩⟩⟩⟩⟩⟩
theorem lw_p16 : lw_okq (⟨"MarksRegister", "likeOf", "(LMarksRegister$Mark;LMarksRegister$Mark;)I"⟩, 11) := ⟨⟨by decide +kernel, by decide +kernel⟩, List.mem_of_getElem? (i := 12) (by decide +kernel), List.mem_of_getElem? (i := 455) (by decide +kernel), List.mem_of_getElem? (i := 456) (by decide +kernel)⟩
theorem lw_p17 : lw_okq (⟨"MarksRegister$Sounds", "spell", "(LMarksRegister$Mark;[I)I"⟩, 7) := ⟨⟨by decide +kernel, by decide +kernel⟩, List.mem_of_getElem? (i := 20) (by decide +kernel), List.mem_of_getElem? (i := 472) (by decide +kernel), List.mem_of_getElem? (i := 473) (by decide +kernel)⟩
theorem lw_p18 : lw_okq (⟨"MarksRegister$Sounds", "heard", "(II)I"⟩, 7) := ⟨⟨by decide +kernel, by decide +kernel⟩, List.mem_of_getElem? (i := 20) (by decide +kernel), List.mem_of_getElem? (i := 476) (by decide +kernel), List.mem_of_getElem? (i := 477) (by decide +kernel)⟩
theorem lw_p19 : lw_okq (⟨"MarksRegister$Sounds", "leastSum", "(II)I"⟩, 7) := ⟨⟨by decide +kernel, by decide +kernel⟩, List.mem_of_getElem? (i := 20) (by decide +kernel), List.mem_of_getElem? (i := 481) (by decide +kernel), List.mem_of_getElem? (i := 482) (by decide +kernel)⟩
theorem lw_p20 : lw_okq (⟨"MarksRegister", "findClashOver", "(IIII)V"⟩, 11) := ⟨⟨by decide +kernel, by decide +kernel⟩, List.mem_of_getElem? (i := 12) (by decide +kernel), List.mem_of_getElem? (i := 490) (by decide +kernel), List.mem_of_getElem? (i := 491) (by decide +kernel)⟩
theorem lw_p21 : lw_okq (⟨"MarksRegister", "isNear", "(II)Z"⟩, 11) := ⟨⟨by decide +kernel, by decide +kernel⟩, List.mem_of_getElem? (i := 12) (by decide +kernel), List.mem_of_getElem? (i := 495) (by decide +kernel), List.mem_of_getElem? (i := 496) (by decide +kernel)⟩
theorem lw_p22 : lw_okq (⟨"MarksRegister", "earliestNear", "(I)I"⟩, 11) := ⟨⟨by decide +kernel, by decide +kernel⟩, List.mem_of_getElem? (i := 12) (by decide +kernel), List.mem_of_getElem? (i := 576) (by decide +kernel), List.mem_of_getElem? (i := 577) (by decide +kernel)⟩
theorem lw_p23 : lw_okq (⟨"MarksRegister", "claimOf", "(III)I"⟩, 11) := ⟨⟨by decide +kernel, by decide +kernel⟩, List.mem_of_getElem? (i := 12) (by decide +kernel), List.mem_of_getElem? (i := 580) (by decide +kernel), List.mem_of_getElem? (i := 581) (by decide +kernel)⟩
theorem lw_p24 : lw_okq (⟨"MarksRegister", "standsNearYounger", "()Z"⟩, 11) := ⟨⟨by decide +kernel, by decide +kernel⟩, List.mem_of_getElem? (i := 12) (by decide +kernel), List.mem_of_getElem? (i := 592) (by decide +kernel), List.mem_of_getElem? (i := 593) (by decide +kernel)⟩
theorem lw_p25 : lw_okq (⟨"MarksRegisterModel", "pairOf", "(II)I"⟩, 27) := ⟨⟨by decide +kernel, by decide +kernel⟩, List.mem_of_getElem? (i := 601) (by decide +kernel), List.mem_of_getElem? (i := 711) (by decide +kernel), List.mem_of_getElem? (i := 712) (by decide +kernel)⟩
theorem lw_p26 : lw_okq (⟨"MarksRegisterModel", "isMark", "(I)Z"⟩, 27) := ⟨⟨by decide +kernel, by decide +kernel⟩, List.mem_of_getElem? (i := 601) (by decide +kernel), List.mem_of_getElem? (i := 730) (by decide +kernel), List.mem_of_getElem? (i := 731) (by decide +kernel)⟩
theorem lw_p27 : lw_okq (⟨"MarksRegisterModel", "hasPaper", "(I)Z"⟩, 27) := ⟨⟨by decide +kernel, by decide +kernel⟩, List.mem_of_getElem? (i := 601) (by decide +kernel), List.mem_of_getElem? (i := 734) (by decide +kernel), List.mem_of_getElem? (i := 735) (by decide +kernel)⟩
theorem lw_p28 : lw_okq (⟨"MarksRegisterModel", "hasCode", "(II)Z"⟩, 27) := ⟨⟨by decide +kernel, by decide +kernel⟩, List.mem_of_getElem? (i := 601) (by decide +kernel), List.mem_of_getElem? (i := 742) (by decide +kernel), List.mem_of_getElem? (i := 743) (by decide +kernel)⟩
theorem lw_p29 : lw_okq (⟨"MarksRegisterModel", "canBe", "(IIII)Z"⟩, 27) := ⟨⟨by decide +kernel, by decide +kernel⟩, List.mem_of_getElem? (i := 601) (by decide +kernel), List.mem_of_getElem? (i := 760) (by decide +kernel), List.mem_of_getElem? (i := 761) (by decide +kernel)⟩
theorem lw_p30 : lw_okq (⟨"MarksRegisterModel", "firstOf", "(II)I"⟩, 27) := ⟨⟨by decide +kernel, by decide +kernel⟩, List.mem_of_getElem? (i := 601) (by decide +kernel), List.mem_of_getElem? (i := 764) (by decide +kernel), List.mem_of_getElem? (i := 765) (by decide +kernel)⟩
theorem lw_p31 : lw_okq (⟨"MarksRegisterModel", "earliest", "(IIII)I"⟩, 27) := ⟨⟨by decide +kernel, by decide +kernel⟩, List.mem_of_getElem? (i := 601) (by decide +kernel), List.mem_of_getElem? (i := 768) (by decide +kernel), List.mem_of_getElem? (i := 769) (by decide +kernel)⟩
def lw_privs_2 : List (MethodName × Nat) := [(⟨"MarksRegister", "likeOf", "(LMarksRegister$Mark;LMarksRegister$Mark;)I"⟩, 11), (⟨"MarksRegister$Sounds", "spell", "(LMarksRegister$Mark;[I)I"⟩, 7), (⟨"MarksRegister$Sounds", "heard", "(II)I"⟩, 7), (⟨"MarksRegister$Sounds", "leastSum", "(II)I"⟩, 7), (⟨"MarksRegister", "findClashOver", "(IIII)V"⟩, 11), (⟨"MarksRegister", "isNear", "(II)Z"⟩, 11), (⟨"MarksRegister", "earliestNear", "(I)I"⟩, 11), (⟨"MarksRegister", "claimOf", "(III)I"⟩, 11), (⟨"MarksRegister", "standsNearYounger", "()Z"⟩, 11), (⟨"MarksRegisterModel", "pairOf", "(II)I"⟩, 27), (⟨"MarksRegisterModel", "isMark", "(I)Z"⟩, 27), (⟨"MarksRegisterModel", "hasPaper", "(I)Z"⟩, 27), (⟨"MarksRegisterModel", "hasCode", "(II)Z"⟩, 27), (⟨"MarksRegisterModel", "canBe", "(IIII)Z"⟩, 27), (⟨"MarksRegisterModel", "firstOf", "(II)I"⟩, 27), (⟨"MarksRegisterModel", "earliest", "(IIII)I"⟩, 27)]
theorem lw_r2 : ∀ q ∈ lw_privs_2, lw_okq q := List.forall_mem_cons.mpr ⟨lw_p16, List.forall_mem_cons.mpr ⟨lw_p17, List.forall_mem_cons.mpr ⟨lw_p18, List.forall_mem_cons.mpr ⟨lw_p19, List.forall_mem_cons.mpr ⟨lw_p20, List.forall_mem_cons.mpr ⟨lw_p21, List.forall_mem_cons.mpr ⟨lw_p22, List.forall_mem_cons.mpr ⟨lw_p23, List.forall_mem_cons.mpr ⟨lw_p24, List.forall_mem_cons.mpr ⟨lw_p25, List.forall_mem_cons.mpr ⟨lw_p26, List.forall_mem_cons.mpr ⟨lw_p27, List.forall_mem_cons.mpr ⟨lw_p28, List.forall_mem_cons.mpr ⟨lw_p29, List.forall_mem_cons.mpr ⟨lw_p30, List.forall_mem_cons.mpr ⟨lw_p31, fun _ h => absurd h List.not_mem_nil⟩⟩⟩⟩⟩⟩⟩⟩⟩⟩⟩⟩⟩⟩⟩⟩
theorem lw_p32 : lw_okq (⟨"MarksRegisterModel", "latest", "(IIII)I"⟩, 27) := ⟨⟨by decide +kernel, by decide +kernel⟩, List.mem_of_getElem? (i := 601) (by decide +kernel), List.mem_of_getElem? (i := 772) (by decide +kernel), List.mem_of_getElem? (i := 773) (by decide +kernel)⟩
theorem lw_p33 : lw_okq (⟨"MarksRegisterModel", "goodsInto", "(II[I)I"⟩, 27) := ⟨⟨by decide +kernel, by decide +kernel⟩, List.mem_of_getElem? (i := 601) (by decide +kernel), List.mem_of_getElem? (i := 776) (by decide +kernel), List.mem_of_getElem? (i := 777) (by decide +kernel)⟩
theorem lw_p34 : lw_okq (⟨"MarksRegisterModel", "since", "(III)I"⟩, 27) := ⟨⟨by decide +kernel, by decide +kernel⟩, List.mem_of_getElem? (i := 601) (by decide +kernel), List.mem_of_getElem? (i := 780) (by decide +kernel), List.mem_of_getElem? (i := 781) (by decide +kernel)⟩
theorem lw_p35 : lw_okq (⟨"MarksRegisterModel", "termEnd", "(II)I"⟩, 27) := ⟨⟨by decide +kernel, by decide +kernel⟩, List.mem_of_getElem? (i := 601) (by decide +kernel), List.mem_of_getElem? (i := 784) (by decide +kernel), List.mem_of_getElem? (i := 785) (by decide +kernel)⟩
theorem lw_p36 : lw_okq (⟨"MarksRegisterModel", "countOf", "(III)I"⟩, 27) := ⟨⟨by decide +kernel, by decide +kernel⟩, List.mem_of_getElem? (i := 601) (by decide +kernel), List.mem_of_getElem? (i := 788) (by decide +kernel), List.mem_of_getElem? (i := 789) (by decide +kernel)⟩
theorem lw_p37 : lw_okq (⟨"MarksRegisterModel", "isStruck", "(II)Z"⟩, 27) := ⟨⟨by decide +kernel, by decide +kernel⟩, List.mem_of_getElem? (i := 601) (by decide +kernel), List.mem_of_getElem? (i := 792) (by decide +kernel), List.mem_of_getElem? (i := 793) (by decide +kernel)⟩
theorem lw_p38 : lw_okq (⟨"MarksRegisterModel", "hasLeave", "(III)Z"⟩, 27) := ⟨⟨by decide +kernel, by decide +kernel⟩, List.mem_of_getElem? (i := 601) (by decide +kernel), List.mem_of_getElem? (i := 796) (by decide +kernel), List.mem_of_getElem? (i := 797) (by decide +kernel)⟩
theorem lw_p39 : lw_okq (⟨"MarksRegisterModel", "clashOf", "(IIII)I"⟩, 27) := ⟨⟨by decide +kernel, by decide +kernel⟩, List.mem_of_getElem? (i := 601) (by decide +kernel), List.mem_of_getElem? (i := 804) (by decide +kernel), List.mem_of_getElem? (i := 805) (by decide +kernel)⟩
theorem lw_p40 : lw_okq (⟨"MarksRegisterModel", "mayClash", "(III)Z"⟩, 27) := ⟨⟨by decide +kernel, by decide +kernel⟩, List.mem_of_getElem? (i := 601) (by decide +kernel), List.mem_of_getElem? (i := 808) (by decide +kernel), List.mem_of_getElem? (i := 809) (by decide +kernel)⟩
theorem lw_p41 : lw_okq (⟨"MarksRegisterModel", "isAlike", "(II)Z"⟩, 27) := ⟨⟨by decide +kernel, by decide +kernel⟩, List.mem_of_getElem? (i := 601) (by decide +kernel), List.mem_of_getElem? (i := 812) (by decide +kernel), List.mem_of_getElem? (i := 813) (by decide +kernel)⟩
theorem lw_p42 : lw_okq (⟨"MarksRegisterModel", "likeOf", "(II)I"⟩, 27) := ⟨⟨by decide +kernel, by decide +kernel⟩, List.mem_of_getElem? (i := 601) (by decide +kernel), List.mem_of_getElem? (i := 816) (by decide +kernel), List.mem_of_getElem? (i := 817) (by decide +kernel)⟩
theorem lw_p43 : lw_okq (⟨"MarksRegisterModel", "codesLike", "(II)I"⟩, 27) := ⟨⟨by decide +kernel, by decide +kernel⟩, List.mem_of_getElem? (i := 601) (by decide +kernel), List.mem_of_getElem? (i := 820) (by decide +kernel), List.mem_of_getElem? (i := 821) (by decide +kernel)⟩
theorem lw_p44 : lw_okq (⟨"MarksRegisterModel", "wordsLike", "(II)I"⟩, 27) := ⟨⟨by decide +kernel, by decide +kernel⟩, List.mem_of_getElem? (i := 601) (by decide +kernel), List.mem_of_getElem? (i := 824) (by decide +kernel), List.mem_of_getElem? (i := 825) (by decide +kernel)⟩
theorem lw_p45 : lw_okq (⟨"MarksRegisterModel", "costOf", "(II)I"⟩, 27) := ⟨⟨by decide +kernel, by decide +kernel⟩, List.mem_of_getElem? (i := 601) (by decide +kernel), List.mem_of_getElem? (i := 828) (by decide +kernel), List.mem_of_getElem? (i := 829) (by decide +kernel)⟩
theorem lw_p46 : lw_okq (⟨"MarksRegisterModel", "soundsInto", "(I[I)I"⟩, 27) := ⟨⟨by decide +kernel, by decide +kernel⟩, List.mem_of_getElem? (i := 601) (by decide +kernel), List.mem_of_getElem? (i := 832) (by decide +kernel), List.mem_of_getElem? (i := 833) (by decide +kernel)⟩
theorem lw_p47 : lw_okq (⟨"MarksRegisterModel", "soundOfLetter", "(II)I"⟩, 27) := ⟨⟨by decide +kernel, by decide +kernel⟩, List.mem_of_getElem? (i := 601) (by decide +kernel), List.mem_of_getElem? (i := 836) (by decide +kernel), List.mem_of_getElem? (i := 837) (by decide +kernel)⟩
def lw_privs_3 : List (MethodName × Nat) := [(⟨"MarksRegisterModel", "latest", "(IIII)I"⟩, 27), (⟨"MarksRegisterModel", "goodsInto", "(II[I)I"⟩, 27), (⟨"MarksRegisterModel", "since", "(III)I"⟩, 27), (⟨"MarksRegisterModel", "termEnd", "(II)I"⟩, 27), (⟨"MarksRegisterModel", "countOf", "(III)I"⟩, 27), (⟨"MarksRegisterModel", "isStruck", "(II)Z"⟩, 27), (⟨"MarksRegisterModel", "hasLeave", "(III)Z"⟩, 27), (⟨"MarksRegisterModel", "clashOf", "(IIII)I"⟩, 27), (⟨"MarksRegisterModel", "mayClash", "(III)Z"⟩, 27), (⟨"MarksRegisterModel", "isAlike", "(II)Z"⟩, 27), (⟨"MarksRegisterModel", "likeOf", "(II)I"⟩, 27), (⟨"MarksRegisterModel", "codesLike", "(II)I"⟩, 27), (⟨"MarksRegisterModel", "wordsLike", "(II)I"⟩, 27), (⟨"MarksRegisterModel", "costOf", "(II)I"⟩, 27), (⟨"MarksRegisterModel", "soundsInto", "(I[I)I"⟩, 27), (⟨"MarksRegisterModel", "soundOfLetter", "(II)I"⟩, 27)]
theorem lw_r3 : ∀ q ∈ lw_privs_3, lw_okq q := List.forall_mem_cons.mpr ⟨lw_p32, List.forall_mem_cons.mpr ⟨lw_p33, List.forall_mem_cons.mpr ⟨lw_p34, List.forall_mem_cons.mpr ⟨lw_p35, List.forall_mem_cons.mpr ⟨lw_p36, List.forall_mem_cons.mpr ⟨lw_p37, List.forall_mem_cons.mpr ⟨lw_p38, List.forall_mem_cons.mpr ⟨lw_p39, List.forall_mem_cons.mpr ⟨lw_p40, List.forall_mem_cons.mpr ⟨lw_p41, List.forall_mem_cons.mpr ⟨lw_p42, List.forall_mem_cons.mpr ⟨lw_p43, List.forall_mem_cons.mpr ⟨lw_p44, List.forall_mem_cons.mpr ⟨lw_p45, List.forall_mem_cons.mpr ⟨lw_p46, List.forall_mem_cons.mpr ⟨lw_p47, fun _ h => absurd h List.not_mem_nil⟩⟩⟩⟩⟩⟩⟩⟩⟩⟩⟩⟩⟩⟩⟩⟩
theorem lw_p48 : lw_okq (⟨"MarksRegisterModel", "clashes", "(IIIIII)Z"⟩, 27) := ⟨⟨by decide +kernel, by decide +kernel⟩, List.mem_of_getElem? (i := 601) (by decide +kernel), List.mem_of_getElem? (i := 841) (by decide +kernel), List.mem_of_getElem? (i := 842) (by decide +kernel)⟩
theorem lw_p49 : lw_okq (⟨"MarksRegisterModel", "isNear", "(IIII)Z"⟩, 27) := ⟨⟨by decide +kernel, by decide +kernel⟩, List.mem_of_getElem? (i := 601) (by decide +kernel), List.mem_of_getElem? (i := 845) (by decide +kernel), List.mem_of_getElem? (i := 846) (by decide +kernel)⟩
theorem lw_p50 : lw_okq (⟨"MarksRegisterModel", "nearOf", "(II)I"⟩, 27) := ⟨⟨by decide +kernel, by decide +kernel⟩, List.mem_of_getElem? (i := 601) (by decide +kernel), List.mem_of_getElem? (i := 849) (by decide +kernel), List.mem_of_getElem? (i := 850) (by decide +kernel)⟩
theorem lw_p51 : lw_okq (⟨"MarksRegisterModel", "stands", "(IIII)Z"⟩, 27) := ⟨⟨by decide +kernel, by decide +kernel⟩, List.mem_of_getElem? (i := 601) (by decide +kernel), List.mem_of_getElem? (i := 853) (by decide +kernel), List.mem_of_getElem? (i := 854) (by decide +kernel)⟩
theorem lw_p52 : lw_okq (⟨"MarksRegisterModel", "rightOf", "(IIII)I"⟩, 27) := ⟨⟨by decide +kernel, by decide +kernel⟩, List.mem_of_getElem? (i := 601) (by decide +kernel), List.mem_of_getElem? (i := 857) (by decide +kernel), List.mem_of_getElem? (i := 858) (by decide +kernel)⟩
theorem lw_p53 : lw_okq (⟨"MarksRegisterModel", "hasLapsed", "(II)Z"⟩, 27) := ⟨⟨by decide +kernel, by decide +kernel⟩, List.mem_of_getElem? (i := 601) (by decide +kernel), List.mem_of_getElem? (i := 861) (by decide +kernel), List.mem_of_getElem? (i := 862) (by decide +kernel)⟩
theorem lw_p54 : lw_okq (⟨"MarksRegisterModel", "clashRight", "(IIII)I"⟩, 27) := ⟨⟨by decide +kernel, by decide +kernel⟩, List.mem_of_getElem? (i := 601) (by decide +kernel), List.mem_of_getElem? (i := 902) (by decide +kernel), List.mem_of_getElem? (i := 903) (by decide +kernel)⟩
theorem lw_p55 : lw_okq (⟨"MarksRegisterModel", "nearRight", "(IIII)I"⟩, 27) := ⟨⟨by decide +kernel, by decide +kernel⟩, List.mem_of_getElem? (i := 601) (by decide +kernel), List.mem_of_getElem? (i := 910) (by decide +kernel), List.mem_of_getElem? (i := 911) (by decide +kernel)⟩
theorem lw_p56 : lw_okq (⟨"MarksRegisterModel", "comesNear", "(IIII)Z"⟩, 27) := ⟨⟨by decide +kernel, by decide +kernel⟩, List.mem_of_getElem? (i := 601) (by decide +kernel), List.mem_of_getElem? (i := 918) (by decide +kernel), List.mem_of_getElem? (i := 919) (by decide +kernel)⟩
def lw_privs_4 : List (MethodName × Nat) := [(⟨"MarksRegisterModel", "clashes", "(IIIIII)Z"⟩, 27), (⟨"MarksRegisterModel", "isNear", "(IIII)Z"⟩, 27), (⟨"MarksRegisterModel", "nearOf", "(II)I"⟩, 27), (⟨"MarksRegisterModel", "stands", "(IIII)Z"⟩, 27), (⟨"MarksRegisterModel", "rightOf", "(IIII)I"⟩, 27), (⟨"MarksRegisterModel", "hasLapsed", "(II)Z"⟩, 27), (⟨"MarksRegisterModel", "clashRight", "(IIII)I"⟩, 27), (⟨"MarksRegisterModel", "nearRight", "(IIII)I"⟩, 27), (⟨"MarksRegisterModel", "comesNear", "(IIII)Z"⟩, 27)]
theorem lw_r4 : ∀ q ∈ lw_privs_4, lw_okq q := List.forall_mem_cons.mpr ⟨lw_p48, List.forall_mem_cons.mpr ⟨lw_p49, List.forall_mem_cons.mpr ⟨lw_p50, List.forall_mem_cons.mpr ⟨lw_p51, List.forall_mem_cons.mpr ⟨lw_p52, List.forall_mem_cons.mpr ⟨lw_p53, List.forall_mem_cons.mpr ⟨lw_p54, List.forall_mem_cons.mpr ⟨lw_p55, List.forall_mem_cons.mpr ⟨lw_p56, fun _ h => absurd h List.not_mem_nil⟩⟩⟩⟩⟩⟩⟩⟩⟩
def lw_privs : List (MethodName × Nat) := lw_privs_1 ++ (lw_privs_2 ++ (lw_privs_3 ++ (lw_privs_4)))
def lw_tbl : List Cond := k2_sels lw_privs ++ tables_1
theorem lw_privs_ok : ∀ q ∈ lw_privs, lw_okq q := by
  show ∀ q ∈ lw_privs_1 ++ (lw_privs_2 ++ (lw_privs_3 ++ (lw_privs_4))), lw_okq q
  exact List.forall_mem_append.mpr ⟨lw_r1, List.forall_mem_append.mpr ⟨lw_r2, List.forall_mem_append.mpr ⟨lw_r3, lw_r4⟩⟩⟩
def RX0 : String := "MarksRegister$Clash"
def TX0 : u_T := fun k => match k with
  | 0 => ("MarksRegister$Clash", "pair", "I", false)
  | _ => ("MarksRegister$Clash", "earliest", "I", false)
def tyX0 : Nat → FieldType := fun k => match k with
  | 0 => .int
  | _ => .int
abbrev wsX00 : List Cond := u_ws RX0 TX0 2
theorem nmX0 : ∀ a, a < 2 → ∀ b, b < 2 → a ≠ b → (TX0 a).2.1 ≠ (TX0 b).2.1 := by decide +kernel
theorem tyX0_ok : ∀ k, k < 2 → parseFieldDescriptor (TX0 k).2.2.1 = some (tyX0 k) := by decide +kernel
abbrev cX0_init : ByteArray := prog_2_method_1_code
def yX0_init : MethodName := ⟨RX0, "<init>", "()V"⟩
abbrev cX0_clear : ByteArray := prog_2_method_2_code
def yX0_clear : MethodName := ⟨RX0, "clear", "()V"⟩
abbrev cX0_isThere : ByteArray := prog_2_method_3_code
def yX0_isThere : MethodName := ⟨RX0, "isThere", "()Z"⟩
abbrev cX0_add : ByteArray := prog_2_method_4_code
def yX0_add : MethodName := ⟨RX0, "add", "(III)V"⟩
def RX1 : String := "MarksRegister$Mark"
def TX1 : u_T := fun k => match k with
  | 0 => ("MarksRegister$Mark", "kind", "I", true)
  | 1 => ("MarksRegister$Mark", "owner", "I", true)
  | 2 => ("MarksRegister$Mark", "letters", "[I", true)
  | 3 => ("MarksRegister$Mark", "codes", "[I", true)
  | 4 => ("MarksRegister$Mark", "letterCount", "I", false)
  | _ => ("MarksRegister$Mark", "codeCount", "I", false)
def tyX1 : Nat → FieldType := fun k => match k with
  | 0 => .int
  | 1 => .int
  | 2 => .array .int
  | 3 => .array .int
  | 4 => .int
  | _ => .int
abbrev wsX10 : List Cond := u_ws RX1 TX1 6
theorem nmX1 : ∀ a, a < 6 → ∀ b, b < 6 → a ≠ b → (TX1 a).2.1 ≠ (TX1 b).2.1 := by decide +kernel
theorem tyX1_ok : ∀ k, k < 6 → parseFieldDescriptor (TX1 k).2.2.1 = some (tyX1 k) := by decide +kernel
abbrev cX1_init : ByteArray := prog_3_method_1_code
def yX1_init : MethodName := ⟨RX1, "<init>", "(II)V"⟩
abbrev cX1_hasPicture : ByteArray := prog_3_method_2_code
def yX1_hasPicture : MethodName := ⟨RX1, "hasPicture", "()Z"⟩
abbrev cX1_addLetter : ByteArray := prog_3_method_3_code
def yX1_addLetter : MethodName := ⟨RX1, "addLetter", "(I)I"⟩
abbrev cX1_addCode : ByteArray := prog_3_method_4_code
def yX1_addCode : MethodName := ⟨RX1, "addCode", "(I)I"⟩
abbrev cX1_likeOfPictures : ByteArray := prog_3_method_5_code
def yX1_likeOfPictures : MethodName := ⟨RX1, "likeOfPictures", "(LMarksRegister$Mark;)I"⟩
abbrev cX1_hasCode : ByteArray := prog_3_method_6_code
def yX1_hasCode : MethodName := ⟨RX1, "hasCode", "(I)Z"⟩
def RX2 : String := "MarksRegister$NearPairs"
def TX2 : u_T := fun k => match k with
  | 0 => ("MarksRegister$NearPairs", "ones", "[I", true)
  | 1 => ("MarksRegister$NearPairs", "others", "[I", true)
  | 2 => ("MarksRegister$NearPairs", "values", "[I", true)
  | _ => ("MarksRegister$NearPairs", "count", "I", false)
def tyX2 : Nat → FieldType := fun k => match k with
  | 0 => .array .int
  | 1 => .array .int
  | 2 => .array .int
  | _ => .int
abbrev wsX20 : List Cond := u_ws RX2 TX2 4
theorem nmX2 : ∀ a, a < 4 → ∀ b, b < 4 → a ≠ b → (TX2 a).2.1 ≠ (TX2 b).2.1 := by decide +kernel
theorem tyX2_ok : ∀ k, k < 4 → parseFieldDescriptor (TX2 k).2.2.1 = some (tyX2 k) := by decide +kernel
abbrev cX2_init : ByteArray := prog_4_method_1_code
def yX2_init : MethodName := ⟨RX2, "<init>", "()V"⟩
abbrev cX2_nearOf : ByteArray := prog_4_method_2_code
def yX2_nearOf : MethodName := ⟨RX2, "nearOf", "(II)I"⟩
abbrev cX2_tell : ByteArray := prog_4_method_3_code
def yX2_tell : MethodName := ⟨RX2, "tell", "(III)Z"⟩
abbrev cX2_find : ByteArray := prog_4_method_4_code
def yX2_find : MethodName := ⟨RX2, "find", "(II)I"⟩
abbrev cX2_append : ByteArray := prog_4_method_5_code
def yX2_append : MethodName := ⟨RX2, "append", "(III)Z"⟩
abbrev cX2_forget : ByteArray := prog_4_method_6_code
def yX2_forget : MethodName := ⟨RX2, "forget", "(I)V"⟩
def RX3 : String := "MarksRegister$Papers"
def TX3 : u_T := fun k => match k with
  | 0 => ("MarksRegister$Papers", "kinds", "[I", true)
  | 1 => ("MarksRegister$Papers", "marks", "[I", true)
  | 2 => ("MarksRegister$Papers", "xs", "[I", true)
  | 3 => ("MarksRegister$Papers", "days", "[I", true)
  | _ => ("MarksRegister$Papers", "count", "I", false)
def tyX3 : Nat → FieldType := fun k => match k with
  | 0 => .array .int
  | 1 => .array .int
  | 2 => .array .int
  | 3 => .array .int
  | _ => .int
abbrev wsX30 : List Cond := u_ws RX3 TX3 5
theorem nmX3 : ∀ a, a < 5 → ∀ b, b < 5 → a ≠ b → (TX3 a).2.1 ≠ (TX3 b).2.1 := by decide +kernel
theorem tyX3_ok : ∀ k, k < 5 → parseFieldDescriptor (TX3 k).2.2.1 = some (tyX3 k) := by decide +kernel
abbrev cX3_init : ByteArray := prog_5_method_1_code
def yX3_init : MethodName := ⟨RX3, "<init>", "()V"⟩
abbrev cX3_latestDay : ByteArray := prog_5_method_2_code
def yX3_latestDay : MethodName := ⟨RX3, "latestDay", "()I"⟩
abbrev cX3_take : ByteArray := prog_5_method_3_code
def yX3_take : MethodName := ⟨RX3, "take", "(I)Z"⟩
abbrev cX3_add : ByteArray := prog_5_method_4_code
def yX3_add : MethodName := ⟨RX3, "add", "(IIII)I"⟩
abbrev cX3_takeBack : ByteArray := prog_5_method_5_code
def yX3_takeBack : MethodName := ⟨RX3, "takeBack", "()I"⟩
abbrev cX3_areOf : ByteArray := prog_5_method_6_code
def yX3_areOf : MethodName := ⟨RX3, "areOf", "(I)Z"⟩
abbrev cX3_tell : ByteArray := prog_5_method_7_code
def yX3_tell : MethodName := ⟨RX3, "tell", "(IIII)Z"⟩
abbrev cX3_latest : ByteArray := prog_5_method_8_code
def yX3_latest : MethodName := ⟨RX3, "latest", "(I)I"⟩
def RX4 : String := "MarksRegister$Sounds"
def TX4 : u_T := fun k => match k with
  | 0 => ("MarksRegister$Sounds", "places", "[I", true)
  | 1 => ("MarksRegister$Sounds", "rows", "[I", true)
  | 2 => ("MarksRegister$Sounds", "putCosts", "[I", true)
  | 3 => ("MarksRegister$Sounds", "changeCosts", "[I", true)
  | 4 => ("MarksRegister$Sounds", "left", "[I", true)
  | 5 => ("MarksRegister$Sounds", "right", "[I", true)
  | _ => ("MarksRegister$Sounds", "sums", "[I", true)
def tyX4 : Nat → FieldType := fun k => match k with
  | 0 => .array .int
  | 1 => .array .int
  | 2 => .array .int
  | 3 => .array .int
  | 4 => .array .int
  | 5 => .array .int
  | _ => .array .int
abbrev wsX40 : List Cond := u_ws RX4 TX4 7
theorem nmX4 : ∀ a, a < 7 → ∀ b, b < 7 → a ≠ b → (TX4 a).2.1 ≠ (TX4 b).2.1 := by decide +kernel
theorem tyX4_ok : ∀ k, k < 7 → parseFieldDescriptor (TX4 k).2.2.1 = some (tyX4 k) := by decide +kernel
abbrev cX4_init : ByteArray := prog_6_method_1_code
def yX4_init : MethodName := ⟨RX4, "<init>", "()V"⟩
abbrev cX4_placesOf : ByteArray := prog_6_method_2_code
def yX4_placesOf : MethodName := ⟨RX4, "placesOf", "(I)I"⟩
abbrev cX4_setPlaces : ByteArray := prog_6_method_3_code
def yX4_setPlaces : MethodName := ⟨RX4, "setPlaces", "(II)V"⟩
abbrev cX4_setPlace : ByteArray := prog_6_method_4_code
def yX4_setPlace : MethodName := ⟨RX4, "setPlace", "(III)V"⟩
abbrev cX4_setPutCost : ByteArray := prog_6_method_5_code
def yX4_setPutCost : MethodName := ⟨RX4, "setPutCost", "(II)V"⟩
abbrev cX4_setChangeCost : ByteArray := prog_6_method_6_code
def yX4_setChangeCost : MethodName := ⟨RX4, "setChangeCost", "(III)V"⟩
abbrev cX4_countOf : ByteArray := prog_6_method_7_code
def yX4_countOf : MethodName := ⟨RX4, "countOf", "(LMarksRegister$Mark;)I"⟩
abbrev cX4_at : ByteArray := prog_6_method_8_code
def yX4_at : MethodName := ⟨RX4, "at", "(LMarksRegister$Mark;I)I"⟩
abbrev cX4_costOf : ByteArray := prog_6_method_9_code
def yX4_costOf : MethodName := ⟨RX4, "costOf", "(LMarksRegister$Mark;LMarksRegister$Mark;)I"⟩
abbrev cX4_likeOf : ByteArray := prog_6_method_10_code
def yX4_likeOf : MethodName := ⟨RX4, "likeOf", "(LMarksRegister$Mark;LMarksRegister$Mark;)I"⟩
abbrev cX4_spell : ByteArray := prog_6_method_11_code
def yX4_spell : MethodName := ⟨RX4, "spell", "(LMarksRegister$Mark;[I)I"⟩
abbrev cX4_heard : ByteArray := prog_6_method_12_code
def yX4_heard : MethodName := ⟨RX4, "heard", "(II)I"⟩
abbrev cX4_leastSum : ByteArray := prog_6_method_13_code
def yX4_leastSum : MethodName := ⟨RX4, "leastSum", "(II)I"⟩
def RX5 : String := "MarksRegister$View"
def TX5 : u_T := fun k => match k with
  | 0 => ("MarksRegister$View", "day", "I", false)
  | 1 => ("MarksRegister$View", "firstDay", "I", false)
  | 2 => ("MarksRegister$View", "enterDay", "I", false)
  | 3 => ("MarksRegister$View", "countries", "I", false)
  | 4 => ("MarksRegister$View", "renews", "I", false)
  | 5 => ("MarksRegister$View", "isStruck", "Z", false)
  | 6 => ("MarksRegister$View", "isKnown", "Z", false)
  | 7 => ("MarksRegister$View", "hadGoods", "Z", false)
  | 8 => ("MarksRegister$View", "count", "I", false)
  | 9 => ("MarksRegister$View", "goods", "[I", true)
  | 10 => ("MarksRegister$View", "since", "[I", true)
  | 11 => ("MarksRegister$View", "used", "[I", true)
  | _ => ("MarksRegister$View", "given", "[Z", true)
def tyX5 : Nat → FieldType := fun k => match k with
  | 0 => .int
  | 1 => .int
  | 2 => .int
  | 3 => .int
  | 4 => .int
  | 5 => .boolean
  | 6 => .boolean
  | 7 => .boolean
  | 8 => .int
  | 9 => .array .int
  | 10 => .array .int
  | 11 => .array .int
  | _ => .array .boolean
abbrev wsX50 : List Cond := u_ws RX5 TX5 13
theorem nmX5 : ∀ a, a < 13 → ∀ b, b < 13 → a ≠ b → (TX5 a).2.1 ≠ (TX5 b).2.1 := by decide +kernel
theorem tyX5_ok : ∀ k, k < 13 → parseFieldDescriptor (TX5 k).2.2.1 = some (tyX5 k) := by decide +kernel
abbrev cX5_init : ByteArray := prog_7_method_1_code
def yX5_init : MethodName := ⟨RX5, "<init>", "()V"⟩
abbrev cX5_read : ByteArray := prog_7_method_2_code
def yX5_read : MethodName := ⟨RX5, "read", "(LMarksRegister$Papers;III)V"⟩
abbrev cX5_isEntered : ByteArray := prog_7_method_3_code
def yX5_isEntered : MethodName := ⟨RX5, "isEntered", "()Z"⟩
abbrev cX5_termEnd : ByteArray := prog_7_method_4_code
def yX5_termEnd : MethodName := ⟨RX5, "termEnd", "()I"⟩
abbrev cX5_isLapsed : ByteArray := prog_7_method_5_code
def yX5_isLapsed : MethodName := ⟨RX5, "isLapsed", "()Z"⟩
abbrev cX5_isTimeToRenew : ByteArray := prog_7_method_6_code
def yX5_isTimeToRenew : MethodName := ⟨RX5, "isTimeToRenew", "()Z"⟩
abbrev cX5_find : ByteArray := prog_7_method_7_code
def yX5_find : MethodName := ⟨RX5, "find", "(I)I"⟩
abbrev cX5_keeps : ByteArray := prog_7_method_8_code
def yX5_keeps : MethodName := ⟨RX5, "keeps", "(I)Z"⟩
abbrev cX5_sinceAt : ByteArray := prog_7_method_9_code
def yX5_sinceAt : MethodName := ⟨RX5, "sinceAt", "(I)I"⟩
abbrev cX5_rightAt : ByteArray := prog_7_method_10_code
def yX5_rightAt : MethodName := ⟨RX5, "rightAt", "(I)I"⟩
abbrev cX5_standsAt : ByteArray := prog_7_method_11_code
def yX5_standsAt : MethodName := ⟨RX5, "standsAt", "(I)Z"⟩
abbrev cX5_standsForAny : ByteArray := prog_7_method_12_code
def yX5_standsForAny : MethodName := ⟨RX5, "standsForAny", "()Z"⟩
abbrev cX5_clear : ByteArray := prog_7_method_13_code
def yX5_clear : MethodName := ⟨RX5, "clear", "(I)V"⟩
abbrev cX5_readPaper : ByteArray := prog_7_method_14_code
def yX5_readPaper : MethodName := ⟨RX5, "readPaper", "(IIII)V"⟩
abbrev cX5_readEnter : ByteArray := prog_7_method_15_code
def yX5_readEnter : MethodName := ⟨RX5, "readEnter", "(III)V"⟩
abbrev cX5_readGoods : ByteArray := prog_7_method_16_code
def yX5_readGoods : MethodName := ⟨RX5, "readGoods", "(II)V"⟩
abbrev cX5_readGive : ByteArray := prog_7_method_17_code
def yX5_readGive : MethodName := ⟨RX5, "readGive", "(II)V"⟩
abbrev cX5_readUse : ByteArray := prog_7_method_18_code
def yX5_readUse : MethodName := ⟨RX5, "readUse", "(II)V"⟩
def RX6 : String := "MarksRegister"
def TX6 : u_T := fun k => match k with
  | 0 => ("MarksRegister", "sounds", "LMarksRegister$Sounds;", true)
  | 1 => ("MarksRegister", "pairs", "LMarksRegister$NearPairs;", true)
  | 2 => ("MarksRegister", "marks", "[LMarksRegister$Mark;", true)
  | 3 => ("MarksRegister", "papers", "LMarksRegister$Papers;", true)
  | 4 => ("MarksRegister", "markCount", "I", false)
  | 5 => ("MarksRegister", "likeLevel", "I", false)
  | 6 => ("MarksRegister", "nearLevel", "I", false)
  | 7 => ("MarksRegister", "elder", "LMarksRegister$View;", true)
  | 8 => ("MarksRegister", "younger", "LMarksRegister$View;", true)
  | 9 => ("MarksRegister", "past", "LMarksRegister$View;", true)
  | _ => ("MarksRegister", "found", "LMarksRegister$Clash;", true)
def tyX6 : Nat → FieldType := fun k => match k with
  | 0 => .object "MarksRegister$Sounds"
  | 1 => .object "MarksRegister$NearPairs"
  | 2 => .array (.object "MarksRegister$Mark")
  | 3 => .object "MarksRegister$Papers"
  | 4 => .int
  | 5 => .int
  | 6 => .int
  | 7 => .object "MarksRegister$View"
  | 8 => .object "MarksRegister$View"
  | 9 => .object "MarksRegister$View"
  | _ => .object "MarksRegister$Clash"
abbrev wsX60 : List Cond := u_ws RX6 TX6 11
theorem nmX6 : ∀ a, a < 11 → ∀ b, b < 11 → a ≠ b → (TX6 a).2.1 ≠ (TX6 b).2.1 := by decide +kernel
theorem tyX6_ok : ∀ k, k < 11 → parseFieldDescriptor (TX6 k).2.2.1 = some (tyX6 k) := by decide +kernel
abbrev cX6_init : ByteArray := prog_1_method_1_code
def yX6_init : MethodName := ⟨RX6, "<init>", "()V"⟩
abbrev cX6_row : ByteArray := prog_1_method_2_code
def yX6_row : MethodName := ⟨RX6, "row", "(II)Z"⟩
abbrev cX6_sound : ByteArray := prog_1_method_3_code
def yX6_sound : MethodName := ⟨RX6, "sound", "(III)Z"⟩
abbrev cX6_cost : ByteArray := prog_1_method_4_code
def yX6_cost : MethodName := ⟨RX6, "cost", "(III)Z"⟩
abbrev cX6_near : ByteArray := prog_1_method_5_code
def yX6_near : MethodName := ⟨RX6, "near", "(III)Z"⟩
abbrev cX6_levels : ByteArray := prog_1_method_6_code
def yX6_levels : MethodName := ⟨RX6, "levels", "(II)Z"⟩
abbrev cX6_mark : ByteArray := prog_1_method_7_code
def yX6_mark : MethodName := ⟨RX6, "mark", "(II)I"⟩
abbrev cX6_letter : ByteArray := prog_1_method_8_code
def yX6_letter : MethodName := ⟨RX6, "letter", "(II)I"⟩
abbrev cX6_code : ByteArray := prog_1_method_9_code
def yX6_code : MethodName := ⟨RX6, "code", "(II)I"⟩
abbrev cX6_paper : ByteArray := prog_1_method_10_code
def yX6_paper : MethodName := ⟨RX6, "paper", "(IIII)I"⟩
abbrev cX6_oppose : ByteArray := prog_1_method_11_code
def yX6_oppose : MethodName := ⟨RX6, "oppose", "(III)I"⟩
abbrev cX6_undo : ByteArray := prog_1_method_12_code
def yX6_undo : MethodName := ⟨RX6, "undo", "()I"⟩
abbrev cX6_paperOf : ByteArray := prog_1_method_13_code
def yX6_paperOf : MethodName := ⟨RX6, "paperOf", "(II)I"⟩
abbrev cX6_markOf : ByteArray := prog_1_method_14_code
def yX6_markOf : MethodName := ⟨RX6, "markOf", "(II)I"⟩
abbrev cX6_soundOf : ByteArray := prog_1_method_15_code
def yX6_soundOf : MethodName := ⟨RX6, "soundOf", "(II)I"⟩
abbrev cX6_like : ByteArray := prog_1_method_16_code
def yX6_like : MethodName := ⟨RX6, "like", "(III)I"⟩
abbrev cX6_right : ByteArray := prog_1_method_17_code
def yX6_right : MethodName := ⟨RX6, "right", "(IIIII)I"⟩
abbrev cX6_state : ByteArray := prog_1_method_18_code
def yX6_state : MethodName := ⟨RX6, "state", "(III)I"⟩
abbrev cX6_clash : ByteArray := prog_1_method_19_code
def yX6_clash : MethodName := ⟨RX6, "clash", "(IIII)I"⟩
abbrev cX6_first : ByteArray := prog_1_method_20_code
def yX6_first : MethodName := ⟨RX6, "first", "(III)I"⟩
abbrev cX6_may : ByteArray := prog_1_method_21_code
def yX6_may : MethodName := ⟨RX6, "may", "(IIIII)I"⟩
abbrev cX6_watch : ByteArray := prog_1_method_22_code
def yX6_watch : MethodName := ⟨RX6, "watch", "(I)I"⟩
abbrev cX6_about : ByteArray := prog_1_method_23_code
def yX6_about : MethodName := ⟨RX6, "about", "(I)I"⟩
abbrev cX6_below : ByteArray := prog_1_method_24_code
def yX6_below : MethodName := ⟨RX6, "below", "(II)Z"⟩
abbrev cX6_isDay : ByteArray := prog_1_method_25_code
def yX6_isDay : MethodName := ⟨RX6, "isDay", "(I)Z"⟩
abbrev cX6_markAt : ByteArray := prog_1_method_26_code
def yX6_markAt : MethodName := ⟨RX6, "markAt", "(I)LMarksRegister$Mark;"⟩
abbrev cX6_boundOfX : ByteArray := prog_1_method_27_code
def yX6_boundOfX : MethodName := ⟨RX6, "boundOfX", "(I)I"⟩
abbrev cX6_canBe : ByteArray := prog_1_method_28_code
def yX6_canBe : MethodName := ⟨RX6, "canBe", "(IIII)Z"⟩
abbrev cX6_isOfKind : ByteArray := prog_1_method_29_code
def yX6_isOfKind : MethodName := ⟨RX6, "isOfKind", "(II)Z"⟩
abbrev cX6_haveOneOwner : ByteArray := prog_1_method_30_code
def yX6_haveOneOwner : MethodName := ⟨RX6, "haveOneOwner", "(II)Z"⟩
abbrev cX6_likeOf : ByteArray := prog_1_method_31_code
def yX6_likeOf : MethodName := ⟨RX6, "likeOf", "(LMarksRegister$Mark;LMarksRegister$Mark;)I"⟩
abbrev cX6_areAlike : ByteArray := prog_1_method_32_code
def yX6_areAlike : MethodName := ⟨RX6, "areAlike", "(II)Z"⟩
abbrev cX6_isNear : ByteArray := prog_1_method_33_code
def yX6_isNear : MethodName := ⟨RX6, "isNear", "(II)Z"⟩
abbrev cX6_earliestNear : ByteArray := prog_1_method_34_code
def yX6_earliestNear : MethodName := ⟨RX6, "earliestNear", "(I)I"⟩
abbrev cX6_standsNearYounger : ByteArray := prog_1_method_35_code
def yX6_standsNearYounger : MethodName := ⟨RX6, "standsNearYounger", "()Z"⟩
abbrev cX6_claimOf : ByteArray := prog_1_method_36_code
def yX6_claimOf : MethodName := ⟨RX6, "claimOf", "(III)I"⟩
abbrev cX6_findClash : ByteArray := prog_1_method_37_code
def yX6_findClash : MethodName := ⟨RX6, "findClash", "(IIII)V"⟩
abbrev cX6_findClashOver : ByteArray := prog_1_method_38_code
def yX6_findClashOver : MethodName := ⟨RX6, "findClashOver", "(IIII)V"⟩
def RX7 : String := "MarksRegisterModel"
def TX7 : u_T := fun k => match k with
  | 0 => ("MarksRegisterModel", "places", "[I", true)
  | 1 => ("MarksRegisterModel", "soundAt", "[I", true)
  | 2 => ("MarksRegisterModel", "change", "[I", true)
  | 3 => ("MarksRegisterModel", "put", "[I", true)
  | 4 => ("MarksRegisterModel", "pairLow", "[I", true)
  | 5 => ("MarksRegisterModel", "pairHigh", "[I", true)
  | 6 => ("MarksRegisterModel", "pairNear", "[I", true)
  | 7 => ("MarksRegisterModel", "pairs", "I", false)
  | 8 => ("MarksRegisterModel", "likeLevel", "I", false)
  | 9 => ("MarksRegisterModel", "nearLevel", "I", false)
  | 10 => ("MarksRegisterModel", "marks", "I", false)
  | 11 => ("MarksRegisterModel", "kind", "[I", true)
  | 12 => ("MarksRegisterModel", "owner", "[I", true)
  | 13 => ("MarksRegisterModel", "letters", "[I", true)
  | 14 => ("MarksRegisterModel", "letterOf", "[I", true)
  | 15 => ("MarksRegisterModel", "codes", "[I", true)
  | 16 => ("MarksRegisterModel", "codeOf", "[I", true)
  | 17 => ("MarksRegisterModel", "papers", "I", false)
  | 18 => ("MarksRegisterModel", "paperKind", "[I", true)
  | 19 => ("MarksRegisterModel", "paperMark", "[I", true)
  | 20 => ("MarksRegisterModel", "paperX", "[I", true)
  | 21 => ("MarksRegisterModel", "paperDay", "[I", true)
  | 22 => ("MarksRegisterModel", "soundsA", "[I", true)
  | 23 => ("MarksRegisterModel", "soundsB", "[I", true)
  | 24 => ("MarksRegisterModel", "least", "[I", true)
  | 25 => ("MarksRegisterModel", "goodsA", "[I", true)
  | _ => ("MarksRegisterModel", "goodsB", "[I", true)
def tyX7 : Nat → FieldType := fun k => match k with
  | 0 => .array .int
  | 1 => .array .int
  | 2 => .array .int
  | 3 => .array .int
  | 4 => .array .int
  | 5 => .array .int
  | 6 => .array .int
  | 7 => .int
  | 8 => .int
  | 9 => .int
  | 10 => .int
  | 11 => .array .int
  | 12 => .array .int
  | 13 => .array .int
  | 14 => .array .int
  | 15 => .array .int
  | 16 => .array .int
  | 17 => .int
  | 18 => .array .int
  | 19 => .array .int
  | 20 => .array .int
  | 21 => .array .int
  | 22 => .array .int
  | 23 => .array .int
  | 24 => .array .int
  | 25 => .array .int
  | _ => .array .int
abbrev wsX70 : List Cond := u_ws RX7 TX7 27
theorem nmX7 : ∀ a, a < 27 → ∀ b, b < 27 → a ≠ b → (TX7 a).2.1 ≠ (TX7 b).2.1 := by decide +kernel
theorem tyX7_ok : ∀ k, k < 27 → parseFieldDescriptor (TX7 k).2.2.1 = some (tyX7 k) := by decide +kernel
abbrev cX7_init : ByteArray := prog_9_method_1_code
def yX7_init : MethodName := ⟨RX7, "<init>", "()V"⟩
abbrev cX7_in : ByteArray := prog_9_method_2_code
def yX7_in : MethodName := ⟨RX7, "in", "(III)Z"⟩
abbrev cX7_isMark : ByteArray := prog_9_method_3_code
def yX7_isMark : MethodName := ⟨RX7, "isMark", "(I)Z"⟩
abbrev cX7_isDay : ByteArray := prog_9_method_4_code
def yX7_isDay : MethodName := ⟨RX7, "isDay", "(I)Z"⟩
abbrev cX7_isCountry : ByteArray := prog_9_method_5_code
def yX7_isCountry : MethodName := ⟨RX7, "isCountry", "(I)Z"⟩
abbrev cX7_isGoods : ByteArray := prog_9_method_6_code
def yX7_isGoods : MethodName := ⟨RX7, "isGoods", "(I)Z"⟩
abbrev cX7_isPerson : ByteArray := prog_9_method_7_code
def yX7_isPerson : MethodName := ⟨RX7, "isPerson", "(I)Z"⟩
abbrev cX7_row : ByteArray := prog_9_method_8_code
def yX7_row : MethodName := ⟨RX7, "row", "(II)Z"⟩
abbrev cX7_sound : ByteArray := prog_9_method_9_code
def yX7_sound : MethodName := ⟨RX7, "sound", "(III)Z"⟩
abbrev cX7_cost : ByteArray := prog_9_method_10_code
def yX7_cost : MethodName := ⟨RX7, "cost", "(III)Z"⟩
abbrev cX7_pairOf : ByteArray := prog_9_method_11_code
def yX7_pairOf : MethodName := ⟨RX7, "pairOf", "(II)I"⟩
abbrev cX7_near : ByteArray := prog_9_method_12_code
def yX7_near : MethodName := ⟨RX7, "near", "(III)Z"⟩
abbrev cX7_nearOf : ByteArray := prog_9_method_13_code
def yX7_nearOf : MethodName := ⟨RX7, "nearOf", "(II)I"⟩
abbrev cX7_levels : ByteArray := prog_9_method_14_code
def yX7_levels : MethodName := ⟨RX7, "levels", "(II)Z"⟩
abbrev cX7_mark : ByteArray := prog_9_method_15_code
def yX7_mark : MethodName := ⟨RX7, "mark", "(II)I"⟩
abbrev cX7_hasPaper : ByteArray := prog_9_method_16_code
def yX7_hasPaper : MethodName := ⟨RX7, "hasPaper", "(I)Z"⟩
abbrev cX7_letter : ByteArray := prog_9_method_17_code
def yX7_letter : MethodName := ⟨RX7, "letter", "(II)I"⟩
abbrev cX7_code : ByteArray := prog_9_method_18_code
def yX7_code : MethodName := ⟨RX7, "code", "(II)I"⟩
abbrev cX7_hasCode : ByteArray := prog_9_method_19_code
def yX7_hasCode : MethodName := ⟨RX7, "hasCode", "(II)Z"⟩
abbrev cX7_soundOfLetter : ByteArray := prog_9_method_20_code
def yX7_soundOfLetter : MethodName := ⟨RX7, "soundOfLetter", "(II)I"⟩
abbrev cX7_soundsInto : ByteArray := prog_9_method_21_code
def yX7_soundsInto : MethodName := ⟨RX7, "soundsInto", "(I[I)I"⟩
abbrev cX7_costOf : ByteArray := prog_9_method_22_code
def yX7_costOf : MethodName := ⟨RX7, "costOf", "(II)I"⟩
abbrev cX7_wordsLike : ByteArray := prog_9_method_23_code
def yX7_wordsLike : MethodName := ⟨RX7, "wordsLike", "(II)I"⟩
abbrev cX7_codesLike : ByteArray := prog_9_method_24_code
def yX7_codesLike : MethodName := ⟨RX7, "codesLike", "(II)I"⟩
abbrev cX7_likeOf : ByteArray := prog_9_method_25_code
def yX7_likeOf : MethodName := ⟨RX7, "likeOf", "(II)I"⟩
abbrev cX7_isAlike : ByteArray := prog_9_method_26_code
def yX7_isAlike : MethodName := ⟨RX7, "isAlike", "(II)Z"⟩
abbrev cX7_latest : ByteArray := prog_9_method_27_code
def yX7_latest : MethodName := ⟨RX7, "latest", "(IIII)I"⟩
abbrev cX7_earliest : ByteArray := prog_9_method_28_code
def yX7_earliest : MethodName := ⟨RX7, "earliest", "(IIII)I"⟩
abbrev cX7_countOf : ByteArray := prog_9_method_29_code
def yX7_countOf : MethodName := ⟨RX7, "countOf", "(III)I"⟩
abbrev cX7_since : ByteArray := prog_9_method_30_code
def yX7_since : MethodName := ⟨RX7, "since", "(III)I"⟩
abbrev cX7_firstOf : ByteArray := prog_9_method_31_code
def yX7_firstOf : MethodName := ⟨RX7, "firstOf", "(II)I"⟩
abbrev cX7_termEnd : ByteArray := prog_9_method_32_code
def yX7_termEnd : MethodName := ⟨RX7, "termEnd", "(II)I"⟩
abbrev cX7_hasLapsed : ByteArray := prog_9_method_33_code
def yX7_hasLapsed : MethodName := ⟨RX7, "hasLapsed", "(II)Z"⟩
abbrev cX7_isStruck : ByteArray := prog_9_method_34_code
def yX7_isStruck : MethodName := ⟨RX7, "isStruck", "(II)Z"⟩
abbrev cX7_rightOf : ByteArray := prog_9_method_35_code
def yX7_rightOf : MethodName := ⟨RX7, "rightOf", "(IIII)I"⟩
abbrev cX7_stands : ByteArray := prog_9_method_36_code
def yX7_stands : MethodName := ⟨RX7, "stands", "(IIII)Z"⟩
abbrev cX7_goodsInto : ByteArray := prog_9_method_37_code
def yX7_goodsInto : MethodName := ⟨RX7, "goodsInto", "(II[I)I"⟩
abbrev cX7_isNear : ByteArray := prog_9_method_38_code
def yX7_isNear : MethodName := ⟨RX7, "isNear", "(IIII)Z"⟩
abbrev cX7_hasLeave : ByteArray := prog_9_method_39_code
def yX7_hasLeave : MethodName := ⟨RX7, "hasLeave", "(III)Z"⟩
abbrev cX7_mayClash : ByteArray := prog_9_method_40_code
def yX7_mayClash : MethodName := ⟨RX7, "mayClash", "(III)Z"⟩
abbrev cX7_clashes : ByteArray := prog_9_method_41_code
def yX7_clashes : MethodName := ⟨RX7, "clashes", "(IIIIII)Z"⟩
abbrev cX7_clashOf : ByteArray := prog_9_method_42_code
def yX7_clashOf : MethodName := ⟨RX7, "clashOf", "(IIII)I"⟩
abbrev cX7_clashRight : ByteArray := prog_9_method_43_code
def yX7_clashRight : MethodName := ⟨RX7, "clashRight", "(IIII)I"⟩
abbrev cX7_isX : ByteArray := prog_9_method_44_code
def yX7_isX : MethodName := ⟨RX7, "isX", "(II)Z"⟩
abbrev cX7_canBe : ByteArray := prog_9_method_45_code
def yX7_canBe : MethodName := ⟨RX7, "canBe", "(IIII)Z"⟩
abbrev cX7_paper : ByteArray := prog_9_method_46_code
def yX7_paper : MethodName := ⟨RX7, "paper", "(IIII)I"⟩
abbrev cX7_oppose : ByteArray := prog_9_method_47_code
def yX7_oppose : MethodName := ⟨RX7, "oppose", "(III)I"⟩
abbrev cX7_undo : ByteArray := prog_9_method_48_code
def yX7_undo : MethodName := ⟨RX7, "undo", "()I"⟩
abbrev cX7_paperOf : ByteArray := prog_9_method_49_code
def yX7_paperOf : MethodName := ⟨RX7, "paperOf", "(II)I"⟩
abbrev cX7_markOf : ByteArray := prog_9_method_50_code
def yX7_markOf : MethodName := ⟨RX7, "markOf", "(II)I"⟩
abbrev cX7_soundOf : ByteArray := prog_9_method_51_code
def yX7_soundOf : MethodName := ⟨RX7, "soundOf", "(II)I"⟩
abbrev cX7_like : ByteArray := prog_9_method_52_code
def yX7_like : MethodName := ⟨RX7, "like", "(III)I"⟩
abbrev cX7_right : ByteArray := prog_9_method_53_code
def yX7_right : MethodName := ⟨RX7, "right", "(IIIII)I"⟩
abbrev cX7_state : ByteArray := prog_9_method_54_code
def yX7_state : MethodName := ⟨RX7, "state", "(III)I"⟩
abbrev cX7_clash : ByteArray := prog_9_method_55_code
def yX7_clash : MethodName := ⟨RX7, "clash", "(IIII)I"⟩
abbrev cX7_first : ByteArray := prog_9_method_56_code
def yX7_first : MethodName := ⟨RX7, "first", "(III)I"⟩
abbrev cX7_nearRight : ByteArray := prog_9_method_57_code
def yX7_nearRight : MethodName := ⟨RX7, "nearRight", "(IIII)I"⟩
abbrev cX7_may : ByteArray := prog_9_method_58_code
def yX7_may : MethodName := ⟨RX7, "may", "(IIIII)I"⟩
abbrev cX7_watch : ByteArray := prog_9_method_59_code
def yX7_watch : MethodName := ⟨RX7, "watch", "(I)I"⟩
abbrev cX7_comesNear : ByteArray := prog_9_method_60_code
def yX7_comesNear : MethodName := ⟨RX7, "comesNear", "(IIII)Z"⟩
abbrev cX7_about : ByteArray := prog_9_method_61_code
def yX7_about : MethodName := ⟨RX7, "about", "(I)I"⟩
def RJ9 : String := "java/lang/Math"
def TJ9 : u_T := fun k => match k with
  | _ => ("", "", "", false)
def tyJ9 : Nat → FieldType := fun k => match k with
  | _ => .int
abbrev wsJ90 : List Cond := u_ws RJ9 TJ9 0
theorem nmJ9 : ∀ a, a < 0 → ∀ b, b < 0 → a ≠ b → (TJ9 a).2.1 ≠ (TJ9 b).2.1 := by decide +kernel
theorem tyJ9_ok : ∀ k, k < 0 → parseFieldDescriptor (TJ9 k).2.2.1 = some (tyJ9 k) := by decide +kernel
abbrev cJ9_max_7cf53 : ByteArray := prog_10_method_65_code
def yJ9_max_7cf53 : MethodName := ⟨RJ9, "max", "(II)I"⟩
abbrev cJ9_min_7cf53 : ByteArray := prog_10_method_69_code
def yJ9_min_7cf53 : MethodName := ⟨RJ9, "min", "(II)I"⟩
def RJ7 : String := "java/util/Arrays"
def TJ7 : u_T := fun k => match k with
  | _ => ("", "", "", false)
def tyJ7 : Nat → FieldType := fun k => match k with
  | _ => .int
abbrev wsJ70 : List Cond := u_ws RJ7 TJ7 0
theorem nmJ7 : ∀ a, a < 0 → ∀ b, b < 0 → a ≠ b → (TJ7 a).2.1 ≠ (TJ7 b).2.1 := by decide +kernel
theorem tyJ7_ok : ∀ k, k < 0 → parseFieldDescriptor (TJ7 k).2.2.1 = some (tyJ7 k) := by decide +kernel
abbrev cJ7_fill_53178 : ByteArray := prog_11_method_103_code
def yJ7_fill_53178 : MethodName := ⟨RJ7, "fill", "([II)V"⟩
def RL : String := "MarksRegisterLaw"
abbrev cL_law : ByteArray := code
def yL_law : MethodName := ⟨RL, "law", "([I)Z"⟩
theorem t1 {w : Cond} (h : w ∈ tables_1_1) : w ∈ lw_tbl := List.mem_append_right _ (List.mem_append_left _ h)
theorem t2 {w : Cond} (h : w ∈ tables_1_2) : w ∈ lw_tbl := List.mem_append_right _ (List.mem_append_right _ (List.mem_append_left _ h))
theorem t3 {w : Cond} (h : w ∈ tables_1_3) : w ∈ lw_tbl := List.mem_append_right _ (List.mem_append_right _ (List.mem_append_right _ (List.mem_append_left _ h)))
theorem t4 {w : Cond} (h : w ∈ tables_1_4) : w ∈ lw_tbl := List.mem_append_right _ (List.mem_append_right _ (List.mem_append_right _ (List.mem_append_right _ h)))
theorem t0 {q : MethodName × Nat} (h : q ∈ lw_privs) : Cond.selects q.1.cls q.1 q.1 ∈ lw_tbl := List.mem_append_left _ (List.mem_map.mpr ⟨q, h, rfl⟩)
theorem p1 {q : MethodName × Nat} (h : q ∈ lw_privs_1) : q ∈ lw_privs := List.mem_append_left _ h
theorem p2 {q : MethodName × Nat} (h : q ∈ lw_privs_2) : q ∈ lw_privs := List.mem_append_right _ (List.mem_append_left _ h)
theorem p3 {q : MethodName × Nat} (h : q ∈ lw_privs_3) : q ∈ lw_privs := List.mem_append_right _ (List.mem_append_right _ (List.mem_append_left _ h))
theorem p4 {q : MethodName × Nat} (h : q ∈ lw_privs_4) : q ∈ lw_privs := List.mem_append_right _ (List.mem_append_right _ (List.mem_append_right _ h))
/-- a word of the tables that stays true wherever a call may lead -/
def inT (w : Cond) : Prop := w ∈ lw_tbl ∧ goodWord w = true
abbrev MI : Type := MethodName × ByteArray × Nat × Option FieldType
def mCl : List vw_C := [(RX0, TX0, 2), (RX1, TX1, 6), (RX2, TX2, 4), (RX3, TX3, 5), (RX4, TX4, 7), (RX5, TX5, 13), (RX6, TX6, 11), (RX7, TX7, 27)]
/-- 0 int, 1 boolean, 2 reference: the fields of each class -/

def fTab : List (List Nat) := [[0, 0], [0, 0, 2, 2, 0, 0], [2, 2, 2, 0], [2, 2, 2, 2, 0], [2, 2, 2, 2, 2, 2, 2], [0, 0, 0, 0, 0, 1, 1, 1, 0, 2, 2, 2, 2], [2, 2, 2, 2, 0, 0, 0, 2, 2, 2, 2], [2, 2, 2, 2, 2, 2, 2, 0, 0, 0, 0, 2, 2, 2, 2, 2, 2, 0, 2, 2, 2, 2, 2, 2, 2, 2, 2]]
def mX0_init : MI := (yX0_init, cX0_init, 1, none)
theorem okX0_init : inT (.initialized mX0_init.1.cls) ∧ inT (.code mX0_init.1 mX0_init.2.1 mX0_init.2.2.1 mX0_init.2.2.2) := ⟨⟨t1 (List.mem_of_getElem? (i := 7) rfl), rfl⟩, ⟨t1 (List.mem_of_getElem? (i := 163) rfl), rfl⟩⟩
theorem imX0_init : inT (.instanceMethod mX0_init.1) := ⟨t1 (List.mem_of_getElem? (i := 162) rfl), rfl⟩
def mX0_clear : MI := (yX0_clear, cX0_clear, 1, none)
theorem okX0_clear : inT (.initialized mX0_clear.1.cls) ∧ inT (.code mX0_clear.1 mX0_clear.2.1 mX0_clear.2.2.1 mX0_clear.2.2.2) := ⟨⟨t1 (List.mem_of_getElem? (i := 7) rfl), rfl⟩, ⟨t2 (List.mem_of_getElem? (i := 185) rfl), rfl⟩⟩
theorem imX0_clear : inT (.instanceMethod mX0_clear.1) := ⟨t2 (List.mem_of_getElem? (i := 183) rfl), rfl⟩
theorem seX0_clear : inT (.selects mX0_clear.1.cls mX0_clear.1 mX0_clear.1) := ⟨t2 (List.mem_of_getElem? (i := 184) rfl), rfl⟩
def mX0_isThere : MI := (yX0_isThere, cX0_isThere, 1, (some .boolean))
theorem okX0_isThere : inT (.initialized mX0_isThere.1.cls) ∧ inT (.code mX0_isThere.1 mX0_isThere.2.1 mX0_isThere.2.2.1 mX0_isThere.2.2.2) := ⟨⟨t1 (List.mem_of_getElem? (i := 7) rfl), rfl⟩, ⟨t3 (List.mem_of_getElem? (i := 30) rfl), rfl⟩⟩
theorem imX0_isThere : inT (.instanceMethod mX0_isThere.1) := ⟨t3 (List.mem_of_getElem? (i := 28) rfl), rfl⟩
theorem seX0_isThere : inT (.selects mX0_isThere.1.cls mX0_isThere.1 mX0_isThere.1) := ⟨t3 (List.mem_of_getElem? (i := 29) rfl), rfl⟩
def mX0_add : MI := (yX0_add, cX0_add, 5, none)
theorem okX0_add : inT (.initialized mX0_add.1.cls) ∧ inT (.code mX0_add.1 mX0_add.2.1 mX0_add.2.2.1 mX0_add.2.2.2) := ⟨⟨t1 (List.mem_of_getElem? (i := 7) rfl), rfl⟩, ⟨t3 (List.mem_of_getElem? (i := 26) rfl), rfl⟩⟩
theorem imX0_add : inT (.instanceMethod mX0_add.1) := ⟨t3 (List.mem_of_getElem? (i := 24) rfl), rfl⟩
theorem seX0_add : inT (.selects mX0_add.1.cls mX0_add.1 mX0_add.1) := ⟨t3 (List.mem_of_getElem? (i := 25) rfl), rfl⟩
def mX1_init : MI := (yX1_init, cX1_init, 3, none)
theorem okX1_init : inT (.initialized mX1_init.1.cls) ∧ inT (.code mX1_init.1 mX1_init.2.1 mX1_init.2.2.1 mX1_init.2.2.2) := ⟨⟨t1 (List.mem_of_getElem? (i := 9) rfl), rfl⟩, ⟨t2 (List.mem_of_getElem? (i := 34) rfl), rfl⟩⟩
theorem imX1_init : inT (.instanceMethod mX1_init.1) := ⟨t2 (List.mem_of_getElem? (i := 33) rfl), rfl⟩
def mX1_hasPicture : MI := (yX1_hasPicture, cX1_hasPicture, 1, (some .boolean))
theorem okX1_hasPicture : inT (.initialized mX1_hasPicture.1.cls) ∧ inT (.code mX1_hasPicture.1 mX1_hasPicture.2.1 mX1_hasPicture.2.2.1 mX1_hasPicture.2.2.2) := ⟨⟨t1 (List.mem_of_getElem? (i := 9) rfl), rfl⟩, ⟨t2 (List.mem_of_getElem? (i := 221) rfl), rfl⟩⟩
theorem imX1_hasPicture : inT (.instanceMethod mX1_hasPicture.1) := ⟨t2 (List.mem_of_getElem? (i := 219) rfl), rfl⟩
theorem seX1_hasPicture : inT (.selects mX1_hasPicture.1.cls mX1_hasPicture.1 mX1_hasPicture.1) := ⟨t2 (List.mem_of_getElem? (i := 220) rfl), rfl⟩
def mX1_addLetter : MI := (yX1_addLetter, cX1_addLetter, 2, (some .int))
theorem okX1_addLetter : inT (.initialized mX1_addLetter.1.cls) ∧ inT (.code mX1_addLetter.1 mX1_addLetter.2.1 mX1_addLetter.2.2.1 mX1_addLetter.2.2.2) := ⟨⟨t1 (List.mem_of_getElem? (i := 9) rfl), rfl⟩, ⟨t2 (List.mem_of_getElem? (i := 76) rfl), rfl⟩⟩
theorem imX1_addLetter : inT (.instanceMethod mX1_addLetter.1) := ⟨t2 (List.mem_of_getElem? (i := 74) rfl), rfl⟩
theorem seX1_addLetter : inT (.selects mX1_addLetter.1.cls mX1_addLetter.1 mX1_addLetter.1) := ⟨t2 (List.mem_of_getElem? (i := 75) rfl), rfl⟩
def mX1_addCode : MI := (yX1_addCode, cX1_addCode, 2, (some .int))
theorem okX1_addCode : inT (.initialized mX1_addCode.1.cls) ∧ inT (.code mX1_addCode.1 mX1_addCode.2.1 mX1_addCode.2.2.1 mX1_addCode.2.2.2) := ⟨⟨t1 (List.mem_of_getElem? (i := 9) rfl), rfl⟩, ⟨t2 (List.mem_of_getElem? (i := 85) rfl), rfl⟩⟩
theorem imX1_addCode : inT (.instanceMethod mX1_addCode.1) := ⟨t2 (List.mem_of_getElem? (i := 83) rfl), rfl⟩
theorem seX1_addCode : inT (.selects mX1_addCode.1.cls mX1_addCode.1 mX1_addCode.1) := ⟨t2 (List.mem_of_getElem? (i := 84) rfl), rfl⟩
def mX1_likeOfPictures : MI := (yX1_likeOfPictures, cX1_likeOfPictures, 5, (some .int))
theorem okX1_likeOfPictures : inT (.initialized mX1_likeOfPictures.1.cls) ∧ inT (.code mX1_likeOfPictures.1 mX1_likeOfPictures.2.1 mX1_likeOfPictures.2.2.1 mX1_likeOfPictures.2.2.2) := ⟨⟨t1 (List.mem_of_getElem? (i := 9) rfl), rfl⟩, ⟨t2 (List.mem_of_getElem? (i := 225) rfl), rfl⟩⟩
theorem imX1_likeOfPictures : inT (.instanceMethod mX1_likeOfPictures.1) := ⟨t2 (List.mem_of_getElem? (i := 223) rfl), rfl⟩
theorem seX1_likeOfPictures : inT (.selects mX1_likeOfPictures.1.cls mX1_likeOfPictures.1 mX1_likeOfPictures.1) := ⟨t2 (List.mem_of_getElem? (i := 224) rfl), rfl⟩
def mX1_hasCode : MI := (yX1_hasCode, cX1_hasCode, 3, (some .boolean))
theorem okX1_hasCode : inT (.initialized mX1_hasCode.1.cls) ∧ inT (.code mX1_hasCode.1 mX1_hasCode.2.1 mX1_hasCode.2.2.1 mX1_hasCode.2.2.2) := ⟨⟨t1 (List.mem_of_getElem? (i := 9) rfl), rfl⟩, ⟨t2 (List.mem_of_getElem? (i := 89) rfl), rfl⟩⟩
theorem imX1_hasCode : inT (.instanceMethod mX1_hasCode.1) := ⟨t2 (List.mem_of_getElem? (i := 88) rfl), rfl⟩
theorem seX1_hasCode : inT (.selects mX1_hasCode.1.cls mX1_hasCode.1 mX1_hasCode.1) := ⟨t0 (q := (yX1_hasCode, 6)) (p1 (List.mem_of_getElem? (i := 4) rfl)), rfl⟩
def mX2_init : MI := (yX2_init, cX2_init, 1, none)
theorem okX2_init : inT (.initialized mX2_init.1.cls) ∧ inT (.code mX2_init.1 mX2_init.2.1 mX2_init.2.2.1 mX2_init.2.2.2) := ⟨⟨t1 (List.mem_of_getElem? (i := 4) rfl), rfl⟩, ⟨t1 (List.mem_of_getElem? (i := 55) rfl), rfl⟩⟩
theorem imX2_init : inT (.instanceMethod mX2_init.1) := ⟨t1 (List.mem_of_getElem? (i := 54) rfl), rfl⟩
def mX2_nearOf : MI := (yX2_nearOf, cX2_nearOf, 4, (some .int))
theorem okX2_nearOf : inT (.initialized mX2_nearOf.1.cls) ∧ inT (.code mX2_nearOf.1 mX2_nearOf.2.1 mX2_nearOf.2.2.1 mX2_nearOf.2.2.2) := ⟨⟨t1 (List.mem_of_getElem? (i := 4) rfl), rfl⟩, ⟨t3 (List.mem_of_getElem? (i := 21) rfl), rfl⟩⟩
theorem imX2_nearOf : inT (.instanceMethod mX2_nearOf.1) := ⟨t3 (List.mem_of_getElem? (i := 19) rfl), rfl⟩
theorem seX2_nearOf : inT (.selects mX2_nearOf.1.cls mX2_nearOf.1 mX2_nearOf.1) := ⟨t3 (List.mem_of_getElem? (i := 20) rfl), rfl⟩
def mX2_tell : MI := (yX2_tell, cX2_tell, 5, (some .boolean))
theorem okX2_tell : inT (.initialized mX2_tell.1.cls) ∧ inT (.code mX2_tell.1 mX2_tell.2.1 mX2_tell.2.2.1 mX2_tell.2.2.2) := ⟨⟨t1 (List.mem_of_getElem? (i := 4) rfl), rfl⟩, ⟨t2 (List.mem_of_getElem? (i := 10) rfl), rfl⟩⟩
theorem imX2_tell : inT (.instanceMethod mX2_tell.1) := ⟨t2 (List.mem_of_getElem? (i := 8) rfl), rfl⟩
theorem seX2_tell : inT (.selects mX2_tell.1.cls mX2_tell.1 mX2_tell.1) := ⟨t2 (List.mem_of_getElem? (i := 9) rfl), rfl⟩
def mX2_find : MI := (yX2_find, cX2_find, 4, (some .int))
theorem okX2_find : inT (.initialized mX2_find.1.cls) ∧ inT (.code mX2_find.1 mX2_find.2.1 mX2_find.2.2.1 mX2_find.2.2.2) := ⟨⟨t1 (List.mem_of_getElem? (i := 4) rfl), rfl⟩, ⟨t2 (List.mem_of_getElem? (i := 14) rfl), rfl⟩⟩
theorem imX2_find : inT (.instanceMethod mX2_find.1) := ⟨t2 (List.mem_of_getElem? (i := 13) rfl), rfl⟩
theorem seX2_find : inT (.selects mX2_find.1.cls mX2_find.1 mX2_find.1) := ⟨t0 (q := (yX2_find, 4)) (p1 (List.mem_of_getElem? (i := 0) rfl)), rfl⟩
def mX2_append : MI := (yX2_append, cX2_append, 4, (some .boolean))
theorem okX2_append : inT (.initialized mX2_append.1.cls) ∧ inT (.code mX2_append.1 mX2_append.2.1 mX2_append.2.2.1 mX2_append.2.2.2) := ⟨⟨t1 (List.mem_of_getElem? (i := 4) rfl), rfl⟩, ⟨t2 (List.mem_of_getElem? (i := 22) rfl), rfl⟩⟩
theorem imX2_append : inT (.instanceMethod mX2_append.1) := ⟨t2 (List.mem_of_getElem? (i := 21) rfl), rfl⟩
theorem seX2_append : inT (.selects mX2_append.1.cls mX2_append.1 mX2_append.1) := ⟨t0 (q := (yX2_append, 4)) (p1 (List.mem_of_getElem? (i := 2) rfl)), rfl⟩
def mX2_forget : MI := (yX2_forget, cX2_forget, 2, none)
theorem okX2_forget : inT (.initialized mX2_forget.1.cls) ∧ inT (.code mX2_forget.1 mX2_forget.2.1 mX2_forget.2.2.1 mX2_forget.2.2.2) := ⟨⟨t1 (List.mem_of_getElem? (i := 4) rfl), rfl⟩, ⟨t2 (List.mem_of_getElem? (i := 18) rfl), rfl⟩⟩
theorem imX2_forget : inT (.instanceMethod mX2_forget.1) := ⟨t2 (List.mem_of_getElem? (i := 17) rfl), rfl⟩
theorem seX2_forget : inT (.selects mX2_forget.1.cls mX2_forget.1 mX2_forget.1) := ⟨t0 (q := (yX2_forget, 4)) (p1 (List.mem_of_getElem? (i := 1) rfl)), rfl⟩
def mX3_init : MI := (yX3_init, cX3_init, 1, none)
theorem okX3_init : inT (.initialized mX3_init.1.cls) ∧ inT (.code mX3_init.1 mX3_init.2.1 mX3_init.2.2.1 mX3_init.2.2.2) := ⟨⟨t1 (List.mem_of_getElem? (i := 5) rfl), rfl⟩, ⟨t1 (List.mem_of_getElem? (i := 77) rfl), rfl⟩⟩
theorem imX3_init : inT (.instanceMethod mX3_init.1) := ⟨t1 (List.mem_of_getElem? (i := 76) rfl), rfl⟩
def mX3_latestDay : MI := (yX3_latestDay, cX3_latestDay, 1, (some .int))
theorem okX3_latestDay : inT (.initialized mX3_latestDay.1.cls) ∧ inT (.code mX3_latestDay.1 mX3_latestDay.2.1 mX3_latestDay.2.2.1 mX3_latestDay.2.2.2) := ⟨⟨t1 (List.mem_of_getElem? (i := 5) rfl), rfl⟩, ⟨t2 (List.mem_of_getElem? (i := 108) rfl), rfl⟩⟩
theorem imX3_latestDay : inT (.instanceMethod mX3_latestDay.1) := ⟨t2 (List.mem_of_getElem? (i := 106) rfl), rfl⟩
theorem seX3_latestDay : inT (.selects mX3_latestDay.1.cls mX3_latestDay.1 mX3_latestDay.1) := ⟨t2 (List.mem_of_getElem? (i := 107) rfl), rfl⟩
def mX3_take : MI := (yX3_take, cX3_take, 2, (some .boolean))
theorem okX3_take : inT (.initialized mX3_take.1.cls) ∧ inT (.code mX3_take.1 mX3_take.2.1 mX3_take.2.2.1 mX3_take.2.2.2) := ⟨⟨t1 (List.mem_of_getElem? (i := 5) rfl), rfl⟩, ⟨t2 (List.mem_of_getElem? (i := 104) rfl), rfl⟩⟩
theorem imX3_take : inT (.instanceMethod mX3_take.1) := ⟨t2 (List.mem_of_getElem? (i := 102) rfl), rfl⟩
theorem seX3_take : inT (.selects mX3_take.1.cls mX3_take.1 mX3_take.1) := ⟨t2 (List.mem_of_getElem? (i := 103) rfl), rfl⟩
def mX3_add : MI := (yX3_add, cX3_add, 5, (some .int))
theorem okX3_add : inT (.initialized mX3_add.1.cls) ∧ inT (.code mX3_add.1 mX3_add.2.1 mX3_add.2.2.1 mX3_add.2.2.2) := ⟨⟨t1 (List.mem_of_getElem? (i := 5) rfl), rfl⟩, ⟨t2 (List.mem_of_getElem? (i := 173) rfl), rfl⟩⟩
theorem imX3_add : inT (.instanceMethod mX3_add.1) := ⟨t2 (List.mem_of_getElem? (i := 171) rfl), rfl⟩
theorem seX3_add : inT (.selects mX3_add.1.cls mX3_add.1 mX3_add.1) := ⟨t2 (List.mem_of_getElem? (i := 172) rfl), rfl⟩
def mX3_takeBack : MI := (yX3_takeBack, cX3_takeBack, 1, (some .int))
theorem okX3_takeBack : inT (.initialized mX3_takeBack.1.cls) ∧ inT (.code mX3_takeBack.1 mX3_takeBack.2.1 mX3_takeBack.2.2.1 mX3_takeBack.2.2.2) := ⟨⟨t1 (List.mem_of_getElem? (i := 5) rfl), rfl⟩, ⟨t3 (List.mem_of_getElem? (i := 39) rfl), rfl⟩⟩
theorem imX3_takeBack : inT (.instanceMethod mX3_takeBack.1) := ⟨t3 (List.mem_of_getElem? (i := 37) rfl), rfl⟩
theorem seX3_takeBack : inT (.selects mX3_takeBack.1.cls mX3_takeBack.1 mX3_takeBack.1) := ⟨t3 (List.mem_of_getElem? (i := 38) rfl), rfl⟩
def mX3_areOf : MI := (yX3_areOf, cX3_areOf, 3, (some .boolean))
theorem okX3_areOf : inT (.initialized mX3_areOf.1.cls) ∧ inT (.code mX3_areOf.1 mX3_areOf.2.1 mX3_areOf.2.2.1 mX3_areOf.2.2.2) := ⟨⟨t1 (List.mem_of_getElem? (i := 5) rfl), rfl⟩, ⟨t2 (List.mem_of_getElem? (i := 72) rfl), rfl⟩⟩
theorem imX3_areOf : inT (.instanceMethod mX3_areOf.1) := ⟨t2 (List.mem_of_getElem? (i := 70) rfl), rfl⟩
theorem seX3_areOf : inT (.selects mX3_areOf.1.cls mX3_areOf.1 mX3_areOf.1) := ⟨t2 (List.mem_of_getElem? (i := 71) rfl), rfl⟩
def mX3_tell : MI := (yX3_tell, cX3_tell, 6, (some .boolean))
theorem okX3_tell : inT (.initialized mX3_tell.1.cls) ∧ inT (.code mX3_tell.1 mX3_tell.2.1 mX3_tell.2.2.1 mX3_tell.2.2.2) := ⟨⟨t1 (List.mem_of_getElem? (i := 5) rfl), rfl⟩, ⟨t2 (List.mem_of_getElem? (i := 156) rfl), rfl⟩⟩
theorem imX3_tell : inT (.instanceMethod mX3_tell.1) := ⟨t2 (List.mem_of_getElem? (i := 154) rfl), rfl⟩
theorem seX3_tell : inT (.selects mX3_tell.1.cls mX3_tell.1 mX3_tell.1) := ⟨t2 (List.mem_of_getElem? (i := 155) rfl), rfl⟩
def mX3_latest : MI := (yX3_latest, cX3_latest, 3, (some .int))
theorem okX3_latest : inT (.initialized mX3_latest.1.cls) ∧ inT (.code mX3_latest.1 mX3_latest.2.1 mX3_latest.2.2.1 mX3_latest.2.2.2) := ⟨⟨t1 (List.mem_of_getElem? (i := 5) rfl), rfl⟩, ⟨t3 (List.mem_of_getElem? (i := 110) rfl), rfl⟩⟩
theorem imX3_latest : inT (.instanceMethod mX3_latest.1) := ⟨t3 (List.mem_of_getElem? (i := 108) rfl), rfl⟩
theorem seX3_latest : inT (.selects mX3_latest.1.cls mX3_latest.1 mX3_latest.1) := ⟨t3 (List.mem_of_getElem? (i := 109) rfl), rfl⟩
def mX4_init : MI := (yX4_init, cX4_init, 2, none)
theorem okX4_init : inT (.initialized mX4_init.1.cls) ∧ inT (.code mX4_init.1 mX4_init.2.1 mX4_init.2.2.1 mX4_init.2.2.2) := ⟨⟨t1 (List.mem_of_getElem? (i := 2) rfl), rfl⟩, ⟨t1 (List.mem_of_getElem? (i := 23) rfl), rfl⟩⟩
theorem imX4_init : inT (.instanceMethod mX4_init.1) := ⟨t1 (List.mem_of_getElem? (i := 22) rfl), rfl⟩
def mX4_placesOf : MI := (yX4_placesOf, cX4_placesOf, 2, (some .int))
theorem okX4_placesOf : inT (.initialized mX4_placesOf.1.cls) ∧ inT (.code mX4_placesOf.1 mX4_placesOf.2.1 mX4_placesOf.2.2.1 mX4_placesOf.2.2.2) := ⟨⟨t1 (List.mem_of_getElem? (i := 2) rfl), rfl⟩, ⟨t1 (List.mem_of_getElem? (i := 226) rfl), rfl⟩⟩
theorem imX4_placesOf : inT (.instanceMethod mX4_placesOf.1) := ⟨t1 (List.mem_of_getElem? (i := 224) rfl), rfl⟩
theorem seX4_placesOf : inT (.selects mX4_placesOf.1.cls mX4_placesOf.1 mX4_placesOf.1) := ⟨t1 (List.mem_of_getElem? (i := 225) rfl), rfl⟩
def mX4_setPlaces : MI := (yX4_setPlaces, cX4_setPlaces, 4, none)
theorem okX4_setPlaces : inT (.initialized mX4_setPlaces.1.cls) ∧ inT (.code mX4_setPlaces.1 mX4_setPlaces.2.1 mX4_setPlaces.2.2.1 mX4_setPlaces.2.2.2) := ⟨⟨t1 (List.mem_of_getElem? (i := 2) rfl), rfl⟩, ⟨t1 (List.mem_of_getElem? (i := 218) rfl), rfl⟩⟩
theorem imX4_setPlaces : inT (.instanceMethod mX4_setPlaces.1) := ⟨t1 (List.mem_of_getElem? (i := 216) rfl), rfl⟩
theorem seX4_setPlaces : inT (.selects mX4_setPlaces.1.cls mX4_setPlaces.1 mX4_setPlaces.1) := ⟨t1 (List.mem_of_getElem? (i := 217) rfl), rfl⟩
def mX4_setPlace : MI := (yX4_setPlace, cX4_setPlace, 4, none)
theorem okX4_setPlace : inT (.initialized mX4_setPlace.1.cls) ∧ inT (.code mX4_setPlace.1 mX4_setPlace.2.1 mX4_setPlace.2.2.1 mX4_setPlace.2.2.2) := ⟨⟨t1 (List.mem_of_getElem? (i := 2) rfl), rfl⟩, ⟨t1 (List.mem_of_getElem? (i := 230) rfl), rfl⟩⟩
theorem imX4_setPlace : inT (.instanceMethod mX4_setPlace.1) := ⟨t1 (List.mem_of_getElem? (i := 228) rfl), rfl⟩
theorem seX4_setPlace : inT (.selects mX4_setPlace.1.cls mX4_setPlace.1 mX4_setPlace.1) := ⟨t1 (List.mem_of_getElem? (i := 229) rfl), rfl⟩
def mX4_setPutCost : MI := (yX4_setPutCost, cX4_setPutCost, 3, none)
theorem okX4_setPutCost : inT (.initialized mX4_setPutCost.1.cls) ∧ inT (.code mX4_setPutCost.1 mX4_setPutCost.2.1 mX4_setPutCost.2.2.1 mX4_setPutCost.2.2.2) := ⟨⟨t1 (List.mem_of_getElem? (i := 2) rfl), rfl⟩, ⟨t1 (List.mem_of_getElem? (i := 238) rfl), rfl⟩⟩
theorem imX4_setPutCost : inT (.instanceMethod mX4_setPutCost.1) := ⟨t1 (List.mem_of_getElem? (i := 236) rfl), rfl⟩
theorem seX4_setPutCost : inT (.selects mX4_setPutCost.1.cls mX4_setPutCost.1 mX4_setPutCost.1) := ⟨t1 (List.mem_of_getElem? (i := 237) rfl), rfl⟩
def mX4_setChangeCost : MI := (yX4_setChangeCost, cX4_setChangeCost, 4, none)
theorem okX4_setChangeCost : inT (.initialized mX4_setChangeCost.1.cls) ∧ inT (.code mX4_setChangeCost.1 mX4_setChangeCost.2.1 mX4_setChangeCost.2.2.1 mX4_setChangeCost.2.2.2) := ⟨⟨t1 (List.mem_of_getElem? (i := 2) rfl), rfl⟩, ⟨t2 (List.mem_of_getElem? (i := 2) rfl), rfl⟩⟩
theorem imX4_setChangeCost : inT (.instanceMethod mX4_setChangeCost.1) := ⟨t2 (List.mem_of_getElem? (i := 0) rfl), rfl⟩
theorem seX4_setChangeCost : inT (.selects mX4_setChangeCost.1.cls mX4_setChangeCost.1 mX4_setChangeCost.1) := ⟨t2 (List.mem_of_getElem? (i := 1) rfl), rfl⟩
def mX4_countOf : MI := (yX4_countOf, cX4_countOf, 2, (some .int))
theorem okX4_countOf : inT (.initialized mX4_countOf.1.cls) ∧ inT (.code mX4_countOf.1 mX4_countOf.2.1 mX4_countOf.2.2.1 mX4_countOf.2.2.2) := ⟨⟨t1 (List.mem_of_getElem? (i := 2) rfl), rfl⟩, ⟨t3 (List.mem_of_getElem? (i := 51) rfl), rfl⟩⟩
theorem imX4_countOf : inT (.instanceMethod mX4_countOf.1) := ⟨t3 (List.mem_of_getElem? (i := 49) rfl), rfl⟩
theorem seX4_countOf : inT (.selects mX4_countOf.1.cls mX4_countOf.1 mX4_countOf.1) := ⟨t3 (List.mem_of_getElem? (i := 50) rfl), rfl⟩
def mX4_at : MI := (yX4_at, cX4_at, 3, (some .int))
theorem okX4_at : inT (.initialized mX4_at.1.cls) ∧ inT (.code mX4_at.1 mX4_at.2.1 mX4_at.2.2.1 mX4_at.2.2.2) := ⟨⟨t1 (List.mem_of_getElem? (i := 2) rfl), rfl⟩, ⟨t3 (List.mem_of_getElem? (i := 59) rfl), rfl⟩⟩
theorem imX4_at : inT (.instanceMethod mX4_at.1) := ⟨t3 (List.mem_of_getElem? (i := 57) rfl), rfl⟩
theorem seX4_at : inT (.selects mX4_at.1.cls mX4_at.1 mX4_at.1) := ⟨t3 (List.mem_of_getElem? (i := 58) rfl), rfl⟩
def mX4_costOf : MI := (yX4_costOf, cX4_costOf, 3, (some .int))
theorem okX4_costOf : inT (.initialized mX4_costOf.1.cls) ∧ inT (.code mX4_costOf.1 mX4_costOf.2.1 mX4_costOf.2.2.1 mX4_costOf.2.2.2) := ⟨⟨t1 (List.mem_of_getElem? (i := 2) rfl), rfl⟩, ⟨t3 (List.mem_of_getElem? (i := 68) rfl), rfl⟩⟩
theorem imX4_costOf : inT (.instanceMethod mX4_costOf.1) := ⟨t3 (List.mem_of_getElem? (i := 66) rfl), rfl⟩
theorem seX4_costOf : inT (.selects mX4_costOf.1.cls mX4_costOf.1 mX4_costOf.1) := ⟨t3 (List.mem_of_getElem? (i := 67) rfl), rfl⟩
def mX4_likeOf : MI := (yX4_likeOf, cX4_likeOf, 6, (some .int))
theorem okX4_likeOf : inT (.initialized mX4_likeOf.1.cls) ∧ inT (.code mX4_likeOf.1 mX4_likeOf.2.1 mX4_likeOf.2.2.1 mX4_likeOf.2.2.2) := ⟨⟨t1 (List.mem_of_getElem? (i := 2) rfl), rfl⟩, ⟨t2 (List.mem_of_getElem? (i := 230) rfl), rfl⟩⟩
theorem imX4_likeOf : inT (.instanceMethod mX4_likeOf.1) := ⟨t2 (List.mem_of_getElem? (i := 228) rfl), rfl⟩
theorem seX4_likeOf : inT (.selects mX4_likeOf.1.cls mX4_likeOf.1 mX4_likeOf.1) := ⟨t2 (List.mem_of_getElem? (i := 229) rfl), rfl⟩
def mX4_spell : MI := (yX4_spell, cX4_spell, 7, (some .int))
theorem okX4_spell : inT (.initialized mX4_spell.1.cls) ∧ inT (.code mX4_spell.1 mX4_spell.2.1 mX4_spell.2.2.1 mX4_spell.2.2.2) := ⟨⟨t1 (List.mem_of_getElem? (i := 2) rfl), rfl⟩, ⟨t2 (List.mem_of_getElem? (i := 234) rfl), rfl⟩⟩
theorem imX4_spell : inT (.instanceMethod mX4_spell.1) := ⟨t2 (List.mem_of_getElem? (i := 233) rfl), rfl⟩
theorem seX4_spell : inT (.selects mX4_spell.1.cls mX4_spell.1 mX4_spell.1) := ⟨t0 (q := (yX4_spell, 7)) (p2 (List.mem_of_getElem? (i := 1) rfl)), rfl⟩
def mX4_heard : MI := (yX4_heard, cX4_heard, 3, (some .int))
theorem okX4_heard : inT (.initialized mX4_heard.1.cls) ∧ inT (.code mX4_heard.1 mX4_heard.2.1 mX4_heard.2.2.1 mX4_heard.2.2.2) := ⟨⟨t1 (List.mem_of_getElem? (i := 2) rfl), rfl⟩, ⟨t2 (List.mem_of_getElem? (i := 238) rfl), rfl⟩⟩
theorem imX4_heard : inT (.instanceMethod mX4_heard.1) := ⟨t2 (List.mem_of_getElem? (i := 237) rfl), rfl⟩
theorem seX4_heard : inT (.selects mX4_heard.1.cls mX4_heard.1 mX4_heard.1) := ⟨t0 (q := (yX4_heard, 7)) (p2 (List.mem_of_getElem? (i := 2) rfl)), rfl⟩
def mX4_leastSum : MI := (yX4_leastSum, cX4_leastSum, 10, (some .int))
theorem okX4_leastSum : inT (.initialized mX4_leastSum.1.cls) ∧ inT (.code mX4_leastSum.1 mX4_leastSum.2.1 mX4_leastSum.2.2.1 mX4_leastSum.2.2.2) := ⟨⟨t1 (List.mem_of_getElem? (i := 2) rfl), rfl⟩, ⟨t3 (List.mem_of_getElem? (i := 3) rfl), rfl⟩⟩
theorem imX4_leastSum : inT (.instanceMethod mX4_leastSum.1) := ⟨t3 (List.mem_of_getElem? (i := 2) rfl), rfl⟩
theorem seX4_leastSum : inT (.selects mX4_leastSum.1.cls mX4_leastSum.1 mX4_leastSum.1) := ⟨t0 (q := (yX4_leastSum, 7)) (p2 (List.mem_of_getElem? (i := 3) rfl)), rfl⟩
def mX5_init : MI := (yX5_init, cX5_init, 1, none)
theorem okX5_init : inT (.initialized mX5_init.1.cls) ∧ inT (.code mX5_init.1 mX5_init.2.1 mX5_init.2.2.1 mX5_init.2.2.2) := ⟨⟨t1 (List.mem_of_getElem? (i := 6) rfl), rfl⟩, ⟨t1 (List.mem_of_getElem? (i := 109) rfl), rfl⟩⟩
theorem imX5_init : inT (.instanceMethod mX5_init.1) := ⟨t1 (List.mem_of_getElem? (i := 108) rfl), rfl⟩
def mX5_read : MI := (yX5_read, cX5_read, 6, none)
theorem okX5_read : inT (.initialized mX5_read.1.cls) ∧ inT (.code mX5_read.1 mX5_read.2.1 mX5_read.2.2.1 mX5_read.2.2.2) := ⟨⟨t1 (List.mem_of_getElem? (i := 6) rfl), rfl⟩, ⟨t2 (List.mem_of_getElem? (i := 112) rfl), rfl⟩⟩
theorem imX5_read : inT (.instanceMethod mX5_read.1) := ⟨t2 (List.mem_of_getElem? (i := 110) rfl), rfl⟩
theorem seX5_read : inT (.selects mX5_read.1.cls mX5_read.1 mX5_read.1) := ⟨t2 (List.mem_of_getElem? (i := 111) rfl), rfl⟩
def mX5_isEntered : MI := (yX5_isEntered, cX5_isEntered, 1, (some .boolean))
theorem okX5_isEntered : inT (.initialized mX5_isEntered.1.cls) ∧ inT (.code mX5_isEntered.1 mX5_isEntered.2.1 mX5_isEntered.2.2.1 mX5_isEntered.2.2.2) := ⟨⟨t1 (List.mem_of_getElem? (i := 6) rfl), rfl⟩, ⟨t2 (List.mem_of_getElem? (i := 148) rfl), rfl⟩⟩
theorem imX5_isEntered : inT (.instanceMethod mX5_isEntered.1) := ⟨t2 (List.mem_of_getElem? (i := 146) rfl), rfl⟩
theorem seX5_isEntered : inT (.selects mX5_isEntered.1.cls mX5_isEntered.1 mX5_isEntered.1) := ⟨t2 (List.mem_of_getElem? (i := 147) rfl), rfl⟩
def mX5_termEnd : MI := (yX5_termEnd, cX5_termEnd, 1, (some .int))
theorem okX5_termEnd : inT (.initialized mX5_termEnd.1.cls) ∧ inT (.code mX5_termEnd.1 mX5_termEnd.2.1 mX5_termEnd.2.2.1 mX5_termEnd.2.2.2) := ⟨⟨t1 (List.mem_of_getElem? (i := 6) rfl), rfl⟩, ⟨t2 (List.mem_of_getElem? (i := 164) rfl), rfl⟩⟩
theorem imX5_termEnd : inT (.instanceMethod mX5_termEnd.1) := ⟨t2 (List.mem_of_getElem? (i := 162) rfl), rfl⟩
theorem seX5_termEnd : inT (.selects mX5_termEnd.1.cls mX5_termEnd.1 mX5_termEnd.1) := ⟨t2 (List.mem_of_getElem? (i := 163) rfl), rfl⟩
def mX5_isLapsed : MI := (yX5_isLapsed, cX5_isLapsed, 1, (some .boolean))
theorem okX5_isLapsed : inT (.initialized mX5_isLapsed.1.cls) ∧ inT (.code mX5_isLapsed.1 mX5_isLapsed.2.1 mX5_isLapsed.2.2.1 mX5_isLapsed.2.2.2) := ⟨⟨t1 (List.mem_of_getElem? (i := 6) rfl), rfl⟩, ⟨t2 (List.mem_of_getElem? (i := 209) rfl), rfl⟩⟩
theorem imX5_isLapsed : inT (.instanceMethod mX5_isLapsed.1) := ⟨t2 (List.mem_of_getElem? (i := 207) rfl), rfl⟩
theorem seX5_isLapsed : inT (.selects mX5_isLapsed.1.cls mX5_isLapsed.1 mX5_isLapsed.1) := ⟨t2 (List.mem_of_getElem? (i := 208) rfl), rfl⟩
def mX5_isTimeToRenew : MI := (yX5_isTimeToRenew, cX5_isTimeToRenew, 1, (some .boolean))
theorem okX5_isTimeToRenew : inT (.initialized mX5_isTimeToRenew.1.cls) ∧ inT (.code mX5_isTimeToRenew.1 mX5_isTimeToRenew.2.1 mX5_isTimeToRenew.2.2.1 mX5_isTimeToRenew.2.2.2) := ⟨⟨t1 (List.mem_of_getElem? (i := 6) rfl), rfl⟩, ⟨t2 (List.mem_of_getElem? (i := 160) rfl), rfl⟩⟩
theorem imX5_isTimeToRenew : inT (.instanceMethod mX5_isTimeToRenew.1) := ⟨t2 (List.mem_of_getElem? (i := 158) rfl), rfl⟩
theorem seX5_isTimeToRenew : inT (.selects mX5_isTimeToRenew.1.cls mX5_isTimeToRenew.1 mX5_isTimeToRenew.1) := ⟨t2 (List.mem_of_getElem? (i := 159) rfl), rfl⟩
def mX5_find : MI := (yX5_find, cX5_find, 3, (some .int))
theorem okX5_find : inT (.initialized mX5_find.1.cls) ∧ inT (.code mX5_find.1 mX5_find.2.1 mX5_find.2.2.1 mX5_find.2.2.2) := ⟨⟨t1 (List.mem_of_getElem? (i := 6) rfl), rfl⟩, ⟨t2 (List.mem_of_getElem? (i := 128) rfl), rfl⟩⟩
theorem imX5_find : inT (.instanceMethod mX5_find.1) := ⟨t2 (List.mem_of_getElem? (i := 126) rfl), rfl⟩
theorem seX5_find : inT (.selects mX5_find.1.cls mX5_find.1 mX5_find.1) := ⟨t2 (List.mem_of_getElem? (i := 127) rfl), rfl⟩
def mX5_keeps : MI := (yX5_keeps, cX5_keeps, 3, (some .boolean))
theorem okX5_keeps : inT (.initialized mX5_keeps.1.cls) ∧ inT (.code mX5_keeps.1 mX5_keeps.2.1 mX5_keeps.2.2.1 mX5_keeps.2.2.2) := ⟨⟨t1 (List.mem_of_getElem? (i := 6) rfl), rfl⟩, ⟨t2 (List.mem_of_getElem? (i := 152) rfl), rfl⟩⟩
theorem imX5_keeps : inT (.instanceMethod mX5_keeps.1) := ⟨t2 (List.mem_of_getElem? (i := 150) rfl), rfl⟩
theorem seX5_keeps : inT (.selects mX5_keeps.1.cls mX5_keeps.1 mX5_keeps.1) := ⟨t2 (List.mem_of_getElem? (i := 151) rfl), rfl⟩
def mX5_sinceAt : MI := (yX5_sinceAt, cX5_sinceAt, 2, (some .int))
theorem okX5_sinceAt : inT (.initialized mX5_sinceAt.1.cls) ∧ inT (.code mX5_sinceAt.1 mX5_sinceAt.2.1 mX5_sinceAt.2.2.1 mX5_sinceAt.2.2.2) := ⟨⟨t1 (List.mem_of_getElem? (i := 6) rfl), rfl⟩, ⟨t3 (List.mem_of_getElem? (i := 76) rfl), rfl⟩⟩
theorem imX5_sinceAt : inT (.instanceMethod mX5_sinceAt.1) := ⟨t3 (List.mem_of_getElem? (i := 74) rfl), rfl⟩
theorem seX5_sinceAt : inT (.selects mX5_sinceAt.1.cls mX5_sinceAt.1 mX5_sinceAt.1) := ⟨t3 (List.mem_of_getElem? (i := 75) rfl), rfl⟩
def mX5_rightAt : MI := (yX5_rightAt, cX5_rightAt, 3, (some .int))
theorem okX5_rightAt : inT (.initialized mX5_rightAt.1.cls) ∧ inT (.code mX5_rightAt.1 mX5_rightAt.2.1 mX5_rightAt.2.2.1 mX5_rightAt.2.2.2) := ⟨⟨t1 (List.mem_of_getElem? (i := 6) rfl), rfl⟩, ⟨t2 (List.mem_of_getElem? (i := 201) rfl), rfl⟩⟩
theorem imX5_rightAt : inT (.instanceMethod mX5_rightAt.1) := ⟨t2 (List.mem_of_getElem? (i := 199) rfl), rfl⟩
theorem seX5_rightAt : inT (.selects mX5_rightAt.1.cls mX5_rightAt.1 mX5_rightAt.1) := ⟨t2 (List.mem_of_getElem? (i := 200) rfl), rfl⟩
def mX5_standsAt : MI := (yX5_standsAt, cX5_standsAt, 3, (some .boolean))
theorem okX5_standsAt : inT (.initialized mX5_standsAt.1.cls) ∧ inT (.code mX5_standsAt.1 mX5_standsAt.2.1 mX5_standsAt.2.2.1 mX5_standsAt.2.2.2) := ⟨⟨t1 (List.mem_of_getElem? (i := 6) rfl), rfl⟩, ⟨t2 (List.mem_of_getElem? (i := 197) rfl), rfl⟩⟩
theorem imX5_standsAt : inT (.instanceMethod mX5_standsAt.1) := ⟨t2 (List.mem_of_getElem? (i := 195) rfl), rfl⟩
theorem seX5_standsAt : inT (.selects mX5_standsAt.1.cls mX5_standsAt.1 mX5_standsAt.1) := ⟨t2 (List.mem_of_getElem? (i := 196) rfl), rfl⟩
def mX5_standsForAny : MI := (yX5_standsForAny, cX5_standsForAny, 2, (some .boolean))
theorem okX5_standsForAny : inT (.initialized mX5_standsForAny.1.cls) ∧ inT (.code mX5_standsForAny.1 mX5_standsForAny.2.1 mX5_standsForAny.2.2.1 mX5_standsForAny.2.2.2) := ⟨⟨t1 (List.mem_of_getElem? (i := 6) rfl), rfl⟩, ⟨t2 (List.mem_of_getElem? (i := 193) rfl), rfl⟩⟩
theorem imX5_standsForAny : inT (.instanceMethod mX5_standsForAny.1) := ⟨t2 (List.mem_of_getElem? (i := 191) rfl), rfl⟩
theorem seX5_standsForAny : inT (.selects mX5_standsForAny.1.cls mX5_standsForAny.1 mX5_standsForAny.1) := ⟨t2 (List.mem_of_getElem? (i := 192) rfl), rfl⟩
def mX5_clear : MI := (yX5_clear, cX5_clear, 2, none)
theorem okX5_clear : inT (.initialized mX5_clear.1.cls) ∧ inT (.code mX5_clear.1 mX5_clear.2.1 mX5_clear.2.2.1 mX5_clear.2.2.2) := ⟨⟨t1 (List.mem_of_getElem? (i := 6) rfl), rfl⟩, ⟨t2 (List.mem_of_getElem? (i := 116) rfl), rfl⟩⟩
theorem imX5_clear : inT (.instanceMethod mX5_clear.1) := ⟨t2 (List.mem_of_getElem? (i := 115) rfl), rfl⟩
theorem seX5_clear : inT (.selects mX5_clear.1.cls mX5_clear.1 mX5_clear.1) := ⟨t0 (q := (yX5_clear, 13)) (p1 (List.mem_of_getElem? (i := 5) rfl)), rfl⟩
def mX5_readPaper : MI := (yX5_readPaper, cX5_readPaper, 5, none)
theorem okX5_readPaper : inT (.initialized mX5_readPaper.1.cls) ∧ inT (.code mX5_readPaper.1 mX5_readPaper.2.1 mX5_readPaper.2.2.1 mX5_readPaper.2.2.2) := ⟨⟨t1 (List.mem_of_getElem? (i := 6) rfl), rfl⟩, ⟨t2 (List.mem_of_getElem? (i := 120) rfl), rfl⟩⟩
theorem imX5_readPaper : inT (.instanceMethod mX5_readPaper.1) := ⟨t2 (List.mem_of_getElem? (i := 119) rfl), rfl⟩
theorem seX5_readPaper : inT (.selects mX5_readPaper.1.cls mX5_readPaper.1 mX5_readPaper.1) := ⟨t0 (q := (yX5_readPaper, 13)) (p1 (List.mem_of_getElem? (i := 6) rfl)), rfl⟩
def mX5_readEnter : MI := (yX5_readEnter, cX5_readEnter, 4, none)
theorem okX5_readEnter : inT (.initialized mX5_readEnter.1.cls) ∧ inT (.code mX5_readEnter.1 mX5_readEnter.2.1 mX5_readEnter.2.2.1 mX5_readEnter.2.2.2) := ⟨⟨t1 (List.mem_of_getElem? (i := 6) rfl), rfl⟩, ⟨t2 (List.mem_of_getElem? (i := 132) rfl), rfl⟩⟩
theorem imX5_readEnter : inT (.instanceMethod mX5_readEnter.1) := ⟨t2 (List.mem_of_getElem? (i := 131) rfl), rfl⟩
theorem seX5_readEnter : inT (.selects mX5_readEnter.1.cls mX5_readEnter.1 mX5_readEnter.1) := ⟨t0 (q := (yX5_readEnter, 13)) (p1 (List.mem_of_getElem? (i := 8) rfl)), rfl⟩
def mX5_readGoods : MI := (yX5_readGoods, cX5_readGoods, 4, none)
theorem okX5_readGoods : inT (.initialized mX5_readGoods.1.cls) ∧ inT (.code mX5_readGoods.1 mX5_readGoods.2.1 mX5_readGoods.2.2.1 mX5_readGoods.2.2.2) := ⟨⟨t1 (List.mem_of_getElem? (i := 6) rfl), rfl⟩, ⟨t2 (List.mem_of_getElem? (i := 124) rfl), rfl⟩⟩
theorem imX5_readGoods : inT (.instanceMethod mX5_readGoods.1) := ⟨t2 (List.mem_of_getElem? (i := 123) rfl), rfl⟩
theorem seX5_readGoods : inT (.selects mX5_readGoods.1.cls mX5_readGoods.1 mX5_readGoods.1) := ⟨t0 (q := (yX5_readGoods, 13)) (p1 (List.mem_of_getElem? (i := 7) rfl)), rfl⟩
def mX5_readGive : MI := (yX5_readGive, cX5_readGive, 4, none)
theorem okX5_readGive : inT (.initialized mX5_readGive.1.cls) ∧ inT (.code mX5_readGive.1 mX5_readGive.2.1 mX5_readGive.2.2.1 mX5_readGive.2.2.2) := ⟨⟨t1 (List.mem_of_getElem? (i := 6) rfl), rfl⟩, ⟨t2 (List.mem_of_getElem? (i := 136) rfl), rfl⟩⟩
theorem imX5_readGive : inT (.instanceMethod mX5_readGive.1) := ⟨t2 (List.mem_of_getElem? (i := 135) rfl), rfl⟩
theorem seX5_readGive : inT (.selects mX5_readGive.1.cls mX5_readGive.1 mX5_readGive.1) := ⟨t0 (q := (yX5_readGive, 13)) (p1 (List.mem_of_getElem? (i := 9) rfl)), rfl⟩
def mX5_readUse : MI := (yX5_readUse, cX5_readUse, 4, none)
theorem okX5_readUse : inT (.initialized mX5_readUse.1.cls) ∧ inT (.code mX5_readUse.1 mX5_readUse.2.1 mX5_readUse.2.2.1 mX5_readUse.2.2.2) := ⟨⟨t1 (List.mem_of_getElem? (i := 6) rfl), rfl⟩, ⟨t2 (List.mem_of_getElem? (i := 140) rfl), rfl⟩⟩
theorem imX5_readUse : inT (.instanceMethod mX5_readUse.1) := ⟨t2 (List.mem_of_getElem? (i := 139) rfl), rfl⟩
theorem seX5_readUse : inT (.selects mX5_readUse.1.cls mX5_readUse.1 mX5_readUse.1) := ⟨t0 (q := (yX5_readUse, 13)) (p1 (List.mem_of_getElem? (i := 10) rfl)), rfl⟩
def mX6_init : MI := (yX6_init, cX6_init, 1, none)
theorem okX6_init : inT (.initialized mX6_init.1.cls) ∧ inT (.code mX6_init.1 mX6_init.2.1 mX6_init.2.2.1 mX6_init.2.2.2) := ⟨⟨t1 (List.mem_of_getElem? (i := 1) rfl), rfl⟩, ⟨t1 (List.mem_of_getElem? (i := 15) rfl), rfl⟩⟩
theorem imX6_init : inT (.instanceMethod mX6_init.1) := ⟨t1 (List.mem_of_getElem? (i := 14) rfl), rfl⟩
def mX6_row : MI := (yX6_row, cX6_row, 3, (some .boolean))
theorem okX6_row : inT (.initialized mX6_row.1.cls) ∧ inT (.code mX6_row.1 mX6_row.2.1 mX6_row.2.2.1 mX6_row.2.2.2) := ⟨⟨t1 (List.mem_of_getElem? (i := 1) rfl), rfl⟩, ⟨t1 (List.mem_of_getElem? (i := 211) rfl), rfl⟩⟩
theorem imX6_row : inT (.instanceMethod mX6_row.1) := ⟨t1 (List.mem_of_getElem? (i := 209) rfl), rfl⟩
theorem seX6_row : inT (.selects mX6_row.1.cls mX6_row.1 mX6_row.1) := ⟨t1 (List.mem_of_getElem? (i := 210) rfl), rfl⟩
def mX6_sound : MI := (yX6_sound, cX6_sound, 4, (some .boolean))
theorem okX6_sound : inT (.initialized mX6_sound.1.cls) ∧ inT (.code mX6_sound.1 mX6_sound.2.1 mX6_sound.2.2.1 mX6_sound.2.2.2) := ⟨⟨t1 (List.mem_of_getElem? (i := 1) rfl), rfl⟩, ⟨t1 (List.mem_of_getElem? (i := 222) rfl), rfl⟩⟩
theorem imX6_sound : inT (.instanceMethod mX6_sound.1) := ⟨t1 (List.mem_of_getElem? (i := 220) rfl), rfl⟩
theorem seX6_sound : inT (.selects mX6_sound.1.cls mX6_sound.1 mX6_sound.1) := ⟨t1 (List.mem_of_getElem? (i := 221) rfl), rfl⟩
def mX6_cost : MI := (yX6_cost, cX6_cost, 4, (some .boolean))
theorem okX6_cost : inT (.initialized mX6_cost.1.cls) ∧ inT (.code mX6_cost.1 mX6_cost.2.1 mX6_cost.2.2.1 mX6_cost.2.2.2) := ⟨⟨t1 (List.mem_of_getElem? (i := 1) rfl), rfl⟩, ⟨t1 (List.mem_of_getElem? (i := 234) rfl), rfl⟩⟩
theorem imX6_cost : inT (.instanceMethod mX6_cost.1) := ⟨t1 (List.mem_of_getElem? (i := 232) rfl), rfl⟩
theorem seX6_cost : inT (.selects mX6_cost.1.cls mX6_cost.1 mX6_cost.1) := ⟨t1 (List.mem_of_getElem? (i := 233) rfl), rfl⟩
def mX6_near : MI := (yX6_near, cX6_near, 4, (some .boolean))
theorem okX6_near : inT (.initialized mX6_near.1.cls) ∧ inT (.code mX6_near.1 mX6_near.2.1 mX6_near.2.2.1 mX6_near.2.2.2) := ⟨⟨t1 (List.mem_of_getElem? (i := 1) rfl), rfl⟩, ⟨t2 (List.mem_of_getElem? (i := 6) rfl), rfl⟩⟩
theorem imX6_near : inT (.instanceMethod mX6_near.1) := ⟨t2 (List.mem_of_getElem? (i := 4) rfl), rfl⟩
theorem seX6_near : inT (.selects mX6_near.1.cls mX6_near.1 mX6_near.1) := ⟨t2 (List.mem_of_getElem? (i := 5) rfl), rfl⟩
def mX6_levels : MI := (yX6_levels, cX6_levels, 3, (some .boolean))
theorem okX6_levels : inT (.initialized mX6_levels.1.cls) ∧ inT (.code mX6_levels.1 mX6_levels.2.1 mX6_levels.2.2.1 mX6_levels.2.2.2) := ⟨⟨t1 (List.mem_of_getElem? (i := 1) rfl), rfl⟩, ⟨t2 (List.mem_of_getElem? (i := 26) rfl), rfl⟩⟩
theorem imX6_levels : inT (.instanceMethod mX6_levels.1) := ⟨t2 (List.mem_of_getElem? (i := 24) rfl), rfl⟩
theorem seX6_levels : inT (.selects mX6_levels.1.cls mX6_levels.1 mX6_levels.1) := ⟨t2 (List.mem_of_getElem? (i := 25) rfl), rfl⟩
def mX6_mark : MI := (yX6_mark, cX6_mark, 3, (some .int))
theorem okX6_mark : inT (.initialized mX6_mark.1.cls) ∧ inT (.code mX6_mark.1 mX6_mark.2.1 mX6_mark.2.2.1 mX6_mark.2.2.2) := ⟨⟨t1 (List.mem_of_getElem? (i := 1) rfl), rfl⟩, ⟨t2 (List.mem_of_getElem? (i := 30) rfl), rfl⟩⟩
theorem imX6_mark : inT (.instanceMethod mX6_mark.1) := ⟨t2 (List.mem_of_getElem? (i := 28) rfl), rfl⟩
theorem seX6_mark : inT (.selects mX6_mark.1.cls mX6_mark.1 mX6_mark.1) := ⟨t2 (List.mem_of_getElem? (i := 29) rfl), rfl⟩
def mX6_letter : MI := (yX6_letter, cX6_letter, 4, (some .int))
theorem okX6_letter : inT (.initialized mX6_letter.1.cls) ∧ inT (.code mX6_letter.1 mX6_letter.2.1 mX6_letter.2.2.1 mX6_letter.2.2.2) := ⟨⟨t1 (List.mem_of_getElem? (i := 1) rfl), rfl⟩, ⟨t2 (List.mem_of_getElem? (i := 64) rfl), rfl⟩⟩
theorem imX6_letter : inT (.instanceMethod mX6_letter.1) := ⟨t2 (List.mem_of_getElem? (i := 62) rfl), rfl⟩
theorem seX6_letter : inT (.selects mX6_letter.1.cls mX6_letter.1 mX6_letter.1) := ⟨t2 (List.mem_of_getElem? (i := 63) rfl), rfl⟩
def mX6_code : MI := (yX6_code, cX6_code, 4, (some .int))
theorem okX6_code : inT (.initialized mX6_code.1.cls) ∧ inT (.code mX6_code.1 mX6_code.2.1 mX6_code.2.2.1 mX6_code.2.2.2) := ⟨⟨t1 (List.mem_of_getElem? (i := 1) rfl), rfl⟩, ⟨t2 (List.mem_of_getElem? (i := 80) rfl), rfl⟩⟩
theorem imX6_code : inT (.instanceMethod mX6_code.1) := ⟨t2 (List.mem_of_getElem? (i := 78) rfl), rfl⟩
theorem seX6_code : inT (.selects mX6_code.1.cls mX6_code.1 mX6_code.1) := ⟨t2 (List.mem_of_getElem? (i := 79) rfl), rfl⟩
def mX6_paper : MI := (yX6_paper, cX6_paper, 6, (some .int))
theorem okX6_paper : inT (.initialized mX6_paper.1.cls) ∧ inT (.code mX6_paper.1 mX6_paper.2.1 mX6_paper.2.2.1 mX6_paper.2.2.2) := ⟨⟨t1 (List.mem_of_getElem? (i := 1) rfl), rfl⟩, ⟨t2 (List.mem_of_getElem? (i := 93) rfl), rfl⟩⟩
theorem imX6_paper : inT (.instanceMethod mX6_paper.1) := ⟨t2 (List.mem_of_getElem? (i := 91) rfl), rfl⟩
theorem seX6_paper : inT (.selects mX6_paper.1.cls mX6_paper.1 mX6_paper.1) := ⟨t2 (List.mem_of_getElem? (i := 92) rfl), rfl⟩
def mX6_oppose : MI := (yX6_oppose, cX6_oppose, 5, (some .int))
theorem okX6_oppose : inT (.initialized mX6_oppose.1.cls) ∧ inT (.code mX6_oppose.1 mX6_oppose.2.1 mX6_oppose.2.2.1 mX6_oppose.2.2.2) := ⟨⟨t1 (List.mem_of_getElem? (i := 1) rfl), rfl⟩, ⟨t2 (List.mem_of_getElem? (i := 177) rfl), rfl⟩⟩
theorem imX6_oppose : inT (.instanceMethod mX6_oppose.1) := ⟨t2 (List.mem_of_getElem? (i := 175) rfl), rfl⟩
theorem seX6_oppose : inT (.selects mX6_oppose.1.cls mX6_oppose.1 mX6_oppose.1) := ⟨t2 (List.mem_of_getElem? (i := 176) rfl), rfl⟩
def mX6_undo : MI := (yX6_undo, cX6_undo, 1, (some .int))
theorem okX6_undo : inT (.initialized mX6_undo.1.cls) ∧ inT (.code mX6_undo.1 mX6_undo.2.1 mX6_undo.2.2.1 mX6_undo.2.2.2) := ⟨⟨t1 (List.mem_of_getElem? (i := 1) rfl), rfl⟩, ⟨t3 (List.mem_of_getElem? (i := 35) rfl), rfl⟩⟩
theorem imX6_undo : inT (.instanceMethod mX6_undo.1) := ⟨t3 (List.mem_of_getElem? (i := 33) rfl), rfl⟩
theorem seX6_undo : inT (.selects mX6_undo.1.cls mX6_undo.1 mX6_undo.1) := ⟨t3 (List.mem_of_getElem? (i := 34) rfl), rfl⟩
def mX6_paperOf : MI := (yX6_paperOf, cX6_paperOf, 3, (some .int))
theorem okX6_paperOf : inT (.initialized mX6_paperOf.1.cls) ∧ inT (.code mX6_paperOf.1 mX6_paperOf.2.1 mX6_paperOf.2.2.1 mX6_paperOf.2.2.2) := ⟨⟨t1 (List.mem_of_getElem? (i := 1) rfl), rfl⟩, ⟨t3 (List.mem_of_getElem? (i := 43) rfl), rfl⟩⟩
theorem imX6_paperOf : inT (.instanceMethod mX6_paperOf.1) := ⟨t3 (List.mem_of_getElem? (i := 41) rfl), rfl⟩
theorem seX6_paperOf : inT (.selects mX6_paperOf.1.cls mX6_paperOf.1 mX6_paperOf.1) := ⟨t3 (List.mem_of_getElem? (i := 42) rfl), rfl⟩
def mX6_markOf : MI := (yX6_markOf, cX6_markOf, 4, (some .int))
theorem okX6_markOf : inT (.initialized mX6_markOf.1.cls) ∧ inT (.code mX6_markOf.1 mX6_markOf.2.1 mX6_markOf.2.2.1 mX6_markOf.2.2.2) := ⟨⟨t1 (List.mem_of_getElem? (i := 1) rfl), rfl⟩, ⟨t3 (List.mem_of_getElem? (i := 47) rfl), rfl⟩⟩
theorem imX6_markOf : inT (.instanceMethod mX6_markOf.1) := ⟨t3 (List.mem_of_getElem? (i := 45) rfl), rfl⟩
theorem seX6_markOf : inT (.selects mX6_markOf.1.cls mX6_markOf.1 mX6_markOf.1) := ⟨t3 (List.mem_of_getElem? (i := 46) rfl), rfl⟩
def mX6_soundOf : MI := (yX6_soundOf, cX6_soundOf, 4, (some .int))
theorem okX6_soundOf : inT (.initialized mX6_soundOf.1.cls) ∧ inT (.code mX6_soundOf.1 mX6_soundOf.2.1 mX6_soundOf.2.2.1 mX6_soundOf.2.2.2) := ⟨⟨t1 (List.mem_of_getElem? (i := 1) rfl), rfl⟩, ⟨t3 (List.mem_of_getElem? (i := 55) rfl), rfl⟩⟩
theorem imX6_soundOf : inT (.instanceMethod mX6_soundOf.1) := ⟨t3 (List.mem_of_getElem? (i := 53) rfl), rfl⟩
theorem seX6_soundOf : inT (.selects mX6_soundOf.1.cls mX6_soundOf.1 mX6_soundOf.1) := ⟨t3 (List.mem_of_getElem? (i := 54) rfl), rfl⟩
def mX6_like : MI := (yX6_like, cX6_like, 6, (some .int))
theorem okX6_like : inT (.initialized mX6_like.1.cls) ∧ inT (.code mX6_like.1 mX6_like.2.1 mX6_like.2.2.1 mX6_like.2.2.2) := ⟨⟨t1 (List.mem_of_getElem? (i := 1) rfl), rfl⟩, ⟨t3 (List.mem_of_getElem? (i := 64) rfl), rfl⟩⟩
theorem imX6_like : inT (.instanceMethod mX6_like.1) := ⟨t3 (List.mem_of_getElem? (i := 62) rfl), rfl⟩
theorem seX6_like : inT (.selects mX6_like.1.cls mX6_like.1 mX6_like.1) := ⟨t3 (List.mem_of_getElem? (i := 63) rfl), rfl⟩
def mX6_right : MI := (yX6_right, cX6_right, 7, (some .int))
theorem okX6_right : inT (.initialized mX6_right.1.cls) ∧ inT (.code mX6_right.1 mX6_right.2.1 mX6_right.2.2.1 mX6_right.2.2.2) := ⟨⟨t1 (List.mem_of_getElem? (i := 1) rfl), rfl⟩, ⟨t3 (List.mem_of_getElem? (i := 72) rfl), rfl⟩⟩
theorem imX6_right : inT (.instanceMethod mX6_right.1) := ⟨t3 (List.mem_of_getElem? (i := 70) rfl), rfl⟩
theorem seX6_right : inT (.selects mX6_right.1.cls mX6_right.1 mX6_right.1) := ⟨t3 (List.mem_of_getElem? (i := 71) rfl), rfl⟩
def mX6_state : MI := (yX6_state, cX6_state, 4, (some .int))
theorem okX6_state : inT (.initialized mX6_state.1.cls) ∧ inT (.code mX6_state.1 mX6_state.2.1 mX6_state.2.2.1 mX6_state.2.2.2) := ⟨⟨t1 (List.mem_of_getElem? (i := 1) rfl), rfl⟩, ⟨t3 (List.mem_of_getElem? (i := 80) rfl), rfl⟩⟩
theorem imX6_state : inT (.instanceMethod mX6_state.1) := ⟨t3 (List.mem_of_getElem? (i := 78) rfl), rfl⟩
theorem seX6_state : inT (.selects mX6_state.1.cls mX6_state.1 mX6_state.1) := ⟨t3 (List.mem_of_getElem? (i := 79) rfl), rfl⟩
def mX6_clash : MI := (yX6_clash, cX6_clash, 5, (some .int))
theorem okX6_clash : inT (.initialized mX6_clash.1.cls) ∧ inT (.code mX6_clash.1 mX6_clash.2.1 mX6_clash.2.2.1 mX6_clash.2.2.2) := ⟨⟨t1 (List.mem_of_getElem? (i := 1) rfl), rfl⟩, ⟨t3 (List.mem_of_getElem? (i := 86) rfl), rfl⟩⟩
theorem imX6_clash : inT (.instanceMethod mX6_clash.1) := ⟨t3 (List.mem_of_getElem? (i := 84) rfl), rfl⟩
theorem seX6_clash : inT (.selects mX6_clash.1.cls mX6_clash.1 mX6_clash.1) := ⟨t3 (List.mem_of_getElem? (i := 85) rfl), rfl⟩
def mX6_first : MI := (yX6_first, cX6_first, 7, (some .int))
theorem okX6_first : inT (.initialized mX6_first.1.cls) ∧ inT (.code mX6_first.1 mX6_first.2.1 mX6_first.2.2.1 mX6_first.2.2.2) := ⟨⟨t1 (List.mem_of_getElem? (i := 1) rfl), rfl⟩, ⟨t3 (List.mem_of_getElem? (i := 90) rfl), rfl⟩⟩
theorem imX6_first : inT (.instanceMethod mX6_first.1) := ⟨t3 (List.mem_of_getElem? (i := 88) rfl), rfl⟩
theorem seX6_first : inT (.selects mX6_first.1.cls mX6_first.1 mX6_first.1) := ⟨t3 (List.mem_of_getElem? (i := 89) rfl), rfl⟩
def mX6_may : MI := (yX6_may, cX6_may, 12, (some .int))
theorem okX6_may : inT (.initialized mX6_may.1.cls) ∧ inT (.code mX6_may.1 mX6_may.2.1 mX6_may.2.2.1 mX6_may.2.2.2) := ⟨⟨t1 (List.mem_of_getElem? (i := 1) rfl), rfl⟩, ⟨t3 (List.mem_of_getElem? (i := 94) rfl), rfl⟩⟩
theorem imX6_may : inT (.instanceMethod mX6_may.1) := ⟨t3 (List.mem_of_getElem? (i := 92) rfl), rfl⟩
theorem seX6_may : inT (.selects mX6_may.1.cls mX6_may.1 mX6_may.1) := ⟨t3 (List.mem_of_getElem? (i := 93) rfl), rfl⟩
def mX6_watch : MI := (yX6_watch, cX6_watch, 8, (some .int))
theorem okX6_watch : inT (.initialized mX6_watch.1.cls) ∧ inT (.code mX6_watch.1 mX6_watch.2.1 mX6_watch.2.2.1 mX6_watch.2.2.2) := ⟨⟨t1 (List.mem_of_getElem? (i := 1) rfl), rfl⟩, ⟨t3 (List.mem_of_getElem? (i := 106) rfl), rfl⟩⟩
theorem imX6_watch : inT (.instanceMethod mX6_watch.1) := ⟨t3 (List.mem_of_getElem? (i := 104) rfl), rfl⟩
theorem seX6_watch : inT (.selects mX6_watch.1.cls mX6_watch.1 mX6_watch.1) := ⟨t3 (List.mem_of_getElem? (i := 105) rfl), rfl⟩
def mX6_about : MI := (yX6_about, cX6_about, 2, (some .int))
theorem okX6_about : inT (.initialized mX6_about.1.cls) ∧ inT (.code mX6_about.1 mX6_about.2.1 mX6_about.2.2.1 mX6_about.2.2.2) := ⟨⟨t1 (List.mem_of_getElem? (i := 1) rfl), rfl⟩, ⟨t3 (List.mem_of_getElem? (i := 118) rfl), rfl⟩⟩
theorem imX6_about : inT (.instanceMethod mX6_about.1) := ⟨t3 (List.mem_of_getElem? (i := 116) rfl), rfl⟩
theorem seX6_about : inT (.selects mX6_about.1.cls mX6_about.1 mX6_about.1) := ⟨t3 (List.mem_of_getElem? (i := 117) rfl), rfl⟩
def mX6_below : MI := (yX6_below, cX6_below, 2, (some .boolean))
theorem okX6_below : inT (.initialized mX6_below.1.cls) ∧ inT (.code mX6_below.1 mX6_below.2.1 mX6_below.2.2.1 mX6_below.2.2.2) := ⟨⟨t1 (List.mem_of_getElem? (i := 1) rfl), rfl⟩, ⟨t1 (List.mem_of_getElem? (i := 214) rfl), rfl⟩⟩
theorem stX6_below : inT (.static mX6_below.1) := ⟨t1 (List.mem_of_getElem? (i := 213) rfl), rfl⟩
def mX6_isDay : MI := (yX6_isDay, cX6_isDay, 1, (some .boolean))
theorem okX6_isDay : inT (.initialized mX6_isDay.1.cls) ∧ inT (.code mX6_isDay.1 mX6_isDay.2.1 mX6_isDay.2.2.1 mX6_isDay.2.2.2) := ⟨⟨t1 (List.mem_of_getElem? (i := 1) rfl), rfl⟩, ⟨t2 (List.mem_of_getElem? (i := 99) rfl), rfl⟩⟩
theorem stX6_isDay : inT (.static mX6_isDay.1) := ⟨t2 (List.mem_of_getElem? (i := 98) rfl), rfl⟩
def mX6_markAt : MI := (yX6_markAt, cX6_markAt, 2, (some (.object "MarksRegister$Mark")))
theorem okX6_markAt : inT (.initialized mX6_markAt.1.cls) ∧ inT (.code mX6_markAt.1 mX6_markAt.2.1 mX6_markAt.2.2.1 mX6_markAt.2.2.2) := ⟨⟨t1 (List.mem_of_getElem? (i := 1) rfl), rfl⟩, ⟨t2 (List.mem_of_getElem? (i := 68) rfl), rfl⟩⟩
theorem imX6_markAt : inT (.instanceMethod mX6_markAt.1) := ⟨t2 (List.mem_of_getElem? (i := 67) rfl), rfl⟩
theorem seX6_markAt : inT (.selects mX6_markAt.1.cls mX6_markAt.1 mX6_markAt.1) := ⟨t0 (q := (yX6_markAt, 11)) (p1 (List.mem_of_getElem? (i := 3) rfl)), rfl⟩
def mX6_boundOfX : MI := (yX6_boundOfX, cX6_boundOfX, 1, (some .int))
theorem okX6_boundOfX : inT (.initialized mX6_boundOfX.1.cls) ∧ inT (.code mX6_boundOfX.1 mX6_boundOfX.2.1 mX6_boundOfX.2.2.1 mX6_boundOfX.2.2.2) := ⟨⟨t1 (List.mem_of_getElem? (i := 1) rfl), rfl⟩, ⟨t2 (List.mem_of_getElem? (i := 96) rfl), rfl⟩⟩
theorem stX6_boundOfX : inT (.static mX6_boundOfX.1) := ⟨t2 (List.mem_of_getElem? (i := 95) rfl), rfl⟩
def mX6_canBe : MI := (yX6_canBe, cX6_canBe, 5, (some .boolean))
theorem okX6_canBe : inT (.initialized mX6_canBe.1.cls) ∧ inT (.code mX6_canBe.1 mX6_canBe.2.1 mX6_canBe.2.2.1 mX6_canBe.2.2.2) := ⟨⟨t1 (List.mem_of_getElem? (i := 1) rfl), rfl⟩, ⟨t2 (List.mem_of_getElem? (i := 144) rfl), rfl⟩⟩
theorem imX6_canBe : inT (.instanceMethod mX6_canBe.1) := ⟨t2 (List.mem_of_getElem? (i := 143) rfl), rfl⟩
theorem seX6_canBe : inT (.selects mX6_canBe.1.cls mX6_canBe.1 mX6_canBe.1) := ⟨t0 (q := (yX6_canBe, 11)) (p1 (List.mem_of_getElem? (i := 11) rfl)), rfl⟩
def mX6_isOfKind : MI := (yX6_isOfKind, cX6_isOfKind, 4, (some .boolean))
theorem okX6_isOfKind : inT (.initialized mX6_isOfKind.1.cls) ∧ inT (.code mX6_isOfKind.1 mX6_isOfKind.2.1 mX6_isOfKind.2.2.1 mX6_isOfKind.2.2.2) := ⟨⟨t1 (List.mem_of_getElem? (i := 1) rfl), rfl⟩, ⟨t2 (List.mem_of_getElem? (i := 169) rfl), rfl⟩⟩
theorem imX6_isOfKind : inT (.instanceMethod mX6_isOfKind.1) := ⟨t2 (List.mem_of_getElem? (i := 168) rfl), rfl⟩
theorem seX6_isOfKind : inT (.selects mX6_isOfKind.1.cls mX6_isOfKind.1 mX6_isOfKind.1) := ⟨t0 (q := (yX6_isOfKind, 11)) (p1 (List.mem_of_getElem? (i := 12) rfl)), rfl⟩
def mX6_haveOneOwner : MI := (yX6_haveOneOwner, cX6_haveOneOwner, 5, (some .boolean))
theorem okX6_haveOneOwner : inT (.initialized mX6_haveOneOwner.1.cls) ∧ inT (.code mX6_haveOneOwner.1 mX6_haveOneOwner.2.1 mX6_haveOneOwner.2.2.1 mX6_haveOneOwner.2.2.2) := ⟨⟨t1 (List.mem_of_getElem? (i := 1) rfl), rfl⟩, ⟨t2 (List.mem_of_getElem? (i := 189) rfl), rfl⟩⟩
theorem imX6_haveOneOwner : inT (.instanceMethod mX6_haveOneOwner.1) := ⟨t2 (List.mem_of_getElem? (i := 188) rfl), rfl⟩
theorem seX6_haveOneOwner : inT (.selects mX6_haveOneOwner.1.cls mX6_haveOneOwner.1 mX6_haveOneOwner.1) := ⟨t0 (q := (yX6_haveOneOwner, 11)) (p1 (List.mem_of_getElem? (i := 14) rfl)), rfl⟩
def mX6_likeOf : MI := (yX6_likeOf, cX6_likeOf, 5, (some .int))
theorem okX6_likeOf : inT (.initialized mX6_likeOf.1.cls) ∧ inT (.code mX6_likeOf.1 mX6_likeOf.2.1 mX6_likeOf.2.2.1 mX6_likeOf.2.2.2) := ⟨⟨t1 (List.mem_of_getElem? (i := 1) rfl), rfl⟩, ⟨t2 (List.mem_of_getElem? (i := 217) rfl), rfl⟩⟩
theorem imX6_likeOf : inT (.instanceMethod mX6_likeOf.1) := ⟨t2 (List.mem_of_getElem? (i := 216) rfl), rfl⟩
theorem seX6_likeOf : inT (.selects mX6_likeOf.1.cls mX6_likeOf.1 mX6_likeOf.1) := ⟨t0 (q := (yX6_likeOf, 11)) (p2 (List.mem_of_getElem? (i := 0) rfl)), rfl⟩
def mX6_areAlike : MI := (yX6_areAlike, cX6_areAlike, 5, (some .boolean))
theorem okX6_areAlike : inT (.initialized mX6_areAlike.1.cls) ∧ inT (.code mX6_areAlike.1 mX6_areAlike.2.1 mX6_areAlike.2.2.1 mX6_areAlike.2.2.2) := ⟨⟨t1 (List.mem_of_getElem? (i := 1) rfl), rfl⟩, ⟨t2 (List.mem_of_getElem? (i := 213) rfl), rfl⟩⟩
theorem imX6_areAlike : inT (.instanceMethod mX6_areAlike.1) := ⟨t2 (List.mem_of_getElem? (i := 212) rfl), rfl⟩
theorem seX6_areAlike : inT (.selects mX6_areAlike.1.cls mX6_areAlike.1 mX6_areAlike.1) := ⟨t0 (q := (yX6_areAlike, 11)) (p1 (List.mem_of_getElem? (i := 15) rfl)), rfl⟩
def mX6_isNear : MI := (yX6_isNear, cX6_isNear, 3, (some .boolean))
theorem okX6_isNear : inT (.initialized mX6_isNear.1.cls) ∧ inT (.code mX6_isNear.1 mX6_isNear.2.1 mX6_isNear.2.2.1 mX6_isNear.2.2.2) := ⟨⟨t1 (List.mem_of_getElem? (i := 1) rfl), rfl⟩, ⟨t3 (List.mem_of_getElem? (i := 17) rfl), rfl⟩⟩
theorem imX6_isNear : inT (.instanceMethod mX6_isNear.1) := ⟨t3 (List.mem_of_getElem? (i := 16) rfl), rfl⟩
theorem seX6_isNear : inT (.selects mX6_isNear.1.cls mX6_isNear.1 mX6_isNear.1) := ⟨t0 (q := (yX6_isNear, 11)) (p2 (List.mem_of_getElem? (i := 5) rfl)), rfl⟩
def mX6_earliestNear : MI := (yX6_earliestNear, cX6_earliestNear, 5, (some .int))
theorem okX6_earliestNear : inT (.initialized mX6_earliestNear.1.cls) ∧ inT (.code mX6_earliestNear.1 mX6_earliestNear.2.1 mX6_earliestNear.2.2.1 mX6_earliestNear.2.2.2) := ⟨⟨t1 (List.mem_of_getElem? (i := 1) rfl), rfl⟩, ⟨t3 (List.mem_of_getElem? (i := 98) rfl), rfl⟩⟩
theorem imX6_earliestNear : inT (.instanceMethod mX6_earliestNear.1) := ⟨t3 (List.mem_of_getElem? (i := 97) rfl), rfl⟩
theorem seX6_earliestNear : inT (.selects mX6_earliestNear.1.cls mX6_earliestNear.1 mX6_earliestNear.1) := ⟨t0 (q := (yX6_earliestNear, 11)) (p2 (List.mem_of_getElem? (i := 6) rfl)), rfl⟩
def mX6_standsNearYounger : MI := (yX6_standsNearYounger, cX6_standsNearYounger, 2, (some .boolean))
theorem okX6_standsNearYounger : inT (.initialized mX6_standsNearYounger.1.cls) ∧ inT (.code mX6_standsNearYounger.1 mX6_standsNearYounger.2.1 mX6_standsNearYounger.2.2.1 mX6_standsNearYounger.2.2.2) := ⟨⟨t1 (List.mem_of_getElem? (i := 1) rfl), rfl⟩, ⟨t3 (List.mem_of_getElem? (i := 114) rfl), rfl⟩⟩
theorem imX6_standsNearYounger : inT (.instanceMethod mX6_standsNearYounger.1) := ⟨t3 (List.mem_of_getElem? (i := 113) rfl), rfl⟩
theorem seX6_standsNearYounger : inT (.selects mX6_standsNearYounger.1.cls mX6_standsNearYounger.1 mX6_standsNearYounger.1) := ⟨t0 (q := (yX6_standsNearYounger, 11)) (p2 (List.mem_of_getElem? (i := 8) rfl)), rfl⟩
def mX6_claimOf : MI := (yX6_claimOf, cX6_claimOf, 5, (some .int))
theorem okX6_claimOf : inT (.initialized mX6_claimOf.1.cls) ∧ inT (.code mX6_claimOf.1 mX6_claimOf.2.1 mX6_claimOf.2.2.1 mX6_claimOf.2.2.2) := ⟨⟨t1 (List.mem_of_getElem? (i := 1) rfl), rfl⟩, ⟨t3 (List.mem_of_getElem? (i := 102) rfl), rfl⟩⟩
theorem imX6_claimOf : inT (.instanceMethod mX6_claimOf.1) := ⟨t3 (List.mem_of_getElem? (i := 101) rfl), rfl⟩
theorem seX6_claimOf : inT (.selects mX6_claimOf.1.cls mX6_claimOf.1 mX6_claimOf.1) := ⟨t0 (q := (yX6_claimOf, 11)) (p2 (List.mem_of_getElem? (i := 7) rfl)), rfl⟩
def mX6_findClash : MI := (yX6_findClash, cX6_findClash, 7, none)
theorem okX6_findClash : inT (.initialized mX6_findClash.1.cls) ∧ inT (.code mX6_findClash.1 mX6_findClash.2.1 mX6_findClash.2.2.1 mX6_findClash.2.2.2) := ⟨⟨t1 (List.mem_of_getElem? (i := 1) rfl), rfl⟩, ⟨t2 (List.mem_of_getElem? (i := 181) rfl), rfl⟩⟩
theorem imX6_findClash : inT (.instanceMethod mX6_findClash.1) := ⟨t2 (List.mem_of_getElem? (i := 180) rfl), rfl⟩
theorem seX6_findClash : inT (.selects mX6_findClash.1.cls mX6_findClash.1 mX6_findClash.1) := ⟨t0 (q := (yX6_findClash, 11)) (p1 (List.mem_of_getElem? (i := 13) rfl)), rfl⟩
def mX6_findClashOver : MI := (yX6_findClashOver, cX6_findClashOver, 11, none)
theorem okX6_findClashOver : inT (.initialized mX6_findClashOver.1.cls) ∧ inT (.code mX6_findClashOver.1 mX6_findClashOver.2.1 mX6_findClashOver.2.2.1 mX6_findClashOver.2.2.2) := ⟨⟨t1 (List.mem_of_getElem? (i := 1) rfl), rfl⟩, ⟨t3 (List.mem_of_getElem? (i := 12) rfl), rfl⟩⟩
theorem imX6_findClashOver : inT (.instanceMethod mX6_findClashOver.1) := ⟨t3 (List.mem_of_getElem? (i := 11) rfl), rfl⟩
theorem seX6_findClashOver : inT (.selects mX6_findClashOver.1.cls mX6_findClashOver.1 mX6_findClashOver.1) := ⟨t0 (q := (yX6_findClashOver, 11)) (p2 (List.mem_of_getElem? (i := 4) rfl)), rfl⟩
def mX7_init : MI := (yX7_init, cX7_init, 3, none)
theorem okX7_init : inT (.initialized mX7_init.1.cls) ∧ inT (.code mX7_init.1 mX7_init.2.1 mX7_init.2.2.1 mX7_init.2.2.2) := ⟨⟨t1 (List.mem_of_getElem? (i := 8) rfl), rfl⟩, ⟨t3 (List.mem_of_getElem? (i := 124) rfl), rfl⟩⟩
theorem imX7_init : inT (.instanceMethod mX7_init.1) := ⟨t3 (List.mem_of_getElem? (i := 123) rfl), rfl⟩
def mX7_in : MI := (yX7_in, cX7_in, 3, (some .boolean))
theorem okX7_in : inT (.initialized mX7_in.1.cls) ∧ inT (.code mX7_in.1 mX7_in.2.1 mX7_in.2.2.1 mX7_in.2.2.2) := ⟨⟨t1 (List.mem_of_getElem? (i := 8) rfl), rfl⟩, ⟨t3 (List.mem_of_getElem? (i := 214) rfl), rfl⟩⟩
theorem stX7_in : inT (.static mX7_in.1) := ⟨t3 (List.mem_of_getElem? (i := 213) rfl), rfl⟩
def mX7_isMark : MI := (yX7_isMark, cX7_isMark, 2, (some .boolean))
theorem okX7_isMark : inT (.initialized mX7_isMark.1.cls) ∧ inT (.code mX7_isMark.1 mX7_isMark.2.1 mX7_isMark.2.2.1 mX7_isMark.2.2.2) := ⟨⟨t1 (List.mem_of_getElem? (i := 8) rfl), rfl⟩, ⟨t4 (List.mem_of_getElem? (i := 12) rfl), rfl⟩⟩
theorem imX7_isMark : inT (.instanceMethod mX7_isMark.1) := ⟨t4 (List.mem_of_getElem? (i := 11) rfl), rfl⟩
theorem seX7_isMark : inT (.selects mX7_isMark.1.cls mX7_isMark.1 mX7_isMark.1) := ⟨t0 (q := (yX7_isMark, 27)) (p2 (List.mem_of_getElem? (i := 10) rfl)), rfl⟩
def mX7_isDay : MI := (yX7_isDay, cX7_isDay, 1, (some .boolean))
theorem okX7_isDay : inT (.initialized mX7_isDay.1.cls) ∧ inT (.code mX7_isDay.1 mX7_isDay.2.1 mX7_isDay.2.2.1 mX7_isDay.2.2.2) := ⟨⟨t1 (List.mem_of_getElem? (i := 8) rfl), rfl⟩, ⟨t4 (List.mem_of_getElem? (i := 37) rfl), rfl⟩⟩
theorem stX7_isDay : inT (.static mX7_isDay.1) := ⟨t4 (List.mem_of_getElem? (i := 36) rfl), rfl⟩
def mX7_isCountry : MI := (yX7_isCountry, cX7_isCountry, 1, (some .boolean))
theorem okX7_isCountry : inT (.initialized mX7_isCountry.1.cls) ∧ inT (.code mX7_isCountry.1 mX7_isCountry.2.1 mX7_isCountry.2.2.1 mX7_isCountry.2.2.2) := ⟨⟨t1 (List.mem_of_getElem? (i := 8) rfl), rfl⟩, ⟨t4 (List.mem_of_getElem? (i := 34) rfl), rfl⟩⟩
theorem stX7_isCountry : inT (.static mX7_isCountry.1) := ⟨t4 (List.mem_of_getElem? (i := 33) rfl), rfl⟩
def mX7_isGoods : MI := (yX7_isGoods, cX7_isGoods, 1, (some .boolean))
theorem okX7_isGoods : inT (.initialized mX7_isGoods.1.cls) ∧ inT (.code mX7_isGoods.1 mX7_isGoods.2.1 mX7_isGoods.2.2.1 mX7_isGoods.2.2.2) := ⟨⟨t1 (List.mem_of_getElem? (i := 8) rfl), rfl⟩, ⟨t3 (List.mem_of_getElem? (i := 229) rfl), rfl⟩⟩
theorem stX7_isGoods : inT (.static mX7_isGoods.1) := ⟨t3 (List.mem_of_getElem? (i := 228) rfl), rfl⟩
def mX7_isPerson : MI := (yX7_isPerson, cX7_isPerson, 1, (some .boolean))
theorem okX7_isPerson : inT (.initialized mX7_isPerson.1.cls) ∧ inT (.code mX7_isPerson.1 mX7_isPerson.2.1 mX7_isPerson.2.2.1 mX7_isPerson.2.2.2) := ⟨⟨t1 (List.mem_of_getElem? (i := 8) rfl), rfl⟩, ⟨t4 (List.mem_of_getElem? (i := 4) rfl), rfl⟩⟩
theorem stX7_isPerson : inT (.static mX7_isPerson.1) := ⟨t4 (List.mem_of_getElem? (i := 3) rfl), rfl⟩
def mX7_row : MI := (yX7_row, cX7_row, 4, (some .boolean))
theorem okX7_row : inT (.initialized mX7_row.1.cls) ∧ inT (.code mX7_row.1 mX7_row.2.1 mX7_row.2.2.1 mX7_row.2.2.2) := ⟨⟨t1 (List.mem_of_getElem? (i := 8) rfl), rfl⟩, ⟨t3 (List.mem_of_getElem? (i := 211) rfl), rfl⟩⟩
theorem imX7_row : inT (.instanceMethod mX7_row.1) := ⟨t3 (List.mem_of_getElem? (i := 209) rfl), rfl⟩
theorem seX7_row : inT (.selects mX7_row.1.cls mX7_row.1 mX7_row.1) := ⟨t3 (List.mem_of_getElem? (i := 210) rfl), rfl⟩
def mX7_sound : MI := (yX7_sound, cX7_sound, 4, (some .boolean))
theorem okX7_sound : inT (.initialized mX7_sound.1.cls) ∧ inT (.code mX7_sound.1 mX7_sound.2.1 mX7_sound.2.2.1 mX7_sound.2.2.2) := ⟨⟨t1 (List.mem_of_getElem? (i := 8) rfl), rfl⟩, ⟨t3 (List.mem_of_getElem? (i := 218) rfl), rfl⟩⟩
theorem imX7_sound : inT (.instanceMethod mX7_sound.1) := ⟨t3 (List.mem_of_getElem? (i := 216) rfl), rfl⟩
theorem seX7_sound : inT (.selects mX7_sound.1.cls mX7_sound.1 mX7_sound.1) := ⟨t3 (List.mem_of_getElem? (i := 217) rfl), rfl⟩
def mX7_cost : MI := (yX7_cost, cX7_cost, 4, (some .boolean))
theorem okX7_cost : inT (.initialized mX7_cost.1.cls) ∧ inT (.code mX7_cost.1 mX7_cost.2.1 mX7_cost.2.2.1 mX7_cost.2.2.2) := ⟨⟨t1 (List.mem_of_getElem? (i := 8) rfl), rfl⟩, ⟨t3 (List.mem_of_getElem? (i := 222) rfl), rfl⟩⟩
theorem imX7_cost : inT (.instanceMethod mX7_cost.1) := ⟨t3 (List.mem_of_getElem? (i := 220) rfl), rfl⟩
theorem seX7_cost : inT (.selects mX7_cost.1.cls mX7_cost.1 mX7_cost.1) := ⟨t3 (List.mem_of_getElem? (i := 221) rfl), rfl⟩
def mX7_pairOf : MI := (yX7_pairOf, cX7_pairOf, 7, (some .int))
theorem okX7_pairOf : inT (.initialized mX7_pairOf.1.cls) ∧ inT (.code mX7_pairOf.1 mX7_pairOf.2.1 mX7_pairOf.2.2.1 mX7_pairOf.2.2.2) := ⟨⟨t1 (List.mem_of_getElem? (i := 8) rfl), rfl⟩, ⟨t3 (List.mem_of_getElem? (i := 233) rfl), rfl⟩⟩
theorem imX7_pairOf : inT (.instanceMethod mX7_pairOf.1) := ⟨t3 (List.mem_of_getElem? (i := 232) rfl), rfl⟩
theorem seX7_pairOf : inT (.selects mX7_pairOf.1.cls mX7_pairOf.1 mX7_pairOf.1) := ⟨t0 (q := (yX7_pairOf, 27)) (p2 (List.mem_of_getElem? (i := 9) rfl)), rfl⟩
def mX7_near : MI := (yX7_near, cX7_near, 5, (some .boolean))
theorem okX7_near : inT (.initialized mX7_near.1.cls) ∧ inT (.code mX7_near.1 mX7_near.2.1 mX7_near.2.2.1 mX7_near.2.2.2) := ⟨⟨t1 (List.mem_of_getElem? (i := 8) rfl), rfl⟩, ⟨t3 (List.mem_of_getElem? (i := 226) rfl), rfl⟩⟩
theorem imX7_near : inT (.instanceMethod mX7_near.1) := ⟨t3 (List.mem_of_getElem? (i := 224) rfl), rfl⟩
theorem seX7_near : inT (.selects mX7_near.1.cls mX7_near.1 mX7_near.1) := ⟨t3 (List.mem_of_getElem? (i := 225) rfl), rfl⟩
def mX7_nearOf : MI := (yX7_nearOf, cX7_nearOf, 4, (some .int))
theorem okX7_nearOf : inT (.initialized mX7_nearOf.1.cls) ∧ inT (.code mX7_nearOf.1 mX7_nearOf.2.1 mX7_nearOf.2.2.1 mX7_nearOf.2.2.2) := ⟨⟨t1 (List.mem_of_getElem? (i := 8) rfl), rfl⟩, ⟨t4 (List.mem_of_getElem? (i := 131) rfl), rfl⟩⟩
theorem imX7_nearOf : inT (.instanceMethod mX7_nearOf.1) := ⟨t4 (List.mem_of_getElem? (i := 130) rfl), rfl⟩
theorem seX7_nearOf : inT (.selects mX7_nearOf.1.cls mX7_nearOf.1 mX7_nearOf.1) := ⟨t0 (q := (yX7_nearOf, 27)) (p4 (List.mem_of_getElem? (i := 2) rfl)), rfl⟩
def mX7_levels : MI := (yX7_levels, cX7_levels, 3, (some .boolean))
theorem okX7_levels : inT (.initialized mX7_levels.1.cls) ∧ inT (.code mX7_levels.1 mX7_levels.2.1 mX7_levels.2.2.1 mX7_levels.2.2.2) := ⟨⟨t1 (List.mem_of_getElem? (i := 8) rfl), rfl⟩, ⟨t3 (List.mem_of_getElem? (i := 237) rfl), rfl⟩⟩
theorem imX7_levels : inT (.instanceMethod mX7_levels.1) := ⟨t3 (List.mem_of_getElem? (i := 235) rfl), rfl⟩
theorem seX7_levels : inT (.selects mX7_levels.1.cls mX7_levels.1 mX7_levels.1) := ⟨t3 (List.mem_of_getElem? (i := 236) rfl), rfl⟩
def mX7_mark : MI := (yX7_mark, cX7_mark, 3, (some .int))
theorem okX7_mark : inT (.initialized mX7_mark.1.cls) ∧ inT (.code mX7_mark.1 mX7_mark.2.1 mX7_mark.2.2.1 mX7_mark.2.2.2) := ⟨⟨t1 (List.mem_of_getElem? (i := 8) rfl), rfl⟩, ⟨t4 (List.mem_of_getElem? (i := 1) rfl), rfl⟩⟩
theorem imX7_mark : inT (.instanceMethod mX7_mark.1) := ⟨t3 (List.mem_of_getElem? (i := 239) rfl), rfl⟩
theorem seX7_mark : inT (.selects mX7_mark.1.cls mX7_mark.1 mX7_mark.1) := ⟨t4 (List.mem_of_getElem? (i := 0) rfl), rfl⟩
def mX7_hasPaper : MI := (yX7_hasPaper, cX7_hasPaper, 4, (some .boolean))
theorem okX7_hasPaper : inT (.initialized mX7_hasPaper.1.cls) ∧ inT (.code mX7_hasPaper.1 mX7_hasPaper.2.1 mX7_hasPaper.2.2.1 mX7_hasPaper.2.2.2) := ⟨⟨t1 (List.mem_of_getElem? (i := 8) rfl), rfl⟩, ⟨t4 (List.mem_of_getElem? (i := 16) rfl), rfl⟩⟩
theorem imX7_hasPaper : inT (.instanceMethod mX7_hasPaper.1) := ⟨t4 (List.mem_of_getElem? (i := 15) rfl), rfl⟩
theorem seX7_hasPaper : inT (.selects mX7_hasPaper.1.cls mX7_hasPaper.1 mX7_hasPaper.1) := ⟨t0 (q := (yX7_hasPaper, 27)) (p2 (List.mem_of_getElem? (i := 11) rfl)), rfl⟩
def mX7_letter : MI := (yX7_letter, cX7_letter, 3, (some .int))
theorem okX7_letter : inT (.initialized mX7_letter.1.cls) ∧ inT (.code mX7_letter.1 mX7_letter.2.1 mX7_letter.2.2.1 mX7_letter.2.2.2) := ⟨⟨t1 (List.mem_of_getElem? (i := 8) rfl), rfl⟩, ⟨t4 (List.mem_of_getElem? (i := 8) rfl), rfl⟩⟩
theorem imX7_letter : inT (.instanceMethod mX7_letter.1) := ⟨t4 (List.mem_of_getElem? (i := 6) rfl), rfl⟩
theorem seX7_letter : inT (.selects mX7_letter.1.cls mX7_letter.1 mX7_letter.1) := ⟨t4 (List.mem_of_getElem? (i := 7) rfl), rfl⟩
def mX7_code : MI := (yX7_code, cX7_code, 3, (some .int))
theorem okX7_code : inT (.initialized mX7_code.1.cls) ∧ inT (.code mX7_code.1 mX7_code.2.1 mX7_code.2.2.1 mX7_code.2.2.2) := ⟨⟨t1 (List.mem_of_getElem? (i := 8) rfl), rfl⟩, ⟨t4 (List.mem_of_getElem? (i := 20) rfl), rfl⟩⟩
theorem imX7_code : inT (.instanceMethod mX7_code.1) := ⟨t4 (List.mem_of_getElem? (i := 18) rfl), rfl⟩
theorem seX7_code : inT (.selects mX7_code.1.cls mX7_code.1 mX7_code.1) := ⟨t4 (List.mem_of_getElem? (i := 19) rfl), rfl⟩
def mX7_hasCode : MI := (yX7_hasCode, cX7_hasCode, 5, (some .boolean))
theorem okX7_hasCode : inT (.initialized mX7_hasCode.1.cls) ∧ inT (.code mX7_hasCode.1 mX7_hasCode.2.1 mX7_hasCode.2.2.1 mX7_hasCode.2.2.2) := ⟨⟨t1 (List.mem_of_getElem? (i := 8) rfl), rfl⟩, ⟨t4 (List.mem_of_getElem? (i := 24) rfl), rfl⟩⟩
theorem imX7_hasCode : inT (.instanceMethod mX7_hasCode.1) := ⟨t4 (List.mem_of_getElem? (i := 23) rfl), rfl⟩
theorem seX7_hasCode : inT (.selects mX7_hasCode.1.cls mX7_hasCode.1 mX7_hasCode.1) := ⟨t0 (q := (yX7_hasCode, 27)) (p2 (List.mem_of_getElem? (i := 12) rfl)), rfl⟩
def mX7_soundOfLetter : MI := (yX7_soundOfLetter, cX7_soundOfLetter, 5, (some .int))
theorem okX7_soundOfLetter : inT (.initialized mX7_soundOfLetter.1.cls) ∧ inT (.code mX7_soundOfLetter.1 mX7_soundOfLetter.2.1 mX7_soundOfLetter.2.2.1 mX7_soundOfLetter.2.2.2) := ⟨⟨t1 (List.mem_of_getElem? (i := 8) rfl), rfl⟩, ⟨t4 (List.mem_of_getElem? (i := 118) rfl), rfl⟩⟩
theorem imX7_soundOfLetter : inT (.instanceMethod mX7_soundOfLetter.1) := ⟨t4 (List.mem_of_getElem? (i := 117) rfl), rfl⟩
theorem seX7_soundOfLetter : inT (.selects mX7_soundOfLetter.1.cls mX7_soundOfLetter.1 mX7_soundOfLetter.1) := ⟨t0 (q := (yX7_soundOfLetter, 27)) (p3 (List.mem_of_getElem? (i := 15) rfl)), rfl⟩
def mX7_soundsInto : MI := (yX7_soundsInto, cX7_soundsInto, 6, (some .int))
theorem okX7_soundsInto : inT (.initialized mX7_soundsInto.1.cls) ∧ inT (.code mX7_soundsInto.1 mX7_soundsInto.2.1 mX7_soundsInto.2.2.1 mX7_soundsInto.2.2.2) := ⟨⟨t1 (List.mem_of_getElem? (i := 8) rfl), rfl⟩, ⟨t4 (List.mem_of_getElem? (i := 114) rfl), rfl⟩⟩
theorem imX7_soundsInto : inT (.instanceMethod mX7_soundsInto.1) := ⟨t4 (List.mem_of_getElem? (i := 113) rfl), rfl⟩
theorem seX7_soundsInto : inT (.selects mX7_soundsInto.1.cls mX7_soundsInto.1 mX7_soundsInto.1) := ⟨t0 (q := (yX7_soundsInto, 27)) (p3 (List.mem_of_getElem? (i := 14) rfl)), rfl⟩
def mX7_costOf : MI := (yX7_costOf, cX7_costOf, 9, (some .int))
theorem okX7_costOf : inT (.initialized mX7_costOf.1.cls) ∧ inT (.code mX7_costOf.1 mX7_costOf.2.1 mX7_costOf.2.2.1 mX7_costOf.2.2.2) := ⟨⟨t1 (List.mem_of_getElem? (i := 8) rfl), rfl⟩, ⟨t4 (List.mem_of_getElem? (i := 110) rfl), rfl⟩⟩
theorem imX7_costOf : inT (.instanceMethod mX7_costOf.1) := ⟨t4 (List.mem_of_getElem? (i := 109) rfl), rfl⟩
theorem seX7_costOf : inT (.selects mX7_costOf.1.cls mX7_costOf.1 mX7_costOf.1) := ⟨t0 (q := (yX7_costOf, 27)) (p3 (List.mem_of_getElem? (i := 13) rfl)), rfl⟩
def mX7_wordsLike : MI := (yX7_wordsLike, cX7_wordsLike, 8, (some .int))
theorem okX7_wordsLike : inT (.initialized mX7_wordsLike.1.cls) ∧ inT (.code mX7_wordsLike.1 mX7_wordsLike.2.1 mX7_wordsLike.2.2.1 mX7_wordsLike.2.2.2) := ⟨⟨t1 (List.mem_of_getElem? (i := 8) rfl), rfl⟩, ⟨t4 (List.mem_of_getElem? (i := 106) rfl), rfl⟩⟩
theorem imX7_wordsLike : inT (.instanceMethod mX7_wordsLike.1) := ⟨t4 (List.mem_of_getElem? (i := 105) rfl), rfl⟩
theorem seX7_wordsLike : inT (.selects mX7_wordsLike.1.cls mX7_wordsLike.1 mX7_wordsLike.1) := ⟨t0 (q := (yX7_wordsLike, 27)) (p3 (List.mem_of_getElem? (i := 12) rfl)), rfl⟩
def mX7_codesLike : MI := (yX7_codesLike, cX7_codesLike, 5, (some .int))
theorem okX7_codesLike : inT (.initialized mX7_codesLike.1.cls) ∧ inT (.code mX7_codesLike.1 mX7_codesLike.2.1 mX7_codesLike.2.2.1 mX7_codesLike.2.2.2) := ⟨⟨t1 (List.mem_of_getElem? (i := 8) rfl), rfl⟩, ⟨t4 (List.mem_of_getElem? (i := 102) rfl), rfl⟩⟩
theorem imX7_codesLike : inT (.instanceMethod mX7_codesLike.1) := ⟨t4 (List.mem_of_getElem? (i := 101) rfl), rfl⟩
theorem seX7_codesLike : inT (.selects mX7_codesLike.1.cls mX7_codesLike.1 mX7_codesLike.1) := ⟨t0 (q := (yX7_codesLike, 27)) (p3 (List.mem_of_getElem? (i := 11) rfl)), rfl⟩
def mX7_likeOf : MI := (yX7_likeOf, cX7_likeOf, 9, (some .int))
theorem okX7_likeOf : inT (.initialized mX7_likeOf.1.cls) ∧ inT (.code mX7_likeOf.1 mX7_likeOf.2.1 mX7_likeOf.2.2.1 mX7_likeOf.2.2.2) := ⟨⟨t1 (List.mem_of_getElem? (i := 8) rfl), rfl⟩, ⟨t4 (List.mem_of_getElem? (i := 98) rfl), rfl⟩⟩
theorem imX7_likeOf : inT (.instanceMethod mX7_likeOf.1) := ⟨t4 (List.mem_of_getElem? (i := 97) rfl), rfl⟩
theorem seX7_likeOf : inT (.selects mX7_likeOf.1.cls mX7_likeOf.1 mX7_likeOf.1) := ⟨t0 (q := (yX7_likeOf, 27)) (p3 (List.mem_of_getElem? (i := 10) rfl)), rfl⟩
def mX7_isAlike : MI := (yX7_isAlike, cX7_isAlike, 3, (some .boolean))
theorem okX7_isAlike : inT (.initialized mX7_isAlike.1.cls) ∧ inT (.code mX7_isAlike.1 mX7_isAlike.2.1 mX7_isAlike.2.2.1 mX7_isAlike.2.2.2) := ⟨⟨t1 (List.mem_of_getElem? (i := 8) rfl), rfl⟩, ⟨t4 (List.mem_of_getElem? (i := 94) rfl), rfl⟩⟩
theorem imX7_isAlike : inT (.instanceMethod mX7_isAlike.1) := ⟨t4 (List.mem_of_getElem? (i := 93) rfl), rfl⟩
theorem seX7_isAlike : inT (.selects mX7_isAlike.1.cls mX7_isAlike.1 mX7_isAlike.1) := ⟨t0 (q := (yX7_isAlike, 27)) (p3 (List.mem_of_getElem? (i := 9) rfl)), rfl⟩
def mX7_latest : MI := (yX7_latest, cX7_latest, 7, (some .int))
theorem okX7_latest : inT (.initialized mX7_latest.1.cls) ∧ inT (.code mX7_latest.1 mX7_latest.2.1 mX7_latest.2.2.1 mX7_latest.2.2.2) := ⟨⟨t1 (List.mem_of_getElem? (i := 8) rfl), rfl⟩, ⟨t4 (List.mem_of_getElem? (i := 54) rfl), rfl⟩⟩
theorem imX7_latest : inT (.instanceMethod mX7_latest.1) := ⟨t4 (List.mem_of_getElem? (i := 53) rfl), rfl⟩
theorem seX7_latest : inT (.selects mX7_latest.1.cls mX7_latest.1 mX7_latest.1) := ⟨t0 (q := (yX7_latest, 27)) (p3 (List.mem_of_getElem? (i := 0) rfl)), rfl⟩
def mX7_earliest : MI := (yX7_earliest, cX7_earliest, 7, (some .int))
theorem okX7_earliest : inT (.initialized mX7_earliest.1.cls) ∧ inT (.code mX7_earliest.1 mX7_earliest.2.1 mX7_earliest.2.2.1 mX7_earliest.2.2.2) := ⟨⟨t1 (List.mem_of_getElem? (i := 8) rfl), rfl⟩, ⟨t4 (List.mem_of_getElem? (i := 50) rfl), rfl⟩⟩
theorem imX7_earliest : inT (.instanceMethod mX7_earliest.1) := ⟨t4 (List.mem_of_getElem? (i := 49) rfl), rfl⟩
theorem seX7_earliest : inT (.selects mX7_earliest.1.cls mX7_earliest.1 mX7_earliest.1) := ⟨t0 (q := (yX7_earliest, 27)) (p2 (List.mem_of_getElem? (i := 15) rfl)), rfl⟩
def mX7_countOf : MI := (yX7_countOf, cX7_countOf, 6, (some .int))
theorem okX7_countOf : inT (.initialized mX7_countOf.1.cls) ∧ inT (.code mX7_countOf.1 mX7_countOf.2.1 mX7_countOf.2.2.1 mX7_countOf.2.2.2) := ⟨⟨t1 (List.mem_of_getElem? (i := 8) rfl), rfl⟩, ⟨t4 (List.mem_of_getElem? (i := 70) rfl), rfl⟩⟩
theorem imX7_countOf : inT (.instanceMethod mX7_countOf.1) := ⟨t4 (List.mem_of_getElem? (i := 69) rfl), rfl⟩
theorem seX7_countOf : inT (.selects mX7_countOf.1.cls mX7_countOf.1 mX7_countOf.1) := ⟨t0 (q := (yX7_countOf, 27)) (p3 (List.mem_of_getElem? (i := 4) rfl)), rfl⟩
def mX7_since : MI := (yX7_since, cX7_since, 6, (some .int))
theorem okX7_since : inT (.initialized mX7_since.1.cls) ∧ inT (.code mX7_since.1 mX7_since.2.1 mX7_since.2.2.1 mX7_since.2.2.2) := ⟨⟨t1 (List.mem_of_getElem? (i := 8) rfl), rfl⟩, ⟨t4 (List.mem_of_getElem? (i := 62) rfl), rfl⟩⟩
theorem imX7_since : inT (.instanceMethod mX7_since.1) := ⟨t4 (List.mem_of_getElem? (i := 61) rfl), rfl⟩
theorem seX7_since : inT (.selects mX7_since.1.cls mX7_since.1 mX7_since.1) := ⟨t0 (q := (yX7_since, 27)) (p3 (List.mem_of_getElem? (i := 2) rfl)), rfl⟩
def mX7_firstOf : MI := (yX7_firstOf, cX7_firstOf, 4, (some .int))
theorem okX7_firstOf : inT (.initialized mX7_firstOf.1.cls) ∧ inT (.code mX7_firstOf.1 mX7_firstOf.2.1 mX7_firstOf.2.2.1 mX7_firstOf.2.2.2) := ⟨⟨t1 (List.mem_of_getElem? (i := 8) rfl), rfl⟩, ⟨t4 (List.mem_of_getElem? (i := 46) rfl), rfl⟩⟩
theorem imX7_firstOf : inT (.instanceMethod mX7_firstOf.1) := ⟨t4 (List.mem_of_getElem? (i := 45) rfl), rfl⟩
theorem seX7_firstOf : inT (.selects mX7_firstOf.1.cls mX7_firstOf.1 mX7_firstOf.1) := ⟨t0 (q := (yX7_firstOf, 27)) (p2 (List.mem_of_getElem? (i := 14) rfl)), rfl⟩
def mX7_termEnd : MI := (yX7_termEnd, cX7_termEnd, 3, (some .int))
theorem okX7_termEnd : inT (.initialized mX7_termEnd.1.cls) ∧ inT (.code mX7_termEnd.1 mX7_termEnd.2.1 mX7_termEnd.2.2.1 mX7_termEnd.2.2.2) := ⟨⟨t1 (List.mem_of_getElem? (i := 8) rfl), rfl⟩, ⟨t4 (List.mem_of_getElem? (i := 66) rfl), rfl⟩⟩
theorem imX7_termEnd : inT (.instanceMethod mX7_termEnd.1) := ⟨t4 (List.mem_of_getElem? (i := 65) rfl), rfl⟩
theorem seX7_termEnd : inT (.selects mX7_termEnd.1.cls mX7_termEnd.1 mX7_termEnd.1) := ⟨t0 (q := (yX7_termEnd, 27)) (p3 (List.mem_of_getElem? (i := 3) rfl)), rfl⟩
def mX7_hasLapsed : MI := (yX7_hasLapsed, cX7_hasLapsed, 3, (some .boolean))
theorem okX7_hasLapsed : inT (.initialized mX7_hasLapsed.1.cls) ∧ inT (.code mX7_hasLapsed.1 mX7_hasLapsed.2.1 mX7_hasLapsed.2.2.1 mX7_hasLapsed.2.2.2) := ⟨⟨t1 (List.mem_of_getElem? (i := 8) rfl), rfl⟩, ⟨t4 (List.mem_of_getElem? (i := 143) rfl), rfl⟩⟩
theorem imX7_hasLapsed : inT (.instanceMethod mX7_hasLapsed.1) := ⟨t4 (List.mem_of_getElem? (i := 142) rfl), rfl⟩
theorem seX7_hasLapsed : inT (.selects mX7_hasLapsed.1.cls mX7_hasLapsed.1 mX7_hasLapsed.1) := ⟨t0 (q := (yX7_hasLapsed, 27)) (p4 (List.mem_of_getElem? (i := 5) rfl)), rfl⟩
def mX7_isStruck : MI := (yX7_isStruck, cX7_isStruck, 3, (some .boolean))
theorem okX7_isStruck : inT (.initialized mX7_isStruck.1.cls) ∧ inT (.code mX7_isStruck.1 mX7_isStruck.2.1 mX7_isStruck.2.2.1 mX7_isStruck.2.2.2) := ⟨⟨t1 (List.mem_of_getElem? (i := 8) rfl), rfl⟩, ⟨t4 (List.mem_of_getElem? (i := 74) rfl), rfl⟩⟩
theorem imX7_isStruck : inT (.instanceMethod mX7_isStruck.1) := ⟨t4 (List.mem_of_getElem? (i := 73) rfl), rfl⟩
theorem seX7_isStruck : inT (.selects mX7_isStruck.1.cls mX7_isStruck.1 mX7_isStruck.1) := ⟨t0 (q := (yX7_isStruck, 27)) (p3 (List.mem_of_getElem? (i := 5) rfl)), rfl⟩
def mX7_rightOf : MI := (yX7_rightOf, cX7_rightOf, 9, (some .int))
theorem okX7_rightOf : inT (.initialized mX7_rightOf.1.cls) ∧ inT (.code mX7_rightOf.1 mX7_rightOf.2.1 mX7_rightOf.2.2.1 mX7_rightOf.2.2.2) := ⟨⟨t1 (List.mem_of_getElem? (i := 8) rfl), rfl⟩, ⟨t4 (List.mem_of_getElem? (i := 139) rfl), rfl⟩⟩
theorem imX7_rightOf : inT (.instanceMethod mX7_rightOf.1) := ⟨t4 (List.mem_of_getElem? (i := 138) rfl), rfl⟩
theorem seX7_rightOf : inT (.selects mX7_rightOf.1.cls mX7_rightOf.1 mX7_rightOf.1) := ⟨t0 (q := (yX7_rightOf, 27)) (p4 (List.mem_of_getElem? (i := 4) rfl)), rfl⟩
def mX7_stands : MI := (yX7_stands, cX7_stands, 8, (some .boolean))
theorem okX7_stands : inT (.initialized mX7_stands.1.cls) ∧ inT (.code mX7_stands.1 mX7_stands.2.1 mX7_stands.2.2.1 mX7_stands.2.2.2) := ⟨⟨t1 (List.mem_of_getElem? (i := 8) rfl), rfl⟩, ⟨t4 (List.mem_of_getElem? (i := 135) rfl), rfl⟩⟩
theorem imX7_stands : inT (.instanceMethod mX7_stands.1) := ⟨t4 (List.mem_of_getElem? (i := 134) rfl), rfl⟩
theorem seX7_stands : inT (.selects mX7_stands.1.cls mX7_stands.1 mX7_stands.1) := ⟨t0 (q := (yX7_stands, 27)) (p4 (List.mem_of_getElem? (i := 3) rfl)), rfl⟩
def mX7_goodsInto : MI := (yX7_goodsInto, cX7_goodsInto, 9, (some .int))
theorem okX7_goodsInto : inT (.initialized mX7_goodsInto.1.cls) ∧ inT (.code mX7_goodsInto.1 mX7_goodsInto.2.1 mX7_goodsInto.2.2.1 mX7_goodsInto.2.2.2) := ⟨⟨t1 (List.mem_of_getElem? (i := 8) rfl), rfl⟩, ⟨t4 (List.mem_of_getElem? (i := 58) rfl), rfl⟩⟩
theorem imX7_goodsInto : inT (.instanceMethod mX7_goodsInto.1) := ⟨t4 (List.mem_of_getElem? (i := 57) rfl), rfl⟩
theorem seX7_goodsInto : inT (.selects mX7_goodsInto.1.cls mX7_goodsInto.1 mX7_goodsInto.1) := ⟨t0 (q := (yX7_goodsInto, 27)) (p3 (List.mem_of_getElem? (i := 1) rfl)), rfl⟩
def mX7_isNear : MI := (yX7_isNear, cX7_isNear, 5, (some .boolean))
theorem okX7_isNear : inT (.initialized mX7_isNear.1.cls) ∧ inT (.code mX7_isNear.1 mX7_isNear.2.1 mX7_isNear.2.2.1 mX7_isNear.2.2.2) := ⟨⟨t1 (List.mem_of_getElem? (i := 8) rfl), rfl⟩, ⟨t4 (List.mem_of_getElem? (i := 127) rfl), rfl⟩⟩
theorem imX7_isNear : inT (.instanceMethod mX7_isNear.1) := ⟨t4 (List.mem_of_getElem? (i := 126) rfl), rfl⟩
theorem seX7_isNear : inT (.selects mX7_isNear.1.cls mX7_isNear.1 mX7_isNear.1) := ⟨t0 (q := (yX7_isNear, 27)) (p4 (List.mem_of_getElem? (i := 1) rfl)), rfl⟩
def mX7_hasLeave : MI := (yX7_hasLeave, cX7_hasLeave, 4, (some .boolean))
theorem okX7_hasLeave : inT (.initialized mX7_hasLeave.1.cls) ∧ inT (.code mX7_hasLeave.1 mX7_hasLeave.2.1 mX7_hasLeave.2.2.1 mX7_hasLeave.2.2.2) := ⟨⟨t1 (List.mem_of_getElem? (i := 8) rfl), rfl⟩, ⟨t4 (List.mem_of_getElem? (i := 78) rfl), rfl⟩⟩
theorem imX7_hasLeave : inT (.instanceMethod mX7_hasLeave.1) := ⟨t4 (List.mem_of_getElem? (i := 77) rfl), rfl⟩
theorem seX7_hasLeave : inT (.selects mX7_hasLeave.1.cls mX7_hasLeave.1 mX7_hasLeave.1) := ⟨t0 (q := (yX7_hasLeave, 27)) (p3 (List.mem_of_getElem? (i := 6) rfl)), rfl⟩
def mX7_mayClash : MI := (yX7_mayClash, cX7_mayClash, 4, (some .boolean))
theorem okX7_mayClash : inT (.initialized mX7_mayClash.1.cls) ∧ inT (.code mX7_mayClash.1 mX7_mayClash.2.1 mX7_mayClash.2.2.1 mX7_mayClash.2.2.2) := ⟨⟨t1 (List.mem_of_getElem? (i := 8) rfl), rfl⟩, ⟨t4 (List.mem_of_getElem? (i := 90) rfl), rfl⟩⟩
theorem imX7_mayClash : inT (.instanceMethod mX7_mayClash.1) := ⟨t4 (List.mem_of_getElem? (i := 89) rfl), rfl⟩
theorem seX7_mayClash : inT (.selects mX7_mayClash.1.cls mX7_mayClash.1 mX7_mayClash.1) := ⟨t0 (q := (yX7_mayClash, 27)) (p3 (List.mem_of_getElem? (i := 8) rfl)), rfl⟩
def mX7_clashes : MI := (yX7_clashes, cX7_clashes, 9, (some .boolean))
theorem okX7_clashes : inT (.initialized mX7_clashes.1.cls) ∧ inT (.code mX7_clashes.1 mX7_clashes.2.1 mX7_clashes.2.2.1 mX7_clashes.2.2.2) := ⟨⟨t1 (List.mem_of_getElem? (i := 8) rfl), rfl⟩, ⟨t4 (List.mem_of_getElem? (i := 123) rfl), rfl⟩⟩
theorem imX7_clashes : inT (.instanceMethod mX7_clashes.1) := ⟨t4 (List.mem_of_getElem? (i := 122) rfl), rfl⟩
theorem seX7_clashes : inT (.selects mX7_clashes.1.cls mX7_clashes.1 mX7_clashes.1) := ⟨t0 (q := (yX7_clashes, 27)) (p4 (List.mem_of_getElem? (i := 0) rfl)), rfl⟩
def mX7_clashOf : MI := (yX7_clashOf, cX7_clashOf, 9, (some .int))
theorem okX7_clashOf : inT (.initialized mX7_clashOf.1.cls) ∧ inT (.code mX7_clashOf.1 mX7_clashOf.2.1 mX7_clashOf.2.2.1 mX7_clashOf.2.2.2) := ⟨⟨t1 (List.mem_of_getElem? (i := 8) rfl), rfl⟩, ⟨t4 (List.mem_of_getElem? (i := 86) rfl), rfl⟩⟩
theorem imX7_clashOf : inT (.instanceMethod mX7_clashOf.1) := ⟨t4 (List.mem_of_getElem? (i := 85) rfl), rfl⟩
theorem seX7_clashOf : inT (.selects mX7_clashOf.1.cls mX7_clashOf.1 mX7_clashOf.1) := ⟨t0 (q := (yX7_clashOf, 27)) (p3 (List.mem_of_getElem? (i := 7) rfl)), rfl⟩
def mX7_clashRight : MI := (yX7_clashRight, cX7_clashRight, 11, (some .int))
theorem okX7_clashRight : inT (.initialized mX7_clashRight.1.cls) ∧ inT (.code mX7_clashRight.1 mX7_clashRight.2.1 mX7_clashRight.2.2.1 mX7_clashRight.2.2.2) := ⟨⟨t1 (List.mem_of_getElem? (i := 8) rfl), rfl⟩, ⟨t4 (List.mem_of_getElem? (i := 184) rfl), rfl⟩⟩
theorem imX7_clashRight : inT (.instanceMethod mX7_clashRight.1) := ⟨t4 (List.mem_of_getElem? (i := 183) rfl), rfl⟩
theorem seX7_clashRight : inT (.selects mX7_clashRight.1.cls mX7_clashRight.1 mX7_clashRight.1) := ⟨t0 (q := (yX7_clashRight, 27)) (p4 (List.mem_of_getElem? (i := 6) rfl)), rfl⟩
def mX7_isX : MI := (yX7_isX, cX7_isX, 2, (some .boolean))
theorem okX7_isX : inT (.initialized mX7_isX.1.cls) ∧ inT (.code mX7_isX.1 mX7_isX.2.1 mX7_isX.2.2.1 mX7_isX.2.2.2) := ⟨⟨t1 (List.mem_of_getElem? (i := 8) rfl), rfl⟩, ⟨t4 (List.mem_of_getElem? (i := 31) rfl), rfl⟩⟩
theorem stX7_isX : inT (.static mX7_isX.1) := ⟨t4 (List.mem_of_getElem? (i := 30) rfl), rfl⟩
def mX7_canBe : MI := (yX7_canBe, cX7_canBe, 9, (some .boolean))
theorem okX7_canBe : inT (.initialized mX7_canBe.1.cls) ∧ inT (.code mX7_canBe.1 mX7_canBe.2.1 mX7_canBe.2.2.1 mX7_canBe.2.2.2) := ⟨⟨t1 (List.mem_of_getElem? (i := 8) rfl), rfl⟩, ⟨t4 (List.mem_of_getElem? (i := 42) rfl), rfl⟩⟩
theorem imX7_canBe : inT (.instanceMethod mX7_canBe.1) := ⟨t4 (List.mem_of_getElem? (i := 41) rfl), rfl⟩
theorem seX7_canBe : inT (.selects mX7_canBe.1.cls mX7_canBe.1 mX7_canBe.1) := ⟨t0 (q := (yX7_canBe, 27)) (p2 (List.mem_of_getElem? (i := 13) rfl)), rfl⟩
def mX7_paper : MI := (yX7_paper, cX7_paper, 5, (some .int))
theorem okX7_paper : inT (.initialized mX7_paper.1.cls) ∧ inT (.code mX7_paper.1 mX7_paper.2.1 mX7_paper.2.2.1 mX7_paper.2.2.2) := ⟨⟨t1 (List.mem_of_getElem? (i := 8) rfl), rfl⟩, ⟨t4 (List.mem_of_getElem? (i := 28) rfl), rfl⟩⟩
theorem imX7_paper : inT (.instanceMethod mX7_paper.1) := ⟨t4 (List.mem_of_getElem? (i := 26) rfl), rfl⟩
theorem seX7_paper : inT (.selects mX7_paper.1.cls mX7_paper.1 mX7_paper.1) := ⟨t4 (List.mem_of_getElem? (i := 27) rfl), rfl⟩
def mX7_oppose : MI := (yX7_oppose, cX7_oppose, 7, (some .int))
theorem okX7_oppose : inT (.initialized mX7_oppose.1.cls) ∧ inT (.code mX7_oppose.1 mX7_oppose.2.1 mX7_oppose.2.2.1 mX7_oppose.2.2.2) := ⟨⟨t1 (List.mem_of_getElem? (i := 8) rfl), rfl⟩, ⟨t4 (List.mem_of_getElem? (i := 82) rfl), rfl⟩⟩
theorem imX7_oppose : inT (.instanceMethod mX7_oppose.1) := ⟨t4 (List.mem_of_getElem? (i := 80) rfl), rfl⟩
theorem seX7_oppose : inT (.selects mX7_oppose.1.cls mX7_oppose.1 mX7_oppose.1) := ⟨t4 (List.mem_of_getElem? (i := 81) rfl), rfl⟩
def mX7_undo : MI := (yX7_undo, cX7_undo, 1, (some .int))
theorem okX7_undo : inT (.initialized mX7_undo.1.cls) ∧ inT (.code mX7_undo.1 mX7_undo.2.1 mX7_undo.2.2.1 mX7_undo.2.2.2) := ⟨⟨t1 (List.mem_of_getElem? (i := 8) rfl), rfl⟩, ⟨t4 (List.mem_of_getElem? (i := 148) rfl), rfl⟩⟩
theorem imX7_undo : inT (.instanceMethod mX7_undo.1) := ⟨t4 (List.mem_of_getElem? (i := 146) rfl), rfl⟩
theorem seX7_undo : inT (.selects mX7_undo.1.cls mX7_undo.1 mX7_undo.1) := ⟨t4 (List.mem_of_getElem? (i := 147) rfl), rfl⟩
def mX7_paperOf : MI := (yX7_paperOf, cX7_paperOf, 3, (some .int))
theorem okX7_paperOf : inT (.initialized mX7_paperOf.1.cls) ∧ inT (.code mX7_paperOf.1 mX7_paperOf.2.1 mX7_paperOf.2.2.1 mX7_paperOf.2.2.2) := ⟨⟨t1 (List.mem_of_getElem? (i := 8) rfl), rfl⟩, ⟨t4 (List.mem_of_getElem? (i := 152) rfl), rfl⟩⟩
theorem imX7_paperOf : inT (.instanceMethod mX7_paperOf.1) := ⟨t4 (List.mem_of_getElem? (i := 150) rfl), rfl⟩
theorem seX7_paperOf : inT (.selects mX7_paperOf.1.cls mX7_paperOf.1 mX7_paperOf.1) := ⟨t4 (List.mem_of_getElem? (i := 151) rfl), rfl⟩
def mX7_markOf : MI := (yX7_markOf, cX7_markOf, 3, (some .int))
theorem okX7_markOf : inT (.initialized mX7_markOf.1.cls) ∧ inT (.code mX7_markOf.1 mX7_markOf.2.1 mX7_markOf.2.2.1 mX7_markOf.2.2.2) := ⟨⟨t1 (List.mem_of_getElem? (i := 8) rfl), rfl⟩, ⟨t4 (List.mem_of_getElem? (i := 156) rfl), rfl⟩⟩
theorem imX7_markOf : inT (.instanceMethod mX7_markOf.1) := ⟨t4 (List.mem_of_getElem? (i := 154) rfl), rfl⟩
theorem seX7_markOf : inT (.selects mX7_markOf.1.cls mX7_markOf.1 mX7_markOf.1) := ⟨t4 (List.mem_of_getElem? (i := 155) rfl), rfl⟩
def mX7_soundOf : MI := (yX7_soundOf, cX7_soundOf, 3, (some .int))
theorem okX7_soundOf : inT (.initialized mX7_soundOf.1.cls) ∧ inT (.code mX7_soundOf.1 mX7_soundOf.2.1 mX7_soundOf.2.2.1 mX7_soundOf.2.2.2) := ⟨⟨t1 (List.mem_of_getElem? (i := 8) rfl), rfl⟩, ⟨t4 (List.mem_of_getElem? (i := 160) rfl), rfl⟩⟩
theorem imX7_soundOf : inT (.instanceMethod mX7_soundOf.1) := ⟨t4 (List.mem_of_getElem? (i := 158) rfl), rfl⟩
theorem seX7_soundOf : inT (.selects mX7_soundOf.1.cls mX7_soundOf.1 mX7_soundOf.1) := ⟨t4 (List.mem_of_getElem? (i := 159) rfl), rfl⟩
def mX7_like : MI := (yX7_like, cX7_like, 4, (some .int))
theorem okX7_like : inT (.initialized mX7_like.1.cls) ∧ inT (.code mX7_like.1 mX7_like.2.1 mX7_like.2.2.1 mX7_like.2.2.2) := ⟨⟨t1 (List.mem_of_getElem? (i := 8) rfl), rfl⟩, ⟨t4 (List.mem_of_getElem? (i := 164) rfl), rfl⟩⟩
theorem imX7_like : inT (.instanceMethod mX7_like.1) := ⟨t4 (List.mem_of_getElem? (i := 162) rfl), rfl⟩
theorem seX7_like : inT (.selects mX7_like.1.cls mX7_like.1 mX7_like.1) := ⟨t4 (List.mem_of_getElem? (i := 163) rfl), rfl⟩
def mX7_right : MI := (yX7_right, cX7_right, 6, (some .int))
theorem okX7_right : inT (.initialized mX7_right.1.cls) ∧ inT (.code mX7_right.1 mX7_right.2.1 mX7_right.2.2.1 mX7_right.2.2.2) := ⟨⟨t1 (List.mem_of_getElem? (i := 8) rfl), rfl⟩, ⟨t4 (List.mem_of_getElem? (i := 168) rfl), rfl⟩⟩
theorem imX7_right : inT (.instanceMethod mX7_right.1) := ⟨t4 (List.mem_of_getElem? (i := 166) rfl), rfl⟩
theorem seX7_right : inT (.selects mX7_right.1.cls mX7_right.1 mX7_right.1) := ⟨t4 (List.mem_of_getElem? (i := 167) rfl), rfl⟩
def mX7_state : MI := (yX7_state, cX7_state, 5, (some .int))
theorem okX7_state : inT (.initialized mX7_state.1.cls) ∧ inT (.code mX7_state.1 mX7_state.2.1 mX7_state.2.2.1 mX7_state.2.2.2) := ⟨⟨t1 (List.mem_of_getElem? (i := 8) rfl), rfl⟩, ⟨t4 (List.mem_of_getElem? (i := 172) rfl), rfl⟩⟩
theorem imX7_state : inT (.instanceMethod mX7_state.1) := ⟨t4 (List.mem_of_getElem? (i := 170) rfl), rfl⟩
theorem seX7_state : inT (.selects mX7_state.1.cls mX7_state.1 mX7_state.1) := ⟨t4 (List.mem_of_getElem? (i := 171) rfl), rfl⟩
def mX7_clash : MI := (yX7_clash, cX7_clash, 5, (some .int))
theorem okX7_clash : inT (.initialized mX7_clash.1.cls) ∧ inT (.code mX7_clash.1 mX7_clash.2.1 mX7_clash.2.2.1 mX7_clash.2.2.2) := ⟨⟨t1 (List.mem_of_getElem? (i := 8) rfl), rfl⟩, ⟨t4 (List.mem_of_getElem? (i := 176) rfl), rfl⟩⟩
theorem imX7_clash : inT (.instanceMethod mX7_clash.1) := ⟨t4 (List.mem_of_getElem? (i := 174) rfl), rfl⟩
theorem seX7_clash : inT (.selects mX7_clash.1.cls mX7_clash.1 mX7_clash.1) := ⟨t4 (List.mem_of_getElem? (i := 175) rfl), rfl⟩
def mX7_first : MI := (yX7_first, cX7_first, 8, (some .int))
theorem okX7_first : inT (.initialized mX7_first.1.cls) ∧ inT (.code mX7_first.1 mX7_first.2.1 mX7_first.2.2.1 mX7_first.2.2.2) := ⟨⟨t1 (List.mem_of_getElem? (i := 8) rfl), rfl⟩, ⟨t4 (List.mem_of_getElem? (i := 180) rfl), rfl⟩⟩
theorem imX7_first : inT (.instanceMethod mX7_first.1) := ⟨t4 (List.mem_of_getElem? (i := 178) rfl), rfl⟩
theorem seX7_first : inT (.selects mX7_first.1.cls mX7_first.1 mX7_first.1) := ⟨t4 (List.mem_of_getElem? (i := 179) rfl), rfl⟩
def mX7_nearRight : MI := (yX7_nearRight, cX7_nearRight, 9, (some .int))
theorem okX7_nearRight : inT (.initialized mX7_nearRight.1.cls) ∧ inT (.code mX7_nearRight.1 mX7_nearRight.2.1 mX7_nearRight.2.2.1 mX7_nearRight.2.2.2) := ⟨⟨t1 (List.mem_of_getElem? (i := 8) rfl), rfl⟩, ⟨t4 (List.mem_of_getElem? (i := 192) rfl), rfl⟩⟩
theorem imX7_nearRight : inT (.instanceMethod mX7_nearRight.1) := ⟨t4 (List.mem_of_getElem? (i := 191) rfl), rfl⟩
theorem seX7_nearRight : inT (.selects mX7_nearRight.1.cls mX7_nearRight.1 mX7_nearRight.1) := ⟨t0 (q := (yX7_nearRight, 27)) (p4 (List.mem_of_getElem? (i := 7) rfl)), rfl⟩
def mX7_may : MI := (yX7_may, cX7_may, 13, (some .int))
theorem okX7_may : inT (.initialized mX7_may.1.cls) ∧ inT (.code mX7_may.1 mX7_may.2.1 mX7_may.2.2.1 mX7_may.2.2.2) := ⟨⟨t1 (List.mem_of_getElem? (i := 8) rfl), rfl⟩, ⟨t4 (List.mem_of_getElem? (i := 188) rfl), rfl⟩⟩
theorem imX7_may : inT (.instanceMethod mX7_may.1) := ⟨t4 (List.mem_of_getElem? (i := 186) rfl), rfl⟩
theorem seX7_may : inT (.selects mX7_may.1.cls mX7_may.1 mX7_may.1) := ⟨t4 (List.mem_of_getElem? (i := 187) rfl), rfl⟩
def mX7_watch : MI := (yX7_watch, cX7_watch, 6, (some .int))
theorem okX7_watch : inT (.initialized mX7_watch.1.cls) ∧ inT (.code mX7_watch.1 mX7_watch.2.1 mX7_watch.2.2.1 mX7_watch.2.2.2) := ⟨⟨t1 (List.mem_of_getElem? (i := 8) rfl), rfl⟩, ⟨t4 (List.mem_of_getElem? (i := 196) rfl), rfl⟩⟩
theorem imX7_watch : inT (.instanceMethod mX7_watch.1) := ⟨t4 (List.mem_of_getElem? (i := 194) rfl), rfl⟩
theorem seX7_watch : inT (.selects mX7_watch.1.cls mX7_watch.1 mX7_watch.1) := ⟨t4 (List.mem_of_getElem? (i := 195) rfl), rfl⟩
def mX7_comesNear : MI := (yX7_comesNear, cX7_comesNear, 8, (some .boolean))
theorem okX7_comesNear : inT (.initialized mX7_comesNear.1.cls) ∧ inT (.code mX7_comesNear.1 mX7_comesNear.2.1 mX7_comesNear.2.2.1 mX7_comesNear.2.2.2) := ⟨⟨t1 (List.mem_of_getElem? (i := 8) rfl), rfl⟩, ⟨t4 (List.mem_of_getElem? (i := 200) rfl), rfl⟩⟩
theorem imX7_comesNear : inT (.instanceMethod mX7_comesNear.1) := ⟨t4 (List.mem_of_getElem? (i := 199) rfl), rfl⟩
theorem seX7_comesNear : inT (.selects mX7_comesNear.1.cls mX7_comesNear.1 mX7_comesNear.1) := ⟨t0 (q := (yX7_comesNear, 27)) (p4 (List.mem_of_getElem? (i := 8) rfl)), rfl⟩
def mX7_about : MI := (yX7_about, cX7_about, 2, (some .int))
theorem okX7_about : inT (.initialized mX7_about.1.cls) ∧ inT (.code mX7_about.1 mX7_about.2.1 mX7_about.2.2.1 mX7_about.2.2.2) := ⟨⟨t1 (List.mem_of_getElem? (i := 8) rfl), rfl⟩, ⟨t4 (List.mem_of_getElem? (i := 204) rfl), rfl⟩⟩
theorem imX7_about : inT (.instanceMethod mX7_about.1) := ⟨t4 (List.mem_of_getElem? (i := 202) rfl), rfl⟩
theorem seX7_about : inT (.selects mX7_about.1.cls mX7_about.1 mX7_about.1) := ⟨t4 (List.mem_of_getElem? (i := 203) rfl), rfl⟩
def mJ9_max_7cf53 : MI := (yJ9_max_7cf53, cJ9_max_7cf53, 2, (some .int))
theorem okJ9_max_7cf53 : inT (.initialized mJ9_max_7cf53.1.cls) ∧ inT (.code mJ9_max_7cf53.1 mJ9_max_7cf53.2.1 mJ9_max_7cf53.2.2.1 mJ9_max_7cf53.2.2.2) := ⟨⟨t1 (List.mem_of_getElem? (i := 10) rfl), rfl⟩, ⟨t2 (List.mem_of_getElem? (i := 205) rfl), rfl⟩⟩
theorem stJ9_max_7cf53 : inT (.static mJ9_max_7cf53.1) := ⟨t2 (List.mem_of_getElem? (i := 204) rfl), rfl⟩
def mJ9_min_7cf53 : MI := (yJ9_min_7cf53, cJ9_min_7cf53, 2, (some .int))
theorem okJ9_min_7cf53 : inT (.initialized mJ9_min_7cf53.1.cls) ∧ inT (.code mJ9_min_7cf53.1 mJ9_min_7cf53.2.1 mJ9_min_7cf53.2.2.1 mJ9_min_7cf53.2.2.2) := ⟨⟨t1 (List.mem_of_getElem? (i := 10) rfl), rfl⟩, ⟨t3 (List.mem_of_getElem? (i := 6) rfl), rfl⟩⟩
theorem stJ9_min_7cf53 : inT (.static mJ9_min_7cf53.1) := ⟨t3 (List.mem_of_getElem? (i := 5) rfl), rfl⟩
def mJ7_fill_53178 : MI := (yJ7_fill_53178, cJ7_fill_53178, 4, none)
theorem okJ7_fill_53178 : inT (.initialized mJ7_fill_53178.1.cls) ∧ inT (.code mJ7_fill_53178.1 mJ7_fill_53178.2.1 mJ7_fill_53178.2.2.1 mJ7_fill_53178.2.2.2) := ⟨⟨t1 (List.mem_of_getElem? (i := 3) rfl), rfl⟩, ⟨t1 (List.mem_of_getElem? (i := 27) rfl), rfl⟩⟩
theorem stJ7_fill_53178 : inT (.static mJ7_fill_53178.1) := ⟨t1 (List.mem_of_getElem? (i := 26) rfl), rfl⟩
theorem iaX6 : inT (.instantiable RX6 11) := ⟨t1 (List.mem_of_getElem? (i := 12) rfl), rfl⟩
theorem mlX6_1 : inT (.methodLink RX6 1 objectInit) := ⟨t1 (List.mem_of_getElem? (i := 16) rfl), rfl⟩
theorem klX6_7 : inT (.classLink RX6 7 RX4) := ⟨t1 (List.mem_of_getElem? (i := 19) rfl), rfl⟩
theorem iaX4 : inT (.instantiable RX4 7) := ⟨t1 (List.mem_of_getElem? (i := 20) rfl), rfl⟩
theorem mlX6_9 : inT (.methodLink RX6 9 mX4_init.1) := ⟨t1 (List.mem_of_getElem? (i := 21) rfl), rfl⟩
theorem mlX4_3 : inT (.methodLink RX4 3 objectInit) := ⟨t1 (List.mem_of_getElem? (i := 24) rfl), rfl⟩
theorem mlX4_33 : inT (.methodLink RX4 33 mJ7_fill_53178.1) := ⟨t1 (List.mem_of_getElem? (i := 25) rfl), rfl⟩
theorem flX4_9 : inT (.fieldLink RX4 9 (TX4 0).1 (TX4 0).2.1 (TX4 0).2.2.1) := ⟨t1 (List.mem_of_getElem? (i := 28) rfl), rfl⟩
theorem flX4_15 : inT (.fieldLink RX4 15 (TX4 1).1 (TX4 1).2.1 (TX4 1).2.2.1) := ⟨t1 (List.mem_of_getElem? (i := 29) rfl), rfl⟩
theorem flX4_18 : inT (.fieldLink RX4 18 (TX4 2).1 (TX4 2).2.1 (TX4 2).2.2.1) := ⟨t1 (List.mem_of_getElem? (i := 30) rfl), rfl⟩
theorem flX4_21 : inT (.fieldLink RX4 21 (TX4 3).1 (TX4 3).2.1 (TX4 3).2.2.1) := ⟨t1 (List.mem_of_getElem? (i := 31) rfl), rfl⟩
theorem flX4_24 : inT (.fieldLink RX4 24 (TX4 4).1 (TX4 4).2.1 (TX4 4).2.2.1) := ⟨t1 (List.mem_of_getElem? (i := 32) rfl), rfl⟩
theorem flX4_27 : inT (.fieldLink RX4 27 (TX4 5).1 (TX4 5).2.1 (TX4 5).2.2.1) := ⟨t1 (List.mem_of_getElem? (i := 33) rfl), rfl⟩
theorem flX4_30 : inT (.fieldLink RX4 30 (TX4 6).1 (TX4 6).2.1 (TX4 6).2.2.1) := ⟨t1 (List.mem_of_getElem? (i := 34) rfl), rfl⟩
theorem klX6_16 : inT (.classLink RX6 16 RX2) := ⟨t1 (List.mem_of_getElem? (i := 51) rfl), rfl⟩
theorem iaX2 : inT (.instantiable RX2 4) := ⟨t1 (List.mem_of_getElem? (i := 52) rfl), rfl⟩
theorem mlX2_3 : inT (.methodLink RX2 3 objectInit) := ⟨t1 (List.mem_of_getElem? (i := 56) rfl), rfl⟩
theorem flX2_11 : inT (.fieldLink RX2 11 (TX2 0).1 (TX2 0).2.1 (TX2 0).2.2.1) := ⟨t1 (List.mem_of_getElem? (i := 57) rfl), rfl⟩
theorem flX2_15 : inT (.fieldLink RX2 15 (TX2 1).1 (TX2 1).2.1 (TX2 1).2.2.1) := ⟨t1 (List.mem_of_getElem? (i := 58) rfl), rfl⟩
theorem flX2_18 : inT (.fieldLink RX2 18 (TX2 2).1 (TX2 2).2.1 (TX2 2).2.2.1) := ⟨t1 (List.mem_of_getElem? (i := 59) rfl), rfl⟩
theorem flX2_21 : inT (.fieldLink RX2 21 (TX2 3).1 (TX2 3).2.1 (TX2 3).2.2.1) := ⟨t1 (List.mem_of_getElem? (i := 60) rfl), rfl⟩
theorem klX6_23 : inT (.classLink RX6 23 RX1) := ⟨t1 (List.mem_of_getElem? (i := 71) rfl), rfl⟩
theorem klX6_29 : inT (.classLink RX6 29 RX3) := ⟨t1 (List.mem_of_getElem? (i := 73) rfl), rfl⟩
theorem iaX3 : inT (.instantiable RX3 5) := ⟨t1 (List.mem_of_getElem? (i := 74) rfl), rfl⟩
theorem mlX3_3 : inT (.methodLink RX3 3 objectInit) := ⟨t1 (List.mem_of_getElem? (i := 78) rfl), rfl⟩
theorem flX3_11 : inT (.fieldLink RX3 11 (TX3 0).1 (TX3 0).2.1 (TX3 0).2.2.1) := ⟨t1 (List.mem_of_getElem? (i := 79) rfl), rfl⟩
theorem flX5_41 : inT (.fieldLink RX5 41 (TX3 0).1 (TX3 0).2.1 (TX3 0).2.2.1) := ⟨t1 (List.mem_of_getElem? (i := 80) rfl), rfl⟩
theorem flX6_154 : inT (.fieldLink RX6 154 (TX3 0).1 (TX3 0).2.1 (TX3 0).2.2.1) := ⟨t1 (List.mem_of_getElem? (i := 81) rfl), rfl⟩
theorem flX3_15 : inT (.fieldLink RX3 15 (TX3 1).1 (TX3 1).2.1 (TX3 1).2.2.1) := ⟨t1 (List.mem_of_getElem? (i := 82) rfl), rfl⟩
theorem flX5_38 : inT (.fieldLink RX5 38 (TX3 1).1 (TX3 1).2.1 (TX3 1).2.2.1) := ⟨t1 (List.mem_of_getElem? (i := 83) rfl), rfl⟩
theorem flX6_158 : inT (.fieldLink RX6 158 (TX3 1).1 (TX3 1).2.1 (TX3 1).2.2.1) := ⟨t1 (List.mem_of_getElem? (i := 84) rfl), rfl⟩
theorem flX3_18 : inT (.fieldLink RX3 18 (TX3 2).1 (TX3 2).2.1 (TX3 2).2.2.1) := ⟨t1 (List.mem_of_getElem? (i := 85) rfl), rfl⟩
theorem flX5_44 : inT (.fieldLink RX5 44 (TX3 2).1 (TX3 2).2.1 (TX3 2).2.2.1) := ⟨t1 (List.mem_of_getElem? (i := 86) rfl), rfl⟩
theorem flX6_160 : inT (.fieldLink RX6 160 (TX3 2).1 (TX3 2).2.1 (TX3 2).2.2.1) := ⟨t1 (List.mem_of_getElem? (i := 87) rfl), rfl⟩
theorem flX3_21 : inT (.fieldLink RX3 21 (TX3 3).1 (TX3 3).2.1 (TX3 3).2.2.1) := ⟨t1 (List.mem_of_getElem? (i := 88) rfl), rfl⟩
theorem flX5_35 : inT (.fieldLink RX5 35 (TX3 3).1 (TX3 3).2.1 (TX3 3).2.2.1) := ⟨t1 (List.mem_of_getElem? (i := 89) rfl), rfl⟩
theorem flX6_163 : inT (.fieldLink RX6 163 (TX3 3).1 (TX3 3).2.1 (TX3 3).2.2.1) := ⟨t1 (List.mem_of_getElem? (i := 90) rfl), rfl⟩
theorem flX3_24 : inT (.fieldLink RX3 24 (TX3 4).1 (TX3 4).2.1 (TX3 4).2.2.1) := ⟨t1 (List.mem_of_getElem? (i := 91) rfl), rfl⟩
theorem flX5_29 : inT (.fieldLink RX5 29 (TX3 4).1 (TX3 4).2.1 (TX3 4).2.2.1) := ⟨t1 (List.mem_of_getElem? (i := 92) rfl), rfl⟩
theorem flX6_151 : inT (.fieldLink RX6 151 (TX3 4).1 (TX3 4).2.1 (TX3 4).2.2.1) := ⟨t1 (List.mem_of_getElem? (i := 93) rfl), rfl⟩
theorem klX6_46 : inT (.classLink RX6 46 RX5) := ⟨t1 (List.mem_of_getElem? (i := 105) rfl), rfl⟩
theorem iaX5 : inT (.instantiable RX5 13) := ⟨t1 (List.mem_of_getElem? (i := 106) rfl), rfl⟩
theorem mlX5_3 : inT (.methodLink RX5 3 objectInit) := ⟨t1 (List.mem_of_getElem? (i := 110) rfl), rfl⟩
theorem flX5_61 : inT (.fieldLink RX5 61 (TX5 0).1 (TX5 0).2.1 (TX5 0).2.2.1) := ⟨t1 (List.mem_of_getElem? (i := 111) rfl), rfl⟩
theorem flX5_51 : inT (.fieldLink RX5 51 (TX5 1).1 (TX5 1).2.1 (TX5 1).2.2.1) := ⟨t1 (List.mem_of_getElem? (i := 112) rfl), rfl⟩
theorem flX6_134 : inT (.fieldLink RX6 134 (TX5 1).1 (TX5 1).2.1 (TX5 1).2.2.1) := ⟨t1 (List.mem_of_getElem? (i := 113) rfl), rfl⟩
theorem flX5_77 : inT (.fieldLink RX5 77 (TX5 2).1 (TX5 2).2.1 (TX5 2).2.2.1) := ⟨t1 (List.mem_of_getElem? (i := 114) rfl), rfl⟩
theorem flX5_100 : inT (.fieldLink RX5 100 (TX5 3).1 (TX5 3).2.1 (TX5 3).2.2.1) := ⟨t1 (List.mem_of_getElem? (i := 115) rfl), rfl⟩
theorem flX6_216 : inT (.fieldLink RX6 216 (TX5 3).1 (TX5 3).2.1 (TX5 3).2.2.1) := ⟨t1 (List.mem_of_getElem? (i := 116) rfl), rfl⟩
theorem flX5_58 : inT (.fieldLink RX5 58 (TX5 4).1 (TX5 4).2.1 (TX5 4).2.2.1) := ⟨t1 (List.mem_of_getElem? (i := 117) rfl), rfl⟩
theorem flX5_89 : inT (.fieldLink RX5 89 (TX5 5).1 (TX5 5).2.1 (TX5 5).2.2.1) := ⟨t1 (List.mem_of_getElem? (i := 118) rfl), rfl⟩
theorem flX6_211 : inT (.fieldLink RX6 211 (TX5 5).1 (TX5 5).2.1 (TX5 5).2.2.1) := ⟨t1 (List.mem_of_getElem? (i := 119) rfl), rfl⟩
theorem flX5_103 : inT (.fieldLink RX5 103 (TX5 6).1 (TX5 6).2.1 (TX5 6).2.2.1) := ⟨t1 (List.mem_of_getElem? (i := 120) rfl), rfl⟩
theorem flX6_263 : inT (.fieldLink RX6 263 (TX5 6).1 (TX5 6).2.1 (TX5 6).2.2.1) := ⟨t1 (List.mem_of_getElem? (i := 121) rfl), rfl⟩
theorem flX5_106 : inT (.fieldLink RX5 106 (TX5 7).1 (TX5 7).2.1 (TX5 7).2.2.1) := ⟨t1 (List.mem_of_getElem? (i := 122) rfl), rfl⟩
theorem flX6_252 : inT (.fieldLink RX6 252 (TX5 7).1 (TX5 7).2.1 (TX5 7).2.2.1) := ⟨t1 (List.mem_of_getElem? (i := 123) rfl), rfl⟩
theorem flX5_68 : inT (.fieldLink RX5 68 (TX5 8).1 (TX5 8).2.1 (TX5 8).2.2.1) := ⟨t1 (List.mem_of_getElem? (i := 124) rfl), rfl⟩
theorem flX6_215 : inT (.fieldLink RX6 215 (TX5 8).1 (TX5 8).2.1 (TX5 8).2.2.1) := ⟨t1 (List.mem_of_getElem? (i := 125) rfl), rfl⟩
theorem flX5_11 : inT (.fieldLink RX5 11 (TX5 9).1 (TX5 9).2.1 (TX5 9).2.2.1) := ⟨t1 (List.mem_of_getElem? (i := 126) rfl), rfl⟩
theorem flX6_282 : inT (.fieldLink RX6 282 (TX5 9).1 (TX5 9).2.1 (TX5 9).2.2.1) := ⟨t1 (List.mem_of_getElem? (i := 127) rfl), rfl⟩
theorem flX5_15 : inT (.fieldLink RX5 15 (TX5 10).1 (TX5 10).2.1 (TX5 10).2.2.1) := ⟨t1 (List.mem_of_getElem? (i := 128) rfl), rfl⟩
theorem flX5_18 : inT (.fieldLink RX5 18 (TX5 11).1 (TX5 11).2.1 (TX5 11).2.2.1) := ⟨t1 (List.mem_of_getElem? (i := 129) rfl), rfl⟩
theorem flX5_21 : inT (.fieldLink RX5 21 (TX5 12).1 (TX5 12).2.1 (TX5 12).2.2.1) := ⟨t1 (List.mem_of_getElem? (i := 130) rfl), rfl⟩
theorem klX6_59 : inT (.classLink RX6 59 RX0) := ⟨t1 (List.mem_of_getElem? (i := 159) rfl), rfl⟩
theorem iaX0 : inT (.instantiable RX0 2) := ⟨t1 (List.mem_of_getElem? (i := 160) rfl), rfl⟩
theorem mlX0_3 : inT (.methodLink RX0 3 objectInit) := ⟨t1 (List.mem_of_getElem? (i := 164) rfl), rfl⟩
theorem flX0_9 : inT (.fieldLink RX0 9 (TX0 0).1 (TX0 0).2.1 (TX0 0).2.2.1) := ⟨t1 (List.mem_of_getElem? (i := 165) rfl), rfl⟩
theorem flX6_219 : inT (.fieldLink RX6 219 (TX0 0).1 (TX0 0).2.1 (TX0 0).2.2.1) := ⟨t1 (List.mem_of_getElem? (i := 166) rfl), rfl⟩
theorem flX0_15 : inT (.fieldLink RX0 15 (TX0 1).1 (TX0 1).2.1 (TX0 1).2.2.1) := ⟨t1 (List.mem_of_getElem? (i := 167) rfl), rfl⟩
theorem flX6_222 : inT (.fieldLink RX6 222 (TX0 1).1 (TX0 1).2.1 (TX0 1).2.2.1) := ⟨t1 (List.mem_of_getElem? (i := 168) rfl), rfl⟩
theorem flX6_10 : inT (.fieldLink RX6 10 (TX6 0).1 (TX6 0).2.1 (TX6 0).2.2.1) := ⟨t1 (List.mem_of_getElem? (i := 174) rfl), rfl⟩
theorem flX6_19 : inT (.fieldLink RX6 19 (TX6 1).1 (TX6 1).2.1 (TX6 1).2.2.1) := ⟨t1 (List.mem_of_getElem? (i := 175) rfl), rfl⟩
theorem flX6_25 : inT (.fieldLink RX6 25 (TX6 2).1 (TX6 2).2.1 (TX6 2).2.2.1) := ⟨t1 (List.mem_of_getElem? (i := 176) rfl), rfl⟩
theorem flX6_32 : inT (.fieldLink RX6 32 (TX6 3).1 (TX6 3).2.1 (TX6 3).2.2.1) := ⟨t1 (List.mem_of_getElem? (i := 177) rfl), rfl⟩
theorem flX6_36 : inT (.fieldLink RX6 36 (TX6 4).1 (TX6 4).2.1 (TX6 4).2.2.1) := ⟨t1 (List.mem_of_getElem? (i := 178) rfl), rfl⟩
theorem flX6_40 : inT (.fieldLink RX6 40 (TX6 5).1 (TX6 5).2.1 (TX6 5).2.2.1) := ⟨t1 (List.mem_of_getElem? (i := 179) rfl), rfl⟩
theorem flX6_43 : inT (.fieldLink RX6 43 (TX6 6).1 (TX6 6).2.1 (TX6 6).2.2.1) := ⟨t1 (List.mem_of_getElem? (i := 180) rfl), rfl⟩
theorem flX6_49 : inT (.fieldLink RX6 49 (TX6 7).1 (TX6 7).2.1 (TX6 7).2.2.1) := ⟨t1 (List.mem_of_getElem? (i := 181) rfl), rfl⟩
theorem flX6_53 : inT (.fieldLink RX6 53 (TX6 8).1 (TX6 8).2.1 (TX6 8).2.2.1) := ⟨t1 (List.mem_of_getElem? (i := 182) rfl), rfl⟩
theorem flX6_56 : inT (.fieldLink RX6 56 (TX6 9).1 (TX6 9).2.1 (TX6 9).2.2.1) := ⟨t1 (List.mem_of_getElem? (i := 183) rfl), rfl⟩
theorem flX6_62 : inT (.fieldLink RX6 62 (TX6 10).1 (TX6 10).2.1 (TX6 10).2.2.1) := ⟨t1 (List.mem_of_getElem? (i := 184) rfl), rfl⟩
theorem mlX6_66 : inT (.methodLink RX6 66 mX6_below.1) := ⟨t1 (List.mem_of_getElem? (i := 212) rfl), rfl⟩
theorem mlX6_70 : inT (.methodLink RX6 70 mX4_setPlaces.1) := ⟨t1 (List.mem_of_getElem? (i := 215) rfl), rfl⟩
theorem mlX6_74 : inT (.methodLink RX6 74 mX4_placesOf.1) := ⟨t1 (List.mem_of_getElem? (i := 223) rfl), rfl⟩
theorem mlX6_78 : inT (.methodLink RX6 78 mX4_setPlace.1) := ⟨t1 (List.mem_of_getElem? (i := 227) rfl), rfl⟩
theorem mlX6_82 : inT (.methodLink RX6 82 mX4_setPutCost.1) := ⟨t1 (List.mem_of_getElem? (i := 235) rfl), rfl⟩
theorem mlX6_85 : inT (.methodLink RX6 85 mX4_setChangeCost.1) := ⟨t1 (List.mem_of_getElem? (i := 239) rfl), rfl⟩
theorem mlX6_88 : inT (.methodLink RX6 88 mX2_tell.1) := ⟨t2 (List.mem_of_getElem? (i := 7) rfl), rfl⟩
theorem mlX2_25 : inT (.methodLink RX2 25 mX2_find.1) := ⟨t2 (List.mem_of_getElem? (i := 11) rfl), rfl⟩
theorem mlX2_29 : inT (.methodLink RX2 29 mX2_forget.1) := ⟨t2 (List.mem_of_getElem? (i := 15) rfl), rfl⟩
theorem mlX2_33 : inT (.methodLink RX2 33 mX2_append.1) := ⟨t2 (List.mem_of_getElem? (i := 19) rfl), rfl⟩
theorem iaX1 : inT (.instantiable RX1 6) := ⟨t2 (List.mem_of_getElem? (i := 31) rfl), rfl⟩
theorem mlX6_92 : inT (.methodLink RX6 92 mX1_init.1) := ⟨t2 (List.mem_of_getElem? (i := 32) rfl), rfl⟩
theorem mlX1_3 : inT (.methodLink RX1 3 objectInit) := ⟨t2 (List.mem_of_getElem? (i := 35) rfl), rfl⟩
theorem flX1_22 : inT (.fieldLink RX1 22 (TX1 0).1 (TX1 0).2.1 (TX1 0).2.2.1) := ⟨t2 (List.mem_of_getElem? (i := 36) rfl), rfl⟩
theorem flX6_166 : inT (.fieldLink RX6 166 (TX1 0).1 (TX1 0).2.1 (TX1 0).2.2.1) := ⟨t2 (List.mem_of_getElem? (i := 37) rfl), rfl⟩
theorem flX1_25 : inT (.fieldLink RX1 25 (TX1 1).1 (TX1 1).2.1 (TX1 1).2.2.1) := ⟨t2 (List.mem_of_getElem? (i := 38) rfl), rfl⟩
theorem flX6_169 : inT (.fieldLink RX6 169 (TX1 1).1 (TX1 1).2.1 (TX1 1).2.2.1) := ⟨t2 (List.mem_of_getElem? (i := 39) rfl), rfl⟩
theorem flX1_9 : inT (.fieldLink RX1 9 (TX1 2).1 (TX1 2).2.1 (TX1 2).2.2.1) := ⟨t2 (List.mem_of_getElem? (i := 40) rfl), rfl⟩
theorem flX4_62 : inT (.fieldLink RX4 62 (TX1 2).1 (TX1 2).2.1 (TX1 2).2.2.1) := ⟨t2 (List.mem_of_getElem? (i := 41) rfl), rfl⟩
theorem flX1_28 : inT (.fieldLink RX1 28 (TX1 3).1 (TX1 3).2.1 (TX1 3).2.2.1) := ⟨t2 (List.mem_of_getElem? (i := 42) rfl), rfl⟩
theorem flX1_15 : inT (.fieldLink RX1 15 (TX1 4).1 (TX1 4).2.1 (TX1 4).2.2.1) := ⟨t2 (List.mem_of_getElem? (i := 43) rfl), rfl⟩
theorem flX4_56 : inT (.fieldLink RX4 56 (TX1 4).1 (TX1 4).2.1 (TX1 4).2.2.1) := ⟨t2 (List.mem_of_getElem? (i := 44) rfl), rfl⟩
theorem flX6_172 : inT (.fieldLink RX6 172 (TX1 4).1 (TX1 4).2.1 (TX1 4).2.2.1) := ⟨t2 (List.mem_of_getElem? (i := 45) rfl), rfl⟩
theorem flX1_19 : inT (.fieldLink RX1 19 (TX1 5).1 (TX1 5).2.1 (TX1 5).2.2.1) := ⟨t2 (List.mem_of_getElem? (i := 46) rfl), rfl⟩
theorem flX6_179 : inT (.fieldLink RX6 179 (TX1 5).1 (TX1 5).2.1 (TX1 5).2.2.1) := ⟨t2 (List.mem_of_getElem? (i := 47) rfl), rfl⟩
theorem mlX6_94 : inT (.methodLink RX6 94 mX6_markAt.1) := ⟨t2 (List.mem_of_getElem? (i := 65) rfl), rfl⟩
theorem mlX6_98 : inT (.methodLink RX6 98 mX3_areOf.1) := ⟨t2 (List.mem_of_getElem? (i := 69) rfl), rfl⟩
theorem mlX6_102 : inT (.methodLink RX6 102 mX1_addLetter.1) := ⟨t2 (List.mem_of_getElem? (i := 73) rfl), rfl⟩
theorem cnX6_105 : inT (.constant RX6 105 32768) := ⟨t2 (List.mem_of_getElem? (i := 81) rfl), rfl⟩
theorem mlX6_106 : inT (.methodLink RX6 106 mX1_addCode.1) := ⟨t2 (List.mem_of_getElem? (i := 82) rfl), rfl⟩
theorem mlX1_31 : inT (.methodLink RX1 31 mX1_hasCode.1) := ⟨t2 (List.mem_of_getElem? (i := 86) rfl), rfl⟩
theorem mlX6_109 : inT (.methodLink RX6 109 mX6_boundOfX.1) := ⟨t2 (List.mem_of_getElem? (i := 94) rfl), rfl⟩
theorem mlX6_112 : inT (.methodLink RX6 112 mX6_isDay.1) := ⟨t2 (List.mem_of_getElem? (i := 97) rfl), rfl⟩
theorem cnX6_248 : inT (.constant RX6 248 60000) := ⟨t2 (List.mem_of_getElem? (i := 100) rfl), rfl⟩
theorem mlX6_115 : inT (.methodLink RX6 115 mX3_take.1) := ⟨t2 (List.mem_of_getElem? (i := 101) rfl), rfl⟩
theorem mlX3_28 : inT (.methodLink RX3 28 mX3_latestDay.1) := ⟨t2 (List.mem_of_getElem? (i := 105) rfl), rfl⟩
theorem mlX6_118 : inT (.methodLink RX6 118 mX5_read.1) := ⟨t2 (List.mem_of_getElem? (i := 109) rfl), rfl⟩
theorem mlX5_25 : inT (.methodLink RX5 25 mX5_clear.1) := ⟨t2 (List.mem_of_getElem? (i := 113) rfl), rfl⟩
theorem mlX5_47 : inT (.methodLink RX5 47 mX5_readPaper.1) := ⟨t2 (List.mem_of_getElem? (i := 117) rfl), rfl⟩
theorem mlX5_109 : inT (.methodLink RX5 109 mX5_readGoods.1) := ⟨t2 (List.mem_of_getElem? (i := 121) rfl), rfl⟩
theorem mlX5_69 : inT (.methodLink RX5 69 mX5_find.1) := ⟨t2 (List.mem_of_getElem? (i := 125) rfl), rfl⟩
theorem mlX5_113 : inT (.methodLink RX5 113 mX5_readEnter.1) := ⟨t2 (List.mem_of_getElem? (i := 129) rfl), rfl⟩
theorem mlX5_117 : inT (.methodLink RX5 117 mX5_readGive.1) := ⟨t2 (List.mem_of_getElem? (i := 133) rfl), rfl⟩
theorem mlX5_120 : inT (.methodLink RX5 120 mX5_readUse.1) := ⟨t2 (List.mem_of_getElem? (i := 137) rfl), rfl⟩
theorem mlX6_122 : inT (.methodLink RX6 122 mX6_canBe.1) := ⟨t2 (List.mem_of_getElem? (i := 141) rfl), rfl⟩
theorem mlX6_130 : inT (.methodLink RX6 130 mX5_isEntered.1) := ⟨t2 (List.mem_of_getElem? (i := 145) rfl), rfl⟩
theorem mlX6_249 : inT (.methodLink RX6 249 mX5_keeps.1) := ⟨t2 (List.mem_of_getElem? (i := 149) rfl), rfl⟩
theorem mlX6_255 : inT (.methodLink RX6 255 mX3_tell.1) := ⟨t2 (List.mem_of_getElem? (i := 153) rfl), rfl⟩
theorem mlX6_257 : inT (.methodLink RX6 257 mX5_isTimeToRenew.1) := ⟨t2 (List.mem_of_getElem? (i := 157) rfl), rfl⟩
theorem mlX5_64 : inT (.methodLink RX5 64 mX5_termEnd.1) := ⟨t2 (List.mem_of_getElem? (i := 161) rfl), rfl⟩
theorem mlX5_54 : inT (.methodLink RX5 54 mX5_isEntered.1) := ⟨t2 (List.mem_of_getElem? (i := 165) rfl), rfl⟩
theorem mlX6_260 : inT (.methodLink RX6 260 mX6_isOfKind.1) := ⟨t2 (List.mem_of_getElem? (i := 166) rfl), rfl⟩
theorem mlX6_126 : inT (.methodLink RX6 126 mX3_add.1) := ⟨t2 (List.mem_of_getElem? (i := 170) rfl), rfl⟩
theorem mlX6_137 : inT (.methodLink RX6 137 mX6_findClash.1) := ⟨t2 (List.mem_of_getElem? (i := 178) rfl), rfl⟩
theorem mlX6_288 : inT (.methodLink RX6 288 mX0_clear.1) := ⟨t2 (List.mem_of_getElem? (i := 182) rfl), rfl⟩
theorem mlX6_238 : inT (.methodLink RX6 238 mX6_haveOneOwner.1) := ⟨t2 (List.mem_of_getElem? (i := 186) rfl), rfl⟩
theorem mlX6_291 : inT (.methodLink RX6 291 mX5_standsForAny.1) := ⟨t2 (List.mem_of_getElem? (i := 190) rfl), rfl⟩
theorem mlX5_96 : inT (.methodLink RX5 96 mX5_standsAt.1) := ⟨t2 (List.mem_of_getElem? (i := 194) rfl), rfl⟩
theorem mlX5_86 : inT (.methodLink RX5 86 mX5_rightAt.1) := ⟨t2 (List.mem_of_getElem? (i := 198) rfl), rfl⟩
theorem mlX5_80 : inT (.methodLink RX5 80 mJ9_max_7cf53.1) := ⟨t2 (List.mem_of_getElem? (i := 203) rfl), rfl⟩
theorem mlX5_93 : inT (.methodLink RX5 93 mX5_isLapsed.1) := ⟨t2 (List.mem_of_getElem? (i := 206) rfl), rfl⟩
theorem mlX6_228 : inT (.methodLink RX6 228 mX6_areAlike.1) := ⟨t2 (List.mem_of_getElem? (i := 210) rfl), rfl⟩
theorem mlX6_186 : inT (.methodLink RX6 186 mX6_likeOf.1) := ⟨t2 (List.mem_of_getElem? (i := 214) rfl), rfl⟩
theorem mlX6_266 : inT (.methodLink RX6 266 mX1_hasPicture.1) := ⟨t2 (List.mem_of_getElem? (i := 218) rfl), rfl⟩
theorem mlX6_269 : inT (.methodLink RX6 269 mX1_likeOfPictures.1) := ⟨t2 (List.mem_of_getElem? (i := 222) rfl), rfl⟩
theorem mlX1_35 : inT (.methodLink RX1 35 mJ9_max_7cf53.1) := ⟨t2 (List.mem_of_getElem? (i := 226) rfl), rfl⟩
theorem mlX6_272 : inT (.methodLink RX6 272 mX4_likeOf.1) := ⟨t2 (List.mem_of_getElem? (i := 227) rfl), rfl⟩
theorem mlX4_39 : inT (.methodLink RX4 39 mX4_spell.1) := ⟨t2 (List.mem_of_getElem? (i := 231) rfl), rfl⟩
theorem mlX4_65 : inT (.methodLink RX4 65 mX4_heard.1) := ⟨t2 (List.mem_of_getElem? (i := 235) rfl), rfl⟩
theorem mlX4_51 : inT (.methodLink RX4 51 mJ9_max_7cf53.1) := ⟨t2 (List.mem_of_getElem? (i := 239) rfl), rfl⟩
theorem mlX4_47 : inT (.methodLink RX4 47 mX4_leastSum.1) := ⟨t3 (List.mem_of_getElem? (i := 0) rfl), rfl⟩
theorem mlX4_68 : inT (.methodLink RX4 68 mJ9_min_7cf53.1) := ⟨t3 (List.mem_of_getElem? (i := 4) rfl), rfl⟩
theorem mlX6_273 : inT (.methodLink RX6 273 mJ9_max_7cf53.1) := ⟨t3 (List.mem_of_getElem? (i := 7) rfl), rfl⟩
theorem mlX6_202 : inT (.methodLink RX6 202 mX5_standsAt.1) := ⟨t3 (List.mem_of_getElem? (i := 8) rfl), rfl⟩
theorem mlX6_294 : inT (.methodLink RX6 294 mX6_findClashOver.1) := ⟨t3 (List.mem_of_getElem? (i := 9) rfl), rfl⟩
theorem mlX6_199 : inT (.methodLink RX6 199 mX5_rightAt.1) := ⟨t3 (List.mem_of_getElem? (i := 13) rfl), rfl⟩
theorem mlX6_285 : inT (.methodLink RX6 285 mX6_isNear.1) := ⟨t3 (List.mem_of_getElem? (i := 14) rfl), rfl⟩
theorem mlX6_279 : inT (.methodLink RX6 279 mX2_nearOf.1) := ⟨t3 (List.mem_of_getElem? (i := 18) rfl), rfl⟩
theorem mlX6_193 : inT (.methodLink RX6 193 mX5_find.1) := ⟨t3 (List.mem_of_getElem? (i := 22) rfl), rfl⟩
theorem mlX6_297 : inT (.methodLink RX6 297 mX0_add.1) := ⟨t3 (List.mem_of_getElem? (i := 23) rfl), rfl⟩
theorem mlX6_141 : inT (.methodLink RX6 141 mX0_isThere.1) := ⟨t3 (List.mem_of_getElem? (i := 27) rfl), rfl⟩
theorem mlX6_144 : inT (.methodLink RX6 144 mX6_paper.1) := ⟨t3 (List.mem_of_getElem? (i := 31) rfl), rfl⟩
theorem mlX6_147 : inT (.methodLink RX6 147 mX3_takeBack.1) := ⟨t3 (List.mem_of_getElem? (i := 36) rfl), rfl⟩
theorem mlX6_175 : inT (.methodLink RX6 175 mX4_countOf.1) := ⟨t3 (List.mem_of_getElem? (i := 48) rfl), rfl⟩
theorem mlX6_182 : inT (.methodLink RX6 182 mX4_at.1) := ⟨t3 (List.mem_of_getElem? (i := 56) rfl), rfl⟩
theorem mlX6_190 : inT (.methodLink RX6 190 mX4_costOf.1) := ⟨t3 (List.mem_of_getElem? (i := 65) rfl), rfl⟩
theorem mlX6_196 : inT (.methodLink RX6 196 mX5_sinceAt.1) := ⟨t3 (List.mem_of_getElem? (i := 73) rfl), rfl⟩
theorem mlX6_205 : inT (.methodLink RX6 205 mX5_termEnd.1) := ⟨t3 (List.mem_of_getElem? (i := 81) rfl), rfl⟩
theorem mlX6_208 : inT (.methodLink RX6 208 mX5_isLapsed.1) := ⟨t3 (List.mem_of_getElem? (i := 82) rfl), rfl⟩
theorem mlX6_225 : inT (.methodLink RX6 225 mX6_earliestNear.1) := ⟨t3 (List.mem_of_getElem? (i := 95) rfl), rfl⟩
theorem mlX6_231 : inT (.methodLink RX6 231 mX6_claimOf.1) := ⟨t3 (List.mem_of_getElem? (i := 99) rfl), rfl⟩
theorem mlX6_235 : inT (.methodLink RX6 235 mX3_latest.1) := ⟨t3 (List.mem_of_getElem? (i := 107) rfl), rfl⟩
theorem mlX6_241 : inT (.methodLink RX6 241 mX6_standsNearYounger.1) := ⟨t3 (List.mem_of_getElem? (i := 111) rfl), rfl⟩
theorem mlX6_244 : inT (.methodLink RX6 244 mX3_latestDay.1) := ⟨t3 (List.mem_of_getElem? (i := 119) rfl), rfl⟩
theorem iaX7 : inT (.instantiable RX7 27) := ⟨t3 (List.mem_of_getElem? (i := 121) rfl), rfl⟩
theorem mlX7_1 : inT (.methodLink RX7 1 objectInit) := ⟨t3 (List.mem_of_getElem? (i := 125) rfl), rfl⟩
theorem flX7_7 : inT (.fieldLink RX7 7 (TX7 0).1 (TX7 0).2.1 (TX7 0).2.2.1) := ⟨t3 (List.mem_of_getElem? (i := 126) rfl), rfl⟩
theorem flX7_13 : inT (.fieldLink RX7 13 (TX7 1).1 (TX7 1).2.1 (TX7 1).2.2.1) := ⟨t3 (List.mem_of_getElem? (i := 127) rfl), rfl⟩
theorem flX7_16 : inT (.fieldLink RX7 16 (TX7 2).1 (TX7 2).2.1 (TX7 2).2.2.1) := ⟨t3 (List.mem_of_getElem? (i := 128) rfl), rfl⟩
theorem flX7_19 : inT (.fieldLink RX7 19 (TX7 3).1 (TX7 3).2.1 (TX7 3).2.2.1) := ⟨t3 (List.mem_of_getElem? (i := 129) rfl), rfl⟩
theorem flX7_22 : inT (.fieldLink RX7 22 (TX7 4).1 (TX7 4).2.1 (TX7 4).2.2.1) := ⟨t3 (List.mem_of_getElem? (i := 130) rfl), rfl⟩
theorem flX7_25 : inT (.fieldLink RX7 25 (TX7 5).1 (TX7 5).2.1 (TX7 5).2.2.1) := ⟨t3 (List.mem_of_getElem? (i := 131) rfl), rfl⟩
theorem flX7_28 : inT (.fieldLink RX7 28 (TX7 6).1 (TX7 6).2.1 (TX7 6).2.2.1) := ⟨t3 (List.mem_of_getElem? (i := 132) rfl), rfl⟩
theorem flX7_91 : inT (.fieldLink RX7 91 (TX7 7).1 (TX7 7).2.1 (TX7 7).2.2.1) := ⟨t3 (List.mem_of_getElem? (i := 133) rfl), rfl⟩
theorem flX7_76 : inT (.fieldLink RX7 76 (TX7 8).1 (TX7 8).2.1 (TX7 8).2.2.1) := ⟨t3 (List.mem_of_getElem? (i := 134) rfl), rfl⟩
theorem flX7_80 : inT (.fieldLink RX7 80 (TX7 9).1 (TX7 9).2.1 (TX7 9).2.2.1) := ⟨t3 (List.mem_of_getElem? (i := 135) rfl), rfl⟩
theorem flX7_83 : inT (.fieldLink RX7 83 (TX7 10).1 (TX7 10).2.1 (TX7 10).2.2.1) := ⟨t3 (List.mem_of_getElem? (i := 136) rfl), rfl⟩
theorem flX7_31 : inT (.fieldLink RX7 31 (TX7 11).1 (TX7 11).2.1 (TX7 11).2.2.1) := ⟨t3 (List.mem_of_getElem? (i := 137) rfl), rfl⟩
theorem flX7_34 : inT (.fieldLink RX7 34 (TX7 12).1 (TX7 12).2.1 (TX7 12).2.2.1) := ⟨t3 (List.mem_of_getElem? (i := 138) rfl), rfl⟩
theorem flX7_37 : inT (.fieldLink RX7 37 (TX7 13).1 (TX7 13).2.1 (TX7 13).2.2.1) := ⟨t3 (List.mem_of_getElem? (i := 139) rfl), rfl⟩
theorem flX7_40 : inT (.fieldLink RX7 40 (TX7 14).1 (TX7 14).2.1 (TX7 14).2.2.1) := ⟨t3 (List.mem_of_getElem? (i := 140) rfl), rfl⟩
theorem flX7_43 : inT (.fieldLink RX7 43 (TX7 15).1 (TX7 15).2.1 (TX7 15).2.2.1) := ⟨t3 (List.mem_of_getElem? (i := 141) rfl), rfl⟩
theorem flX7_46 : inT (.fieldLink RX7 46 (TX7 16).1 (TX7 16).2.1 (TX7 16).2.2.1) := ⟨t3 (List.mem_of_getElem? (i := 142) rfl), rfl⟩
theorem flX7_105 : inT (.fieldLink RX7 105 (TX7 17).1 (TX7 17).2.1 (TX7 17).2.2.1) := ⟨t3 (List.mem_of_getElem? (i := 143) rfl), rfl⟩
theorem flX7_49 : inT (.fieldLink RX7 49 (TX7 18).1 (TX7 18).2.1 (TX7 18).2.2.1) := ⟨t3 (List.mem_of_getElem? (i := 144) rfl), rfl⟩
theorem flX7_52 : inT (.fieldLink RX7 52 (TX7 19).1 (TX7 19).2.1 (TX7 19).2.2.1) := ⟨t3 (List.mem_of_getElem? (i := 145) rfl), rfl⟩
theorem flX7_55 : inT (.fieldLink RX7 55 (TX7 20).1 (TX7 20).2.1 (TX7 20).2.2.1) := ⟨t3 (List.mem_of_getElem? (i := 146) rfl), rfl⟩
theorem flX7_58 : inT (.fieldLink RX7 58 (TX7 21).1 (TX7 21).2.1 (TX7 21).2.2.1) := ⟨t3 (List.mem_of_getElem? (i := 147) rfl), rfl⟩
theorem flX7_61 : inT (.fieldLink RX7 61 (TX7 22).1 (TX7 22).2.1 (TX7 22).2.2.1) := ⟨t3 (List.mem_of_getElem? (i := 148) rfl), rfl⟩
theorem flX7_64 : inT (.fieldLink RX7 64 (TX7 23).1 (TX7 23).2.1 (TX7 23).2.2.1) := ⟨t3 (List.mem_of_getElem? (i := 149) rfl), rfl⟩
theorem flX7_67 : inT (.fieldLink RX7 67 (TX7 24).1 (TX7 24).2.1 (TX7 24).2.2.1) := ⟨t3 (List.mem_of_getElem? (i := 150) rfl), rfl⟩
theorem flX7_70 : inT (.fieldLink RX7 70 (TX7 25).1 (TX7 25).2.1 (TX7 25).2.2.1) := ⟨t3 (List.mem_of_getElem? (i := 151) rfl), rfl⟩
theorem flX7_73 : inT (.fieldLink RX7 73 (TX7 26).1 (TX7 26).2.1 (TX7 26).2.2.1) := ⟨t3 (List.mem_of_getElem? (i := 152) rfl), rfl⟩
theorem mlX7_86 : inT (.methodLink RX7 86 mX7_in.1) := ⟨t3 (List.mem_of_getElem? (i := 212) rfl), rfl⟩
theorem mlX7_94 : inT (.methodLink RX7 94 mX7_isGoods.1) := ⟨t3 (List.mem_of_getElem? (i := 227) rfl), rfl⟩
theorem mlX7_98 : inT (.methodLink RX7 98 mX7_pairOf.1) := ⟨t3 (List.mem_of_getElem? (i := 230) rfl), rfl⟩
theorem mlX7_102 : inT (.methodLink RX7 102 mX7_isPerson.1) := ⟨t4 (List.mem_of_getElem? (i := 2) rfl), rfl⟩
theorem mlX7_108 : inT (.methodLink RX7 108 mX7_isMark.1) := ⟨t4 (List.mem_of_getElem? (i := 9) rfl), rfl⟩
theorem mlX7_111 : inT (.methodLink RX7 111 mX7_hasPaper.1) := ⟨t4 (List.mem_of_getElem? (i := 13) rfl), rfl⟩
theorem mlX7_114 : inT (.methodLink RX7 114 mX7_hasCode.1) := ⟨t4 (List.mem_of_getElem? (i := 21) rfl), rfl⟩
theorem mlX7_197 : inT (.methodLink RX7 197 mX7_isX.1) := ⟨t4 (List.mem_of_getElem? (i := 29) rfl), rfl⟩
theorem mlX7_194 : inT (.methodLink RX7 194 mX7_isCountry.1) := ⟨t4 (List.mem_of_getElem? (i := 32) rfl), rfl⟩
theorem mlX7_200 : inT (.methodLink RX7 200 mX7_isDay.1) := ⟨t4 (List.mem_of_getElem? (i := 35) rfl), rfl⟩
theorem cnX7_90 : inT (.constant RX7 90 60000) := ⟨t4 (List.mem_of_getElem? (i := 38) rfl), rfl⟩
theorem mlX7_203 : inT (.methodLink RX7 203 mX7_canBe.1) := ⟨t4 (List.mem_of_getElem? (i := 39) rfl), rfl⟩
theorem mlX7_145 : inT (.methodLink RX7 145 mX7_firstOf.1) := ⟨t4 (List.mem_of_getElem? (i := 43) rfl), rfl⟩
theorem mlX7_142 : inT (.methodLink RX7 142 mX7_earliest.1) := ⟨t4 (List.mem_of_getElem? (i := 47) rfl), rfl⟩
theorem mlX7_138 : inT (.methodLink RX7 138 mX7_latest.1) := ⟨t4 (List.mem_of_getElem? (i := 51) rfl), rfl⟩
theorem mlX7_186 : inT (.methodLink RX7 186 mX7_goodsInto.1) := ⟨t4 (List.mem_of_getElem? (i := 55) rfl), rfl⟩
theorem mlX7_155 : inT (.methodLink RX7 155 mX7_since.1) := ⟨t4 (List.mem_of_getElem? (i := 59) rfl), rfl⟩
theorem mlX7_152 : inT (.methodLink RX7 152 mX7_termEnd.1) := ⟨t4 (List.mem_of_getElem? (i := 63) rfl), rfl⟩
theorem mlX7_148 : inT (.methodLink RX7 148 mX7_countOf.1) := ⟨t4 (List.mem_of_getElem? (i := 67) rfl), rfl⟩
theorem mlX7_164 : inT (.methodLink RX7 164 mX7_isStruck.1) := ⟨t4 (List.mem_of_getElem? (i := 71) rfl), rfl⟩
theorem mlX7_170 : inT (.methodLink RX7 170 mX7_hasLeave.1) := ⟨t4 (List.mem_of_getElem? (i := 75) rfl), rfl⟩
theorem mlX7_206 : inT (.methodLink RX7 206 mX7_clashOf.1) := ⟨t4 (List.mem_of_getElem? (i := 83) rfl), rfl⟩
theorem mlX7_183 : inT (.methodLink RX7 183 mX7_mayClash.1) := ⟨t4 (List.mem_of_getElem? (i := 87) rfl), rfl⟩
theorem mlX7_173 : inT (.methodLink RX7 173 mX7_isAlike.1) := ⟨t4 (List.mem_of_getElem? (i := 91) rfl), rfl⟩
theorem mlX7_135 : inT (.methodLink RX7 135 mX7_likeOf.1) := ⟨t4 (List.mem_of_getElem? (i := 95) rfl), rfl⟩
theorem mlX7_129 : inT (.methodLink RX7 129 mX7_codesLike.1) := ⟨t4 (List.mem_of_getElem? (i := 99) rfl), rfl⟩
theorem mlX7_132 : inT (.methodLink RX7 132 mX7_wordsLike.1) := ⟨t4 (List.mem_of_getElem? (i := 103) rfl), rfl⟩
theorem mlX7_126 : inT (.methodLink RX7 126 mX7_costOf.1) := ⟨t4 (List.mem_of_getElem? (i := 107) rfl), rfl⟩
theorem mlX7_121 : inT (.methodLink RX7 121 mX7_soundsInto.1) := ⟨t4 (List.mem_of_getElem? (i := 111) rfl), rfl⟩
theorem mlX7_118 : inT (.methodLink RX7 118 mX7_soundOfLetter.1) := ⟨t4 (List.mem_of_getElem? (i := 115) rfl), rfl⟩
theorem cnX7_125 : inT (.constant RX7 125 2147483647) := ⟨t4 (List.mem_of_getElem? (i := 119) rfl), rfl⟩
theorem mlX7_190 : inT (.methodLink RX7 190 mX7_clashes.1) := ⟨t4 (List.mem_of_getElem? (i := 120) rfl), rfl⟩
theorem mlX7_176 : inT (.methodLink RX7 176 mX7_isNear.1) := ⟨t4 (List.mem_of_getElem? (i := 124) rfl), rfl⟩
theorem mlX7_167 : inT (.methodLink RX7 167 mX7_nearOf.1) := ⟨t4 (List.mem_of_getElem? (i := 128) rfl), rfl⟩
theorem mlX7_180 : inT (.methodLink RX7 180 mX7_stands.1) := ⟨t4 (List.mem_of_getElem? (i := 132) rfl), rfl⟩
theorem mlX7_158 : inT (.methodLink RX7 158 mX7_rightOf.1) := ⟨t4 (List.mem_of_getElem? (i := 136) rfl), rfl⟩
theorem mlX7_161 : inT (.methodLink RX7 161 mX7_hasLapsed.1) := ⟨t4 (List.mem_of_getElem? (i := 140) rfl), rfl⟩
theorem mlX7_209 : inT (.methodLink RX7 209 mX7_paper.1) := ⟨t4 (List.mem_of_getElem? (i := 144) rfl), rfl⟩
theorem mlX7_212 : inT (.methodLink RX7 212 mX7_clashRight.1) := ⟨t4 (List.mem_of_getElem? (i := 181) rfl), rfl⟩
theorem mlX7_215 : inT (.methodLink RX7 215 mX7_nearRight.1) := ⟨t4 (List.mem_of_getElem? (i := 189) rfl), rfl⟩
theorem mlX7_218 : inT (.methodLink RX7 218 mX7_comesNear.1) := ⟨t4 (List.mem_of_getElem? (i := 197) rfl), rfl⟩
theorem acI : inT (.arrayClass .int) := ⟨t1 (List.mem_of_getElem? (i := 50) rfl), rfl⟩
theorem acZ : inT (.arrayClass .boolean) := ⟨t1 (List.mem_of_getElem? (i := 158) rfl), rfl⟩
theorem obI : inT (.instanceMethod objectInit) := ⟨t1 (List.mem_of_getElem? (i := 17) rfl), rfl⟩
theorem obC : inT (.code objectInit ⟨#[0xb1]⟩ 1 none) := ⟨t1 (List.mem_of_getElem? (i := 18) rfl), rfl⟩
theorem ly0 : ∀ k, k < 2 → inT (u_lay RX0 TX0 k) := by
  intro k hk
  match k, hk with
  | 0, _ => exact ⟨t1 (List.mem_of_getElem? (i := 169) rfl), rfl⟩
  | 1, _ => exact ⟨t1 (List.mem_of_getElem? (i := 171) rfl), rfl⟩
theorem lz0 : ∀ w ∈ u_ws RX0 TX0 2, inT w := fun w hw => by
  obtain ⟨k, hk, rfl⟩ := List.mem_map.mp hw
  exact ly0 k (List.mem_range.mp hk)
theorem ly1 : ∀ k, k < 6 → inT (u_lay RX1 TX1 k) := by
  intro k hk
  match k, hk with
  | 0, _ => exact ⟨t2 (List.mem_of_getElem? (i := 48) rfl), rfl⟩
  | 1, _ => exact ⟨t2 (List.mem_of_getElem? (i := 50) rfl), rfl⟩
  | 2, _ => exact ⟨t2 (List.mem_of_getElem? (i := 52) rfl), rfl⟩
  | 3, _ => exact ⟨t2 (List.mem_of_getElem? (i := 54) rfl), rfl⟩
  | 4, _ => exact ⟨t2 (List.mem_of_getElem? (i := 56) rfl), rfl⟩
  | 5, _ => exact ⟨t2 (List.mem_of_getElem? (i := 58) rfl), rfl⟩
theorem lz1 : ∀ w ∈ u_ws RX1 TX1 6, inT w := fun w hw => by
  obtain ⟨k, hk, rfl⟩ := List.mem_map.mp hw
  exact ly1 k (List.mem_range.mp hk)
theorem ly2 : ∀ k, k < 4 → inT (u_lay RX2 TX2 k) := by
  intro k hk
  match k, hk with
  | 0, _ => exact ⟨t1 (List.mem_of_getElem? (i := 62) rfl), rfl⟩
  | 1, _ => exact ⟨t1 (List.mem_of_getElem? (i := 64) rfl), rfl⟩
  | 2, _ => exact ⟨t1 (List.mem_of_getElem? (i := 66) rfl), rfl⟩
  | 3, _ => exact ⟨t1 (List.mem_of_getElem? (i := 68) rfl), rfl⟩
theorem lz2 : ∀ w ∈ u_ws RX2 TX2 4, inT w := fun w hw => by
  obtain ⟨k, hk, rfl⟩ := List.mem_map.mp hw
  exact ly2 k (List.mem_range.mp hk)
theorem ly3 : ∀ k, k < 5 → inT (u_lay RX3 TX3 k) := by
  intro k hk
  match k, hk with
  | 0, _ => exact ⟨t1 (List.mem_of_getElem? (i := 94) rfl), rfl⟩
  | 1, _ => exact ⟨t1 (List.mem_of_getElem? (i := 96) rfl), rfl⟩
  | 2, _ => exact ⟨t1 (List.mem_of_getElem? (i := 98) rfl), rfl⟩
  | 3, _ => exact ⟨t1 (List.mem_of_getElem? (i := 100) rfl), rfl⟩
  | 4, _ => exact ⟨t1 (List.mem_of_getElem? (i := 102) rfl), rfl⟩
theorem lz3 : ∀ w ∈ u_ws RX3 TX3 5, inT w := fun w hw => by
  obtain ⟨k, hk, rfl⟩ := List.mem_map.mp hw
  exact ly3 k (List.mem_range.mp hk)
theorem ly4 : ∀ k, k < 7 → inT (u_lay RX4 TX4 k) := by
  intro k hk
  match k, hk with
  | 0, _ => exact ⟨t1 (List.mem_of_getElem? (i := 35) rfl), rfl⟩
  | 1, _ => exact ⟨t1 (List.mem_of_getElem? (i := 37) rfl), rfl⟩
  | 2, _ => exact ⟨t1 (List.mem_of_getElem? (i := 39) rfl), rfl⟩
  | 3, _ => exact ⟨t1 (List.mem_of_getElem? (i := 41) rfl), rfl⟩
  | 4, _ => exact ⟨t1 (List.mem_of_getElem? (i := 43) rfl), rfl⟩
  | 5, _ => exact ⟨t1 (List.mem_of_getElem? (i := 45) rfl), rfl⟩
  | 6, _ => exact ⟨t1 (List.mem_of_getElem? (i := 47) rfl), rfl⟩
theorem lz4 : ∀ w ∈ u_ws RX4 TX4 7, inT w := fun w hw => by
  obtain ⟨k, hk, rfl⟩ := List.mem_map.mp hw
  exact ly4 k (List.mem_range.mp hk)
theorem ly5 : ∀ k, k < 13 → inT (u_lay RX5 TX5 k) := by
  intro k hk
  match k, hk with
  | 0, _ => exact ⟨t1 (List.mem_of_getElem? (i := 131) rfl), rfl⟩
  | 1, _ => exact ⟨t1 (List.mem_of_getElem? (i := 133) rfl), rfl⟩
  | 2, _ => exact ⟨t1 (List.mem_of_getElem? (i := 135) rfl), rfl⟩
  | 3, _ => exact ⟨t1 (List.mem_of_getElem? (i := 137) rfl), rfl⟩
  | 4, _ => exact ⟨t1 (List.mem_of_getElem? (i := 139) rfl), rfl⟩
  | 5, _ => exact ⟨t1 (List.mem_of_getElem? (i := 141) rfl), rfl⟩
  | 6, _ => exact ⟨t1 (List.mem_of_getElem? (i := 143) rfl), rfl⟩
  | 7, _ => exact ⟨t1 (List.mem_of_getElem? (i := 145) rfl), rfl⟩
  | 8, _ => exact ⟨t1 (List.mem_of_getElem? (i := 147) rfl), rfl⟩
  | 9, _ => exact ⟨t1 (List.mem_of_getElem? (i := 149) rfl), rfl⟩
  | 10, _ => exact ⟨t1 (List.mem_of_getElem? (i := 151) rfl), rfl⟩
  | 11, _ => exact ⟨t1 (List.mem_of_getElem? (i := 153) rfl), rfl⟩
  | 12, _ => exact ⟨t1 (List.mem_of_getElem? (i := 155) rfl), rfl⟩
theorem lz5 : ∀ w ∈ u_ws RX5 TX5 13, inT w := fun w hw => by
  obtain ⟨k, hk, rfl⟩ := List.mem_map.mp hw
  exact ly5 k (List.mem_range.mp hk)
theorem ly6 : ∀ k, k < 11 → inT (u_lay RX6 TX6 k) := by
  intro k hk
  match k, hk with
  | 0, _ => exact ⟨t1 (List.mem_of_getElem? (i := 185) rfl), rfl⟩
  | 1, _ => exact ⟨t1 (List.mem_of_getElem? (i := 187) rfl), rfl⟩
  | 2, _ => exact ⟨t1 (List.mem_of_getElem? (i := 189) rfl), rfl⟩
  | 3, _ => exact ⟨t1 (List.mem_of_getElem? (i := 191) rfl), rfl⟩
  | 4, _ => exact ⟨t1 (List.mem_of_getElem? (i := 193) rfl), rfl⟩
  | 5, _ => exact ⟨t1 (List.mem_of_getElem? (i := 195) rfl), rfl⟩
  | 6, _ => exact ⟨t1 (List.mem_of_getElem? (i := 197) rfl), rfl⟩
  | 7, _ => exact ⟨t1 (List.mem_of_getElem? (i := 199) rfl), rfl⟩
  | 8, _ => exact ⟨t1 (List.mem_of_getElem? (i := 201) rfl), rfl⟩
  | 9, _ => exact ⟨t1 (List.mem_of_getElem? (i := 203) rfl), rfl⟩
  | 10, _ => exact ⟨t1 (List.mem_of_getElem? (i := 205) rfl), rfl⟩
theorem lz6 : ∀ w ∈ u_ws RX6 TX6 11, inT w := fun w hw => by
  obtain ⟨k, hk, rfl⟩ := List.mem_map.mp hw
  exact ly6 k (List.mem_range.mp hk)
theorem ly7 : ∀ k, k < 27 → inT (u_lay RX7 TX7 k) := by
  intro k hk
  match k, hk with
  | 0, _ => exact ⟨t3 (List.mem_of_getElem? (i := 153) rfl), rfl⟩
  | 1, _ => exact ⟨t3 (List.mem_of_getElem? (i := 155) rfl), rfl⟩
  | 2, _ => exact ⟨t3 (List.mem_of_getElem? (i := 157) rfl), rfl⟩
  | 3, _ => exact ⟨t3 (List.mem_of_getElem? (i := 159) rfl), rfl⟩
  | 4, _ => exact ⟨t3 (List.mem_of_getElem? (i := 161) rfl), rfl⟩
  | 5, _ => exact ⟨t3 (List.mem_of_getElem? (i := 163) rfl), rfl⟩
  | 6, _ => exact ⟨t3 (List.mem_of_getElem? (i := 165) rfl), rfl⟩
  | 7, _ => exact ⟨t3 (List.mem_of_getElem? (i := 167) rfl), rfl⟩
  | 8, _ => exact ⟨t3 (List.mem_of_getElem? (i := 169) rfl), rfl⟩
  | 9, _ => exact ⟨t3 (List.mem_of_getElem? (i := 171) rfl), rfl⟩
  | 10, _ => exact ⟨t3 (List.mem_of_getElem? (i := 173) rfl), rfl⟩
  | 11, _ => exact ⟨t3 (List.mem_of_getElem? (i := 175) rfl), rfl⟩
  | 12, _ => exact ⟨t3 (List.mem_of_getElem? (i := 177) rfl), rfl⟩
  | 13, _ => exact ⟨t3 (List.mem_of_getElem? (i := 179) rfl), rfl⟩
  | 14, _ => exact ⟨t3 (List.mem_of_getElem? (i := 181) rfl), rfl⟩
  | 15, _ => exact ⟨t3 (List.mem_of_getElem? (i := 183) rfl), rfl⟩
  | 16, _ => exact ⟨t3 (List.mem_of_getElem? (i := 185) rfl), rfl⟩
  | 17, _ => exact ⟨t3 (List.mem_of_getElem? (i := 187) rfl), rfl⟩
  | 18, _ => exact ⟨t3 (List.mem_of_getElem? (i := 189) rfl), rfl⟩
  | 19, _ => exact ⟨t3 (List.mem_of_getElem? (i := 191) rfl), rfl⟩
  | 20, _ => exact ⟨t3 (List.mem_of_getElem? (i := 193) rfl), rfl⟩
  | 21, _ => exact ⟨t3 (List.mem_of_getElem? (i := 195) rfl), rfl⟩
  | 22, _ => exact ⟨t3 (List.mem_of_getElem? (i := 197) rfl), rfl⟩
  | 23, _ => exact ⟨t3 (List.mem_of_getElem? (i := 199) rfl), rfl⟩
  | 24, _ => exact ⟨t3 (List.mem_of_getElem? (i := 201) rfl), rfl⟩
  | 25, _ => exact ⟨t3 (List.mem_of_getElem? (i := 203) rfl), rfl⟩
  | 26, _ => exact ⟨t3 (List.mem_of_getElem? (i := 205) rfl), rfl⟩
  | n + 27, h => exact absurd h (by omega)
theorem lz7 : ∀ w ∈ u_ws RX7 TX7 27, inT w := fun w hw => by
  obtain ⟨k, hk, rfl⟩ := List.mem_map.mp hw
  exact ly7 k (List.mem_range.mp hk)
