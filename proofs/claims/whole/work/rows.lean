section
-- ===== PART A: goes FIRST, ahead of the names: the tables' words, and 'selects' of the private methods out of them =====
/-- a private method of a class that the tables say can be made, by its rows of tables_1 -/
def lw_okq (q : MethodName × Nat) : Prop := (q.1.cls ≠ "java/lang/invoke/MethodHandle" ∧ q.1.cls ≠ "java/lang/invoke/VarHandle") ∧ Cond.instantiable q.1.cls q.2 ∈ tables_1 ∧ Cond.privateMethod q.1 ∈ tables_1 ∧ Cond.instanceMethod q.1 ∈ tables_1
theorem lw_p0 : lw_okq (⟨"SummedBases$Base", "makeWorths", "()V"⟩, 6) := ⟨⟨by decide +kernel, by decide +kernel⟩, List.mem_of_getElem? (i := 101) (by decide +kernel), List.mem_of_getElem? (i := 117) (by decide +kernel), List.mem_of_getElem? (i := 118) (by decide +kernel)⟩
theorem lw_p1 : lw_okq (⟨"SummedBases", "baseAt", "(I)LSummedBases$Base;"⟩, 12) := ⟨⟨by decide +kernel, by decide +kernel⟩, List.mem_of_getElem? (i := 13) (by decide +kernel), List.mem_of_getElem? (i := 217) (by decide +kernel), List.mem_of_getElem? (i := 218) (by decide +kernel)⟩
theorem lw_p2 : lw_okq (⟨"SummedBases", "reelAt", "(I)LSummedBases$Reel;"⟩, 12) := ⟨⟨by decide +kernel, by decide +kernel⟩, List.mem_of_getElem? (i := 13) (by decide +kernel), List.mem_of_getElem? (i := 229) (by decide +kernel), List.mem_of_getElem? (i := 230) (by decide +kernel)⟩
theorem lw_p3 : lw_okq (⟨"SummedBases", "clearReel", "(I)V"⟩, 12) := ⟨⟨by decide +kernel, by decide +kernel⟩, List.mem_of_getElem? (i := 13) (by decide +kernel), List.mem_of_getElem? (i := 233) (by decide +kernel), List.mem_of_getElem? (i := 234) (by decide +kernel)⟩
theorem lw_p4 : lw_okq (⟨"SummedBases$Deeds", "move", "(II)V"⟩, 3) := ⟨⟨by decide +kernel, by decide +kernel⟩, List.mem_of_getElem? (i := 42) (by decide +kernel), List.mem_of_getElem? (i := 241) (by decide +kernel), List.mem_of_getElem? (i := 242) (by decide +kernel)⟩
theorem lw_p5 : lw_okq (⟨"SummedBases", "fillReel", "(ILSummedBases$Base;[I)I"⟩, 12) := ⟨⟨by decide +kernel, by decide +kernel⟩, List.mem_of_getElem? (i := 13) (by decide +kernel), List.mem_of_getElem? (i := 285) (by decide +kernel), List.mem_of_getElem? (i := 286) (by decide +kernel)⟩
theorem lw_p6 : lw_okq (⟨"SummedBases$Base", "valueBelow", "([II)J"⟩, 6) := ⟨⟨by decide +kernel, by decide +kernel⟩, List.mem_of_getElem? (i := 101) (by decide +kernel), List.mem_of_getElem? (i := 324) (by decide +kernel), List.mem_of_getElem? (i := 325) (by decide +kernel)⟩
theorem lw_p7 : lw_okq (⟨"SummedBases$Deeds", "dropEldest", "()V"⟩, 3) := ⟨⟨by decide +kernel, by decide +kernel⟩, List.mem_of_getElem? (i := 42) (by decide +kernel), List.mem_of_getElem? (i := 336) (by decide +kernel), List.mem_of_getElem? (i := 337) (by decide +kernel)⟩
theorem lw_p8 : lw_okq (⟨"SummedBases", "exchange", "(III)I"⟩, 12) := ⟨⟨by decide +kernel, by decide +kernel⟩, List.mem_of_getElem? (i := 13) (by decide +kernel), List.mem_of_getElem? (i := 345) (by decide +kernel), List.mem_of_getElem? (i := 346) (by decide +kernel)⟩
theorem lw_p9 : lw_okq (⟨"SummedBases$Base", "carried", "(I)I"⟩, 6) := ⟨⟨by decide +kernel, by decide +kernel⟩, List.mem_of_getElem? (i := 101) (by decide +kernel), List.mem_of_getElem? (i := 356) (by decide +kernel), List.mem_of_getElem? (i := 357) (by decide +kernel)⟩
theorem lw_p10 : lw_okq (⟨"SummedBases$Base", "highestCarry", "([II)I"⟩, 6) := ⟨⟨by decide +kernel, by decide +kernel⟩, List.mem_of_getElem? (i := 101) (by decide +kernel), List.mem_of_getElem? (i := 378) (by decide +kernel), List.mem_of_getElem? (i := 379) (by decide +kernel)⟩
theorem lw_p11 : lw_okq (⟨"SummedBases", "turnTo", "(ILSummedBases$Base;[IJ)I"⟩, 12) := ⟨⟨by decide +kernel, by decide +kernel⟩, List.mem_of_getElem? (i := 13) (by decide +kernel), List.mem_of_getElem? (i := 387) (by decide +kernel), List.mem_of_getElem? (i := 388) (by decide +kernel)⟩
theorem lw_p12 : lw_okq (⟨"SummedBases$Makings", "take", "(JIJ)V"⟩, 3) := ⟨⟨by decide +kernel, by decide +kernel⟩, List.mem_of_getElem? (i := 59) (by decide +kernel), List.mem_of_getElem? (i := 451) (by decide +kernel), List.mem_of_getElem? (i := 452) (by decide +kernel)⟩
theorem lw_p13 : lw_okq (⟨"SummedBases$Makings", "firstFrom", "(J)I"⟩, 3) := ⟨⟨by decide +kernel, by decide +kernel⟩, List.mem_of_getElem? (i := 59) (by decide +kernel), List.mem_of_getElem? (i := 455) (by decide +kernel), List.mem_of_getElem? (i := 456) (by decide +kernel)⟩
theorem lw_p14 : lw_okq (⟨"SummedBases$Makings", "nextLeast", "(JI)I"⟩, 3) := ⟨⟨by decide +kernel, by decide +kernel⟩, List.mem_of_getElem? (i := 59) (by decide +kernel), List.mem_of_getElem? (i := 459) (by decide +kernel), List.mem_of_getElem? (i := 460) (by decide +kernel)⟩
theorem lw_p15 : lw_okq (⟨"SummedBases", "rowAt", "(I)LSummedBases$LongRow;"⟩, 12) := ⟨⟨by decide +kernel, by decide +kernel⟩, List.mem_of_getElem? (i := 13) (by decide +kernel), List.mem_of_getElem? (i := 519) (by decide +kernel), List.mem_of_getElem? (i := 520) (by decide +kernel)⟩
def lw_privs_1 : List (MethodName × Nat) := [(⟨"SummedBases$Base", "makeWorths", "()V"⟩, 6), (⟨"SummedBases", "baseAt", "(I)LSummedBases$Base;"⟩, 12), (⟨"SummedBases", "reelAt", "(I)LSummedBases$Reel;"⟩, 12), (⟨"SummedBases", "clearReel", "(I)V"⟩, 12), (⟨"SummedBases$Deeds", "move", "(II)V"⟩, 3), (⟨"SummedBases", "fillReel", "(ILSummedBases$Base;[I)I"⟩, 12), (⟨"SummedBases$Base", "valueBelow", "([II)J"⟩, 6), (⟨"SummedBases$Deeds", "dropEldest", "()V"⟩, 3), (⟨"SummedBases", "exchange", "(III)I"⟩, 12), (⟨"SummedBases$Base", "carried", "(I)I"⟩, 6), (⟨"SummedBases$Base", "highestCarry", "([II)I"⟩, 6), (⟨"SummedBases", "turnTo", "(ILSummedBases$Base;[IJ)I"⟩, 12), (⟨"SummedBases$Makings", "take", "(JIJ)V"⟩, 3), (⟨"SummedBases$Makings", "firstFrom", "(J)I"⟩, 3), (⟨"SummedBases$Makings", "nextLeast", "(JI)I"⟩, 3), (⟨"SummedBases", "rowAt", "(I)LSummedBases$LongRow;"⟩, 12)]
theorem lw_r1 : ∀ q ∈ lw_privs_1, lw_okq q := List.forall_mem_cons.mpr ⟨lw_p0, List.forall_mem_cons.mpr ⟨lw_p1, List.forall_mem_cons.mpr ⟨lw_p2, List.forall_mem_cons.mpr ⟨lw_p3, List.forall_mem_cons.mpr ⟨lw_p4, List.forall_mem_cons.mpr ⟨lw_p5, List.forall_mem_cons.mpr ⟨lw_p6, List.forall_mem_cons.mpr ⟨lw_p7, List.forall_mem_cons.mpr ⟨lw_p8, List.forall_mem_cons.mpr ⟨lw_p9, List.forall_mem_cons.mpr ⟨lw_p10, List.forall_mem_cons.mpr ⟨lw_p11, List.forall_mem_cons.mpr ⟨lw_p12, List.forall_mem_cons.mpr ⟨lw_p13, List.forall_mem_cons.mpr ⟨lw_p14, List.forall_mem_cons.mpr ⟨lw_p15, fun _ h => absurd h List.not_mem_nil⟩⟩⟩⟩⟩⟩⟩⟩⟩⟩⟩⟩⟩⟩⟩⟩
theorem lw_p16 : lw_okq (⟨"SummedBases", "countReels", "()I"⟩, 12) := ⟨⟨by decide +kernel, by decide +kernel⟩, List.mem_of_getElem? (i := 13) (by decide +kernel), List.mem_of_getElem? (i := 579) (by decide +kernel), List.mem_of_getElem? (i := 580) (by decide +kernel)⟩
theorem lw_p17 : lw_okq (⟨"SummedBases", "countRows", "()I"⟩, 12) := ⟨⟨by decide +kernel, by decide +kernel⟩, List.mem_of_getElem? (i := 13) (by decide +kernel), List.mem_of_getElem? (i := 591) (by decide +kernel), List.mem_of_getElem? (i := 592) (by decide +kernel)⟩
theorem lw_p18 : lw_okq (⟨"SummedBasesModel", "fills", "(I)V"⟩, 34) := ⟨⟨by decide +kernel, by decide +kernel⟩, List.mem_of_getElem? (i := 595) (by decide +kernel), List.mem_of_getElem? (i := 601) (by decide +kernel), List.mem_of_getElem? (i := 602) (by decide +kernel)⟩
theorem lw_p19 : lw_okq (⟨"SummedBasesModel", "step", "(II)I"⟩, 34) := ⟨⟨by decide +kernel, by decide +kernel⟩, List.mem_of_getElem? (i := 595) (by decide +kernel), List.mem_of_getElem? (i := 606) (by decide +kernel), List.mem_of_getElem? (i := 607) (by decide +kernel)⟩
theorem lw_p20 : lw_okq (⟨"SummedBasesModel", "forgets", "(I)V"⟩, 34) := ⟨⟨by decide +kernel, by decide +kernel⟩, List.mem_of_getElem? (i := 595) (by decide +kernel), List.mem_of_getElem? (i := 726) (by decide +kernel), List.mem_of_getElem? (i := 727) (by decide +kernel)⟩
theorem lw_p21 : lw_okq (⟨"SummedBasesModel", "moves", "(II)V"⟩, 34) := ⟨⟨by decide +kernel, by decide +kernel⟩, List.mem_of_getElem? (i := 595) (by decide +kernel), List.mem_of_getElem? (i := 730) (by decide +kernel), List.mem_of_getElem? (i := 731) (by decide +kernel)⟩
theorem lw_p22 : lw_okq (⟨"SummedBasesModel", "kind", "(I)I"⟩, 34) := ⟨⟨by decide +kernel, by decide +kernel⟩, List.mem_of_getElem? (i := 595) (by decide +kernel), List.mem_of_getElem? (i := 738) (by decide +kernel), List.mem_of_getElem? (i := 739) (by decide +kernel)⟩
theorem lw_p23 : lw_okq (⟨"SummedBasesModel", "worth", "(II)J"⟩, 34) := ⟨⟨by decide +kernel, by decide +kernel⟩, List.mem_of_getElem? (i := 595) (by decide +kernel), List.mem_of_getElem? (i := 747) (by decide +kernel), List.mem_of_getElem? (i := 748) (by decide +kernel)⟩
theorem lw_p24 : lw_okq (⟨"SummedBasesModel", "makes", "(IJ)V"⟩, 34) := ⟨⟨by decide +kernel, by decide +kernel⟩, List.mem_of_getElem? (i := 595) (by decide +kernel), List.mem_of_getElem? (i := 768) (by decide +kernel), List.mem_of_getElem? (i := 769) (by decide +kernel)⟩
theorem lw_p25 : lw_okq (⟨"SummedBasesModel", "holds", "(II)I"⟩, 34) := ⟨⟨by decide +kernel, by decide +kernel⟩, List.mem_of_getElem? (i := 595) (by decide +kernel), List.mem_of_getElem? (i := 772) (by decide +kernel), List.mem_of_getElem? (i := 773) (by decide +kernel)⟩
theorem lw_p26 : lw_okq (⟨"SummedBasesModel", "takes", "(I)I"⟩, 34) := ⟨⟨by decide +kernel, by decide +kernel⟩, List.mem_of_getElem? (i := 595) (by decide +kernel), List.mem_of_getElem? (i := 776) (by decide +kernel), List.mem_of_getElem? (i := 777) (by decide +kernel)⟩
theorem lw_p27 : lw_okq (⟨"SummedBasesModel", "high", "(I)I"⟩, 34) := ⟨⟨by decide +kernel, by decide +kernel⟩, List.mem_of_getElem? (i := 595) (by decide +kernel), List.mem_of_getElem? (i := 780) (by decide +kernel), List.mem_of_getElem? (i := 781) (by decide +kernel)⟩
theorem lw_p28 : lw_okq (⟨"SummedBasesModel", "digitAt", "(II)I"⟩, 34) := ⟨⟨by decide +kernel, by decide +kernel⟩, List.mem_of_getElem? (i := 595) (by decide +kernel), List.mem_of_getElem? (i := 784) (by decide +kernel), List.mem_of_getElem? (i := 785) (by decide +kernel)⟩
theorem lw_p29 : lw_okq (⟨"SummedBasesModel", "filled", "(I)I"⟩, 34) := ⟨⟨by decide +kernel, by decide +kernel⟩, List.mem_of_getElem? (i := 595) (by decide +kernel), List.mem_of_getElem? (i := 788) (by decide +kernel), List.mem_of_getElem? (i := 789) (by decide +kernel)⟩
theorem lw_p30 : lw_okq (⟨"SummedBasesModel", "isEmpty", "(I)Z"⟩, 34) := ⟨⟨by decide +kernel, by decide +kernel⟩, List.mem_of_getElem? (i := 595) (by decide +kernel), List.mem_of_getElem? (i := 796) (by decide +kernel), List.mem_of_getElem? (i := 797) (by decide +kernel)⟩
theorem lw_p31 : lw_okq (⟨"SummedBasesModel", "isLegal", "(I)Z"⟩, 34) := ⟨⟨by decide +kernel, by decide +kernel⟩, List.mem_of_getElem? (i := 595) (by decide +kernel), List.mem_of_getElem? (i := 804) (by decide +kernel), List.mem_of_getElem? (i := 805) (by decide +kernel)⟩
def lw_privs_2 : List (MethodName × Nat) := [(⟨"SummedBases", "countReels", "()I"⟩, 12), (⟨"SummedBases", "countRows", "()I"⟩, 12), (⟨"SummedBasesModel", "fills", "(I)V"⟩, 34), (⟨"SummedBasesModel", "step", "(II)I"⟩, 34), (⟨"SummedBasesModel", "forgets", "(I)V"⟩, 34), (⟨"SummedBasesModel", "moves", "(II)V"⟩, 34), (⟨"SummedBasesModel", "kind", "(I)I"⟩, 34), (⟨"SummedBasesModel", "worth", "(II)J"⟩, 34), (⟨"SummedBasesModel", "makes", "(IJ)V"⟩, 34), (⟨"SummedBasesModel", "holds", "(II)I"⟩, 34), (⟨"SummedBasesModel", "takes", "(I)I"⟩, 34), (⟨"SummedBasesModel", "high", "(I)I"⟩, 34), (⟨"SummedBasesModel", "digitAt", "(II)I"⟩, 34), (⟨"SummedBasesModel", "filled", "(I)I"⟩, 34), (⟨"SummedBasesModel", "isEmpty", "(I)Z"⟩, 34), (⟨"SummedBasesModel", "isLegal", "(I)Z"⟩, 34)]
theorem lw_r2 : ∀ q ∈ lw_privs_2, lw_okq q := List.forall_mem_cons.mpr ⟨lw_p16, List.forall_mem_cons.mpr ⟨lw_p17, List.forall_mem_cons.mpr ⟨lw_p18, List.forall_mem_cons.mpr ⟨lw_p19, List.forall_mem_cons.mpr ⟨lw_p20, List.forall_mem_cons.mpr ⟨lw_p21, List.forall_mem_cons.mpr ⟨lw_p22, List.forall_mem_cons.mpr ⟨lw_p23, List.forall_mem_cons.mpr ⟨lw_p24, List.forall_mem_cons.mpr ⟨lw_p25, List.forall_mem_cons.mpr ⟨lw_p26, List.forall_mem_cons.mpr ⟨lw_p27, List.forall_mem_cons.mpr ⟨lw_p28, List.forall_mem_cons.mpr ⟨lw_p29, List.forall_mem_cons.mpr ⟨lw_p30, List.forall_mem_cons.mpr ⟨lw_p31, fun _ h => absurd h List.not_mem_nil⟩⟩⟩⟩⟩⟩⟩⟩⟩⟩⟩⟩⟩⟩⟩⟩
theorem lw_p32 : lw_okq (⟨"SummedBasesModel", "highest", "(I)I"⟩, 34) := ⟨⟨by decide +kernel, by decide +kernel⟩, List.mem_of_getElem? (i := 595) (by decide +kernel), List.mem_of_getElem? (i := 808) (by decide +kernel), List.mem_of_getElem? (i := 809) (by decide +kernel)⟩
theorem lw_p33 : lw_okq (⟨"SummedBasesModel", "refusal", "(III)I"⟩, 34) := ⟨⟨by decide +kernel, by decide +kernel⟩, List.mem_of_getElem? (i := 595) (by decide +kernel), List.mem_of_getElem? (i := 816) (by decide +kernel), List.mem_of_getElem? (i := 817) (by decide +kernel)⟩
theorem lw_p34 : lw_okq (⟨"SummedBasesModel", "refusal", "(I)I"⟩, 34) := ⟨⟨by decide +kernel, by decide +kernel⟩, List.mem_of_getElem? (i := 595) (by decide +kernel), List.mem_of_getElem? (i := 820) (by decide +kernel), List.mem_of_getElem? (i := 821) (by decide +kernel)⟩
theorem lw_p35 : lw_okq (⟨"SummedBasesModel", "valueOf", "(I)J"⟩, 34) := ⟨⟨by decide +kernel, by decide +kernel⟩, List.mem_of_getElem? (i := 595) (by decide +kernel), List.mem_of_getElem? (i := 828) (by decide +kernel), List.mem_of_getElem? (i := 829) (by decide +kernel)⟩
theorem lw_p36 : lw_okq (⟨"SummedBasesModel", "does", "(I)V"⟩, 34) := ⟨⟨by decide +kernel, by decide +kernel⟩, List.mem_of_getElem? (i := 595) (by decide +kernel), List.mem_of_getElem? (i := 841) (by decide +kernel), List.mem_of_getElem? (i := 842) (by decide +kernel)⟩
theorem lw_p37 : lw_okq (⟨"SummedBasesModel", "can", "(III)Z"⟩, 34) := ⟨⟨by decide +kernel, by decide +kernel⟩, List.mem_of_getElem? (i := 595) (by decide +kernel), List.mem_of_getElem? (i := 849) (by decide +kernel), List.mem_of_getElem? (i := 850) (by decide +kernel)⟩
theorem lw_p38 : lw_okq (⟨"SummedBasesModel", "goes", "(III)V"⟩, 34) := ⟨⟨by decide +kernel, by decide +kernel⟩, List.mem_of_getElem? (i := 595) (by decide +kernel), List.mem_of_getElem? (i := 853) (by decide +kernel), List.mem_of_getElem? (i := 854) (by decide +kernel)⟩
theorem lw_p39 : lw_okq (⟨"SummedBasesModel", "leaves", "(JJI)V"⟩, 34) := ⟨⟨by decide +kernel, by decide +kernel⟩, List.mem_of_getElem? (i := 595) (by decide +kernel), List.mem_of_getElem? (i := 902) (by decide +kernel), List.mem_of_getElem? (i := 903) (by decide +kernel)⟩
theorem lw_p40 : lw_okq (⟨"SummedBasesModel", "prints", "(I)I"⟩, 34) := ⟨⟨by decide +kernel, by decide +kernel⟩, List.mem_of_getElem? (i := 595) (by decide +kernel), List.mem_of_getElem? (i := 916) (by decide +kernel), List.mem_of_getElem? (i := 917) (by decide +kernel)⟩
theorem lw_p41 : lw_okq (⟨"SummedBasesModel", "reads", "(I)I"⟩, 34) := ⟨⟨by decide +kernel, by decide +kernel⟩, List.mem_of_getElem? (i := 595) (by decide +kernel), List.mem_of_getElem? (i := 929) (by decide +kernel), List.mem_of_getElem? (i := 930) (by decide +kernel)⟩
theorem lw_p42 : lw_okq (⟨"SummedBasesModel", "isFigure", "()Z"⟩, 34) := ⟨⟨by decide +kernel, by decide +kernel⟩, List.mem_of_getElem? (i := 595) (by decide +kernel), List.mem_of_getElem? (i := 933) (by decide +kernel), List.mem_of_getElem? (i := 934) (by decide +kernel)⟩
theorem lw_p43 : lw_okq (⟨"SummedBasesModel", "full", "()I"⟩, 34) := ⟨⟨by decide +kernel, by decide +kernel⟩, List.mem_of_getElem? (i := 595) (by decide +kernel), List.mem_of_getElem? (i := 971) (by decide +kernel), List.mem_of_getElem? (i := 972) (by decide +kernel)⟩
def lw_privs_3 : List (MethodName × Nat) := [(⟨"SummedBasesModel", "highest", "(I)I"⟩, 34), (⟨"SummedBasesModel", "refusal", "(III)I"⟩, 34), (⟨"SummedBasesModel", "refusal", "(I)I"⟩, 34), (⟨"SummedBasesModel", "valueOf", "(I)J"⟩, 34), (⟨"SummedBasesModel", "does", "(I)V"⟩, 34), (⟨"SummedBasesModel", "can", "(III)Z"⟩, 34), (⟨"SummedBasesModel", "goes", "(III)V"⟩, 34), (⟨"SummedBasesModel", "leaves", "(JJI)V"⟩, 34), (⟨"SummedBasesModel", "prints", "(I)I"⟩, 34), (⟨"SummedBasesModel", "reads", "(I)I"⟩, 34), (⟨"SummedBasesModel", "isFigure", "()Z"⟩, 34), (⟨"SummedBasesModel", "full", "()I"⟩, 34)]
theorem lw_r3 : ∀ q ∈ lw_privs_3, lw_okq q := List.forall_mem_cons.mpr ⟨lw_p32, List.forall_mem_cons.mpr ⟨lw_p33, List.forall_mem_cons.mpr ⟨lw_p34, List.forall_mem_cons.mpr ⟨lw_p35, List.forall_mem_cons.mpr ⟨lw_p36, List.forall_mem_cons.mpr ⟨lw_p37, List.forall_mem_cons.mpr ⟨lw_p38, List.forall_mem_cons.mpr ⟨lw_p39, List.forall_mem_cons.mpr ⟨lw_p40, List.forall_mem_cons.mpr ⟨lw_p41, List.forall_mem_cons.mpr ⟨lw_p42, List.forall_mem_cons.mpr ⟨lw_p43, fun _ h => absurd h List.not_mem_nil⟩⟩⟩⟩⟩⟩⟩⟩⟩⟩⟩⟩
def lw_privs : List (MethodName × Nat) := lw_privs_1 ++ (lw_privs_2 ++ (lw_privs_3))
def lw_tbl : List Cond := k2_sels lw_privs ++ tables_1
theorem lw_privs_ok : ∀ q ∈ lw_privs, lw_okq q := by
  show ∀ q ∈ lw_privs_1 ++ (lw_privs_2 ++ (lw_privs_3)), lw_okq q
  exact List.forall_mem_append.mpr ⟨lw_r1, List.forall_mem_append.mpr ⟨lw_r2, lw_r3⟩⟩
end
section
theorem goodIn_r {big : List Cond} (ws : List Cond) (ps : List Nat) (hp : ws = ps.filterMap (fun i => big[i]?)) (h : ws.all goodWord = true) : GoodIn big ws := by
  intro w hw
  have h1 := List.all_eq_true.mp h w hw
  rw [hp] at hw
  obtain ⟨i, -, hi⟩ := List.mem_filterMap.mp hw
  have hm : w ∈ big := by first | exact List.mem_of_getElem? hi | exact List.getElem?_mem hi
  exact ⟨hm, good_of_word h1⟩
theorem goodIn_app {big a b : List Cond} (ha : GoodIn big a) (hb : GoodIn big b) : GoodIn big (a ++ b) := fun w h => (List.mem_append.mp h).elim (ha w) (hb w)
theorem goodIn_ca {big a b : List Cond} {c : Cond} (ha : GoodIn big (c :: a)) (hb : GoodIn big b) : GoodIn big (c :: (a ++ b)) := fun w h => (List.mem_cons.mp h).elim (fun e => ha w (List.mem_cons.mpr (Or.inl e))) (fun h => (List.mem_append.mp h).elim (fun h => ha w (List.mem_cons.mpr (Or.inr h))) (hb w))
theorem goodIn_sub {big ws : List Cond} (hm : ∀ w ∈ ws, w ∈ big) (h : ws.all goodWord = true) : GoodIn big ws := fun w hw => ⟨hm w hw, good_of_word (List.all_eq_true.mp h w hw)⟩
def RX0 : String := "SummedBases$Base"
def TX0 : u_T := fun k => match k with
  | 0 => ("SummedBases$Base", "number", "I", true)
  | 1 => ("SummedBases$Base", "steps", "[I", true)
  | 2 => ("SummedBases$Base", "worths", "[J", true)
  | 3 => ("SummedBases$Base", "stepCount", "I", false)
  | 4 => ("SummedBases$Base", "high", "I", false)
  | _ => ("SummedBases$Base", "top", "J", false)
def tyX0 : Nat → FieldType := fun k => match k with
  | 0 => .int
  | 1 => .array .int
  | 2 => .array .long
  | 3 => .int
  | 4 => .int
  | _ => .long
abbrev wsX00 : List Cond := u_ws RX0 TX0 6
theorem nmX0 : ∀ a, a < 6 → ∀ b, b < 6 → a ≠ b → (TX0 a).2.1 ≠ (TX0 b).2.1 := by decide +kernel
theorem tyX0_ok : ∀ k, k < 6 → parseFieldDescriptor (TX0 k).2.2.1 = some (tyX0 k) := by decide +kernel
abbrev cX0_init : ByteArray := prog_2_method_1_code
def yX0_init : MethodName := ⟨RX0, "<init>", "(I)V"⟩
abbrev cX0_isRowOfSteps : ByteArray := prog_2_method_2_code
def yX0_isRowOfSteps : MethodName := ⟨RX0, "isRowOfSteps", "(II)Z"⟩
abbrev cX0_tell : ByteArray := prog_2_method_3_code
def yX0_tell : MethodName := ⟨RX0, "tell", "(II)V"⟩
abbrev cX0_makeWorths : ByteArray := prog_2_method_4_code
def yX0_makeWorths : MethodName := ⟨RX0, "makeWorths", "()V"⟩
abbrev cX0_becomeLike : ByteArray := prog_2_method_5_code
def yX0_becomeLike : MethodName := ⟨RX0, "becomeLike", "(LSummedBases$Base;)V"⟩
abbrev cX0_kind : ByteArray := prog_2_method_6_code
def yX0_kind : MethodName := ⟨RX0, "kind", "()I"⟩
abbrev cX0_hasPlace : ByteArray := prog_2_method_7_code
def yX0_hasPlace : MethodName := ⟨RX0, "hasPlace", "(I)Z"⟩
abbrev cX0_valueOf : ByteArray := prog_2_method_8_code
def yX0_valueOf : MethodName := ⟨RX0, "valueOf", "([I)J"⟩
abbrev cX0_valueBelow : ByteArray := prog_2_method_9_code
def yX0_valueBelow : MethodName := ⟨RX0, "valueBelow", "([II)J"⟩
abbrev cX0_allows : ByteArray := prog_2_method_10_code
def yX0_allows : MethodName := ⟨RX0, "allows", "([I)Z"⟩
abbrev cX0_greedyInto : ByteArray := prog_2_method_11_code
def yX0_greedyInto : MethodName := ⟨RX0, "greedyInto", "([IJ)V"⟩
abbrev cX0_carried : ByteArray := prog_2_method_12_code
def yX0_carried : MethodName := ⟨RX0, "carried", "(I)I"⟩
abbrev cX0_canCarry : ByteArray := prog_2_method_13_code
def yX0_canCarry : MethodName := ⟨RX0, "canCarry", "([III)Z"⟩
abbrev cX0_carryOnce : ByteArray := prog_2_method_14_code
def yX0_carryOnce : MethodName := ⟨RX0, "carryOnce", "([III)V"⟩
abbrev cX0_settleAll : ByteArray := prog_2_method_15_code
def yX0_settleAll : MethodName := ⟨RX0, "settleAll", "([I)I"⟩
abbrev cX0_highestCarry : ByteArray := prog_2_method_16_code
def yX0_highestCarry : MethodName := ⟨RX0, "highestCarry", "([II)I"⟩
abbrev cX0_shiftInto : ByteArray := prog_2_method_17_code
def yX0_shiftInto : MethodName := ⟨RX0, "shiftInto", "([I[II)V"⟩
abbrev cX0_turnAhead : ByteArray := prog_2_method_18_code
def yX0_turnAhead : MethodName := ⟨RX0, "turnAhead", "([II)J"⟩
abbrev cX0_isDigit : ByteArray := prog_2_method_19_code
def yX0_isDigit : MethodName := ⟨RX0, "isDigit", "(I)Z"⟩
def RX1 : String := "SummedBases$Deeds"
def TX1 : u_T := fun k => match k with
  | 0 => ("SummedBases$Deeds", "reels", "[I", true)
  | 1 => ("SummedBases$Deeds", "digits", "[I", true)
  | _ => ("SummedBases$Deeds", "count", "I", false)
def tyX1 : Nat → FieldType := fun k => match k with
  | 0 => .array .int
  | 1 => .array .int
  | _ => .int
abbrev wsX10 : List Cond := u_ws RX1 TX1 3
theorem nmX1 : ∀ a, a < 3 → ∀ b, b < 3 → a ≠ b → (TX1 a).2.1 ≠ (TX1 b).2.1 := by decide +kernel
theorem tyX1_ok : ∀ k, k < 3 → parseFieldDescriptor (TX1 k).2.2.1 = some (tyX1 k) := by decide +kernel
abbrev cX1_init : ByteArray := prog_3_method_1_code
def yX1_init : MethodName := ⟨RX1, "<init>", "()V"⟩
abbrev cX1_keep : ByteArray := prog_3_method_2_code
def yX1_keep : MethodName := ⟨RX1, "keep", "(I[I)V"⟩
abbrev cX1_dropEldest : ByteArray := prog_3_method_3_code
def yX1_dropEldest : MethodName := ⟨RX1, "dropEldest", "()V"⟩
abbrev cX1_move : ByteArray := prog_3_method_4_code
def yX1_move : MethodName := ⟨RX1, "move", "(II)V"⟩
abbrev cX1_forget : ByteArray := prog_3_method_5_code
def yX1_forget : MethodName := ⟨RX1, "forget", "(I)V"⟩
abbrev cX1_latestReel : ByteArray := prog_3_method_6_code
def yX1_latestReel : MethodName := ⟨RX1, "latestReel", "()I"⟩
abbrev cX1_takeLatest : ByteArray := prog_3_method_7_code
def yX1_takeLatest : MethodName := ⟨RX1, "takeLatest", "([I)V"⟩
def RX2 : String := "SummedBases$LongRow"
def TX2 : u_T := fun k => match k with
  | 0 => ("SummedBases$LongRow", "numbers", "[J", true)
  | _ => ("SummedBases$LongRow", "size", "I", false)
def tyX2 : Nat → FieldType := fun k => match k with
  | 0 => .array .long
  | _ => .int
abbrev wsX20 : List Cond := u_ws RX2 TX2 2
theorem nmX2 : ∀ a, a < 2 → ∀ b, b < 2 → a ≠ b → (TX2 a).2.1 ≠ (TX2 b).2.1 := by decide +kernel
theorem tyX2_ok : ∀ k, k < 2 → parseFieldDescriptor (TX2 k).2.2.1 = some (tyX2 k) := by decide +kernel
abbrev cX2_init : ByteArray := prog_4_method_1_code
def yX2_init : MethodName := ⟨RX2, "<init>", "()V"⟩
abbrev cX2_isMissing : ByteArray := prog_4_method_2_code
def yX2_isMissing : MethodName := ⟨RX2, "isMissing", "()Z"⟩
abbrev cX2_hasPlace : ByteArray := prog_4_method_3_code
def yX2_hasPlace : MethodName := ⟨RX2, "hasPlace", "(I)Z"⟩
abbrev cX2_hasRange : ByteArray := prog_4_method_4_code
def yX2_hasRange : MethodName := ⟨RX2, "hasRange", "(II)Z"⟩
abbrev cX2_become : ByteArray := prog_4_method_5_code
def yX2_become : MethodName := ⟨RX2, "become", "(I)V"⟩
abbrev cX2_digitsInto : ByteArray := prog_4_method_6_code
def yX2_digitsInto : MethodName := ⟨RX2, "digitsInto", "([II)Z"⟩
def RX3 : String := "SummedBases$Makings"
def TX3 : u_T := fun k => match k with
  | 0 => ("SummedBases$Makings", "from", "LSummedBases$Rests;", false)
  | 1 => ("SummedBases$Makings", "to", "LSummedBases$Rests;", false)
  | _ => ("SummedBases$Makings", "next", "[I", true)
def tyX3 : Nat → FieldType := fun k => match k with
  | 0 => .object "SummedBases$Rests"
  | 1 => .object "SummedBases$Rests"
  | _ => .array .int
abbrev wsX30 : List Cond := u_ws RX3 TX3 3
theorem nmX3 : ∀ a, a < 3 → ∀ b, b < 3 → a ≠ b → (TX3 a).2.1 ≠ (TX3 b).2.1 := by decide +kernel
theorem tyX3_ok : ∀ k, k < 3 → parseFieldDescriptor (TX3 k).2.2.1 = some (tyX3 k) := by decide +kernel
abbrev cX3_init : ByteArray := prog_5_method_1_code
def yX3_init : MethodName := ⟨RX3, "<init>", "()V"⟩
abbrev cX3_make : ByteArray := prog_5_method_2_code
def yX3_make : MethodName := ⟨RX3, "make", "(LSummedBases$Base;JI)LSummedBases$Rests;"⟩
abbrev cX3_take : ByteArray := prog_5_method_3_code
def yX3_take : MethodName := ⟨RX3, "take", "(JIJ)V"⟩
abbrev cX3_firstFrom : ByteArray := prog_5_method_4_code
def yX3_firstFrom : MethodName := ⟨RX3, "firstFrom", "(J)I"⟩
abbrev cX3_nextLeast : ByteArray := prog_5_method_5_code
def yX3_nextLeast : MethodName := ⟨RX3, "nextLeast", "(JI)I"⟩
def RX4 : String := "SummedBases$Reel"
def TX4 : u_T := fun k => match k with
  | 0 => ("SummedBases$Reel", "base", "LSummedBases$Base;", false)
  | _ => ("SummedBases$Reel", "digits", "[I", true)
def tyX4 : Nat → FieldType := fun k => match k with
  | 0 => .object "SummedBases$Base"
  | _ => .array .int
abbrev wsX40 : List Cond := u_ws RX4 TX4 2
theorem nmX4 : ∀ a, a < 2 → ∀ b, b < 2 → a ≠ b → (TX4 a).2.1 ≠ (TX4 b).2.1 := by decide +kernel
theorem tyX4_ok : ∀ k, k < 2 → parseFieldDescriptor (TX4 k).2.2.1 = some (tyX4 k) := by decide +kernel
abbrev cX4_init : ByteArray := prog_6_method_1_code
def yX4_init : MethodName := ⟨RX4, "<init>", "()V"⟩
def RX5 : String := "SummedBases$Rests"
def TX5 : u_T := fun k => match k with
  | 0 => ("SummedBases$Rests", "rests", "[J", true)
  | 1 => ("SummedBases$Rests", "ways", "[J", true)
  | 2 => ("SummedBases$Rests", "fewest", "[I", true)
  | _ => ("SummedBases$Rests", "size", "I", false)
def tyX5 : Nat → FieldType := fun k => match k with
  | 0 => .array .long
  | 1 => .array .long
  | 2 => .array .int
  | _ => .int
abbrev wsX50 : List Cond := u_ws RX5 TX5 4
theorem nmX5 : ∀ a, a < 4 → ∀ b, b < 4 → a ≠ b → (TX5 a).2.1 ≠ (TX5 b).2.1 := by decide +kernel
theorem tyX5_ok : ∀ k, k < 4 → parseFieldDescriptor (TX5 k).2.2.1 = some (tyX5 k) := by decide +kernel
abbrev cX5_init : ByteArray := prog_7_method_1_code
def yX5_init : MethodName := ⟨RX5, "<init>", "()V"⟩
abbrev cX5_add : ByteArray := prog_7_method_2_code
def yX5_add : MethodName := ⟨RX5, "add", "(JJI)V"⟩
def RX6 : String := "SummedBases$Tape"
def TX6 : u_T := fun k => match k with
  | 0 => ("SummedBases$Tape", "letters", "[I", true)
  | _ => ("SummedBases$Tape", "size", "I", false)
def tyX6 : Nat → FieldType := fun k => match k with
  | 0 => .array .int
  | _ => .int
abbrev wsX60 : List Cond := u_ws RX6 TX6 2
theorem nmX6 : ∀ a, a < 2 → ∀ b, b < 2 → a ≠ b → (TX6 a).2.1 ≠ (TX6 b).2.1 := by decide +kernel
theorem tyX6_ok : ∀ k, k < 2 → parseFieldDescriptor (TX6 k).2.2.1 = some (tyX6 k) := by decide +kernel
abbrev cX6_init : ByteArray := prog_8_method_1_code
def yX6_init : MethodName := ⟨RX6, "<init>", "()V"⟩
abbrev cX6_add : ByteArray := prog_8_method_2_code
def yX6_add : MethodName := ⟨RX6, "add", "(I)Z"⟩
abbrev cX6_fault : ByteArray := prog_8_method_3_code
def yX6_fault : MethodName := ⟨RX6, "fault", "(I)I"⟩
abbrev cX6_numbersInto : ByteArray := prog_8_method_4_code
def yX6_numbersInto : MethodName := ⟨RX6, "numbersInto", "([I)I"⟩
abbrev cX6_isFigure : ByteArray := prog_8_method_5_code
def yX6_isFigure : MethodName := ⟨RX6, "isFigure", "(I)Z"⟩
def RX7 : String := "SummedBases"
def TX7 : u_T := fun k => match k with
  | 0 => ("SummedBases", "bases", "[LSummedBases$Base;", true)
  | 1 => ("SummedBases", "reels", "[LSummedBases$Reel;", true)
  | 2 => ("SummedBases", "rows", "[LSummedBases$LongRow;", true)
  | 3 => ("SummedBases", "tape", "LSummedBases$Tape;", true)
  | 4 => ("SummedBases", "deeds", "LSummedBases$Deeds;", true)
  | 5 => ("SummedBases", "makings", "LSummedBases$Makings;", true)
  | 6 => ("SummedBases", "keptBases", "[LSummedBases$Base;", true)
  | 7 => ("SummedBases", "keptReels", "[LSummedBases$Reel;", true)
  | 8 => ("SummedBases", "imageKept", "Z", false)
  | 9 => ("SummedBases", "draft", "[I", true)
  | 10 => ("SummedBases", "otherDraft", "[I", true)
  | _ => ("SummedBases", "page", "[I", true)
def tyX7 : Nat → FieldType := fun k => match k with
  | 0 => .array (.object "SummedBases$Base")
  | 1 => .array (.object "SummedBases$Reel")
  | 2 => .array (.object "SummedBases$LongRow")
  | 3 => .object "SummedBases$Tape"
  | 4 => .object "SummedBases$Deeds"
  | 5 => .object "SummedBases$Makings"
  | 6 => .array (.object "SummedBases$Base")
  | 7 => .array (.object "SummedBases$Reel")
  | 8 => .boolean
  | 9 => .array .int
  | 10 => .array .int
  | _ => .array .int
abbrev wsX70 : List Cond := u_ws RX7 TX7 12
theorem nmX7 : ∀ a, a < 12 → ∀ b, b < 12 → a ≠ b → (TX7 a).2.1 ≠ (TX7 b).2.1 := by decide +kernel
theorem tyX7_ok : ∀ k, k < 12 → parseFieldDescriptor (TX7 k).2.2.1 = some (tyX7 k) := by decide +kernel
abbrev cX7_init : ByteArray := prog_1_method_1_code
def yX7_init : MethodName := ⟨RX7, "<init>", "()V"⟩
abbrev cX7_base : ByteArray := prog_1_method_2_code
def yX7_base : MethodName := ⟨RX7, "base", "(III)I"⟩
abbrev cX7_of : ByteArray := prog_1_method_3_code
def yX7_of : MethodName := ⟨RX7, "of", "(II)I"⟩
abbrev cX7_worth : ByteArray := prog_1_method_4_code
def yX7_worth : MethodName := ⟨RX7, "worth", "(III)J"⟩
abbrev cX7_top : ByteArray := prog_1_method_5_code
def yX7_top : MethodName := ⟨RX7, "top", "(I)J"⟩
abbrev cX7_taken : ByteArray := prog_1_method_6_code
def yX7_taken : MethodName := ⟨RX7, "taken", "(II)I"⟩
abbrev cX7_write : ByteArray := prog_1_method_7_code
def yX7_write : MethodName := ⟨RX7, "write", "(IIJ)I"⟩
abbrev cX7_empty : ByteArray := prog_1_method_8_code
def yX7_empty : MethodName := ⟨RX7, "empty", "(I)I"⟩
abbrev cX7_told : ByteArray := prog_1_method_9_code
def yX7_told : MethodName := ⟨RX7, "told", "(II)I"⟩
abbrev cX7_at : ByteArray := prog_1_method_10_code
def yX7_at : MethodName := ⟨RX7, "at", "(II)I"⟩
abbrev cX7_value : ByteArray := prog_1_method_11_code
def yX7_value : MethodName := ⟨RX7, "value", "(I)J"⟩
abbrev cX7_digit : ByteArray := prog_1_method_12_code
def yX7_digit : MethodName := ⟨RX7, "digit", "(III)I"⟩
abbrev cX7_borrow : ByteArray := prog_1_method_13_code
def yX7_borrow : MethodName := ⟨RX7, "borrow", "(II)I"⟩
abbrev cX7_carry : ByteArray := prog_1_method_14_code
def yX7_carry : MethodName := ⟨RX7, "carry", "(II)I"⟩
abbrev cX7_settle : ByteArray := prog_1_method_15_code
def yX7_settle : MethodName := ⟨RX7, "settle", "(I)I"⟩
abbrev cX7_right : ByteArray := prog_1_method_16_code
def yX7_right : MethodName := ⟨RX7, "right", "(I)I"⟩
abbrev cX7_shift : ByteArray := prog_1_method_17_code
def yX7_shift : MethodName := ⟨RX7, "shift", "(II)I"⟩
abbrev cX7_on : ByteArray := prog_1_method_18_code
def yX7_on : MethodName := ⟨RX7, "on", "(II)I"⟩
abbrev cX7_soon : ByteArray := prog_1_method_19_code
def yX7_soon : MethodName := ⟨RX7, "soon", "(II)I"⟩
abbrev cX7_sum : ByteArray := prog_1_method_20_code
def yX7_sum : MethodName := ⟨RX7, "sum", "(IIII)I"⟩
abbrev cX7_like : ByteArray := prog_1_method_21_code
def yX7_like : MethodName := ⟨RX7, "like", "(III)I"⟩
abbrev cX7_ways : ByteArray := prog_1_method_22_code
def yX7_ways : MethodName := ⟨RX7, "ways", "(IJII)J"⟩
abbrev cX7_crossed : ByteArray := prog_1_method_23_code
def yX7_crossed : MethodName := ⟨RX7, "crossed", "(IIJ)I"⟩
abbrev cX7_print : ByteArray := prog_1_method_24_code
def yX7_print : MethodName := ⟨RX7, "print", "(II)I"⟩
abbrev cX7_feed : ByteArray := prog_1_method_25_code
def yX7_feed : MethodName := ⟨RX7, "feed", "(I)I"⟩
abbrev cX7_read : ByteArray := prog_1_method_26_code
def yX7_read : MethodName := ⟨RX7, "read", "(II)I"⟩
abbrev cX7_back : ByteArray := prog_1_method_27_code
def yX7_back : MethodName := ⟨RX7, "back", "()I"⟩
abbrev cX7_row : ByteArray := prog_1_method_28_code
def yX7_row : MethodName := ⟨RX7, "row", "(II)I"⟩
abbrev cX7_put : ByteArray := prog_1_method_29_code
def yX7_put : MethodName := ⟨RX7, "put", "(IIJ)I"⟩
abbrev cX7_get : ByteArray := prog_1_method_30_code
def yX7_get : MethodName := ⟨RX7, "get", "(II)J"⟩
abbrev cX7_copy : ByteArray := prog_1_method_31_code
def yX7_copy : MethodName := ⟨RX7, "copy", "(IIIII)I"⟩
abbrev cX7_lay : ByteArray := prog_1_method_32_code
def yX7_lay : MethodName := ⟨RX7, "lay", "(III)I"⟩
abbrev cX7_film : ByteArray := prog_1_method_33_code
def yX7_film : MethodName := ⟨RX7, "film", "(II)I"⟩
abbrev cX7_image : ByteArray := prog_1_method_34_code
def yX7_image : MethodName := ⟨RX7, "image", "()I"⟩
abbrev cX7_undo : ByteArray := prog_1_method_35_code
def yX7_undo : MethodName := ⟨RX7, "undo", "()I"⟩
abbrev cX7_count : ByteArray := prog_1_method_36_code
def yX7_count : MethodName := ⟨RX7, "count", "(I)I"⟩
abbrev cX7_isWithin : ByteArray := prog_1_method_37_code
def yX7_isWithin : MethodName := ⟨RX7, "isWithin", "(III)Z"⟩
abbrev cX7_baseAt : ByteArray := prog_1_method_38_code
def yX7_baseAt : MethodName := ⟨RX7, "baseAt", "(I)LSummedBases$Base;"⟩
abbrev cX7_reelAt : ByteArray := prog_1_method_39_code
def yX7_reelAt : MethodName := ⟨RX7, "reelAt", "(I)LSummedBases$Reel;"⟩
abbrev cX7_rowAt : ByteArray := prog_1_method_40_code
def yX7_rowAt : MethodName := ⟨RX7, "rowAt", "(I)LSummedBases$LongRow;"⟩
abbrev cX7_isUnder : ByteArray := prog_1_method_41_code
def yX7_isUnder : MethodName := ⟨RX7, "isUnder", "(II)Z"⟩
abbrev cX7_fillReel : ByteArray := prog_1_method_42_code
def yX7_fillReel : MethodName := ⟨RX7, "fillReel", "(ILSummedBases$Base;[I)I"⟩
abbrev cX7_clearReel : ByteArray := prog_1_method_43_code
def yX7_clearReel : MethodName := ⟨RX7, "clearReel", "(I)V"⟩
abbrev cX7_exchange : ByteArray := prog_1_method_44_code
def yX7_exchange : MethodName := ⟨RX7, "exchange", "(III)I"⟩
abbrev cX7_turnTo : ByteArray := prog_1_method_45_code
def yX7_turnTo : MethodName := ⟨RX7, "turnTo", "(ILSummedBases$Base;[IJ)I"⟩
abbrev cX7_reckon : ByteArray := prog_1_method_46_code
def yX7_reckon : MethodName := ⟨RX7, "reckon", "(JJIJ)J"⟩
abbrev cX7_times : ByteArray := prog_1_method_47_code
def yX7_times : MethodName := ⟨RX7, "times", "(JJJ)J"⟩
abbrev cX7_countReels : ByteArray := prog_1_method_48_code
def yX7_countReels : MethodName := ⟨RX7, "countReels", "()I"⟩
abbrev cX7_countRows : ByteArray := prog_1_method_49_code
def yX7_countRows : MethodName := ⟨RX7, "countRows", "()I"⟩
abbrev cX7_carryState : ByteArray := prog_1_method_50_code
def yX7_carryState : MethodName := ⟨RX7, "carryState", "([LSummedBases$Base;[LSummedBases$Reel;[LSummedBases$Base;[LSummedBases$Reel;)V"⟩
abbrev cX7_copyDigits : ByteArray := prog_1_method_51_code
def yX7_copyDigits : MethodName := ⟨RX7, "copyDigits", "([I[I)V"⟩
abbrev cX7_countNotZero : ByteArray := prog_1_method_52_code
def yX7_countNotZero : MethodName := ⟨RX7, "countNotZero", "([I)I"⟩
abbrev cX7_countUnlike : ByteArray := prog_1_method_53_code
def yX7_countUnlike : MethodName := ⟨RX7, "countUnlike", "([I[I)I"⟩
abbrev cX7_highestNotZero : ByteArray := prog_1_method_54_code
def yX7_highestNotZero : MethodName := ⟨RX7, "highestNotZero", "([I)I"⟩
abbrev cX7_addInto : ByteArray := prog_1_method_55_code
def yX7_addInto : MethodName := ⟨RX7, "addInto", "([I[I[I)Z"⟩
abbrev cX7_printInto : ByteArray := prog_1_method_56_code
def yX7_printInto : MethodName := ⟨RX7, "printInto", "([I[I)I"⟩
def RX8 : String := "SummedBasesModel"
def TX8 : u_T := fun k => match k with
  | 0 => ("SummedBasesModel", "steps", "[I", true)
  | 1 => ("SummedBasesModel", "stepMany", "[I", true)
  | 2 => ("SummedBasesModel", "highs", "[I", true)
  | 3 => ("SummedBasesModel", "worths", "[J", true)
  | 4 => ("SummedBasesModel", "tops", "[J", true)
  | 5 => ("SummedBasesModel", "bases", "[I", true)
  | 6 => ("SummedBasesModel", "digits", "[I", true)
  | 7 => ("SummedBasesModel", "greedy", "[I", true)
  | 8 => ("SummedBasesModel", "deedReels", "[I", true)
  | 9 => ("SummedBasesModel", "deedDigits", "[I", true)
  | 10 => ("SummedBasesModel", "deeds", "I", false)
  | 11 => ("SummedBasesModel", "lefts", "[J", true)
  | 12 => ("SummedBasesModel", "ways", "[J", true)
  | 13 => ("SummedBasesModel", "fews", "[I", true)
  | 14 => ("SummedBasesModel", "slots", "[I", true)
  | 15 => ("SummedBasesModel", "many", "I", false)
  | 16 => ("SummedBasesModel", "nextLefts", "[J", true)
  | 17 => ("SummedBasesModel", "nextWays", "[J", true)
  | 18 => ("SummedBasesModel", "nextFews", "[I", true)
  | 19 => ("SummedBasesModel", "nextMany", "I", false)
  | 20 => ("SummedBasesModel", "firstGreedy", "[I", true)
  | 21 => ("SummedBasesModel", "paper", "[I", true)
  | 22 => ("SummedBasesModel", "tape", "[I", true)
  | 23 => ("SummedBasesModel", "taped", "I", false)
  | 24 => ("SummedBasesModel", "place", "I", false)
  | 25 => ("SummedBasesModel", "isThere", "[Z", true)
  | 26 => ("SummedBasesModel", "sizes", "[I", true)
  | 27 => ("SummedBasesModel", "items", "[J", true)
  | 28 => ("SummedBasesModel", "moved", "[J", true)
  | 29 => ("SummedBasesModel", "keptSteps", "[I", true)
  | 30 => ("SummedBasesModel", "keptMany", "[I", true)
  | 31 => ("SummedBasesModel", "keptBases", "[I", true)
  | 32 => ("SummedBasesModel", "keptDigits", "[I", true)
  | _ => ("SummedBasesModel", "isKept", "Z", false)
def tyX8 : Nat → FieldType := fun k => match k with
  | 0 => .array .int
  | 1 => .array .int
  | 2 => .array .int
  | 3 => .array .long
  | 4 => .array .long
  | 5 => .array .int
  | 6 => .array .int
  | 7 => .array .int
  | 8 => .array .int
  | 9 => .array .int
  | 10 => .int
  | 11 => .array .long
  | 12 => .array .long
  | 13 => .array .int
  | 14 => .array .int
  | 15 => .int
  | 16 => .array .long
  | 17 => .array .long
  | 18 => .array .int
  | 19 => .int
  | 20 => .array .int
  | 21 => .array .int
  | 22 => .array .int
  | 23 => .int
  | 24 => .int
  | 25 => .array .boolean
  | 26 => .array .int
  | 27 => .array .long
  | 28 => .array .long
  | 29 => .array .int
  | 30 => .array .int
  | 31 => .array .int
  | 32 => .array .int
  | _ => .boolean
abbrev wsX80 : List Cond := u_ws RX8 TX8 34
theorem nmX8 : ∀ a, a < 34 → ∀ b, b < 34 → a ≠ b → (TX8 a).2.1 ≠ (TX8 b).2.1 := by decide +kernel
theorem tyX8_ok : ∀ k, k < 34 → parseFieldDescriptor (TX8 k).2.2.1 = some (tyX8 k) := by decide +kernel
abbrev cX8_in : ByteArray := prog_10_method_1_code
def yX8_in : MethodName := ⟨RX8, "in", "(JJJ)Z"⟩
abbrev cX8_init : ByteArray := prog_10_method_2_code
def yX8_init : MethodName := ⟨RX8, "<init>", "()V"⟩
abbrev cX8_isBase : ByteArray := prog_10_method_3_code
def yX8_isBase : MethodName := ⟨RX8, "isBase", "(I)Z"⟩
abbrev cX8_step : ByteArray := prog_10_method_4_code
def yX8_step : MethodName := ⟨RX8, "step", "(II)I"⟩
abbrev cX8_worth : ByteArray := prog_10_method_5_code
def yX8_worth : MethodName := ⟨RX8, "worth", "(II)J"⟩
abbrev cX8_fills : ByteArray := prog_10_method_6_code
def yX8_fills : MethodName := ⟨RX8, "fills", "(I)V"⟩
abbrev cX8_base : ByteArray := prog_10_method_7_code
def yX8_base : MethodName := ⟨RX8, "base", "(III)I"⟩
abbrev cX8_kind : ByteArray := prog_10_method_8_code
def yX8_kind : MethodName := ⟨RX8, "kind", "(I)I"⟩
abbrev cX8_of : ByteArray := prog_10_method_9_code
def yX8_of : MethodName := ⟨RX8, "of", "(II)I"⟩
abbrev cX8_worth_ : ByteArray := prog_10_method_10_code
def yX8_worth_ : MethodName := ⟨RX8, "worth", "(III)J"⟩
abbrev cX8_top : ByteArray := prog_10_method_11_code
def yX8_top : MethodName := ⟨RX8, "top", "(I)J"⟩
abbrev cX8_taken : ByteArray := prog_10_method_12_code
def yX8_taken : MethodName := ⟨RX8, "taken", "(II)I"⟩
abbrev cX8_isReel : ByteArray := prog_10_method_13_code
def yX8_isReel : MethodName := ⟨RX8, "isReel", "(I)Z"⟩
abbrev cX8_isEmpty : ByteArray := prog_10_method_14_code
def yX8_isEmpty : MethodName := ⟨RX8, "isEmpty", "(I)Z"⟩
abbrev cX8_high : ByteArray := prog_10_method_15_code
def yX8_high : MethodName := ⟨RX8, "high", "(I)I"⟩
abbrev cX8_digitAt : ByteArray := prog_10_method_16_code
def yX8_digitAt : MethodName := ⟨RX8, "digitAt", "(II)I"⟩
abbrev cX8_valueOf : ByteArray := prog_10_method_17_code
def yX8_valueOf : MethodName := ⟨RX8, "valueOf", "(I)J"⟩
abbrev cX8_makes : ByteArray := prog_10_method_18_code
def yX8_makes : MethodName := ⟨RX8, "makes", "(IJ)V"⟩
abbrev cX8_filled : ByteArray := prog_10_method_19_code
def yX8_filled : MethodName := ⟨RX8, "filled", "(I)I"⟩
abbrev cX8_takes : ByteArray := prog_10_method_20_code
def yX8_takes : MethodName := ⟨RX8, "takes", "(I)I"⟩
abbrev cX8_holds : ByteArray := prog_10_method_21_code
def yX8_holds : MethodName := ⟨RX8, "holds", "(II)I"⟩
abbrev cX8_isLegal : ByteArray := prog_10_method_22_code
def yX8_isLegal : MethodName := ⟨RX8, "isLegal", "(I)Z"⟩
abbrev cX8_write : ByteArray := prog_10_method_23_code
def yX8_write : MethodName := ⟨RX8, "write", "(IIJ)I"⟩
abbrev cX8_empty : ByteArray := prog_10_method_24_code
def yX8_empty : MethodName := ⟨RX8, "empty", "(I)I"⟩
abbrev cX8_refusal : ByteArray := prog_10_method_25_code
def yX8_refusal : MethodName := ⟨RX8, "refusal", "(I)I"⟩
abbrev cX8_refusal_ : ByteArray := prog_10_method_26_code
def yX8_refusal_ : MethodName := ⟨RX8, "refusal", "(III)I"⟩
abbrev cX8_highest : ByteArray := prog_10_method_27_code
def yX8_highest : MethodName := ⟨RX8, "highest", "(I)I"⟩
abbrev cX8_told : ByteArray := prog_10_method_28_code
def yX8_told : MethodName := ⟨RX8, "told", "(II)I"⟩
abbrev cX8_at : ByteArray := prog_10_method_29_code
def yX8_at : MethodName := ⟨RX8, "at", "(II)I"⟩
abbrev cX8_value : ByteArray := prog_10_method_30_code
def yX8_value : MethodName := ⟨RX8, "value", "(I)J"⟩
abbrev cX8_moves : ByteArray := prog_10_method_31_code
def yX8_moves : MethodName := ⟨RX8, "moves", "(II)V"⟩
abbrev cX8_does : ByteArray := prog_10_method_32_code
def yX8_does : MethodName := ⟨RX8, "does", "(I)V"⟩
abbrev cX8_forgets : ByteArray := prog_10_method_33_code
def yX8_forgets : MethodName := ⟨RX8, "forgets", "(I)V"⟩
abbrev cX8_back : ByteArray := prog_10_method_34_code
def yX8_back : MethodName := ⟨RX8, "back", "()I"⟩
abbrev cX8_digit : ByteArray := prog_10_method_35_code
def yX8_digit : MethodName := ⟨RX8, "digit", "(III)I"⟩
abbrev cX8_can : ByteArray := prog_10_method_36_code
def yX8_can : MethodName := ⟨RX8, "can", "(III)Z"⟩
abbrev cX8_goes : ByteArray := prog_10_method_37_code
def yX8_goes : MethodName := ⟨RX8, "goes", "(III)V"⟩
abbrev cX8_borrow : ByteArray := prog_10_method_38_code
def yX8_borrow : MethodName := ⟨RX8, "borrow", "(II)I"⟩
abbrev cX8_carry : ByteArray := prog_10_method_39_code
def yX8_carry : MethodName := ⟨RX8, "carry", "(II)I"⟩
abbrev cX8_settle : ByteArray := prog_10_method_40_code
def yX8_settle : MethodName := ⟨RX8, "settle", "(I)I"⟩
abbrev cX8_right : ByteArray := prog_10_method_41_code
def yX8_right : MethodName := ⟨RX8, "right", "(I)I"⟩
abbrev cX8_shift : ByteArray := prog_10_method_42_code
def yX8_shift : MethodName := ⟨RX8, "shift", "(II)I"⟩
abbrev cX8_on : ByteArray := prog_10_method_43_code
def yX8_on : MethodName := ⟨RX8, "on", "(II)I"⟩
abbrev cX8_soon : ByteArray := prog_10_method_44_code
def yX8_soon : MethodName := ⟨RX8, "soon", "(II)I"⟩
abbrev cX8_comes : ByteArray := prog_10_method_45_code
def yX8_comes : MethodName := ⟨RX8, "comes", "(JJIJ)J"⟩
abbrev cX8_sum : ByteArray := prog_10_method_46_code
def yX8_sum : MethodName := ⟨RX8, "sum", "(IIII)I"⟩
abbrev cX8_like : ByteArray := prog_10_method_47_code
def yX8_like : MethodName := ⟨RX8, "like", "(III)I"⟩
abbrev cX8_leaves : ByteArray := prog_10_method_48_code
def yX8_leaves : MethodName := ⟨RX8, "leaves", "(JJI)V"⟩
abbrev cX8_ways : ByteArray := prog_10_method_49_code
def yX8_ways : MethodName := ⟨RX8, "ways", "(IJII)J"⟩
abbrev cX8_crossed : ByteArray := prog_10_method_50_code
def yX8_crossed : MethodName := ⟨RX8, "crossed", "(IIJ)I"⟩
abbrev cX8_prints : ByteArray := prog_10_method_51_code
def yX8_prints : MethodName := ⟨RX8, "prints", "(I)I"⟩
abbrev cX8_print : ByteArray := prog_10_method_52_code
def yX8_print : MethodName := ⟨RX8, "print", "(II)I"⟩
abbrev cX8_feed : ByteArray := prog_10_method_53_code
def yX8_feed : MethodName := ⟨RX8, "feed", "(I)I"⟩
abbrev cX8_isFigure : ByteArray := prog_10_method_54_code
def yX8_isFigure : MethodName := ⟨RX8, "isFigure", "()Z"⟩
abbrev cX8_reads : ByteArray := prog_10_method_55_code
def yX8_reads : MethodName := ⟨RX8, "reads", "(I)I"⟩
abbrev cX8_read : ByteArray := prog_10_method_56_code
def yX8_read : MethodName := ⟨RX8, "read", "(II)I"⟩
abbrev cX8_isRow : ByteArray := prog_10_method_57_code
def yX8_isRow : MethodName := ⟨RX8, "isRow", "(I)Z"⟩
abbrev cX8_row : ByteArray := prog_10_method_58_code
def yX8_row : MethodName := ⟨RX8, "row", "(II)I"⟩
abbrev cX8_put : ByteArray := prog_10_method_59_code
def yX8_put : MethodName := ⟨RX8, "put", "(IIJ)I"⟩
abbrev cX8_get : ByteArray := prog_10_method_60_code
def yX8_get : MethodName := ⟨RX8, "get", "(II)J"⟩
abbrev cX8_copy : ByteArray := prog_10_method_61_code
def yX8_copy : MethodName := ⟨RX8, "copy", "(IIIII)I"⟩
abbrev cX8_lay : ByteArray := prog_10_method_62_code
def yX8_lay : MethodName := ⟨RX8, "lay", "(III)I"⟩
abbrev cX8_film : ByteArray := prog_10_method_63_code
def yX8_film : MethodName := ⟨RX8, "film", "(II)I"⟩
abbrev cX8_full : ByteArray := prog_10_method_64_code
def yX8_full : MethodName := ⟨RX8, "full", "()I"⟩
abbrev cX8_image : ByteArray := prog_10_method_65_code
def yX8_image : MethodName := ⟨RX8, "image", "()I"⟩
abbrev cX8_undo : ByteArray := prog_10_method_66_code
def yX8_undo : MethodName := ⟨RX8, "undo", "()I"⟩
abbrev cX8_count : ByteArray := prog_10_method_67_code
def yX8_count : MethodName := ⟨RX8, "count", "(I)I"⟩
def RL : String := "SummedBasesLaw"
abbrev cL_law : ByteArray := code
def yL_law : MethodName := ⟨RL, "law", "([I)Z"⟩
abbrev vwCl : List vw_C := [(RX0, TX0, 6), (RX1, TX1, 3), (RX2, TX2, 2), (RX3, TX3, 3), (RX4, TX4, 2), (RX5, TX5, 4), (RX6, TX6, 2), (RX7, TX7, 12), (RX8, TX8, 34)]
end
section
theorem dX0_init_0 : decode cX0_init 0 = .ok (.aload_n 0, 1) := by decide +kernel
theorem dX0_init_1 : decode cX0_init 1 = .ok (.invokespecial 3, 3) := by decide +kernel
theorem dX0_init_4 : decode cX0_init 4 = .ok (.aload_n 0, 1) := by decide +kernel
theorem dX0_init_5 : decode cX0_init 5 = .ok (.bipush 43, 2) := by decide +kernel
theorem dX0_init_7 : decode cX0_init 7 = .ok (.newarray .int, 2) := by decide +kernel
theorem dX0_init_9 : decode cX0_init 9 = .ok (.putfield 9, 3) := by decide +kernel
theorem dX0_init_12 : decode cX0_init 12 = .ok (.aload_n 0, 1) := by decide +kernel
theorem dX0_init_13 : decode cX0_init 13 = .ok (.bipush 43, 2) := by decide +kernel
theorem dX0_init_15 : decode cX0_init 15 = .ok (.newarray .long, 2) := by decide +kernel
theorem dX0_init_17 : decode cX0_init 17 = .ok (.putfield 15, 3) := by decide +kernel
theorem dX0_init_20 : decode cX0_init 20 = .ok (.aload_n 0, 1) := by decide +kernel
theorem dX0_init_21 : decode cX0_init 21 = .ok (.iload_n 1, 1) := by decide +kernel
theorem dX0_init_22 : decode cX0_init 22 = .ok (.putfield 19, 3) := by decide +kernel
theorem dX0_init_25 : decode cX0_init 25 = .ok (.aload_n 0, 1) := by decide +kernel
theorem dX0_init_26 : decode cX0_init 26 = .ok (.iconst 1, 1) := by decide +kernel
theorem dX0_init_27 : decode cX0_init 27 = .ok (.iconst 1, 1) := by decide +kernel
theorem dX0_init_28 : decode cX0_init 28 = .ok (.invokevirtual 23, 3) := by decide +kernel
theorem dX0_init_31 : decode cX0_init 31 = .ok (.return_, 1) := by decide +kernel
theorem dX0_isRowOfSteps_0 : decode cX0_isRowOfSteps 0 = .ok (.iload_n 0, 1) := by decide +kernel
theorem dX0_isRowOfSteps_1 : decode cX0_isRowOfSteps 1 = .ok (.iconst 1, 1) := by decide +kernel
theorem dX0_isRowOfSteps_2 : decode cX0_isRowOfSteps 2 = .ok (.bipush 8, 2) := by decide +kernel
theorem dX0_isRowOfSteps_4 : decode cX0_isRowOfSteps 4 = .ok (.invokestatic 27, 3) := by decide +kernel
theorem dX0_isRowOfSteps_7 : decode cX0_isRowOfSteps 7 = .ok (.ifCond .eq 7, 3) := by decide +kernel
theorem dX0_isRowOfSteps_10 : decode cX0_isRowOfSteps 10 = .ok (.iload_n 1, 1) := by decide +kernel
theorem dX0_isRowOfSteps_11 : decode cX0_isRowOfSteps 11 = .ok (.ifCond .ge 5, 3) := by decide +kernel
theorem dX0_isRowOfSteps_14 : decode cX0_isRowOfSteps 14 = .ok (.iconst 0, 1) := by decide +kernel
theorem dX0_isRowOfSteps_15 : decode cX0_isRowOfSteps 15 = .ok (.ireturn, 1) := by decide +kernel
theorem dX0_isRowOfSteps_16 : decode cX0_isRowOfSteps 16 = .ok (.iload_n 1, 1) := by decide +kernel
theorem dX0_isRowOfSteps_17 : decode cX0_isRowOfSteps 17 = .ok (.istore_n 2, 1) := by decide +kernel
theorem dX0_isRowOfSteps_18 : decode cX0_isRowOfSteps 18 = .ok (.iconst 0, 1) := by decide +kernel
theorem dX0_isRowOfSteps_19 : decode cX0_isRowOfSteps 19 = .ok (.istore_n 3, 1) := by decide +kernel
theorem dX0_isRowOfSteps_20 : decode cX0_isRowOfSteps 20 = .ok (.iload_n 3, 1) := by decide +kernel
theorem dX0_isRowOfSteps_21 : decode cX0_isRowOfSteps 21 = .ok (.iload_n 0, 1) := by decide +kernel
theorem dX0_isRowOfSteps_22 : decode cX0_isRowOfSteps 22 = .ok (.if_icmp .ge 23, 3) := by decide +kernel
theorem dX0_isRowOfSteps_25 : decode cX0_isRowOfSteps 25 = .ok (.iload_n 2, 1) := by decide +kernel
theorem dX0_isRowOfSteps_26 : decode cX0_isRowOfSteps 26 = .ok (.bipush 10, 2) := by decide +kernel
theorem dX0_isRowOfSteps_28 : decode cX0_isRowOfSteps 28 = .ok (.irem, 1) := by decide +kernel
theorem dX0_isRowOfSteps_29 : decode cX0_isRowOfSteps 29 = .ok (.ifCond .ne 5, 3) := by decide +kernel
theorem dX0_isRowOfSteps_32 : decode cX0_isRowOfSteps 32 = .ok (.iconst 0, 1) := by decide +kernel
theorem dX0_isRowOfSteps_33 : decode cX0_isRowOfSteps 33 = .ok (.ireturn, 1) := by decide +kernel
theorem dX0_isRowOfSteps_34 : decode cX0_isRowOfSteps 34 = .ok (.iload_n 2, 1) := by decide +kernel
theorem dX0_isRowOfSteps_35 : decode cX0_isRowOfSteps 35 = .ok (.bipush 10, 2) := by decide +kernel
theorem dX0_isRowOfSteps_37 : decode cX0_isRowOfSteps 37 = .ok (.idiv, 1) := by decide +kernel
theorem dX0_isRowOfSteps_38 : decode cX0_isRowOfSteps 38 = .ok (.istore_n 2, 1) := by decide +kernel
theorem dX0_isRowOfSteps_39 : decode cX0_isRowOfSteps 39 = .ok (.iinc 3 1, 3) := by decide +kernel
theorem dX0_isRowOfSteps_42 : decode cX0_isRowOfSteps 42 = .ok (.goto (-22), 3) := by decide +kernel
theorem dX0_isRowOfSteps_45 : decode cX0_isRowOfSteps 45 = .ok (.iload_n 2, 1) := by decide +kernel
theorem dX0_isRowOfSteps_46 : decode cX0_isRowOfSteps 46 = .ok (.ifCond .ne 7, 3) := by decide +kernel
theorem dX0_isRowOfSteps_49 : decode cX0_isRowOfSteps 49 = .ok (.iconst 1, 1) := by decide +kernel
theorem dX0_isRowOfSteps_50 : decode cX0_isRowOfSteps 50 = .ok (.goto 4, 3) := by decide +kernel
theorem dX0_isRowOfSteps_53 : decode cX0_isRowOfSteps 53 = .ok (.iconst 0, 1) := by decide +kernel
theorem dX0_isRowOfSteps_54 : decode cX0_isRowOfSteps 54 = .ok (.ireturn, 1) := by decide +kernel
theorem dX0_tell_0 : decode cX0_tell 0 = .ok (.aload_n 0, 1) := by decide +kernel
theorem dX0_tell_1 : decode cX0_tell 1 = .ok (.iconst 1, 1) := by decide +kernel
theorem dX0_tell_2 : decode cX0_tell 2 = .ok (.iload_n 1, 1) := by decide +kernel
theorem dX0_tell_3 : decode cX0_tell 3 = .ok (.bipush 8, 2) := by decide +kernel
theorem dX0_tell_5 : decode cX0_tell 5 = .ok (.invokestatic 31, 3) := by decide +kernel
theorem dX0_tell_8 : decode cX0_tell 8 = .ok (.invokestatic 37, 3) := by decide +kernel
theorem dX0_tell_11 : decode cX0_tell 11 = .ok (.putfield 40, 3) := by decide +kernel
theorem dX0_tell_14 : decode cX0_tell 14 = .ok (.iload_n 2, 1) := by decide +kernel
theorem dX0_tell_15 : decode cX0_tell 15 = .ok (.istore_n 3, 1) := by decide +kernel
theorem dX0_tell_16 : decode cX0_tell 16 = .ok (.aload_n 0, 1) := by decide +kernel
theorem dX0_tell_17 : decode cX0_tell 17 = .ok (.getfield 40, 3) := by decide +kernel
theorem dX0_tell_20 : decode cX0_tell 20 = .ok (.iconst 1, 1) := by decide +kernel
theorem dX0_tell_21 : decode cX0_tell 21 = .ok (.isub, 1) := by decide +kernel
theorem dX0_tell_22 : decode cX0_tell 22 = .ok (.istore 4, 2) := by decide +kernel
theorem dX0_tell_24 : decode cX0_tell 24 = .ok (.iload 4, 2) := by decide +kernel
theorem dX0_tell_26 : decode cX0_tell 26 = .ok (.ifCond .lt 25, 3) := by decide +kernel
theorem dX0_tell_29 : decode cX0_tell 29 = .ok (.aload_n 0, 1) := by decide +kernel
theorem dX0_tell_30 : decode cX0_tell 30 = .ok (.getfield 9, 3) := by decide +kernel
theorem dX0_tell_33 : decode cX0_tell 33 = .ok (.iload 4, 2) := by decide +kernel
theorem dX0_tell_35 : decode cX0_tell 35 = .ok (.iload_n 3, 1) := by decide +kernel
theorem dX0_tell_36 : decode cX0_tell 36 = .ok (.bipush 10, 2) := by decide +kernel
theorem dX0_tell_38 : decode cX0_tell 38 = .ok (.irem, 1) := by decide +kernel
theorem dX0_tell_39 : decode cX0_tell 39 = .ok (.iastore, 1) := by decide +kernel
theorem dX0_tell_40 : decode cX0_tell 40 = .ok (.iload_n 3, 1) := by decide +kernel
theorem dX0_tell_41 : decode cX0_tell 41 = .ok (.bipush 10, 2) := by decide +kernel
theorem dX0_tell_43 : decode cX0_tell 43 = .ok (.idiv, 1) := by decide +kernel
theorem dX0_tell_44 : decode cX0_tell 44 = .ok (.istore_n 3, 1) := by decide +kernel
theorem dX0_tell_45 : decode cX0_tell 45 = .ok (.iinc 4 (-1), 3) := by decide +kernel
theorem dX0_tell_48 : decode cX0_tell 48 = .ok (.goto (-24), 3) := by decide +kernel
theorem dX0_tell_51 : decode cX0_tell 51 = .ok (.aload_n 0, 1) := by decide +kernel
theorem dX0_tell_52 : decode cX0_tell 52 = .ok (.getfield 40, 3) := by decide +kernel
theorem dX0_tell_55 : decode cX0_tell 55 = .ok (.istore 4, 2) := by decide +kernel
theorem dX0_tell_57 : decode cX0_tell 57 = .ok (.iload 4, 2) := by decide +kernel
theorem dX0_tell_59 : decode cX0_tell 59 = .ok (.aload_n 0, 1) := by decide +kernel
theorem dX0_tell_60 : decode cX0_tell 60 = .ok (.getfield 9, 3) := by decide +kernel
theorem dX0_tell_63 : decode cX0_tell 63 = .ok (.arraylength, 1) := by decide +kernel
theorem dX0_tell_64 : decode cX0_tell 64 = .ok (.if_icmp .ge 28, 3) := by decide +kernel
theorem dX0_tell_67 : decode cX0_tell 67 = .ok (.aload_n 0, 1) := by decide +kernel
theorem dX0_tell_68 : decode cX0_tell 68 = .ok (.getfield 9, 3) := by decide +kernel
theorem dX0_tell_71 : decode cX0_tell 71 = .ok (.iload 4, 2) := by decide +kernel
theorem dX0_tell_73 : decode cX0_tell 73 = .ok (.aload_n 0, 1) := by decide +kernel
theorem dX0_tell_74 : decode cX0_tell 74 = .ok (.getfield 9, 3) := by decide +kernel
theorem dX0_tell_77 : decode cX0_tell 77 = .ok (.iload 4, 2) := by decide +kernel
theorem dX0_tell_79 : decode cX0_tell 79 = .ok (.aload_n 0, 1) := by decide +kernel
theorem dX0_tell_80 : decode cX0_tell 80 = .ok (.getfield 40, 3) := by decide +kernel
theorem dX0_tell_83 : decode cX0_tell 83 = .ok (.isub, 1) := by decide +kernel
theorem dX0_tell_84 : decode cX0_tell 84 = .ok (.iaload, 1) := by decide +kernel
theorem dX0_tell_85 : decode cX0_tell 85 = .ok (.iastore, 1) := by decide +kernel
theorem dX0_tell_86 : decode cX0_tell 86 = .ok (.iinc 4 1, 3) := by decide +kernel
theorem dX0_tell_89 : decode cX0_tell 89 = .ok (.goto (-32), 3) := by decide +kernel
theorem dX0_tell_92 : decode cX0_tell 92 = .ok (.aload_n 0, 1) := by decide +kernel
theorem dX0_tell_93 : decode cX0_tell 93 = .ok (.invokevirtual 43, 3) := by decide +kernel
theorem dX0_tell_96 : decode cX0_tell 96 = .ok (.return_, 1) := by decide +kernel
theorem dX0_makeWorths_0 : decode cX0_makeWorths 0 = .ok (.lconst 1, 1) := by decide +kernel
theorem dX0_makeWorths_1 : decode cX0_makeWorths 1 = .ok (.lstore_n 1, 1) := by decide +kernel
theorem dX0_makeWorths_2 : decode cX0_makeWorths 2 = .ok (.lconst 1, 1) := by decide +kernel
theorem dX0_makeWorths_3 : decode cX0_makeWorths 3 = .ok (.lstore_n 3, 1) := by decide +kernel
theorem dX0_makeWorths_4 : decode cX0_makeWorths 4 = .ok (.iconst 0, 1) := by decide +kernel
theorem dX0_makeWorths_5 : decode cX0_makeWorths 5 = .ok (.istore 5, 2) := by decide +kernel
theorem dX0_makeWorths_7 : decode cX0_makeWorths 7 = .ok (.iload 5, 2) := by decide +kernel
theorem dX0_makeWorths_9 : decode cX0_makeWorths 9 = .ok (.aload_n 0, 1) := by decide +kernel
theorem dX0_makeWorths_10 : decode cX0_makeWorths 10 = .ok (.getfield 15, 3) := by decide +kernel
theorem dX0_makeWorths_13 : decode cX0_makeWorths 13 = .ok (.arraylength, 1) := by decide +kernel
theorem dX0_makeWorths_14 : decode cX0_makeWorths 14 = .ok (.if_icmp .ge 52, 3) := by decide +kernel
theorem dX0_makeWorths_17 : decode cX0_makeWorths 17 = .ok (.lload_n 3, 1) := by decide +kernel
theorem dX0_makeWorths_18 : decode cX0_makeWorths 18 = .ok (.ldc2_w 46, 3) := by decide +kernel
theorem dX0_makeWorths_21 : decode cX0_makeWorths 21 = .ok (.lcmp, 1) := by decide +kernel
theorem dX0_makeWorths_22 : decode cX0_makeWorths 22 = .ok (.ifCond .gt 44, 3) := by decide +kernel
theorem dX0_makeWorths_25 : decode cX0_makeWorths 25 = .ok (.aload_n 0, 1) := by decide +kernel
theorem dX0_makeWorths_26 : decode cX0_makeWorths 26 = .ok (.getfield 15, 3) := by decide +kernel
theorem dX0_makeWorths_29 : decode cX0_makeWorths 29 = .ok (.iload 5, 2) := by decide +kernel
theorem dX0_makeWorths_31 : decode cX0_makeWorths 31 = .ok (.lload_n 3, 1) := by decide +kernel
theorem dX0_makeWorths_32 : decode cX0_makeWorths 32 = .ok (.lastore, 1) := by decide +kernel
theorem dX0_makeWorths_33 : decode cX0_makeWorths 33 = .ok (.aload_n 0, 1) := by decide +kernel
theorem dX0_makeWorths_34 : decode cX0_makeWorths 34 = .ok (.iload 5, 2) := by decide +kernel
theorem dX0_makeWorths_36 : decode cX0_makeWorths 36 = .ok (.iconst 1, 1) := by decide +kernel
theorem dX0_makeWorths_37 : decode cX0_makeWorths 37 = .ok (.iadd, 1) := by decide +kernel
theorem dX0_makeWorths_38 : decode cX0_makeWorths 38 = .ok (.putfield 48, 3) := by decide +kernel
theorem dX0_makeWorths_41 : decode cX0_makeWorths 41 = .ok (.aload_n 0, 1) := by decide +kernel
theorem dX0_makeWorths_42 : decode cX0_makeWorths 42 = .ok (.getfield 9, 3) := by decide +kernel
theorem dX0_makeWorths_45 : decode cX0_makeWorths 45 = .ok (.iload 5, 2) := by decide +kernel
theorem dX0_makeWorths_47 : decode cX0_makeWorths 47 = .ok (.iaload, 1) := by decide +kernel
theorem dX0_makeWorths_48 : decode cX0_makeWorths 48 = .ok (.i2l, 1) := by decide +kernel
theorem dX0_makeWorths_49 : decode cX0_makeWorths 49 = .ok (.lload_n 3, 1) := by decide +kernel
theorem dX0_makeWorths_50 : decode cX0_makeWorths 50 = .ok (.lmul, 1) := by decide +kernel
theorem dX0_makeWorths_51 : decode cX0_makeWorths 51 = .ok (.lload_n 1, 1) := by decide +kernel
theorem dX0_makeWorths_52 : decode cX0_makeWorths 52 = .ok (.ladd, 1) := by decide +kernel
theorem dX0_makeWorths_53 : decode cX0_makeWorths 53 = .ok (.lstore 6, 2) := by decide +kernel
theorem dX0_makeWorths_55 : decode cX0_makeWorths 55 = .ok (.lload_n 3, 1) := by decide +kernel
theorem dX0_makeWorths_56 : decode cX0_makeWorths 56 = .ok (.lstore_n 1, 1) := by decide +kernel
theorem dX0_makeWorths_57 : decode cX0_makeWorths 57 = .ok (.lload 6, 2) := by decide +kernel
theorem dX0_makeWorths_59 : decode cX0_makeWorths 59 = .ok (.lstore_n 3, 1) := by decide +kernel
theorem dX0_makeWorths_60 : decode cX0_makeWorths 60 = .ok (.iinc 5 1, 3) := by decide +kernel
theorem dX0_makeWorths_63 : decode cX0_makeWorths 63 = .ok (.goto (-56), 3) := by decide +kernel
theorem dX0_makeWorths_66 : decode cX0_makeWorths 66 = .ok (.aload_n 0, 1) := by decide +kernel
theorem dX0_makeWorths_67 : decode cX0_makeWorths 67 = .ok (.lload_n 3, 1) := by decide +kernel
theorem dX0_makeWorths_68 : decode cX0_makeWorths 68 = .ok (.lconst 1, 1) := by decide +kernel
theorem dX0_makeWorths_69 : decode cX0_makeWorths 69 = .ok (.lsub, 1) := by decide +kernel
theorem dX0_makeWorths_70 : decode cX0_makeWorths 70 = .ok (.putfield 51, 3) := by decide +kernel
theorem dX0_makeWorths_73 : decode cX0_makeWorths 73 = .ok (.return_, 1) := by decide +kernel
theorem dX0_becomeLike_0 : decode cX0_becomeLike 0 = .ok (.aload_n 0, 1) := by decide +kernel
theorem dX0_becomeLike_1 : decode cX0_becomeLike 1 = .ok (.aload_n 1, 1) := by decide +kernel
theorem dX0_becomeLike_2 : decode cX0_becomeLike 2 = .ok (.getfield 40, 3) := by decide +kernel
theorem dX0_becomeLike_5 : decode cX0_becomeLike 5 = .ok (.putfield 40, 3) := by decide +kernel
theorem dX0_becomeLike_8 : decode cX0_becomeLike 8 = .ok (.aload_n 0, 1) := by decide +kernel
theorem dX0_becomeLike_9 : decode cX0_becomeLike 9 = .ok (.aload_n 1, 1) := by decide +kernel
theorem dX0_becomeLike_10 : decode cX0_becomeLike 10 = .ok (.getfield 48, 3) := by decide +kernel
theorem dX0_becomeLike_13 : decode cX0_becomeLike 13 = .ok (.putfield 48, 3) := by decide +kernel
theorem dX0_becomeLike_16 : decode cX0_becomeLike 16 = .ok (.aload_n 0, 1) := by decide +kernel
theorem dX0_becomeLike_17 : decode cX0_becomeLike 17 = .ok (.aload_n 1, 1) := by decide +kernel
theorem dX0_becomeLike_18 : decode cX0_becomeLike 18 = .ok (.getfield 51, 3) := by decide +kernel
theorem dX0_becomeLike_21 : decode cX0_becomeLike 21 = .ok (.putfield 51, 3) := by decide +kernel
theorem dX0_becomeLike_24 : decode cX0_becomeLike 24 = .ok (.aload_n 1, 1) := by decide +kernel
theorem dX0_becomeLike_25 : decode cX0_becomeLike 25 = .ok (.getfield 9, 3) := by decide +kernel
theorem dX0_becomeLike_28 : decode cX0_becomeLike 28 = .ok (.iconst 0, 1) := by decide +kernel
theorem dX0_becomeLike_29 : decode cX0_becomeLike 29 = .ok (.aload_n 0, 1) := by decide +kernel
theorem dX0_becomeLike_30 : decode cX0_becomeLike 30 = .ok (.getfield 9, 3) := by decide +kernel
theorem dX0_becomeLike_33 : decode cX0_becomeLike 33 = .ok (.iconst 0, 1) := by decide +kernel
theorem dX0_becomeLike_34 : decode cX0_becomeLike 34 = .ok (.aload_n 0, 1) := by decide +kernel
theorem dX0_becomeLike_35 : decode cX0_becomeLike 35 = .ok (.getfield 9, 3) := by decide +kernel
theorem dX0_becomeLike_38 : decode cX0_becomeLike 38 = .ok (.arraylength, 1) := by decide +kernel
theorem dX0_becomeLike_39 : decode cX0_becomeLike 39 = .ok (.invokestatic 55, 3) := by decide +kernel
theorem dX0_becomeLike_42 : decode cX0_becomeLike 42 = .ok (.aload_n 1, 1) := by decide +kernel
theorem dX0_becomeLike_43 : decode cX0_becomeLike 43 = .ok (.getfield 15, 3) := by decide +kernel
theorem dX0_becomeLike_46 : decode cX0_becomeLike 46 = .ok (.iconst 0, 1) := by decide +kernel
theorem dX0_becomeLike_47 : decode cX0_becomeLike 47 = .ok (.aload_n 0, 1) := by decide +kernel
theorem dX0_becomeLike_48 : decode cX0_becomeLike 48 = .ok (.getfield 15, 3) := by decide +kernel
theorem dX0_becomeLike_51 : decode cX0_becomeLike 51 = .ok (.iconst 0, 1) := by decide +kernel
theorem dX0_becomeLike_52 : decode cX0_becomeLike 52 = .ok (.aload_n 0, 1) := by decide +kernel
theorem dX0_becomeLike_53 : decode cX0_becomeLike 53 = .ok (.getfield 15, 3) := by decide +kernel
theorem dX0_becomeLike_56 : decode cX0_becomeLike 56 = .ok (.arraylength, 1) := by decide +kernel
theorem dX0_becomeLike_57 : decode cX0_becomeLike 57 = .ok (.invokestatic 55, 3) := by decide +kernel
theorem dX0_becomeLike_60 : decode cX0_becomeLike 60 = .ok (.return_, 1) := by decide +kernel
theorem dX0_kind_0 : decode cX0_kind 0 = .ok (.iconst 1, 1) := by decide +kernel
theorem dX0_kind_1 : decode cX0_kind 1 = .ok (.istore_n 1, 1) := by decide +kernel
theorem dX0_kind_2 : decode cX0_kind 2 = .ok (.iload_n 1, 1) := by decide +kernel
theorem dX0_kind_3 : decode cX0_kind 3 = .ok (.aload_n 0, 1) := by decide +kernel
theorem dX0_kind_4 : decode cX0_kind 4 = .ok (.getfield 40, 3) := by decide +kernel
theorem dX0_kind_7 : decode cX0_kind 7 = .ok (.if_icmp .ge 35, 3) := by decide +kernel
theorem dX0_kind_10 : decode cX0_kind 10 = .ok (.iload_n 1, 1) := by decide +kernel
theorem dX0_kind_11 : decode cX0_kind 11 = .ok (.aload_n 0, 1) := by decide +kernel
theorem dX0_kind_12 : decode cX0_kind 12 = .ok (.getfield 9, 3) := by decide +kernel
theorem dX0_kind_15 : decode cX0_kind 15 = .ok (.arraylength, 1) := by decide +kernel
theorem dX0_kind_16 : decode cX0_kind 16 = .ok (.if_icmp .ge 26, 3) := by decide +kernel
theorem dX0_kind_19 : decode cX0_kind 19 = .ok (.aload_n 0, 1) := by decide +kernel
theorem dX0_kind_20 : decode cX0_kind 20 = .ok (.getfield 9, 3) := by decide +kernel
theorem dX0_kind_23 : decode cX0_kind 23 = .ok (.iload_n 1, 1) := by decide +kernel
theorem dX0_kind_24 : decode cX0_kind 24 = .ok (.iaload, 1) := by decide +kernel
theorem dX0_kind_25 : decode cX0_kind 25 = .ok (.aload_n 0, 1) := by decide +kernel
theorem dX0_kind_26 : decode cX0_kind 26 = .ok (.getfield 9, 3) := by decide +kernel
theorem dX0_kind_29 : decode cX0_kind 29 = .ok (.iconst 0, 1) := by decide +kernel
theorem dX0_kind_30 : decode cX0_kind 30 = .ok (.iaload, 1) := by decide +kernel
theorem dX0_kind_31 : decode cX0_kind 31 = .ok (.if_icmp .eq 5, 3) := by decide +kernel
theorem dX0_kind_34 : decode cX0_kind 34 = .ok (.iconst 0, 1) := by decide +kernel
theorem dX0_kind_35 : decode cX0_kind 35 = .ok (.ireturn, 1) := by decide +kernel
theorem dX0_kind_36 : decode cX0_kind 36 = .ok (.iinc 1 1, 3) := by decide +kernel
theorem dX0_kind_39 : decode cX0_kind 39 = .ok (.goto (-37), 3) := by decide +kernel
theorem dX0_kind_42 : decode cX0_kind 42 = .ok (.aload_n 0, 1) := by decide +kernel
theorem dX0_kind_43 : decode cX0_kind 43 = .ok (.getfield 9, 3) := by decide +kernel
theorem dX0_kind_46 : decode cX0_kind 46 = .ok (.iconst 0, 1) := by decide +kernel
theorem dX0_kind_47 : decode cX0_kind 47 = .ok (.iaload, 1) := by decide +kernel
theorem dX0_kind_48 : decode cX0_kind 48 = .ok (.iconst 1, 1) := by decide +kernel
theorem dX0_kind_49 : decode cX0_kind 49 = .ok (.if_icmp .ne 5, 3) := by decide +kernel
theorem dX0_kind_52 : decode cX0_kind 52 = .ok (.iconst 2, 1) := by decide +kernel
theorem dX0_kind_53 : decode cX0_kind 53 = .ok (.ireturn, 1) := by decide +kernel
theorem dX0_kind_54 : decode cX0_kind 54 = .ok (.aload_n 0, 1) := by decide +kernel
theorem dX0_kind_55 : decode cX0_kind 55 = .ok (.getfield 9, 3) := by decide +kernel
theorem dX0_kind_58 : decode cX0_kind 58 = .ok (.iconst 0, 1) := by decide +kernel
theorem dX0_kind_59 : decode cX0_kind 59 = .ok (.iaload, 1) := by decide +kernel
theorem dX0_kind_60 : decode cX0_kind 60 = .ok (.iconst 2, 1) := by decide +kernel
theorem dX0_kind_61 : decode cX0_kind 61 = .ok (.if_icmp .ne 7, 3) := by decide +kernel
theorem dX0_kind_64 : decode cX0_kind 64 = .ok (.iconst 3, 1) := by decide +kernel
theorem dX0_kind_65 : decode cX0_kind 65 = .ok (.goto 4, 3) := by decide +kernel
theorem dX0_kind_68 : decode cX0_kind 68 = .ok (.iconst 1, 1) := by decide +kernel
theorem dX0_kind_69 : decode cX0_kind 69 = .ok (.ireturn, 1) := by decide +kernel
theorem dX0_hasPlace_0 : decode cX0_hasPlace 0 = .ok (.iload_n 1, 1) := by decide +kernel
theorem dX0_hasPlace_1 : decode cX0_hasPlace 1 = .ok (.ifCond .lt 21, 3) := by decide +kernel
theorem dX0_hasPlace_4 : decode cX0_hasPlace 4 = .ok (.iload_n 1, 1) := by decide +kernel
theorem dX0_hasPlace_5 : decode cX0_hasPlace 5 = .ok (.aload_n 0, 1) := by decide +kernel
theorem dX0_hasPlace_6 : decode cX0_hasPlace 6 = .ok (.getfield 48, 3) := by decide +kernel
theorem dX0_hasPlace_9 : decode cX0_hasPlace 9 = .ok (.if_icmp .ge 13, 3) := by decide +kernel
theorem dX0_hasPlace_12 : decode cX0_hasPlace 12 = .ok (.iload_n 1, 1) := by decide +kernel
theorem dX0_hasPlace_13 : decode cX0_hasPlace 13 = .ok (.bipush 43, 2) := by decide +kernel
theorem dX0_hasPlace_15 : decode cX0_hasPlace 15 = .ok (.if_icmp .ge 7, 3) := by decide +kernel
theorem dX0_hasPlace_18 : decode cX0_hasPlace 18 = .ok (.iconst 1, 1) := by decide +kernel
theorem dX0_hasPlace_19 : decode cX0_hasPlace 19 = .ok (.goto 4, 3) := by decide +kernel
theorem dX0_hasPlace_22 : decode cX0_hasPlace 22 = .ok (.iconst 0, 1) := by decide +kernel
theorem dX0_hasPlace_23 : decode cX0_hasPlace 23 = .ok (.ireturn, 1) := by decide +kernel
theorem dX0_valueOf_0 : decode cX0_valueOf 0 = .ok (.aload_n 0, 1) := by decide +kernel
theorem dX0_valueOf_1 : decode cX0_valueOf 1 = .ok (.aload_n 1, 1) := by decide +kernel
theorem dX0_valueOf_2 : decode cX0_valueOf 2 = .ok (.aload_n 0, 1) := by decide +kernel
theorem dX0_valueOf_3 : decode cX0_valueOf 3 = .ok (.getfield 48, 3) := by decide +kernel
theorem dX0_valueOf_6 : decode cX0_valueOf 6 = .ok (.invokevirtual 61, 3) := by decide +kernel
theorem dX0_valueOf_9 : decode cX0_valueOf 9 = .ok (.lreturn, 1) := by decide +kernel
theorem dX0_valueBelow_0 : decode cX0_valueBelow 0 = .ok (.lconst 0, 1) := by decide +kernel
theorem dX0_valueBelow_1 : decode cX0_valueBelow 1 = .ok (.lstore_n 3, 1) := by decide +kernel
theorem dX0_valueBelow_2 : decode cX0_valueBelow 2 = .ok (.iconst 0, 1) := by decide +kernel
theorem dX0_valueBelow_3 : decode cX0_valueBelow 3 = .ok (.istore 5, 2) := by decide +kernel
theorem dX0_valueBelow_5 : decode cX0_valueBelow 5 = .ok (.iload 5, 2) := by decide +kernel
theorem dX0_valueBelow_7 : decode cX0_valueBelow 7 = .ok (.iload_n 2, 1) := by decide +kernel
theorem dX0_valueBelow_8 : decode cX0_valueBelow 8 = .ok (.if_icmp .ge 42, 3) := by decide +kernel
theorem dX0_valueBelow_11 : decode cX0_valueBelow 11 = .ok (.iload 5, 2) := by decide +kernel
theorem dX0_valueBelow_13 : decode cX0_valueBelow 13 = .ok (.aload_n 1, 1) := by decide +kernel
theorem dX0_valueBelow_14 : decode cX0_valueBelow 14 = .ok (.arraylength, 1) := by decide +kernel
theorem dX0_valueBelow_15 : decode cX0_valueBelow 15 = .ok (.if_icmp .ge 35, 3) := by decide +kernel
theorem dX0_valueBelow_18 : decode cX0_valueBelow 18 = .ok (.iload 5, 2) := by decide +kernel
theorem dX0_valueBelow_20 : decode cX0_valueBelow 20 = .ok (.aload_n 0, 1) := by decide +kernel
theorem dX0_valueBelow_21 : decode cX0_valueBelow 21 = .ok (.getfield 15, 3) := by decide +kernel
theorem dX0_valueBelow_24 : decode cX0_valueBelow 24 = .ok (.arraylength, 1) := by decide +kernel
theorem dX0_valueBelow_25 : decode cX0_valueBelow 25 = .ok (.if_icmp .ge 25, 3) := by decide +kernel
theorem dX0_valueBelow_28 : decode cX0_valueBelow 28 = .ok (.lload_n 3, 1) := by decide +kernel
theorem dX0_valueBelow_29 : decode cX0_valueBelow 29 = .ok (.aload_n 1, 1) := by decide +kernel
theorem dX0_valueBelow_30 : decode cX0_valueBelow 30 = .ok (.iload 5, 2) := by decide +kernel
theorem dX0_valueBelow_32 : decode cX0_valueBelow 32 = .ok (.iaload, 1) := by decide +kernel
theorem dX0_valueBelow_33 : decode cX0_valueBelow 33 = .ok (.i2l, 1) := by decide +kernel
theorem dX0_valueBelow_34 : decode cX0_valueBelow 34 = .ok (.aload_n 0, 1) := by decide +kernel
theorem dX0_valueBelow_35 : decode cX0_valueBelow 35 = .ok (.getfield 15, 3) := by decide +kernel
theorem dX0_valueBelow_38 : decode cX0_valueBelow 38 = .ok (.iload 5, 2) := by decide +kernel
theorem dX0_valueBelow_40 : decode cX0_valueBelow 40 = .ok (.laload, 1) := by decide +kernel
theorem dX0_valueBelow_41 : decode cX0_valueBelow 41 = .ok (.lmul, 1) := by decide +kernel
theorem dX0_valueBelow_42 : decode cX0_valueBelow 42 = .ok (.ladd, 1) := by decide +kernel
theorem dX0_valueBelow_43 : decode cX0_valueBelow 43 = .ok (.lstore_n 3, 1) := by decide +kernel
theorem dX0_valueBelow_44 : decode cX0_valueBelow 44 = .ok (.iinc 5 1, 3) := by decide +kernel
theorem dX0_valueBelow_47 : decode cX0_valueBelow 47 = .ok (.goto (-42), 3) := by decide +kernel
theorem dX0_valueBelow_50 : decode cX0_valueBelow 50 = .ok (.lload_n 3, 1) := by decide +kernel
theorem dX0_valueBelow_51 : decode cX0_valueBelow 51 = .ok (.lreturn, 1) := by decide +kernel
theorem dX0_allows_0 : decode cX0_allows 0 = .ok (.iconst 0, 1) := by decide +kernel
theorem dX0_allows_1 : decode cX0_allows 1 = .ok (.istore_n 2, 1) := by decide +kernel
theorem dX0_allows_2 : decode cX0_allows 2 = .ok (.iload_n 2, 1) := by decide +kernel
theorem dX0_allows_3 : decode cX0_allows 3 = .ok (.aload_n 1, 1) := by decide +kernel
theorem dX0_allows_4 : decode cX0_allows 4 = .ok (.arraylength, 1) := by decide +kernel
theorem dX0_allows_5 : decode cX0_allows 5 = .ok (.if_icmp .ge 56, 3) := by decide +kernel
theorem dX0_allows_8 : decode cX0_allows 8 = .ok (.iload_n 2, 1) := by decide +kernel
theorem dX0_allows_9 : decode cX0_allows 9 = .ok (.aload_n 0, 1) := by decide +kernel
theorem dX0_allows_10 : decode cX0_allows 10 = .ok (.getfield 9, 3) := by decide +kernel
theorem dX0_allows_13 : decode cX0_allows 13 = .ok (.arraylength, 1) := by decide +kernel
theorem dX0_allows_14 : decode cX0_allows 14 = .ok (.if_icmp .ge 47, 3) := by decide +kernel
theorem dX0_allows_17 : decode cX0_allows 17 = .ok (.aload_n 1, 1) := by decide +kernel
theorem dX0_allows_18 : decode cX0_allows 18 = .ok (.iload_n 2, 1) := by decide +kernel
theorem dX0_allows_19 : decode cX0_allows 19 = .ok (.iaload, 1) := by decide +kernel
theorem dX0_allows_20 : decode cX0_allows 20 = .ok (.aload_n 0, 1) := by decide +kernel
theorem dX0_allows_21 : decode cX0_allows 21 = .ok (.getfield 9, 3) := by decide +kernel
theorem dX0_allows_24 : decode cX0_allows 24 = .ok (.iload_n 2, 1) := by decide +kernel
theorem dX0_allows_25 : decode cX0_allows 25 = .ok (.iaload, 1) := by decide +kernel
theorem dX0_allows_26 : decode cX0_allows 26 = .ok (.if_icmp .gt 27, 3) := by decide +kernel
theorem dX0_allows_29 : decode cX0_allows 29 = .ok (.aload_n 1, 1) := by decide +kernel
theorem dX0_allows_30 : decode cX0_allows 30 = .ok (.iload_n 2, 1) := by decide +kernel
theorem dX0_allows_31 : decode cX0_allows 31 = .ok (.iaload, 1) := by decide +kernel
theorem dX0_allows_32 : decode cX0_allows 32 = .ok (.aload_n 0, 1) := by decide +kernel
theorem dX0_allows_33 : decode cX0_allows 33 = .ok (.getfield 9, 3) := by decide +kernel
theorem dX0_allows_36 : decode cX0_allows 36 = .ok (.iload_n 2, 1) := by decide +kernel
theorem dX0_allows_37 : decode cX0_allows 37 = .ok (.iaload, 1) := by decide +kernel
theorem dX0_allows_38 : decode cX0_allows 38 = .ok (.if_icmp .ne 17, 3) := by decide +kernel
theorem dX0_allows_41 : decode cX0_allows 41 = .ok (.iload_n 2, 1) := by decide +kernel
theorem dX0_allows_42 : decode cX0_allows 42 = .ok (.ifCond .le 13, 3) := by decide +kernel
theorem dX0_allows_45 : decode cX0_allows 45 = .ok (.aload_n 1, 1) := by decide +kernel
theorem dX0_allows_46 : decode cX0_allows 46 = .ok (.iload_n 2, 1) := by decide +kernel
theorem dX0_allows_47 : decode cX0_allows 47 = .ok (.iconst 1, 1) := by decide +kernel
theorem dX0_allows_48 : decode cX0_allows 48 = .ok (.isub, 1) := by decide +kernel
theorem dX0_allows_49 : decode cX0_allows 49 = .ok (.iaload, 1) := by decide +kernel
theorem dX0_allows_50 : decode cX0_allows 50 = .ok (.ifCond .eq 5, 3) := by decide +kernel
theorem dX0_allows_53 : decode cX0_allows 53 = .ok (.iconst 0, 1) := by decide +kernel
theorem dX0_allows_54 : decode cX0_allows 54 = .ok (.ireturn, 1) := by decide +kernel
theorem dX0_allows_55 : decode cX0_allows 55 = .ok (.iinc 2 1, 3) := by decide +kernel
theorem dX0_allows_58 : decode cX0_allows 58 = .ok (.goto (-56), 3) := by decide +kernel
theorem dX0_allows_61 : decode cX0_allows 61 = .ok (.iconst 1, 1) := by decide +kernel
theorem dX0_allows_62 : decode cX0_allows 62 = .ok (.ireturn, 1) := by decide +kernel
theorem dX0_greedyInto_0 : decode cX0_greedyInto 0 = .ok (.lload_n 2, 1) := by decide +kernel
theorem dX0_greedyInto_1 : decode cX0_greedyInto 1 = .ok (.lstore 4, 2) := by decide +kernel
theorem dX0_greedyInto_3 : decode cX0_greedyInto 3 = .ok (.aload_n 1, 1) := by decide +kernel
theorem dX0_greedyInto_4 : decode cX0_greedyInto 4 = .ok (.arraylength, 1) := by decide +kernel
theorem dX0_greedyInto_5 : decode cX0_greedyInto 5 = .ok (.iconst 1, 1) := by decide +kernel
theorem dX0_greedyInto_6 : decode cX0_greedyInto 6 = .ok (.isub, 1) := by decide +kernel
theorem dX0_greedyInto_7 : decode cX0_greedyInto 7 = .ok (.istore 6, 2) := by decide +kernel
theorem dX0_greedyInto_9 : decode cX0_greedyInto 9 = .ok (.iload 6, 2) := by decide +kernel
theorem dX0_greedyInto_11 : decode cX0_greedyInto 11 = .ok (.ifCond .lt 66, 3) := by decide +kernel
theorem dX0_greedyInto_14 : decode cX0_greedyInto 14 = .ok (.aload_n 0, 1) := by decide +kernel
theorem dX0_greedyInto_15 : decode cX0_greedyInto 15 = .ok (.iload 6, 2) := by decide +kernel
theorem dX0_greedyInto_17 : decode cX0_greedyInto 17 = .ok (.invokevirtual 65, 3) := by decide +kernel
theorem dX0_greedyInto_20 : decode cX0_greedyInto 20 = .ok (.ifCond .eq 13, 3) := by decide +kernel
theorem dX0_greedyInto_23 : decode cX0_greedyInto 23 = .ok (.aload_n 0, 1) := by decide +kernel
theorem dX0_greedyInto_24 : decode cX0_greedyInto 24 = .ok (.getfield 15, 3) := by decide +kernel
theorem dX0_greedyInto_27 : decode cX0_greedyInto 27 = .ok (.iload 6, 2) := by decide +kernel
theorem dX0_greedyInto_29 : decode cX0_greedyInto 29 = .ok (.laload, 1) := by decide +kernel
theorem dX0_greedyInto_30 : decode cX0_greedyInto 30 = .ok (.goto 4, 3) := by decide +kernel
theorem dX0_greedyInto_33 : decode cX0_greedyInto 33 = .ok (.lconst 0, 1) := by decide +kernel
theorem dX0_greedyInto_34 : decode cX0_greedyInto 34 = .ok (.lstore 7, 2) := by decide +kernel
theorem dX0_greedyInto_36 : decode cX0_greedyInto 36 = .ok (.lload 7, 2) := by decide +kernel
theorem dX0_greedyInto_38 : decode cX0_greedyInto 38 = .ok (.lconst 0, 1) := by decide +kernel
theorem dX0_greedyInto_39 : decode cX0_greedyInto 39 = .ok (.lcmp, 1) := by decide +kernel
theorem dX0_greedyInto_40 : decode cX0_greedyInto 40 = .ok (.ifCond .le 11, 3) := by decide +kernel
theorem dX0_greedyInto_43 : decode cX0_greedyInto 43 = .ok (.lload 4, 2) := by decide +kernel
theorem dX0_greedyInto_45 : decode cX0_greedyInto 45 = .ok (.lload 7, 2) := by decide +kernel
theorem dX0_greedyInto_47 : decode cX0_greedyInto 47 = .ok (.ldiv, 1) := by decide +kernel
theorem dX0_greedyInto_48 : decode cX0_greedyInto 48 = .ok (.goto 4, 3) := by decide +kernel
theorem dX0_greedyInto_51 : decode cX0_greedyInto 51 = .ok (.lconst 0, 1) := by decide +kernel
theorem dX0_greedyInto_52 : decode cX0_greedyInto 52 = .ok (.lstore 9, 2) := by decide +kernel
theorem dX0_greedyInto_54 : decode cX0_greedyInto 54 = .ok (.aload_n 1, 1) := by decide +kernel
theorem dX0_greedyInto_55 : decode cX0_greedyInto 55 = .ok (.iload 6, 2) := by decide +kernel
theorem dX0_greedyInto_57 : decode cX0_greedyInto 57 = .ok (.lload 9, 2) := by decide +kernel
theorem dX0_greedyInto_59 : decode cX0_greedyInto 59 = .ok (.l2i, 1) := by decide +kernel
theorem dX0_greedyInto_60 : decode cX0_greedyInto 60 = .ok (.iastore, 1) := by decide +kernel
theorem dX0_greedyInto_61 : decode cX0_greedyInto 61 = .ok (.lload 4, 2) := by decide +kernel
theorem dX0_greedyInto_63 : decode cX0_greedyInto 63 = .ok (.lload 9, 2) := by decide +kernel
theorem dX0_greedyInto_65 : decode cX0_greedyInto 65 = .ok (.lload 7, 2) := by decide +kernel
theorem dX0_greedyInto_67 : decode cX0_greedyInto 67 = .ok (.lmul, 1) := by decide +kernel
theorem dX0_greedyInto_68 : decode cX0_greedyInto 68 = .ok (.lsub, 1) := by decide +kernel
theorem dX0_greedyInto_69 : decode cX0_greedyInto 69 = .ok (.lstore 4, 2) := by decide +kernel
theorem dX0_greedyInto_71 : decode cX0_greedyInto 71 = .ok (.iinc 6 (-1), 3) := by decide +kernel
theorem dX0_greedyInto_74 : decode cX0_greedyInto 74 = .ok (.goto (-65), 3) := by decide +kernel
theorem dX0_greedyInto_77 : decode cX0_greedyInto 77 = .ok (.return_, 1) := by decide +kernel
theorem dX0_carried_0 : decode cX0_carried 0 = .ok (.iload_n 1, 1) := by decide +kernel
theorem dX0_carried_1 : decode cX0_carried 1 = .ok (.ifCond .ne 14, 3) := by decide +kernel
theorem dX0_carried_4 : decode cX0_carried 4 = .ok (.aload_n 0, 1) := by decide +kernel
theorem dX0_carried_5 : decode cX0_carried 5 = .ok (.getfield 9, 3) := by decide +kernel
theorem dX0_carried_8 : decode cX0_carried 8 = .ok (.iconst 0, 1) := by decide +kernel
theorem dX0_carried_9 : decode cX0_carried 9 = .ok (.iaload, 1) := by decide +kernel
theorem dX0_carried_10 : decode cX0_carried 10 = .ok (.iconst 1, 1) := by decide +kernel
theorem dX0_carried_11 : decode cX0_carried 11 = .ok (.iadd, 1) := by decide +kernel
theorem dX0_carried_12 : decode cX0_carried 12 = .ok (.goto 9, 3) := by decide +kernel
theorem dX0_carried_15 : decode cX0_carried 15 = .ok (.aload_n 0, 1) := by decide +kernel
theorem dX0_carried_16 : decode cX0_carried 16 = .ok (.getfield 9, 3) := by decide +kernel
theorem dX0_carried_19 : decode cX0_carried 19 = .ok (.iload_n 1, 1) := by decide +kernel
theorem dX0_carried_20 : decode cX0_carried 20 = .ok (.iaload, 1) := by decide +kernel
theorem dX0_carried_21 : decode cX0_carried 21 = .ok (.ireturn, 1) := by decide +kernel
theorem dX0_canCarry_0 : decode cX0_canCarry 0 = .ok (.aload_n 0, 1) := by decide +kernel
theorem dX0_canCarry_1 : decode cX0_canCarry 1 = .ok (.iload_n 2, 1) := by decide +kernel
theorem dX0_canCarry_2 : decode cX0_canCarry 2 = .ok (.invokevirtual 65, 3) := by decide +kernel
theorem dX0_canCarry_5 : decode cX0_canCarry 5 = .ok (.ifCond .eq 13, 3) := by decide +kernel
theorem dX0_canCarry_8 : decode cX0_canCarry 8 = .ok (.aload_n 0, 1) := by decide +kernel
theorem dX0_canCarry_9 : decode cX0_canCarry 9 = .ok (.iload_n 2, 1) := by decide +kernel
theorem dX0_canCarry_10 : decode cX0_canCarry 10 = .ok (.iconst 1, 1) := by decide +kernel
theorem dX0_canCarry_11 : decode cX0_canCarry 11 = .ok (.iadd, 1) := by decide +kernel
theorem dX0_canCarry_12 : decode cX0_canCarry 12 = .ok (.invokevirtual 65, 3) := by decide +kernel
theorem dX0_canCarry_15 : decode cX0_canCarry 15 = .ok (.ifCond .ne 5, 3) := by decide +kernel
theorem dX0_canCarry_18 : decode cX0_canCarry 18 = .ok (.iconst 0, 1) := by decide +kernel
theorem dX0_canCarry_19 : decode cX0_canCarry 19 = .ok (.ireturn, 1) := by decide +kernel
theorem dX0_canCarry_20 : decode cX0_canCarry 20 = .ok (.aload_n 1, 1) := by decide +kernel
theorem dX0_canCarry_21 : decode cX0_canCarry 21 = .ok (.iload_n 2, 1) := by decide +kernel
theorem dX0_canCarry_22 : decode cX0_canCarry 22 = .ok (.iconst 1, 1) := by decide +kernel
theorem dX0_canCarry_23 : decode cX0_canCarry 23 = .ok (.iadd, 1) := by decide +kernel
theorem dX0_canCarry_24 : decode cX0_canCarry 24 = .ok (.iaload, 1) := by decide +kernel
theorem dX0_canCarry_25 : decode cX0_canCarry 25 = .ok (.iload_n 3, 1) := by decide +kernel
theorem dX0_canCarry_26 : decode cX0_canCarry 26 = .ok (.iadd, 1) := by decide +kernel
theorem dX0_canCarry_27 : decode cX0_canCarry 27 = .ok (.invokestatic 69, 3) := by decide +kernel
theorem dX0_canCarry_30 : decode cX0_canCarry 30 = .ok (.ifCond .eq 41, 3) := by decide +kernel
theorem dX0_canCarry_33 : decode cX0_canCarry 33 = .ok (.aload_n 1, 1) := by decide +kernel
theorem dX0_canCarry_34 : decode cX0_canCarry 34 = .ok (.iload_n 2, 1) := by decide +kernel
end
section
theorem dX0_canCarry_35 : decode cX0_canCarry 35 = .ok (.iaload, 1) := by decide +kernel
theorem dX0_canCarry_36 : decode cX0_canCarry 36 = .ok (.iload_n 3, 1) := by decide +kernel
theorem dX0_canCarry_37 : decode cX0_canCarry 37 = .ok (.aload_n 0, 1) := by decide +kernel
theorem dX0_canCarry_38 : decode cX0_canCarry 38 = .ok (.iload_n 2, 1) := by decide +kernel
theorem dX0_canCarry_39 : decode cX0_canCarry 39 = .ok (.invokevirtual 72, 3) := by decide +kernel
theorem dX0_canCarry_42 : decode cX0_canCarry 42 = .ok (.imul, 1) := by decide +kernel
theorem dX0_canCarry_43 : decode cX0_canCarry 43 = .ok (.isub, 1) := by decide +kernel
theorem dX0_canCarry_44 : decode cX0_canCarry 44 = .ok (.invokestatic 69, 3) := by decide +kernel
theorem dX0_canCarry_47 : decode cX0_canCarry 47 = .ok (.ifCond .eq 24, 3) := by decide +kernel
theorem dX0_canCarry_50 : decode cX0_canCarry 50 = .ok (.iload_n 2, 1) := by decide +kernel
theorem dX0_canCarry_51 : decode cX0_canCarry 51 = .ok (.ifCond .eq 16, 3) := by decide +kernel
theorem dX0_canCarry_54 : decode cX0_canCarry 54 = .ok (.aload_n 1, 1) := by decide +kernel
theorem dX0_canCarry_55 : decode cX0_canCarry 55 = .ok (.iload_n 2, 1) := by decide +kernel
theorem dX0_canCarry_56 : decode cX0_canCarry 56 = .ok (.iconst 1, 1) := by decide +kernel
theorem dX0_canCarry_57 : decode cX0_canCarry 57 = .ok (.isub, 1) := by decide +kernel
theorem dX0_canCarry_58 : decode cX0_canCarry 58 = .ok (.iaload, 1) := by decide +kernel
theorem dX0_canCarry_59 : decode cX0_canCarry 59 = .ok (.iload_n 3, 1) := by decide +kernel
theorem dX0_canCarry_60 : decode cX0_canCarry 60 = .ok (.isub, 1) := by decide +kernel
theorem dX0_canCarry_61 : decode cX0_canCarry 61 = .ok (.invokestatic 69, 3) := by decide +kernel
theorem dX0_canCarry_64 : decode cX0_canCarry 64 = .ok (.ifCond .eq 7, 3) := by decide +kernel
theorem dX0_canCarry_67 : decode cX0_canCarry 67 = .ok (.iconst 1, 1) := by decide +kernel
theorem dX0_canCarry_68 : decode cX0_canCarry 68 = .ok (.goto 4, 3) := by decide +kernel
theorem dX0_canCarry_71 : decode cX0_canCarry 71 = .ok (.iconst 0, 1) := by decide +kernel
theorem dX0_canCarry_72 : decode cX0_canCarry 72 = .ok (.ireturn, 1) := by decide +kernel
theorem dX0_carryOnce_0 : decode cX0_carryOnce 0 = .ok (.aload_n 0, 1) := by decide +kernel
theorem dX0_carryOnce_1 : decode cX0_carryOnce 1 = .ok (.aload_n 1, 1) := by decide +kernel
theorem dX0_carryOnce_2 : decode cX0_carryOnce 2 = .ok (.iload_n 2, 1) := by decide +kernel
theorem dX0_carryOnce_3 : decode cX0_carryOnce 3 = .ok (.iload_n 3, 1) := by decide +kernel
theorem dX0_carryOnce_4 : decode cX0_carryOnce 4 = .ok (.invokevirtual 76, 3) := by decide +kernel
theorem dX0_carryOnce_7 : decode cX0_carryOnce 7 = .ok (.ifCond .ne 4, 3) := by decide +kernel
theorem dX0_carryOnce_10 : decode cX0_carryOnce 10 = .ok (.return_, 1) := by decide +kernel
theorem dX0_carryOnce_11 : decode cX0_carryOnce 11 = .ok (.aload_n 1, 1) := by decide +kernel
theorem dX0_carryOnce_12 : decode cX0_carryOnce 12 = .ok (.iload_n 2, 1) := by decide +kernel
theorem dX0_carryOnce_13 : decode cX0_carryOnce 13 = .ok (.iconst 1, 1) := by decide +kernel
theorem dX0_carryOnce_14 : decode cX0_carryOnce 14 = .ok (.iadd, 1) := by decide +kernel
theorem dX0_carryOnce_15 : decode cX0_carryOnce 15 = .ok (.dup2, 1) := by decide +kernel
theorem dX0_carryOnce_16 : decode cX0_carryOnce 16 = .ok (.iaload, 1) := by decide +kernel
theorem dX0_carryOnce_17 : decode cX0_carryOnce 17 = .ok (.iload_n 3, 1) := by decide +kernel
theorem dX0_carryOnce_18 : decode cX0_carryOnce 18 = .ok (.iadd, 1) := by decide +kernel
theorem dX0_carryOnce_19 : decode cX0_carryOnce 19 = .ok (.iastore, 1) := by decide +kernel
theorem dX0_carryOnce_20 : decode cX0_carryOnce 20 = .ok (.aload_n 1, 1) := by decide +kernel
theorem dX0_carryOnce_21 : decode cX0_carryOnce 21 = .ok (.iload_n 2, 1) := by decide +kernel
theorem dX0_carryOnce_22 : decode cX0_carryOnce 22 = .ok (.dup2, 1) := by decide +kernel
theorem dX0_carryOnce_23 : decode cX0_carryOnce 23 = .ok (.iaload, 1) := by decide +kernel
theorem dX0_carryOnce_24 : decode cX0_carryOnce 24 = .ok (.iload_n 3, 1) := by decide +kernel
theorem dX0_carryOnce_25 : decode cX0_carryOnce 25 = .ok (.aload_n 0, 1) := by decide +kernel
theorem dX0_carryOnce_26 : decode cX0_carryOnce 26 = .ok (.iload_n 2, 1) := by decide +kernel
theorem dX0_carryOnce_27 : decode cX0_carryOnce 27 = .ok (.invokevirtual 72, 3) := by decide +kernel
theorem dX0_carryOnce_30 : decode cX0_carryOnce 30 = .ok (.imul, 1) := by decide +kernel
theorem dX0_carryOnce_31 : decode cX0_carryOnce 31 = .ok (.isub, 1) := by decide +kernel
theorem dX0_carryOnce_32 : decode cX0_carryOnce 32 = .ok (.iastore, 1) := by decide +kernel
theorem dX0_carryOnce_33 : decode cX0_carryOnce 33 = .ok (.iload_n 2, 1) := by decide +kernel
theorem dX0_carryOnce_34 : decode cX0_carryOnce 34 = .ok (.ifCond .le 12, 3) := by decide +kernel
theorem dX0_carryOnce_37 : decode cX0_carryOnce 37 = .ok (.aload_n 1, 1) := by decide +kernel
theorem dX0_carryOnce_38 : decode cX0_carryOnce 38 = .ok (.iload_n 2, 1) := by decide +kernel
theorem dX0_carryOnce_39 : decode cX0_carryOnce 39 = .ok (.iconst 1, 1) := by decide +kernel
theorem dX0_carryOnce_40 : decode cX0_carryOnce 40 = .ok (.isub, 1) := by decide +kernel
theorem dX0_carryOnce_41 : decode cX0_carryOnce 41 = .ok (.dup2, 1) := by decide +kernel
theorem dX0_carryOnce_42 : decode cX0_carryOnce 42 = .ok (.iaload, 1) := by decide +kernel
theorem dX0_carryOnce_43 : decode cX0_carryOnce 43 = .ok (.iload_n 3, 1) := by decide +kernel
theorem dX0_carryOnce_44 : decode cX0_carryOnce 44 = .ok (.isub, 1) := by decide +kernel
theorem dX0_carryOnce_45 : decode cX0_carryOnce 45 = .ok (.iastore, 1) := by decide +kernel
theorem dX0_carryOnce_46 : decode cX0_carryOnce 46 = .ok (.return_, 1) := by decide +kernel
theorem dX0_settleAll_0 : decode cX0_settleAll 0 = .ok (.aload_n 0, 1) := by decide +kernel
theorem dX0_settleAll_1 : decode cX0_settleAll 1 = .ok (.getfield 48, 3) := by decide +kernel
theorem dX0_settleAll_4 : decode cX0_settleAll 4 = .ok (.iconst 2, 1) := by decide +kernel
theorem dX0_settleAll_5 : decode cX0_settleAll 5 = .ok (.isub, 1) := by decide +kernel
theorem dX0_settleAll_6 : decode cX0_settleAll 6 = .ok (.istore_n 2, 1) := by decide +kernel
theorem dX0_settleAll_7 : decode cX0_settleAll 7 = .ok (.iconst 0, 1) := by decide +kernel
theorem dX0_settleAll_8 : decode cX0_settleAll 8 = .ok (.istore_n 3, 1) := by decide +kernel
theorem dX0_settleAll_9 : decode cX0_settleAll 9 = .ok (.iload_n 3, 1) := by decide +kernel
theorem dX0_settleAll_10 : decode cX0_settleAll 10 = .ok (.sipush 4257, 3) := by decide +kernel
theorem dX0_settleAll_13 : decode cX0_settleAll 13 = .ok (.if_icmp .ge 42, 3) := by decide +kernel
theorem dX0_settleAll_16 : decode cX0_settleAll 16 = .ok (.aload_n 0, 1) := by decide +kernel
theorem dX0_settleAll_17 : decode cX0_settleAll 17 = .ok (.aload_n 1, 1) := by decide +kernel
theorem dX0_settleAll_18 : decode cX0_settleAll 18 = .ok (.iload_n 2, 1) := by decide +kernel
theorem dX0_settleAll_19 : decode cX0_settleAll 19 = .ok (.invokevirtual 80, 3) := by decide +kernel
theorem dX0_settleAll_22 : decode cX0_settleAll 22 = .ok (.istore_n 2, 1) := by decide +kernel
theorem dX0_settleAll_23 : decode cX0_settleAll 23 = .ok (.iload_n 2, 1) := by decide +kernel
theorem dX0_settleAll_24 : decode cX0_settleAll 24 = .ok (.ifCond .ge 5, 3) := by decide +kernel
theorem dX0_settleAll_27 : decode cX0_settleAll 27 = .ok (.iload_n 3, 1) := by decide +kernel
theorem dX0_settleAll_28 : decode cX0_settleAll 28 = .ok (.ireturn, 1) := by decide +kernel
theorem dX0_settleAll_29 : decode cX0_settleAll 29 = .ok (.aload_n 0, 1) := by decide +kernel
theorem dX0_settleAll_30 : decode cX0_settleAll 30 = .ok (.aload_n 1, 1) := by decide +kernel
theorem dX0_settleAll_31 : decode cX0_settleAll 31 = .ok (.iload_n 2, 1) := by decide +kernel
theorem dX0_settleAll_32 : decode cX0_settleAll 32 = .ok (.iconst 1, 1) := by decide +kernel
theorem dX0_settleAll_33 : decode cX0_settleAll 33 = .ok (.invokevirtual 84, 3) := by decide +kernel
theorem dX0_settleAll_36 : decode cX0_settleAll 36 = .ok (.iload_n 2, 1) := by decide +kernel
theorem dX0_settleAll_37 : decode cX0_settleAll 37 = .ok (.iconst 2, 1) := by decide +kernel
theorem dX0_settleAll_38 : decode cX0_settleAll 38 = .ok (.iadd, 1) := by decide +kernel
theorem dX0_settleAll_39 : decode cX0_settleAll 39 = .ok (.aload_n 0, 1) := by decide +kernel
theorem dX0_settleAll_40 : decode cX0_settleAll 40 = .ok (.getfield 48, 3) := by decide +kernel
theorem dX0_settleAll_43 : decode cX0_settleAll 43 = .ok (.iconst 2, 1) := by decide +kernel
theorem dX0_settleAll_44 : decode cX0_settleAll 44 = .ok (.isub, 1) := by decide +kernel
theorem dX0_settleAll_45 : decode cX0_settleAll 45 = .ok (.invokestatic 31, 3) := by decide +kernel
theorem dX0_settleAll_48 : decode cX0_settleAll 48 = .ok (.istore_n 2, 1) := by decide +kernel
theorem dX0_settleAll_49 : decode cX0_settleAll 49 = .ok (.iinc 3 1, 3) := by decide +kernel
theorem dX0_settleAll_52 : decode cX0_settleAll 52 = .ok (.goto (-43), 3) := by decide +kernel
theorem dX0_settleAll_55 : decode cX0_settleAll 55 = .ok (.sipush 4257, 3) := by decide +kernel
theorem dX0_settleAll_58 : decode cX0_settleAll 58 = .ok (.ireturn, 1) := by decide +kernel
theorem dX0_highestCarry_0 : decode cX0_highestCarry 0 = .ok (.iload_n 2, 1) := by decide +kernel
theorem dX0_highestCarry_1 : decode cX0_highestCarry 1 = .ok (.istore_n 3, 1) := by decide +kernel
theorem dX0_highestCarry_2 : decode cX0_highestCarry 2 = .ok (.iload_n 3, 1) := by decide +kernel
theorem dX0_highestCarry_3 : decode cX0_highestCarry 3 = .ok (.ifCond .lt 21, 3) := by decide +kernel
theorem dX0_highestCarry_6 : decode cX0_highestCarry 6 = .ok (.aload_n 0, 1) := by decide +kernel
theorem dX0_highestCarry_7 : decode cX0_highestCarry 7 = .ok (.aload_n 1, 1) := by decide +kernel
theorem dX0_highestCarry_8 : decode cX0_highestCarry 8 = .ok (.iload_n 3, 1) := by decide +kernel
theorem dX0_highestCarry_9 : decode cX0_highestCarry 9 = .ok (.iconst 1, 1) := by decide +kernel
theorem dX0_highestCarry_10 : decode cX0_highestCarry 10 = .ok (.invokevirtual 76, 3) := by decide +kernel
theorem dX0_highestCarry_13 : decode cX0_highestCarry 13 = .ok (.ifCond .eq 5, 3) := by decide +kernel
theorem dX0_highestCarry_16 : decode cX0_highestCarry 16 = .ok (.iload_n 3, 1) := by decide +kernel
theorem dX0_highestCarry_17 : decode cX0_highestCarry 17 = .ok (.ireturn, 1) := by decide +kernel
theorem dX0_highestCarry_18 : decode cX0_highestCarry 18 = .ok (.iinc 3 (-1), 3) := by decide +kernel
theorem dX0_highestCarry_21 : decode cX0_highestCarry 21 = .ok (.goto (-19), 3) := by decide +kernel
theorem dX0_highestCarry_24 : decode cX0_highestCarry 24 = .ok (.iconst (-1), 1) := by decide +kernel
theorem dX0_highestCarry_25 : decode cX0_highestCarry 25 = .ok (.ireturn, 1) := by decide +kernel
theorem dX0_shiftInto_0 : decode cX0_shiftInto 0 = .ok (.iconst 0, 1) := by decide +kernel
theorem dX0_shiftInto_1 : decode cX0_shiftInto 1 = .ok (.istore 4, 2) := by decide +kernel
theorem dX0_shiftInto_3 : decode cX0_shiftInto 3 = .ok (.iload 4, 2) := by decide +kernel
theorem dX0_shiftInto_5 : decode cX0_shiftInto 5 = .ok (.aload_n 1, 1) := by decide +kernel
theorem dX0_shiftInto_6 : decode cX0_shiftInto 6 = .ok (.arraylength, 1) := by decide +kernel
theorem dX0_shiftInto_7 : decode cX0_shiftInto 7 = .ok (.if_icmp .ge 45, 3) := by decide +kernel
theorem dX0_shiftInto_10 : decode cX0_shiftInto 10 = .ok (.iload 4, 2) := by decide +kernel
theorem dX0_shiftInto_12 : decode cX0_shiftInto 12 = .ok (.iload_n 3, 1) := by decide +kernel
theorem dX0_shiftInto_13 : decode cX0_shiftInto 13 = .ok (.isub, 1) := by decide +kernel
theorem dX0_shiftInto_14 : decode cX0_shiftInto 14 = .ok (.istore 5, 2) := by decide +kernel
theorem dX0_shiftInto_16 : decode cX0_shiftInto 16 = .ok (.aload_n 1, 1) := by decide +kernel
theorem dX0_shiftInto_17 : decode cX0_shiftInto 17 = .ok (.iload 4, 2) := by decide +kernel
theorem dX0_shiftInto_19 : decode cX0_shiftInto 19 = .ok (.aload_n 0, 1) := by decide +kernel
theorem dX0_shiftInto_20 : decode cX0_shiftInto 20 = .ok (.iload 4, 2) := by decide +kernel
theorem dX0_shiftInto_22 : decode cX0_shiftInto 22 = .ok (.invokevirtual 65, 3) := by decide +kernel
theorem dX0_shiftInto_25 : decode cX0_shiftInto 25 = .ok (.ifCond .eq 19, 3) := by decide +kernel
theorem dX0_shiftInto_28 : decode cX0_shiftInto 28 = .ok (.aload_n 0, 1) := by decide +kernel
theorem dX0_shiftInto_29 : decode cX0_shiftInto 29 = .ok (.iload 5, 2) := by decide +kernel
theorem dX0_shiftInto_31 : decode cX0_shiftInto 31 = .ok (.invokevirtual 65, 3) := by decide +kernel
theorem dX0_shiftInto_34 : decode cX0_shiftInto 34 = .ok (.ifCond .eq 10, 3) := by decide +kernel
theorem dX0_shiftInto_37 : decode cX0_shiftInto 37 = .ok (.aload_n 2, 1) := by decide +kernel
theorem dX0_shiftInto_38 : decode cX0_shiftInto 38 = .ok (.iload 5, 2) := by decide +kernel
theorem dX0_shiftInto_40 : decode cX0_shiftInto 40 = .ok (.iaload, 1) := by decide +kernel
theorem dX0_shiftInto_41 : decode cX0_shiftInto 41 = .ok (.goto 4, 3) := by decide +kernel
theorem dX0_shiftInto_44 : decode cX0_shiftInto 44 = .ok (.iconst 0, 1) := by decide +kernel
theorem dX0_shiftInto_45 : decode cX0_shiftInto 45 = .ok (.iastore, 1) := by decide +kernel
theorem dX0_shiftInto_46 : decode cX0_shiftInto 46 = .ok (.iinc 4 1, 3) := by decide +kernel
theorem dX0_shiftInto_49 : decode cX0_shiftInto 49 = .ok (.goto (-46), 3) := by decide +kernel
theorem dX0_shiftInto_52 : decode cX0_shiftInto 52 = .ok (.return_, 1) := by decide +kernel
theorem dX0_turnAhead_0 : decode cX0_turnAhead 0 = .ok (.aload_n 0, 1) := by decide +kernel
theorem dX0_turnAhead_1 : decode cX0_turnAhead 1 = .ok (.iload_n 2, 1) := by decide +kernel
theorem dX0_turnAhead_2 : decode cX0_turnAhead 2 = .ok (.invokevirtual 65, 3) := by decide +kernel
theorem dX0_turnAhead_5 : decode cX0_turnAhead 5 = .ok (.ifCond .ne 7, 3) := by decide +kernel
theorem dX0_turnAhead_8 : decode cX0_turnAhead 8 = .ok (.ldc2_w 88, 3) := by decide +kernel
theorem dX0_turnAhead_11 : decode cX0_turnAhead 11 = .ok (.lreturn, 1) := by decide +kernel
theorem dX0_turnAhead_12 : decode cX0_turnAhead 12 = .ok (.iload_n 2, 1) := by decide +kernel
theorem dX0_turnAhead_13 : decode cX0_turnAhead 13 = .ok (.ifCond .le 19, 3) := by decide +kernel
theorem dX0_turnAhead_16 : decode cX0_turnAhead 16 = .ok (.aload_n 1, 1) := by decide +kernel
theorem dX0_turnAhead_17 : decode cX0_turnAhead 17 = .ok (.iload_n 2, 1) := by decide +kernel
theorem dX0_turnAhead_18 : decode cX0_turnAhead 18 = .ok (.iaload, 1) := by decide +kernel
theorem dX0_turnAhead_19 : decode cX0_turnAhead 19 = .ok (.aload_n 0, 1) := by decide +kernel
theorem dX0_turnAhead_20 : decode cX0_turnAhead 20 = .ok (.getfield 9, 3) := by decide +kernel
theorem dX0_turnAhead_23 : decode cX0_turnAhead 23 = .ok (.iload_n 2, 1) := by decide +kernel
theorem dX0_turnAhead_24 : decode cX0_turnAhead 24 = .ok (.iaload, 1) := by decide +kernel
theorem dX0_turnAhead_25 : decode cX0_turnAhead 25 = .ok (.if_icmp .ne 7, 3) := by decide +kernel
theorem dX0_turnAhead_28 : decode cX0_turnAhead 28 = .ok (.iconst 1, 1) := by decide +kernel
theorem dX0_turnAhead_29 : decode cX0_turnAhead 29 = .ok (.goto 4, 3) := by decide +kernel
theorem dX0_turnAhead_32 : decode cX0_turnAhead 32 = .ok (.iconst 0, 1) := by decide +kernel
theorem dX0_turnAhead_33 : decode cX0_turnAhead 33 = .ok (.istore_n 3, 1) := by decide +kernel
theorem dX0_turnAhead_34 : decode cX0_turnAhead 34 = .ok (.iload_n 3, 1) := by decide +kernel
theorem dX0_turnAhead_35 : decode cX0_turnAhead 35 = .ok (.ifCond .eq 14, 3) := by decide +kernel
theorem dX0_turnAhead_38 : decode cX0_turnAhead 38 = .ok (.aload_n 0, 1) := by decide +kernel
theorem dX0_turnAhead_39 : decode cX0_turnAhead 39 = .ok (.getfield 15, 3) := by decide +kernel
theorem dX0_turnAhead_42 : decode cX0_turnAhead 42 = .ok (.iload_n 2, 1) := by decide +kernel
theorem dX0_turnAhead_43 : decode cX0_turnAhead 43 = .ok (.iconst 1, 1) := by decide +kernel
theorem dX0_turnAhead_44 : decode cX0_turnAhead 44 = .ok (.isub, 1) := by decide +kernel
theorem dX0_turnAhead_45 : decode cX0_turnAhead 45 = .ok (.laload, 1) := by decide +kernel
theorem dX0_turnAhead_46 : decode cX0_turnAhead 46 = .ok (.goto 9, 3) := by decide +kernel
theorem dX0_turnAhead_49 : decode cX0_turnAhead 49 = .ok (.aload_n 0, 1) := by decide +kernel
theorem dX0_turnAhead_50 : decode cX0_turnAhead 50 = .ok (.getfield 15, 3) := by decide +kernel
theorem dX0_turnAhead_53 : decode cX0_turnAhead 53 = .ok (.iload_n 2, 1) := by decide +kernel
theorem dX0_turnAhead_54 : decode cX0_turnAhead 54 = .ok (.laload, 1) := by decide +kernel
theorem dX0_turnAhead_55 : decode cX0_turnAhead 55 = .ok (.lstore 4, 2) := by decide +kernel
theorem dX0_turnAhead_57 : decode cX0_turnAhead 57 = .ok (.lload 4, 2) := by decide +kernel
theorem dX0_turnAhead_59 : decode cX0_turnAhead 59 = .ok (.aload_n 0, 1) := by decide +kernel
theorem dX0_turnAhead_60 : decode cX0_turnAhead 60 = .ok (.aload_n 1, 1) := by decide +kernel
theorem dX0_turnAhead_61 : decode cX0_turnAhead 61 = .ok (.iload_n 2, 1) := by decide +kernel
theorem dX0_turnAhead_62 : decode cX0_turnAhead 62 = .ok (.invokevirtual 61, 3) := by decide +kernel
theorem dX0_turnAhead_65 : decode cX0_turnAhead 65 = .ok (.lsub, 1) := by decide +kernel
theorem dX0_turnAhead_66 : decode cX0_turnAhead 66 = .ok (.lstore 6, 2) := by decide +kernel
theorem dX0_turnAhead_68 : decode cX0_turnAhead 68 = .ok (.aload_n 1, 1) := by decide +kernel
theorem dX0_turnAhead_69 : decode cX0_turnAhead 69 = .ok (.iload_n 2, 1) := by decide +kernel
theorem dX0_turnAhead_70 : decode cX0_turnAhead 70 = .ok (.iaload, 1) := by decide +kernel
theorem dX0_turnAhead_71 : decode cX0_turnAhead 71 = .ok (.ifCond .ne 33, 3) := by decide +kernel
theorem dX0_turnAhead_74 : decode cX0_turnAhead 74 = .ok (.aload_n 0, 1) := by decide +kernel
theorem dX0_turnAhead_75 : decode cX0_turnAhead 75 = .ok (.iload_n 2, 1) := by decide +kernel
theorem dX0_turnAhead_76 : decode cX0_turnAhead 76 = .ok (.iconst 1, 1) := by decide +kernel
theorem dX0_turnAhead_77 : decode cX0_turnAhead 77 = .ok (.iadd, 1) := by decide +kernel
theorem dX0_turnAhead_78 : decode cX0_turnAhead 78 = .ok (.invokevirtual 65, 3) := by decide +kernel
theorem dX0_turnAhead_81 : decode cX0_turnAhead 81 = .ok (.ifCond .eq 23, 3) := by decide +kernel
theorem dX0_turnAhead_84 : decode cX0_turnAhead 84 = .ok (.aload_n 1, 1) := by decide +kernel
theorem dX0_turnAhead_85 : decode cX0_turnAhead 85 = .ok (.iload_n 2, 1) := by decide +kernel
theorem dX0_turnAhead_86 : decode cX0_turnAhead 86 = .ok (.iconst 1, 1) := by decide +kernel
theorem dX0_turnAhead_87 : decode cX0_turnAhead 87 = .ok (.iadd, 1) := by decide +kernel
theorem dX0_turnAhead_88 : decode cX0_turnAhead 88 = .ok (.iaload, 1) := by decide +kernel
theorem dX0_turnAhead_89 : decode cX0_turnAhead 89 = .ok (.aload_n 0, 1) := by decide +kernel
theorem dX0_turnAhead_90 : decode cX0_turnAhead 90 = .ok (.getfield 9, 3) := by decide +kernel
theorem dX0_turnAhead_93 : decode cX0_turnAhead 93 = .ok (.iload_n 2, 1) := by decide +kernel
theorem dX0_turnAhead_94 : decode cX0_turnAhead 94 = .ok (.iconst 1, 1) := by decide +kernel
theorem dX0_turnAhead_95 : decode cX0_turnAhead 95 = .ok (.iadd, 1) := by decide +kernel
theorem dX0_turnAhead_96 : decode cX0_turnAhead 96 = .ok (.iaload, 1) := by decide +kernel
theorem dX0_turnAhead_97 : decode cX0_turnAhead 97 = .ok (.if_icmp .ne 7, 3) := by decide +kernel
theorem dX0_turnAhead_100 : decode cX0_turnAhead 100 = .ok (.iconst 1, 1) := by decide +kernel
theorem dX0_turnAhead_101 : decode cX0_turnAhead 101 = .ok (.goto 4, 3) := by decide +kernel
theorem dX0_turnAhead_104 : decode cX0_turnAhead 104 = .ok (.iconst 0, 1) := by decide +kernel
theorem dX0_turnAhead_105 : decode cX0_turnAhead 105 = .ok (.istore 8, 2) := by decide +kernel
theorem dX0_turnAhead_107 : decode cX0_turnAhead 107 = .ok (.iload 8, 2) := by decide +kernel
theorem dX0_turnAhead_109 : decode cX0_turnAhead 109 = .ok (.ifCond .eq 15, 3) := by decide +kernel
theorem dX0_turnAhead_112 : decode cX0_turnAhead 112 = .ok (.lload 6, 2) := by decide +kernel
theorem dX0_turnAhead_114 : decode cX0_turnAhead 114 = .ok (.aload_n 0, 1) := by decide +kernel
theorem dX0_turnAhead_115 : decode cX0_turnAhead 115 = .ok (.getfield 15, 3) := by decide +kernel
theorem dX0_turnAhead_118 : decode cX0_turnAhead 118 = .ok (.iload_n 2, 1) := by decide +kernel
theorem dX0_turnAhead_119 : decode cX0_turnAhead 119 = .ok (.laload, 1) := by decide +kernel
theorem dX0_turnAhead_120 : decode cX0_turnAhead 120 = .ok (.ladd, 1) := by decide +kernel
theorem dX0_turnAhead_121 : decode cX0_turnAhead 121 = .ok (.goto 5, 3) := by decide +kernel
theorem dX0_turnAhead_124 : decode cX0_turnAhead 124 = .ok (.lload 6, 2) := by decide +kernel
theorem dX0_turnAhead_126 : decode cX0_turnAhead 126 = .ok (.lreturn, 1) := by decide +kernel
theorem dX0_isDigit_0 : decode cX0_isDigit 0 = .ok (.iload_n 0, 1) := by decide +kernel
theorem dX0_isDigit_1 : decode cX0_isDigit 1 = .ok (.iconst 0, 1) := by decide +kernel
theorem dX0_isDigit_2 : decode cX0_isDigit 2 = .ok (.bipush 99, 2) := by decide +kernel
theorem dX0_isDigit_4 : decode cX0_isDigit 4 = .ok (.invokestatic 27, 3) := by decide +kernel
theorem dX0_isDigit_7 : decode cX0_isDigit 7 = .ok (.ireturn, 1) := by decide +kernel
end
section
/-! whole numbers for the machine's ints and longs: exact sums, differences, products; comparisons, indices, quotients within the range -/
def iI (x : Int) : Int32 := Int32.ofInt x
def lI (x : Int) : Int64 := Int64.ofInt x
abbrev i32 (x : Int) : Prop := -2147483648 ≤ x ∧ x ≤ 2147483647
abbrev i64 (x : Int) : Prop := -9223372036854775808 ≤ x ∧ x ≤ 9223372036854775807
theorem iI_add (x y : Int) : iI x + iI y = iI (x + y) := (Int32.ofInt_add x y).symm
theorem iI_sub (x y : Int) : iI x - iI y = iI (x - y) := (Int32.ofInt_sub x y).symm
theorem iI_mul (x y : Int) : iI x * iI y = iI (x * y) := (Int32.ofInt_mul x y).symm
theorem lI_add (x y : Int) : lI x + lI y = lI (x + y) := (Int64.ofInt_add x y).symm
theorem lI_sub (x y : Int) : lI x - lI y = lI (x - y) := (Int64.ofInt_sub x y).symm
theorem lI_mul (x y : Int) : lI x * lI y = lI (x * y) := (Int64.ofInt_mul x y).symm
theorem iI_toInt {x : Int} (h : i32 x) : (iI x).toInt = x := Int32.toInt_ofInt_of_le (by omega) (by omega)
theorem lI_toInt {x : Int} (h : i64 x) : (lI x).toInt = x := Int64.toInt_ofInt_of_le (by omega) (by omega)
theorem i32_of (v : Int32) : i32 v.toInt := by
  have h1 := Int32.le_toInt v
  have h2 := Int32.toInt_lt v
  exact ⟨by omega, by omega⟩
theorem i64_of (v : Int64) : i64 v.toInt := by
  have h1 := Int64.le_toInt v
  have h2 := Int64.toInt_lt v
  exact ⟨by omega, by omega⟩
theorem iI_of (v : Int32) : iI v.toInt = v := Int32.ofInt_toInt v
theorem lI_of (v : Int64) : lI v.toInt = v := Int64.ofInt_toInt v
theorem iI_le {x y : Int} (hx : i32 x) (hy : i32 y) : iI x ≤ iI y ↔ x ≤ y := by
  rw [Int32.le_iff_toInt_le, iI_toInt hx, iI_toInt hy]
theorem iI_lt {x y : Int} (hx : i32 x) (hy : i32 y) : iI x < iI y ↔ x < y := by
  rw [Int32.lt_iff_toInt_lt, iI_toInt hx, iI_toInt hy]
theorem iI_eq {x y : Int} (hx : i32 x) (hy : i32 y) : iI x = iI y ↔ x = y := by
  rw [← Int32.toInt_inj, iI_toInt hx, iI_toInt hy]
theorem lI_le {x y : Int} (hx : i64 x) (hy : i64 y) : lI x ≤ lI y ↔ x ≤ y := by
  rw [Int64.le_iff_toInt_le, lI_toInt hx, lI_toInt hy]
theorem lI_lt {x y : Int} (hx : i64 x) (hy : i64 y) : lI x < lI y ↔ x < y := by
  rw [Int64.lt_iff_toInt_lt, lI_toInt hx, lI_toInt hy]
theorem lI_eq {x y : Int} (hx : i64 x) (hy : i64 y) : lI x = lI y ↔ x = y := by
  rw [← Int64.toInt_inj, lI_toInt hx, lI_toInt hy]
theorem iI_0 : iI 0 = 0 := rfl
theorem lI_0 : lI 0 = 0 := rfl
theorem iI_nat (n : Nat) : Int32.ofNat n = iI (n : Int) := (Int32.ofInt_eq_ofNat).symm
theorem iI_clamp {x : Int} (h : i32 x) : (iI x).toNatClampNeg = x.toNat := Int32.toNatClampNeg_ofInt_of_le (by omega) (by omega)
theorem iI_in {x : Int} {n : Nat} (h0 : 0 ≤ x) (hn : x < (n : Int)) (h : i32 x) : vp_in (iI x) n := by
  unfold vp_in
  rw [iI_clamp h]
  have h1 : ¬ iI x < 0 := by
    rw [← iI_0, iI_lt h (by omega)]; omega
  intro q
  rcases q with q | q
  · exact h1 q
  · omega
theorem mx32 : Int32.maxValue.toInt = 2147483647 := by decide +kernel
theorem mx64 : Int64.maxValue.toInt = 9223372036854775807 := by decide +kernel
theorem mn32 : Int32.minValue.toInt = -2147483648 := by decide +kernel
theorem mn64 : Int64.minValue.toInt = -9223372036854775808 := by decide +kernel
theorem iI_div {x y : Int} (hx : i32 x) (hy : i32 y) : iI x / iI y = iI (x.tdiv y) :=
  (Int32.ofInt_tdiv (by rw [mn32]; exact hx.1) (by rw [mx32]; exact hx.2) (by rw [mn32]; exact hy.1) (by rw [mx32]; exact hy.2)).symm
theorem lI_div {x y : Int} (hx : i64 x) (hy : i64 y) : lI x / lI y = lI (x.tdiv y) :=
  (Int64.ofInt_tdiv (by rw [mn64]; exact hx.1) (by rw [mx64]; exact hx.2) (by rw [mn64]; exact hy.1) (by rw [mx64]; exact hy.2)).symm
theorem iI_rem {x y : Int} (hx : i32 x) (hy : i32 y) : iI x - iI x / iI y * iI y = iI (x.tmod y) := by
  rw [iI_div hx hy, iI_mul, iI_sub, Int.tmod_def, Int.mul_comm]
theorem lI_rem {x y : Int} (hx : i64 x) (hy : i64 y) : lI x - lI x / lI y * lI y = lI (x.tmod y) := by
  rw [lI_div hx hy, lI_mul, lI_sub, Int.tmod_def, Int.mul_comm]
theorem iI_toL {x : Int} (h : i32 x) : (iI x).toInt64 = lI x := Int32.toInt64_ofInt (by rw [mn32]; exact h.1) (by rw [mx32]; exact h.2)
theorem lI_toI (x : Int) : (lI x).toInt32 = iI x := Int64.toInt32_ofInt
theorem lI_and14 (x : Int) : lI x &&& lI 16383 = lI (x % 16384) := by
  apply Int64.toBitVec_inj.mp
  rw [Int64.toBitVec_and]
  apply BitVec.eq_of_toNat_eq
  rw [BitVec.toNat_and]
  show (BitVec.ofInt 64 x).toNat &&& (BitVec.ofInt 64 16383).toNat = (BitVec.ofInt 64 (x % 16384)).toNat
  rw [BitVec.toNat_ofInt, BitVec.toNat_ofInt, BitVec.toNat_ofInt]
  have h := Nat.and_two_pow_sub_one_eq_mod (x % (2 ^ 64 : Nat)).toNat 14
  have e : ((16383 : Int) % (2 ^ 64 : Nat)).toNat = 2 ^ 14 - 1 := by decide +kernel
  rw [e, h]
  omega
theorem lI_and32 (x : Int) : lI x &&& lI 4294967295 = lI (x % 4294967296) := by
  apply Int64.toBitVec_inj.mp
  rw [Int64.toBitVec_and]
  apply BitVec.eq_of_toNat_eq
  rw [BitVec.toNat_and]
  show (BitVec.ofInt 64 x).toNat &&& (BitVec.ofInt 64 4294967295).toNat = (BitVec.ofInt 64 (x % 4294967296)).toNat
  rw [BitVec.toNat_ofInt, BitVec.toNat_ofInt, BitVec.toNat_ofInt]
  have h := Nat.and_two_pow_sub_one_eq_mod (x % (2 ^ 64 : Nat)).toNat 32
  have e : ((4294967295 : Int) % (2 ^ 64 : Nat)).toNat = 2 ^ 32 - 1 := by decide +kernel
  rw [e, h]
  omega
theorem iI_and14 (x : Int) : iI x &&& iI 16383 = iI (x % 16384) := by
  apply Int32.toBitVec_inj.mp
  rw [Int32.toBitVec_and]
  apply BitVec.eq_of_toNat_eq
  rw [BitVec.toNat_and]
  show (BitVec.ofInt 32 x).toNat &&& (BitVec.ofInt 32 16383).toNat = (BitVec.ofInt 32 (x % 16384)).toNat
  rw [BitVec.toNat_ofInt, BitVec.toNat_ofInt, BitVec.toNat_ofInt]
  have h := Nat.and_two_pow_sub_one_eq_mod (x % (2 ^ 32 : Nat)).toNat 14
  have e : ((16383 : Int) % (2 ^ 32 : Nat)).toNat = 2 ^ 14 - 1 := by decide +kernel
  rw [e, h]
  omega
theorem iI_and6 (x : Int) : iI x &&& iI 63 = iI (x % 64) := by
  apply Int32.toBitVec_inj.mp
  rw [Int32.toBitVec_and]
  apply BitVec.eq_of_toNat_eq
  rw [BitVec.toNat_and]
  show (BitVec.ofInt 32 x).toNat &&& (BitVec.ofInt 32 63).toNat = (BitVec.ofInt 32 (x % 64)).toNat
  rw [BitVec.toNat_ofInt, BitVec.toNat_ofInt, BitVec.toNat_ofInt]
  have h := Nat.and_two_pow_sub_one_eq_mod (x % (2 ^ 32 : Nat)).toNat 6
  have e : ((63 : Int) % (2 ^ 32 : Nat)).toNat = 2 ^ 6 - 1 := by decide +kernel
  rw [e, h]
  omega
end
section
/-! the world: a fixed layout of numbered objects and arrays; a state: what the int places, the long places, the changing references hold -/
abbrev ASt : Type := (Nat → Int → Int) × (Nat → Int → Int) × (Nat → Nat → Option Nat)
/-- kind (0 object, 1 ints, 2 longs, 3 booleans, 4 references), class, length -/
def shpL : List (Nat × Nat × Nat) :=
  [(0,7,0), (4,3,3), (4,3,3), (4,4,6), (4,4,6), (4,5,3), (1,0,43), (1,0,43), (1,0,128), (0,6,0), (1,0,80), (0,1,0), (1,0,12), (1,0,516), (0,3,0), (1,0,10)]
  ++ List.replicate 2 (0,5,0) ++ List.replicate 2 (2,0,1300) ++ List.replicate 2 (2,0,1300) ++ List.replicate 2 (1,0,1300)
  ++ List.replicate 6 (0,0,0) ++ List.replicate 6 (1,0,43) ++ List.replicate 6 (2,0,43)
  ++ List.replicate 12 (0,4,0) ++ List.replicate 12 (1,0,43)
  ++ List.replicate 3 (0,2,0) ++ List.replicate 3 (2,0,60)
  ++ [(0,8,0), (1,0,24), (1,0,3), (1,0,3), (2,0,150), (2,0,3), (1,0,6), (1,0,300), (1,0,50), (1,0,12), (1,0,600),
      (2,0,16384), (2,0,16384), (1,0,16384), (1,0,16384), (2,0,16384), (2,0,16384), (1,0,16384),
      (1,0,50), (1,0,160), (1,0,80), (3,0,3), (1,0,3), (2,0,180), (2,0,60), (1,0,24), (1,0,3), (1,0,6), (1,0,300)]
def shp (id : Nat) : Nat × Nat × Nat := shpL.getD id (9, 0, 0)
/-- a class's fields: 0 int, 1 long, 2 a reference that stays, 3 one that changes -/
def ftyL : List (List Nat) :=
  [[0,2,2,0,0,1], [2,2,0], [2,0], [3,3,2], [3,2], [2,2,2,0], [2,0], [2,2,2,2,2,2,2,2,0,2,2,2],
   [2,2,2,2,2,2,2,2,2,2,0,2,2,2,2,0,2,2,2,0,2,2,2,0,0,2,2,2,2,2,2,2,2,0]]
def fty (ci : Nat) : List Nat := ftyL.getD ci []
/-- the references that stay: of an object's field, of an array's place -/
def fin (id j : Nat) : Nat :=
  if id = 0 then [1, 3, 5, 9, 11, 14, 2, 4, 0, 6, 7, 8].getD j 0
  else if id = 1 then 24 + j
  else if id = 2 then 27 + j
  else if id = 3 then 42 + j
  else if id = 4 then 48 + j
  else if id = 5 then 66 + j
  else if id = 9 then 10
  else if id = 11 then 12 + j
  else if id = 14 then 15
  else if id = 16 ∨ id = 17 then id + 2 + 2 * j
  else if 24 ≤ id ∧ id < 30 then id + 6 * j
  else if 42 ≤ id ∧ id < 54 then id + 12
  else if 66 ≤ id ∧ id < 69 then id + 3
  else if id = 72 then [73,74,75,76,77,78,79,80,81,82,0,83,84,85,86,0,87,88,89,0,90,91,92,0,0,93,94,95,96,97,98,99,100,0].getD j 0
  else 0
def NN : Nat := 101
def cv (ad : Nat → Nat) (v : Value) : Value := match v with
  | .ref a => .ref (ad a)
  | w => w
def cvp (ad : Nat → Nat) (q : Nat × Value) : Nat × Value := (q.1, cv ad q.2)
def entF (ad : Nat → Nat) (σ : ASt) (id j t : Nat) : Value :=
  if t = 0 then .int (iI (σ.1 id (j : Int))) else if t = 1 then .long (lI (σ.2.1 id (j : Int))) else if t = 2 then .ref (ad (fin id j)) else va_rf ((σ.2.2 id j).map ad)
def ent (cA : Nat → ClassId) (ad : Nat → Nat) (σ : ASt) (id : Nat) : va_E :=
  if (shp id).1 = 0 then .inr ((shp id).2.1, (fty (shp id).2.1).mapIdx (fun j t => entF ad σ id j t))
  else if (shp id).1 = 1 then .inl (cA 0, (shp id).2.2, .inl (fun j => iI (σ.1 id (j : Int))))
  else if (shp id).1 = 2 then .inl (cA 1, (shp id).2.2, .inr (.inl (fun j => lI (σ.2.1 id (j : Int)))))
  else if (shp id).1 = 3 then .inl (cA 2, (shp id).2.2, .inl (fun j => iI (σ.1 id (j : Int))))
  else .inl (cA (shp id).2.1, (shp id).2.2, .inr (.inr (.inr (.inr (fun j => some (ad (fin id j)))))))
def wl (cA : Nat → ClassId) (ad : Nat → Nat) (σ : ASt) : va_W := (List.range NN).map (fun id => (ad id, ent cA ad σ id))
def tyL (cA : Nat → ClassId) : List (ClassId × FieldType) := [(cA 0, .int), (cA 1, .long), (cA 2, .boolean), (cA 3, .object RX0), (cA 4, .object RX4), (cA 5, .object RX2)]
theorem shp_lt {id : Nat} {q : Nat × Nat × Nat} (h : shp id = q) (hq : q.1 < 9) : id < NN := by
  by_cases hl : id < NN
  · exact hl
  · exfalso
    have h1 : shpL.length ≤ id := by
      have : shpL.length = NN := by decide +kernel
      omega
    unfold shp at h
    rw [List.getD_eq_getElem?_getD, List.getElem?_eq_none h1] at h
    subst h
    exact absurd hq (by decide)
theorem wl_get (cA : Nat → ClassId) (ad : Nat → Nat) (σ : ASt) {id : Nat} (h : id < NN) : (wl cA ad σ)[id]? = some (ad id, ent cA ad σ id) := by
  unfold wl
  rw [List.getElem?_map, List.getElem?_range h]
  rfl
theorem wl_set (cA : Nat → ClassId) (ad : Nat → Nat) (σ σ' : ASt) {id : Nat} {e : va_E} (h : id < NN) (he : ent cA ad σ' id = e) (ho : ∀ k, k ≠ id → ent cA ad σ' k = ent cA ad σ k) : (wl cA ad σ).set id (ad id, e) = wl cA ad σ' := by
  apply List.ext_getElem?
  intro k
  have hlen : (wl cA ad σ).length = NN := by simp [wl]
  by_cases hk : k < NN
  · rw [wl_get cA ad σ' hk]
    by_cases hki : k = id
    · subst hki
      rw [List.getElem?_set_self (by omega), he]
    · rw [List.getElem?_set_ne (fun q => hki q.symm), wl_get cA ad σ hk, ho k hki]
  · rw [List.getElem?_eq_none (by simp [hlen]; omega), List.getElem?_eq_none (by simp [wl]; omega)]
def adInj (ad : Nat → Nat) : Prop := ∀ i j : Nat, i < NN → j < NN → ad i = ad j → i = j
def adA (ad : Nat → Nat) : Nat → Prop := fun q => ∃ i : Nat, i < NN ∧ q = ad i
theorem wl_D {A : Nat → Prop} {cA : Nat → ClassId} {ad : Nat → Nat} {σ : ASt} (h1 : adInj ad) (h2 : ∀ i, i < NN → A (ad i)) : va_D A (wl cA ad σ) := by
  have key : ∀ (k : Nat) (q : Nat × va_E), (wl cA ad σ)[k]? = some q → k < NN ∧ q.1 = ad k := by
    intro k q hk
    have hl : k < NN := by
      have := (List.getElem?_eq_some_iff.mp hk).1
      simpa [wl] using this
    rw [wl_get cA ad σ hl] at hk
    cases hk
    exact ⟨hl, rfl⟩
  refine ⟨fun i j p q hi hj hpq => ?_, fun k q hk => ?_⟩
  · obtain ⟨a1, a2⟩ := key i p hi
    obtain ⟨b1, b2⟩ := key j q hj
    exact h1 i j a1 b1 (by rw [← a2, ← b2, hpq])
  · obtain ⟨a1, a2⟩ := key k q hk
    rw [a2]
    exact h2 k a1
/-! writing to a state -/
def gI (σ : ASt) (a : Nat) (i : Int) : Int := σ.1 a i
def gL (σ : ASt) (a : Nat) (i : Int) : Int := σ.2.1 a i
def gP (σ : ASt) (a : Nat) (i : Nat) : Option Nat := σ.2.2 a i
def sI (σ : ASt) (a : Nat) (i v : Int) : ASt := (fun b j => if b = a ∧ j = i then v else σ.1 b j, σ.2.1, σ.2.2)
def sL (σ : ASt) (a : Nat) (i v : Int) : ASt := (σ.1, fun b j => if b = a ∧ j = i then v else σ.2.1 b j, σ.2.2)
def sP (σ : ASt) (a : Nat) (i : Nat) (v : Option Nat) : ASt := (σ.1, σ.2.1, fun b j => if b = a ∧ j = i then v else σ.2.2 b j)
/-- all of an int array (a long array) anew -/
def uI (σ : ASt) (a : Nat) (f : Int → Int) : ASt := (fun b => if b = a then f else σ.1 b, σ.2.1, σ.2.2)
def uL (σ : ASt) (a : Nat) (f : Int → Int) : ASt := (σ.1, fun b => if b = a then f else σ.2.1 b, σ.2.2)
theorem ent_other {cA : Nat → ClassId} {ad : Nat → Nat} {σ σ' : ASt} {a : Nat} (h1 : ∀ b, b ≠ a → σ'.1 b = σ.1 b) (h2 : ∀ b, b ≠ a → σ'.2.1 b = σ.2.1 b) (h3 : ∀ b, b ≠ a → σ'.2.2 b = σ.2.2 b) : ∀ k, k ≠ a → ent cA ad σ' k = ent cA ad σ k := by
  intro k hk
  unfold ent entF
  rw [h1 k hk, h2 k hk, h3 k hk]
theorem ent_1 {cA : Nat → ClassId} {ad : Nat → Nat} {σ : ASt} {a n x : Nat} (h : shp a = (1, x, n)) : ent cA ad σ a = .inl (cA 0, n, .inl (fun j => iI (σ.1 a (j : Int)))) := by
  unfold ent; rw [h]; rfl
theorem ent_2 {cA : Nat → ClassId} {ad : Nat → Nat} {σ : ASt} {a n x : Nat} (h : shp a = (2, x, n)) : ent cA ad σ a = .inl (cA 1, n, .inr (.inl (fun j => lI (σ.2.1 a (j : Int))))) := by
  unfold ent; rw [h]; rfl
theorem ent_3 {cA : Nat → ClassId} {ad : Nat → Nat} {σ : ASt} {a n x : Nat} (h : shp a = (3, x, n)) : ent cA ad σ a = .inl (cA 2, n, .inl (fun j => iI (σ.1 a (j : Int)))) := by
  unfold ent; rw [h]; rfl
theorem ent_4 {cA : Nat → ClassId} {ad : Nat → Nat} {σ : ASt} {a n x : Nat} (h : shp a = (4, x, n)) : ent cA ad σ a = .inl (cA x, n, .inr (.inr (.inr (.inr (fun j => some (ad (fin a j))))))) := by
  unfold ent; rw [h]; rfl
theorem ent_0 {cA : Nat → ClassId} {ad : Nat → Nat} {σ : ASt} {a n x : Nat} (h : shp a = (0, x, n)) : ent cA ad σ a = .inr (x, (fty x).mapIdx (fun j t => entF ad σ a j t)) := by
  unfold ent; rw [h]; rfl
theorem upd_iI (σ : ASt) (a : Nat) (i v : Int) (h : 0 ≤ i) : upd (fun j => iI (σ.1 a (j : Int))) i.toNat (iI v) = fun (j : Nat) => iI ((sI σ a i v).1 a (j : Int)) := by
  funext j
  unfold upd sI
  dsimp only
  by_cases hj : j = i.toNat
  · rw [if_pos hj, if_pos ⟨rfl, by omega⟩]
  · rw [if_neg hj, if_neg (fun q => hj (by have := q.2; omega))]
theorem upd_lI (σ : ASt) (a : Nat) (i v : Int) (h : 0 ≤ i) : vp_updL (fun j => lI (σ.2.1 a (j : Int))) i.toNat (lI v) = fun (j : Nat) => lI ((sL σ a i v).2.1 a (j : Int)) := by
  funext j
  unfold vp_updL sL
  dsimp only
  by_cases hj : j = i.toNat
  · rw [if_pos hj, if_pos ⟨rfl, by omega⟩]
  · rw [if_neg hj, if_neg (fun q => hj (by have := q.2; omega))]
theorem cv_cat (ad : Nat → Nat) (v : Value) : (cv ad v).category = v.category := by cases v <;> rfl
end
section
/-! the machine over states: a method's tuple (name, bytes, most variables, answer's type, room); goals over the world of a state -/
def allW : List Cond := lw_tbl.filter goodWord
theorem allW_good : ∀ w ∈ allW, (w.onTables && w.keeps) = true ∨ ∃ ty, w = .arrayClass ty := fun _ h => good_of_word (List.mem_filter.mp h).2
theorem wmem {w : Cond} (i : Nat) (h : lw_tbl[i]? = some w) (hg : goodWord w = true) : w ∈ allW := List.mem_filter.mpr ⟨List.mem_of_getElem? h, hg⟩
abbrev MK : Type := MethodName × ByteArray × Nat × Option FieldType × Room
def wsK (K : MK) : List Cond := Cond.code K.1 K.2.1 K.2.2.1 K.2.2.2.1 :: allW
/-- the three links by a nest that methods use -/
def Nst (U : State) : Prop := va_Nw (.methodLinkNest "SummedBases$Base" 27 ⟨"SummedBases", "isWithin", "(III)Z"⟩ "SummedBases") U ∧ va_Nw (.methodLinkNest "SummedBases$Tape" 29 ⟨"SummedBases", "isWithin", "(III)Z"⟩ "SummedBases") U ∧ va_Nw (.methodLinkNest "SummedBases$Deeds" 41 ⟨"SummedBases", "isWithin", "(III)Z"⟩ "SummedBases") U
theorem Nst.warm {s U : State} (hW : s.WarmedH U.vm) (h : Nst s) : Nst U := ⟨va_Nw.warmM hW h.1, va_Nw.warmM hW h.2.1, va_Nw.warmM hW h.2.2⟩
theorem Nst.same {s U : State} (hv : s.vm = U.vm) (h : Nst s) : Nst U := ⟨va_Nw.same rfl hv h.1, va_Nw.same rfl hv h.2.1, va_Nw.same rfl hv h.2.2⟩
/-- what holds inside a method: machine, code, words, class, tables; the world's addresses are apart, and may be written -/
def Cx (p : Program) (s : State) (m : MethodId) (args : Array Value) (c : Code) (A : Nat → Prop) (D : va_G) (cA : Nat → ClassId) (ad : Nat → Nat) (own : String) (cc : ByteArray) (mx : Nat) : Prop :=
  p.tables.exec = Jvm.exec ∧ c.code = cc ∧ (∀ w ∈ allW, w.before args s = true) ∧ s.vm.findClass own = some m.cls ∧ va_K D vwCl (tyL cA) s ∧ adInj ad ∧ (∀ i, i < NN → A (ad i)) ∧ c.maxLocals = mx ∧ Nst s
/-- from this place, with these variables and this stack, at this state, the machine comes to G -/
def Wg (p : Program) (l : Launch) (e : Env) (R : Room) (s : State) (m : MethodId) (args : Array Value) (below : List Frame) (meth : Method) (c : Code) (A : Nat → Prop) (D : va_G) (cA : Nat → ClassId) (ad : Nat → Nat) (cells slots : Nat) (G : State → Prop) (pc : Nat) (lv : List (Nat × Value)) (st : List Value) (σ : ASt) : Prop :=
  ∀ (H : Heap) (locs : List Loc) (ls : Array Slot), va_P D vwCl (wl cA ad σ) H → va_S A s.heap H locs → lv_has ls c.maxLocals (lv.map (cvp ad)) → W p l e R s m args below meth c H locs cells slots G (F0 m pc ls (st.map (cv ad)))
theorem lvm_at {ad : Nat → Nat} {ls : Array Slot} {n : Nat} {lv : List (Nat × Value)} (h : lv_has ls n (lv.map (cvp ad))) (k : Nat) {i : Nat} {v : Value} (hk : lv[k]? = some (i, v)) : ls[i]? = some (.val (cv ad v)) := lv_at h k (by rw [List.getElem?_map, hk]; rfl)
def fl1 (i : Nat) (q : Nat × Value) : Bool := !(q.1 == i) && !(q.1 + 1 == i && q.2.category == 2)
def fl2 (i : Nat) (q : Nat × Value) : Bool := !(q.1 == i) && (!(q.1 == i + 1) && !(q.1 + 1 == i && q.2.category == 2))
theorem lvm_f1 {ad : Nat → Nat} {lv lv' : List (Nat × Value)} {i : Nat} {v : Value} (h : (i, v) :: lv.filter (fl1 i) = lv') : (i, cv ad v) :: (lv.map (cvp ad)).filter (fun q => !(q.1 == i) && !(q.1 + 1 == i && q.2.category == 2)) = lv'.map (cvp ad) := by
  subst h
  rw [List.filter_map, List.map_cons]
  congr 2
  apply List.filter_congr
  intro q _
  show (!(q.1 == i) && !(q.1 + 1 == i && (cv ad q.2).category == 2)) = _
  rw [cv_cat]
  rfl
theorem lvm_f2 {ad : Nat → Nat} {lv lv' : List (Nat × Value)} {i : Nat} {v : Value} (h : (i, v) :: lv.filter (fl2 i) = lv') : (i, cv ad v) :: (lv.map (cvp ad)).filter (fun q => !(q.1 == i) && (!(q.1 == i + 1) && !(q.1 + 1 == i && q.2.category == 2))) = lv'.map (cvp ad) := by
  subst h
  rw [List.filter_map, List.map_cons]
  congr 2
  apply List.filter_congr
  intro q _
  show (!(q.1 == i) && (!(q.1 == i + 1) && !(q.1 + 1 == i && (cv ad q.2).category == 2))) = _
  rw [cv_cat]
  rfl
section GR
variable {p : Program} {l : Launch} {e : Env} {R : Room} {s : State} {m : MethodId} {args : Array Value} {below : List Frame} {meth : Method} {c : Code} {A : Nat → Prop} {D : va_G} {cA : Nat → ClassId} {ad : Nat → Nat} {cells slots : Nat} {G : State → Prop} {own : String} {cc : ByteArray} {mx : Nat} {pc : Nat} {lv lv' : List (Nat × Value)} {st : List Value} {σ : ASt}
theorem g_sub (ks : List Nat) (h : lv_pick lv ks = lv') (k : Wg p l e R s m args below meth c A D cA ad cells slots G pc lv' st σ) : Wg p l e R s m args below meth c A D cA ad cells slots G pc lv st σ := fun H locs ls hP hS hl => k H locs ls hP hS (lv_sub hl ks (by
  subst h
  unfold lv_pick
  rw [List.map_filterMap]
  congr 1
  funext i
  rw [List.getElem?_map]))
theorem g_iconst (X : Cx p s m args c A D cA ad own cc mx) {n : Int} (hd : decode cc pc = .ok (.iconst n, 1)) (k : Wg p l e R s m args below meth c A D cA ad cells slots G (pc + 1) lv (.int (iI n) :: st) σ) : Wg p l e R s m args below meth c A D cA ad cells slots G pc lv st σ :=
  fun H locs ls hP hS hl => lv_iconst X.1 X.2.1 hd rfl (k H locs ls hP hS hl)
theorem g_bipush (X : Cx p s m args c A D cA ad own cc mx) {n : Int} (hd : decode cc pc = .ok (.bipush n, 2)) (hv : (Int8.ofInt n).toInt32 = iI n) (k : Wg p l e R s m args below meth c A D cA ad cells slots G (pc + 2) lv (.int (iI n) :: st) σ) : Wg p l e R s m args below meth c A D cA ad cells slots G pc lv st σ :=
  fun H locs ls hP hS hl => lv_bipush X.1 X.2.1 hd hv (k H locs ls hP hS hl)
theorem g_sipush (X : Cx p s m args c A D cA ad own cc mx) {n : Int} (hd : decode cc pc = .ok (.sipush n, 3)) (hv : (Int16.ofInt n).toInt32 = iI n) (k : Wg p l e R s m args below meth c A D cA ad cells slots G (pc + 3) lv (.int (iI n) :: st) σ) : Wg p l e R s m args below meth c A D cA ad cells slots G pc lv st σ :=
  fun H locs ls hP hS hl => lv_sipush X.1 X.2.1 hd hv (k H locs ls hP hS hl)
theorem g_lconst (X : Cx p s m args c A D cA ad own cc mx) {n : Fin 2} {z : Int} (hd : decode cc pc = .ok (.lconst n, 1)) (hv : Int64.ofNat (n : Nat) = lI z) (k : Wg p l e R s m args below meth c A D cA ad cells slots G (pc + 1) lv (.long (lI z) :: st) σ) : Wg p l e R s m args below meth c A D cA ad cells slots G pc lv st σ :=
  fun H locs ls hP hS hl => lv_lconst X.1 X.2.1 hd hv (k H locs ls hP hS hl)
theorem g_ldc (X : Cx p s m args c A D cA ad own cc mx) {index : Nat} {v : Int32} {z : Int} (hd : decode cc pc = .ok (.ldc index, 2)) (hw : Jvm.Cond.constant own index v ∈ allW) (hv : v = iI z) (k : Wg p l e R s m args below meth c A D cA ad cells slots G (pc + 2) lv (.int (iI z) :: st) σ) : Wg p l e R s m args below meth c A D cA ad cells slots G pc lv st σ := by
  subst hv
  exact fun H locs ls hP hS hl => lv_ldc X.1 X.2.1 X.2.2.2.1 (X.2.2.1 _ hw) hd (k H locs ls hP hS hl)
theorem g_ldc2 (X : Cx p s m args c A D cA ad own cc mx) {index : Nat} {v : Int64} {z : Int} (hd : decode cc pc = .ok (.ldc2_w index, 3)) (hw : Jvm.Cond.constantLong own index v ∈ allW) (hv : v = lI z) (k : Wg p l e R s m args below meth c A D cA ad cells slots G (pc + 3) lv (.long (lI z) :: st) σ) : Wg p l e R s m args below meth c A D cA ad cells slots G pc lv st σ := by
  subst hv
  exact fun H locs ls hP hS hl => lv_ldc2 X.1 X.2.1 X.2.2.2.1 (X.2.2.1 _ hw) hd (k H locs ls hP hS hl)
theorem g_null (X : Cx p s m args c A D cA ad own cc mx) (hd : decode cc pc = .ok (.aconst_null, 1)) (k : Wg p l e R s m args below meth c A D cA ad cells slots G (pc + 1) lv (.null :: st) σ) : Wg p l e R s m args below meth c A D cA ad cells slots G pc lv st σ :=
  fun H locs ls hP hS hl => lv_null X.1 X.2.1 hd (k H locs ls hP hS hl)
theorem g_iload_n (X : Cx p s m args c A D cA ad own cc mx) {q : Fin 4} {x : Int32} (j : Nat) (hd : decode cc pc = .ok (.iload_n q, 1)) (hk : lv[j]? = some ((q : Nat), .int x)) (k : Wg p l e R s m args below meth c A D cA ad cells slots G (pc + 1) lv (.int x :: st) σ) : Wg p l e R s m args below meth c A D cA ad cells slots G pc lv st σ :=
  fun H locs ls hP hS hl => lv_iload_n X.1 X.2.1 hd rfl (lvm_at hl j hk) (k H locs ls hP hS hl)
theorem g_iload (X : Cx p s m args c A D cA ad own cc mx) {i : Nat} {x : Int32} (j : Nat) (hd : decode cc pc = .ok (.iload i, 2)) (hk : lv[j]? = some (i, .int x)) (k : Wg p l e R s m args below meth c A D cA ad cells slots G (pc + 2) lv (.int x :: st) σ) : Wg p l e R s m args below meth c A D cA ad cells slots G pc lv st σ :=
  fun H locs ls hP hS hl => lv_iload X.1 X.2.1 hd (lvm_at hl j hk) (k H locs ls hP hS hl)
theorem g_lload_n (X : Cx p s m args c A D cA ad own cc mx) {q : Fin 4} {x : Int64} (j : Nat) (hd : decode cc pc = .ok (.lload_n q, 1)) (hk : lv[j]? = some ((q : Nat), .long x)) (k : Wg p l e R s m args below meth c A D cA ad cells slots G (pc + 1) lv (.long x :: st) σ) : Wg p l e R s m args below meth c A D cA ad cells slots G pc lv st σ :=
  fun H locs ls hP hS hl => lv_lload_n X.1 X.2.1 hd rfl (lvm_at hl j hk) (k H locs ls hP hS hl)
theorem g_lload (X : Cx p s m args c A D cA ad own cc mx) {i : Nat} {x : Int64} (j : Nat) (hd : decode cc pc = .ok (.lload i, 2)) (hk : lv[j]? = some (i, .long x)) (k : Wg p l e R s m args below meth c A D cA ad cells slots G (pc + 2) lv (.long x :: st) σ) : Wg p l e R s m args below meth c A D cA ad cells slots G pc lv st σ :=
  fun H locs ls hP hS hl => lv_lload X.1 X.2.1 hd (lvm_at hl j hk) (k H locs ls hP hS hl)
theorem g_aload_n (X : Cx p s m args c A D cA ad own cc mx) {q : Fin 4} {x : Nat} (j : Nat) (hd : decode cc pc = .ok (.aload_n q, 1)) (hk : lv[j]? = some ((q : Nat), .ref x)) (k : Wg p l e R s m args below meth c A D cA ad cells slots G (pc + 1) lv (.ref x :: st) σ) : Wg p l e R s m args below meth c A D cA ad cells slots G pc lv st σ :=
  fun H locs ls hP hS hl => lv_aload_n X.1 X.2.1 hd rfl (lvm_at hl j hk) (k H locs ls hP hS hl)
theorem g_aload (X : Cx p s m args c A D cA ad own cc mx) {i : Nat} {x : Nat} (j : Nat) (hd : decode cc pc = .ok (.aload i, 2)) (hk : lv[j]? = some (i, .ref x)) (k : Wg p l e R s m args below meth c A D cA ad cells slots G (pc + 2) lv (.ref x :: st) σ) : Wg p l e R s m args below meth c A D cA ad cells slots G pc lv st σ :=
  fun H locs ls hP hS hl => lv_aload X.1 X.2.1 hd (lvm_at hl j hk) (k H locs ls hP hS hl)
theorem g_aload_nN (X : Cx p s m args c A D cA ad own cc mx) {q : Fin 4} (j : Nat) (hd : decode cc pc = .ok (.aload_n q, 1)) (hk : lv[j]? = some ((q : Nat), .null)) (k : Wg p l e R s m args below meth c A D cA ad cells slots G (pc + 1) lv (.null :: st) σ) : Wg p l e R s m args below meth c A D cA ad cells slots G pc lv st σ :=
  fun H locs ls hP hS hl => lv_aload_nN X.1 X.2.1 hd rfl (lvm_at hl j hk) (k H locs ls hP hS hl)
theorem g_aloadN (X : Cx p s m args c A D cA ad own cc mx) {i : Nat} (j : Nat) (hd : decode cc pc = .ok (.aload i, 2)) (hk : lv[j]? = some (i, .null)) (k : Wg p l e R s m args below meth c A D cA ad cells slots G (pc + 2) lv (.null :: st) σ) : Wg p l e R s m args below meth c A D cA ad cells slots G pc lv st σ :=
  fun H locs ls hP hS hl => lv_aloadN X.1 X.2.1 hd (lvm_at hl j hk) (k H locs ls hP hS hl)
theorem g_istore_n (X : Cx p s m args c A D cA ad own cc mx) {q : Fin 4} {x : Int32} (hd : decode cc pc = .ok (.istore_n q, 1)) (hn : (q : Nat) < mx) (hl : ((q : Nat), Value.int x) :: lv.filter (fl1 q) = lv') (k : Wg p l e R s m args below meth c A D cA ad cells slots G (pc + 1) lv' st σ) : Wg p l e R s m args below meth c A D cA ad cells slots G pc lv (.int x :: st) σ :=
  fun H locs ls hP hS h => lv_istore_n X.1 X.2.1 hd rfl h (by rw [X.2.2.2.2.2.2.2.1]; exact hn) (lvm_f1 (v := .int x) hl) (fun ls' h' => k H locs ls' hP hS h')
theorem g_istore (X : Cx p s m args c A D cA ad own cc mx) {i : Nat} {x : Int32} (hd : decode cc pc = .ok (.istore i, 2)) (hn : i < mx) (hl : (i, Value.int x) :: lv.filter (fl1 i) = lv') (k : Wg p l e R s m args below meth c A D cA ad cells slots G (pc + 2) lv' st σ) : Wg p l e R s m args below meth c A D cA ad cells slots G pc lv (.int x :: st) σ :=
  fun H locs ls hP hS h => lv_istore X.1 X.2.1 hd h (by rw [X.2.2.2.2.2.2.2.1]; exact hn) (lvm_f1 (v := .int x) hl) (fun ls' h' => k H locs ls' hP hS h')
theorem g_lstore_n (X : Cx p s m args c A D cA ad own cc mx) {q : Fin 4} {x : Int64} (hd : decode cc pc = .ok (.lstore_n q, 1)) (hn : (q : Nat) + 1 < mx) (hl : ((q : Nat), Value.long x) :: lv.filter (fl2 q) = lv') (k : Wg p l e R s m args below meth c A D cA ad cells slots G (pc + 1) lv' st σ) : Wg p l e R s m args below meth c A D cA ad cells slots G pc lv (.long x :: st) σ :=
  fun H locs ls hP hS h => lv_lstore_n X.1 X.2.1 hd rfl h (by rw [X.2.2.2.2.2.2.2.1]; exact hn) (lvm_f2 (v := .long x) hl) (fun ls' h' => k H locs ls' hP hS h')
theorem g_lstore (X : Cx p s m args c A D cA ad own cc mx) {i : Nat} {x : Int64} (hd : decode cc pc = .ok (.lstore i, 2)) (hn : i + 1 < mx) (hl : (i, Value.long x) :: lv.filter (fl2 i) = lv') (k : Wg p l e R s m args below meth c A D cA ad cells slots G (pc + 2) lv' st σ) : Wg p l e R s m args below meth c A D cA ad cells slots G pc lv (.long x :: st) σ :=
  fun H locs ls hP hS h => lv_lstore X.1 X.2.1 hd h (by rw [X.2.2.2.2.2.2.2.1]; exact hn) (lvm_f2 (v := .long x) hl) (fun ls' h' => k H locs ls' hP hS h')
theorem g_astore_n (X : Cx p s m args c A D cA ad own cc mx) {q : Fin 4} {x : Nat} (hd : decode cc pc = .ok (.astore_n q, 1)) (hn : (q : Nat) < mx) (hl : ((q : Nat), Value.ref x) :: lv.filter (fl1 q) = lv') (k : Wg p l e R s m args below meth c A D cA ad cells slots G (pc + 1) lv' st σ) : Wg p l e R s m args below meth c A D cA ad cells slots G pc lv (.ref x :: st) σ :=
  fun H locs ls hP hS h => lv_astore_n X.1 X.2.1 hd rfl h (by rw [X.2.2.2.2.2.2.2.1]; exact hn) (lvm_f1 (v := .ref x) hl) (fun ls' h' => k H locs ls' hP hS h')
theorem g_astore (X : Cx p s m args c A D cA ad own cc mx) {i : Nat} {x : Nat} (hd : decode cc pc = .ok (.astore i, 2)) (hn : i < mx) (hl : (i, Value.ref x) :: lv.filter (fl1 i) = lv') (k : Wg p l e R s m args below meth c A D cA ad cells slots G (pc + 2) lv' st σ) : Wg p l e R s m args below meth c A D cA ad cells slots G pc lv (.ref x :: st) σ :=
  fun H locs ls hP hS h => lv_astore X.1 X.2.1 hd h (by rw [X.2.2.2.2.2.2.2.1]; exact hn) (lvm_f1 (v := .ref x) hl) (fun ls' h' => k H locs ls' hP hS h')
theorem g_astore_nN (X : Cx p s m args c A D cA ad own cc mx) {q : Fin 4} (hd : decode cc pc = .ok (.astore_n q, 1)) (hn : (q : Nat) < mx) (hl : ((q : Nat), Value.null) :: lv.filter (fl1 q) = lv') (k : Wg p l e R s m args below meth c A D cA ad cells slots G (pc + 1) lv' st σ) : Wg p l e R s m args below meth c A D cA ad cells slots G pc lv (.null :: st) σ :=
  fun H locs ls hP hS h => lv_astore_nN X.1 X.2.1 hd rfl h (by rw [X.2.2.2.2.2.2.2.1]; exact hn) (lvm_f1 (v := .null) hl) (fun ls' h' => k H locs ls' hP hS h')
theorem g_astoreN (X : Cx p s m args c A D cA ad own cc mx) {i : Nat} (hd : decode cc pc = .ok (.astore i, 2)) (hn : i < mx) (hl : (i, Value.null) :: lv.filter (fl1 i) = lv') (k : Wg p l e R s m args below meth c A D cA ad cells slots G (pc + 2) lv' st σ) : Wg p l e R s m args below meth c A D cA ad cells slots G pc lv (.null :: st) σ :=
  fun H locs ls hP hS h => lv_astoreN X.1 X.2.1 hd h (by rw [X.2.2.2.2.2.2.2.1]; exact hn) (lvm_f1 (v := .null) hl) (fun ls' h' => k H locs ls' hP hS h')
theorem g_iinc (X : Cx p s m args c A D cA ad own cc mx) {i : Nat} {n x : Int} (j : Nat) (hd : decode cc pc = .ok (.iinc i n, 3)) (hk : lv[j]? = some (i, .int (iI x))) (hn : i < mx) (hl : (i, Value.int (iI (x + n))) :: lv.filter (fl1 i) = lv') (k : Wg p l e R s m args below meth c A D cA ad cells slots G (pc + 3) lv' st σ) : Wg p l e R s m args below meth c A D cA ad cells slots G pc lv st σ :=
  fun H locs ls hP hS h => lv_iinc (k := j) X.1 X.2.1 hd h (by rw [List.getElem?_map, hk]; rfl) (iI_add x n) (by rw [X.2.2.2.2.2.2.2.1]; exact hn) (lvm_f1 (v := .int (iI (x + n))) hl) (fun ls' h' => k H locs ls' hP hS h')
theorem g_iadd (X : Cx p s m args c A D cA ad own cc mx) {x y : Int} (hd : decode cc pc = .ok (.iadd, 1)) (k : Wg p l e R s m args below meth c A D cA ad cells slots G (pc + 1) lv (.int (iI (x + y)) :: st) σ) : Wg p l e R s m args below meth c A D cA ad cells slots G pc lv (.int (iI y) :: .int (iI x) :: st) σ := by
  rw [← iI_add] at k
  exact fun H locs ls hP hS hl => lv_iadd X.1 X.2.1 hd (k H locs ls hP hS hl)
theorem g_isub (X : Cx p s m args c A D cA ad own cc mx) {x y : Int} (hd : decode cc pc = .ok (.isub, 1)) (k : Wg p l e R s m args below meth c A D cA ad cells slots G (pc + 1) lv (.int (iI (x - y)) :: st) σ) : Wg p l e R s m args below meth c A D cA ad cells slots G pc lv (.int (iI y) :: .int (iI x) :: st) σ := by
  rw [← iI_sub] at k
  exact fun H locs ls hP hS hl => lv_isub X.1 X.2.1 hd (k H locs ls hP hS hl)
theorem g_imul (X : Cx p s m args c A D cA ad own cc mx) {x y : Int} (hd : decode cc pc = .ok (.imul, 1)) (k : Wg p l e R s m args below meth c A D cA ad cells slots G (pc + 1) lv (.int (iI (x * y)) :: st) σ) : Wg p l e R s m args below meth c A D cA ad cells slots G pc lv (.int (iI y) :: .int (iI x) :: st) σ := by
  rw [← iI_mul] at k
  exact fun H locs ls hP hS hl => lv_imul X.1 X.2.1 hd (k H locs ls hP hS hl)
theorem g_idiv (X : Cx p s m args c A D cA ad own cc mx) {x y : Int} (hd : decode cc pc = .ok (.idiv, 1)) (hx : i32 x) (hy : i32 y) (h0 : y ≠ 0) (k : Wg p l e R s m args below meth c A D cA ad cells slots G (pc + 1) lv (.int (iI (x.tdiv y)) :: st) σ) : Wg p l e R s m args below meth c A D cA ad cells slots G pc lv (.int (iI y) :: .int (iI x) :: st) σ := by
  rw [← iI_div hx hy] at k
  exact fun H locs ls hP hS hl => lv_idiv X.1 X.2.1 hd (fun q => h0 ((iI_eq hy (by omega)).mp (q.trans iI_0.symm))) (k H locs ls hP hS hl)
theorem g_irem (X : Cx p s m args c A D cA ad own cc mx) {x y : Int} (hd : decode cc pc = .ok (.irem, 1)) (hx : i32 x) (hy : i32 y) (h0 : y ≠ 0) (k : Wg p l e R s m args below meth c A D cA ad cells slots G (pc + 1) lv (.int (iI (x.tmod y)) :: st) σ) : Wg p l e R s m args below meth c A D cA ad cells slots G pc lv (.int (iI y) :: .int (iI x) :: st) σ := by
  rw [← iI_rem hx hy] at k
  exact fun H locs ls hP hS hl => lv_irem X.1 X.2.1 hd (fun q => h0 ((iI_eq hy (by omega)).mp (q.trans iI_0.symm))) (k H locs ls hP hS hl)
theorem g_iand14 (X : Cx p s m args c A D cA ad own cc mx) {x : Int} (hd : decode cc pc = .ok (.iand, 1)) (k : Wg p l e R s m args below meth c A D cA ad cells slots G (pc + 1) lv (.int (iI (x % 16384)) :: st) σ) : Wg p l e R s m args below meth c A D cA ad cells slots G pc lv (.int (iI 16383) :: .int (iI x) :: st) σ := by
  rw [← iI_and14] at k
  exact fun H locs ls hP hS hl => lv_iand X.1 X.2.1 hd (k H locs ls hP hS hl)
theorem g_iand6 (X : Cx p s m args c A D cA ad own cc mx) {x : Int} (hd : decode cc pc = .ok (.iand, 1)) (k : Wg p l e R s m args below meth c A D cA ad cells slots G (pc + 1) lv (.int (iI (x % 64)) :: st) σ) : Wg p l e R s m args below meth c A D cA ad cells slots G pc lv (.int (iI 63) :: .int (iI x) :: st) σ := by
  rw [← iI_and6] at k
  exact fun H locs ls hP hS hl => lv_iand X.1 X.2.1 hd (k H locs ls hP hS hl)
theorem g_ladd (X : Cx p s m args c A D cA ad own cc mx) {x y : Int} (hd : decode cc pc = .ok (.ladd, 1)) (k : Wg p l e R s m args below meth c A D cA ad cells slots G (pc + 1) lv (.long (lI (x + y)) :: st) σ) : Wg p l e R s m args below meth c A D cA ad cells slots G pc lv (.long (lI y) :: .long (lI x) :: st) σ := by
  rw [← lI_add] at k
  exact fun H locs ls hP hS hl => lv_ladd X.1 X.2.1 hd (k H locs ls hP hS hl)
theorem g_lsub (X : Cx p s m args c A D cA ad own cc mx) {x y : Int} (hd : decode cc pc = .ok (.lsub, 1)) (k : Wg p l e R s m args below meth c A D cA ad cells slots G (pc + 1) lv (.long (lI (x - y)) :: st) σ) : Wg p l e R s m args below meth c A D cA ad cells slots G pc lv (.long (lI y) :: .long (lI x) :: st) σ := by
  rw [← lI_sub] at k
  exact fun H locs ls hP hS hl => lv_lsub X.1 X.2.1 hd (k H locs ls hP hS hl)
theorem g_lmul (X : Cx p s m args c A D cA ad own cc mx) {x y : Int} (hd : decode cc pc = .ok (.lmul, 1)) (k : Wg p l e R s m args below meth c A D cA ad cells slots G (pc + 1) lv (.long (lI (x * y)) :: st) σ) : Wg p l e R s m args below meth c A D cA ad cells slots G pc lv (.long (lI y) :: .long (lI x) :: st) σ := by
  rw [← lI_mul] at k
  exact fun H locs ls hP hS hl => lv_lmul X.1 X.2.1 hd (k H locs ls hP hS hl)
theorem g_ldiv (X : Cx p s m args c A D cA ad own cc mx) {x y : Int} (hd : decode cc pc = .ok (.ldiv, 1)) (hx : i64 x) (hy : i64 y) (h0 : y ≠ 0) (k : Wg p l e R s m args below meth c A D cA ad cells slots G (pc + 1) lv (.long (lI (x.tdiv y)) :: st) σ) : Wg p l e R s m args below meth c A D cA ad cells slots G pc lv (.long (lI y) :: .long (lI x) :: st) σ := by
  rw [← lI_div hx hy] at k
  exact fun H locs ls hP hS hl => lv_ldiv X.1 X.2.1 hd (fun q => h0 ((lI_eq hy (by omega)).mp (q.trans lI_0.symm))) (k H locs ls hP hS hl)
theorem g_lrem (X : Cx p s m args c A D cA ad own cc mx) {x y : Int} (hd : decode cc pc = .ok (.lrem, 1)) (hx : i64 x) (hy : i64 y) (h0 : y ≠ 0) (k : Wg p l e R s m args below meth c A D cA ad cells slots G (pc + 1) lv (.long (lI (x.tmod y)) :: st) σ) : Wg p l e R s m args below meth c A D cA ad cells slots G pc lv (.long (lI y) :: .long (lI x) :: st) σ := by
  rw [← lI_rem hx hy] at k
  exact fun H locs ls hP hS hl => lv_lrem X.1 X.2.1 hd (fun q => h0 ((lI_eq hy (by omega)).mp (q.trans lI_0.symm))) (k H locs ls hP hS hl)
theorem g_land14 (X : Cx p s m args c A D cA ad own cc mx) {x : Int} (hd : decode cc pc = .ok (.land, 1)) (k : Wg p l e R s m args below meth c A D cA ad cells slots G (pc + 1) lv (.long (lI (x % 16384)) :: st) σ) : Wg p l e R s m args below meth c A D cA ad cells slots G pc lv (.long (lI 16383) :: .long (lI x) :: st) σ := by
  rw [← lI_and14] at k
  exact fun H locs ls hP hS hl => lv_land X.1 X.2.1 hd (k H locs ls hP hS hl)
theorem g_land32 (X : Cx p s m args c A D cA ad own cc mx) {x : Int} (hd : decode cc pc = .ok (.land, 1)) (k : Wg p l e R s m args below meth c A D cA ad cells slots G (pc + 1) lv (.long (lI (x % 4294967296)) :: st) σ) : Wg p l e R s m args below meth c A D cA ad cells slots G pc lv (.long (lI 4294967295) :: .long (lI x) :: st) σ := by
  rw [← lI_and32] at k
  exact fun H locs ls hP hS hl => lv_land X.1 X.2.1 hd (k H locs ls hP hS hl)
theorem g_i2l (X : Cx p s m args c A D cA ad own cc mx) {x : Int} (hd : decode cc pc = .ok (.i2l, 1)) (hx : i32 x) (k : Wg p l e R s m args below meth c A D cA ad cells slots G (pc + 1) lv (.long (lI x) :: st) σ) : Wg p l e R s m args below meth c A D cA ad cells slots G pc lv (.int (iI x) :: st) σ := by
  rw [← iI_toL hx] at k
  exact fun H locs ls hP hS hl => lv_i2l X.1 X.2.1 hd rfl (k H locs ls hP hS hl)
theorem g_l2i (X : Cx p s m args c A D cA ad own cc mx) {x : Int} (hd : decode cc pc = .ok (.l2i, 1)) (k : Wg p l e R s m args below meth c A D cA ad cells slots G (pc + 1) lv (.int (iI x) :: st) σ) : Wg p l e R s m args below meth c A D cA ad cells slots G pc lv (.long (lI x) :: st) σ := by
  rw [← lI_toI] at k
  exact fun H locs ls hP hS hl => lv_l2i X.1 X.2.1 hd rfl (k H locs ls hP hS hl)
theorem g_dup (X : Cx p s m args c A D cA ad own cc mx) {v : Value} (hd : decode cc pc = .ok (.dup, 1)) (hv : v.category = 1) (k : Wg p l e R s m args below meth c A D cA ad cells slots G (pc + 1) lv (v :: v :: st) σ) : Wg p l e R s m args below meth c A D cA ad cells slots G pc lv (v :: st) σ :=
  fun H locs ls hP hS hl => lv_dup X.1 X.2.1 hd (by rw [cv_cat]; exact hv) (k H locs ls hP hS hl)
theorem g_dup2 (X : Cx p s m args c A D cA ad own cc mx) {v w : Value} (hd : decode cc pc = .ok (.dup2, 1)) (hv : v.category = 1) (hw : w.category = 1) (k : Wg p l e R s m args below meth c A D cA ad cells slots G (pc + 1) lv (v :: w :: v :: w :: st) σ) : Wg p l e R s m args below meth c A D cA ad cells slots G pc lv (v :: w :: st) σ :=
  fun H locs ls hP hS hl => lv_dup2_11 X.1 X.2.1 hd (by rw [cv_cat]; exact hv) (by rw [cv_cat]; exact hw) (k H locs ls hP hS hl)
theorem g_pop (X : Cx p s m args c A D cA ad own cc mx) {v : Value} (hd : decode cc pc = .ok (.pop, 1)) (hv : v.category = 1) (k : Wg p l e R s m args below meth c A D cA ad cells slots G (pc + 1) lv st σ) : Wg p l e R s m args below meth c A D cA ad cells slots G pc lv (v :: st) σ :=
  fun H locs ls hP hS hl => lv_pop X.1 X.2.1 hd (by rw [cv_cat]; exact hv) (k H locs ls hP hS hl)
theorem g_goto (X : Cx p s m args c A D cA ad own cc mx) {off : Int} {tgt : Nat} (hd : decode cc pc = .ok (.goto off, 3)) (ht : (pc : Int) + off = (tgt : Int)) (k : Wg p l e R s m args below meth c A D cA ad cells slots G tgt lv st σ) : Wg p l e R s m args below meth c A D cA ad cells slots G pc lv st σ :=
  fun H locs ls hP hS hl => lv_goto X.1 X.2.1 hd ht (k H locs ls hP hS hl)
end GR
end
section
/-! branches, fields, arrays -/
theorem i32z : i32 0 := by omega
section GB
variable {p : Program} {l : Launch} {e : Env} {R : Room} {s : State} {m : MethodId} {args : Array Value} {below : List Frame} {meth : Method} {c : Code} {A : Nat → Prop} {D : va_G} {cA : Nat → ClassId} {ad : Nat → Nat} {cells slots : Nat} {G : State → Prop} {own : String} {cc : ByteArray} {mx : Nat} {pc : Nat} {lv lv' : List (Nat × Value)} {st : List Value} {σ : ASt}
theorem g_icmp_eq (X : Cx p s m args c A D cA ad own cc mx) {x y : Int} {off : Int} {tgt : Nat} (hd : decode cc pc = .ok (.if_icmp .eq off, 3)) (ht : (pc : Int) + off = (tgt : Int)) (hx : i32 x) (hy : i32 y) (kt : x = y → Wg p l e R s m args below meth c A D cA ad cells slots G tgt lv st σ) (kf : x ≠ y → Wg p l e R s m args below meth c A D cA ad cells slots G (pc + 3) lv st σ) : Wg p l e R s m args below meth c A D cA ad cells slots G pc lv (.int (iI y) :: .int (iI x) :: st) σ :=
  fun H locs ls hP hS hl => lv_icmp_eq X.1 X.2.1 hd ht (fun q => kt ((iI_eq hx hy).mp q) H locs ls hP hS hl) (fun q => kf (fun z => q ((iI_eq hx hy).mpr z)) H locs ls hP hS hl)
theorem g_icmp_ne (X : Cx p s m args c A D cA ad own cc mx) {x y : Int} {off : Int} {tgt : Nat} (hd : decode cc pc = .ok (.if_icmp .ne off, 3)) (ht : (pc : Int) + off = (tgt : Int)) (hx : i32 x) (hy : i32 y) (kt : x ≠ y → Wg p l e R s m args below meth c A D cA ad cells slots G tgt lv st σ) (kf : x = y → Wg p l e R s m args below meth c A D cA ad cells slots G (pc + 3) lv st σ) : Wg p l e R s m args below meth c A D cA ad cells slots G pc lv (.int (iI y) :: .int (iI x) :: st) σ :=
  fun H locs ls hP hS hl => lv_icmp_ne X.1 X.2.1 hd ht (fun q => kt (fun z => q ((iI_eq hx hy).mpr z)) H locs ls hP hS hl) (fun q => kf ((iI_eq hx hy).mp q) H locs ls hP hS hl)
theorem g_icmp_lt (X : Cx p s m args c A D cA ad own cc mx) {x y : Int} {off : Int} {tgt : Nat} (hd : decode cc pc = .ok (.if_icmp .lt off, 3)) (ht : (pc : Int) + off = (tgt : Int)) (hx : i32 x) (hy : i32 y) (kt : x < y → Wg p l e R s m args below meth c A D cA ad cells slots G tgt lv st σ) (kf : y ≤ x → Wg p l e R s m args below meth c A D cA ad cells slots G (pc + 3) lv st σ) : Wg p l e R s m args below meth c A D cA ad cells slots G pc lv (.int (iI y) :: .int (iI x) :: st) σ :=
  fun H locs ls hP hS hl => lv_icmp_lt X.1 X.2.1 hd ht (fun q => kt ((iI_lt hx hy).mp q) H locs ls hP hS hl) (fun q => kf (Int.not_lt.mp fun z => q ((iI_lt hx hy).mpr z)) H locs ls hP hS hl)
theorem g_icmp_ge (X : Cx p s m args c A D cA ad own cc mx) {x y : Int} {off : Int} {tgt : Nat} (hd : decode cc pc = .ok (.if_icmp .ge off, 3)) (ht : (pc : Int) + off = (tgt : Int)) (hx : i32 x) (hy : i32 y) (kt : y ≤ x → Wg p l e R s m args below meth c A D cA ad cells slots G tgt lv st σ) (kf : x < y → Wg p l e R s m args below meth c A D cA ad cells slots G (pc + 3) lv st σ) : Wg p l e R s m args below meth c A D cA ad cells slots G pc lv (.int (iI y) :: .int (iI x) :: st) σ :=
  fun H locs ls hP hS hl => lv_icmp_ge X.1 X.2.1 hd ht (fun q => kt ((iI_le hy hx).mp q) H locs ls hP hS hl) (fun q => kf (Int.not_le.mp fun z => q ((iI_le hy hx).mpr z)) H locs ls hP hS hl)
theorem g_icmp_gt (X : Cx p s m args c A D cA ad own cc mx) {x y : Int} {off : Int} {tgt : Nat} (hd : decode cc pc = .ok (.if_icmp .gt off, 3)) (ht : (pc : Int) + off = (tgt : Int)) (hx : i32 x) (hy : i32 y) (kt : y < x → Wg p l e R s m args below meth c A D cA ad cells slots G tgt lv st σ) (kf : x ≤ y → Wg p l e R s m args below meth c A D cA ad cells slots G (pc + 3) lv st σ) : Wg p l e R s m args below meth c A D cA ad cells slots G pc lv (.int (iI y) :: .int (iI x) :: st) σ :=
  fun H locs ls hP hS hl => lv_icmp_gt X.1 X.2.1 hd ht (fun q => kt ((iI_lt hy hx).mp q) H locs ls hP hS hl) (fun q => kf (Int.not_lt.mp fun z => q ((iI_lt hy hx).mpr z)) H locs ls hP hS hl)
theorem g_icmp_le (X : Cx p s m args c A D cA ad own cc mx) {x y : Int} {off : Int} {tgt : Nat} (hd : decode cc pc = .ok (.if_icmp .le off, 3)) (ht : (pc : Int) + off = (tgt : Int)) (hx : i32 x) (hy : i32 y) (kt : x ≤ y → Wg p l e R s m args below meth c A D cA ad cells slots G tgt lv st σ) (kf : y < x → Wg p l e R s m args below meth c A D cA ad cells slots G (pc + 3) lv st σ) : Wg p l e R s m args below meth c A D cA ad cells slots G pc lv (.int (iI y) :: .int (iI x) :: st) σ :=
  fun H locs ls hP hS hl => lv_icmp_le X.1 X.2.1 hd ht (fun q => kt ((iI_le hx hy).mp q) H locs ls hP hS hl) (fun q => kf (Int.not_le.mp fun z => q ((iI_le hx hy).mpr z)) H locs ls hP hS hl)
theorem g_if_eq (X : Cx p s m args c A D cA ad own cc mx) {x : Int} {off : Int} {tgt : Nat} (hd : decode cc pc = .ok (.ifCond .eq off, 3)) (ht : (pc : Int) + off = (tgt : Int)) (hx : i32 x) (kt : x = 0 → Wg p l e R s m args below meth c A D cA ad cells slots G tgt lv st σ) (kf : x ≠ 0 → Wg p l e R s m args below meth c A D cA ad cells slots G (pc + 3) lv st σ) : Wg p l e R s m args below meth c A D cA ad cells slots G pc lv (.int (iI x) :: st) σ :=
  fun H locs ls hP hS hl => lv_if_eq X.1 X.2.1 hd ht (fun q => kt ((iI_eq hx i32z).mp q) H locs ls hP hS hl) (fun q => kf (fun z => q ((iI_eq hx i32z).mpr z)) H locs ls hP hS hl)
theorem g_if_ne (X : Cx p s m args c A D cA ad own cc mx) {x : Int} {off : Int} {tgt : Nat} (hd : decode cc pc = .ok (.ifCond .ne off, 3)) (ht : (pc : Int) + off = (tgt : Int)) (hx : i32 x) (kt : x ≠ 0 → Wg p l e R s m args below meth c A D cA ad cells slots G tgt lv st σ) (kf : x = 0 → Wg p l e R s m args below meth c A D cA ad cells slots G (pc + 3) lv st σ) : Wg p l e R s m args below meth c A D cA ad cells slots G pc lv (.int (iI x) :: st) σ :=
  fun H locs ls hP hS hl => lv_if_ne X.1 X.2.1 hd ht (fun q => kt (fun z => q ((iI_eq hx i32z).mpr z)) H locs ls hP hS hl) (fun q => kf ((iI_eq hx i32z).mp q) H locs ls hP hS hl)
theorem g_if_lt (X : Cx p s m args c A D cA ad own cc mx) {x : Int} {off : Int} {tgt : Nat} (hd : decode cc pc = .ok (.ifCond .lt off, 3)) (ht : (pc : Int) + off = (tgt : Int)) (hx : i32 x) (kt : x < 0 → Wg p l e R s m args below meth c A D cA ad cells slots G tgt lv st σ) (kf : 0 ≤ x → Wg p l e R s m args below meth c A D cA ad cells slots G (pc + 3) lv st σ) : Wg p l e R s m args below meth c A D cA ad cells slots G pc lv (.int (iI x) :: st) σ :=
  fun H locs ls hP hS hl => lv_if_lt X.1 X.2.1 hd ht (fun q => kt ((iI_lt hx i32z).mp q) H locs ls hP hS hl) (fun q => kf (Int.not_lt.mp fun z => q ((iI_lt hx i32z).mpr z)) H locs ls hP hS hl)
theorem g_if_ge (X : Cx p s m args c A D cA ad own cc mx) {x : Int} {off : Int} {tgt : Nat} (hd : decode cc pc = .ok (.ifCond .ge off, 3)) (ht : (pc : Int) + off = (tgt : Int)) (hx : i32 x) (kt : 0 ≤ x → Wg p l e R s m args below meth c A D cA ad cells slots G tgt lv st σ) (kf : x < 0 → Wg p l e R s m args below meth c A D cA ad cells slots G (pc + 3) lv st σ) : Wg p l e R s m args below meth c A D cA ad cells slots G pc lv (.int (iI x) :: st) σ :=
  fun H locs ls hP hS hl => lv_if_ge X.1 X.2.1 hd ht (fun q => kt ((iI_le i32z hx).mp q) H locs ls hP hS hl) (fun q => kf (Int.not_le.mp fun z => q ((iI_le i32z hx).mpr z)) H locs ls hP hS hl)
theorem g_if_gt (X : Cx p s m args c A D cA ad own cc mx) {x : Int} {off : Int} {tgt : Nat} (hd : decode cc pc = .ok (.ifCond .gt off, 3)) (ht : (pc : Int) + off = (tgt : Int)) (hx : i32 x) (kt : 0 < x → Wg p l e R s m args below meth c A D cA ad cells slots G tgt lv st σ) (kf : x ≤ 0 → Wg p l e R s m args below meth c A D cA ad cells slots G (pc + 3) lv st σ) : Wg p l e R s m args below meth c A D cA ad cells slots G pc lv (.int (iI x) :: st) σ :=
  fun H locs ls hP hS hl => lv_if_gt X.1 X.2.1 hd ht (fun q => kt ((iI_lt i32z hx).mp q) H locs ls hP hS hl) (fun q => kf (Int.not_lt.mp fun z => q ((iI_lt i32z hx).mpr z)) H locs ls hP hS hl)
theorem g_if_le (X : Cx p s m args c A D cA ad own cc mx) {x : Int} {off : Int} {tgt : Nat} (hd : decode cc pc = .ok (.ifCond .le off, 3)) (ht : (pc : Int) + off = (tgt : Int)) (hx : i32 x) (kt : x ≤ 0 → Wg p l e R s m args below meth c A D cA ad cells slots G tgt lv st σ) (kf : 0 < x → Wg p l e R s m args below meth c A D cA ad cells slots G (pc + 3) lv st σ) : Wg p l e R s m args below meth c A D cA ad cells slots G pc lv (.int (iI x) :: st) σ :=
  fun H locs ls hP hS hl => lv_if_le X.1 X.2.1 hd ht (fun q => kt ((iI_le hx i32z).mp q) H locs ls hP hS hl) (fun q => kf (Int.not_le.mp fun z => q ((iI_le hx i32z).mpr z)) H locs ls hP hS hl)
theorem g_lc_eq (X : Cx p s m args c A D cA ad own cc mx) {x y : Int} {off : Int} {tgt : Nat} (hd1 : decode cc pc = .ok (.lcmp, 1)) (hd : decode cc (pc + 1) = .ok (.ifCond .eq off, 3)) (ht : ((pc + 1 : Nat) : Int) + off = (tgt : Int)) (hx : i64 x) (hy : i64 y) (kt : x = y → Wg p l e R s m args below meth c A D cA ad cells slots G tgt lv st σ) (kf : x ≠ y → Wg p l e R s m args below meth c A D cA ad cells slots G (pc + 4) lv st σ) : Wg p l e R s m args below meth c A D cA ad cells slots G pc lv (.long (lI y) :: .long (lI x) :: st) σ :=
  fun H locs ls hP hS hl => W.lcmp X.1 X.2.1 hd1 (lv_if_eq X.1 X.2.1 hd ht (fun q => kt ((lI_eq hx hy).mp ((lg_cmp_eq _ _).mp q)) H locs ls hP hS hl) (fun q => kf (fun z => q ((lg_cmp_eq _ _).mpr ((lI_eq hx hy).mpr z))) H locs ls hP hS hl))
theorem g_lc_ne (X : Cx p s m args c A D cA ad own cc mx) {x y : Int} {off : Int} {tgt : Nat} (hd1 : decode cc pc = .ok (.lcmp, 1)) (hd : decode cc (pc + 1) = .ok (.ifCond .ne off, 3)) (ht : ((pc + 1 : Nat) : Int) + off = (tgt : Int)) (hx : i64 x) (hy : i64 y) (kt : x ≠ y → Wg p l e R s m args below meth c A D cA ad cells slots G tgt lv st σ) (kf : x = y → Wg p l e R s m args below meth c A D cA ad cells slots G (pc + 4) lv st σ) : Wg p l e R s m args below meth c A D cA ad cells slots G pc lv (.long (lI y) :: .long (lI x) :: st) σ :=
  fun H locs ls hP hS hl => W.lcmp X.1 X.2.1 hd1 (lv_if_ne X.1 X.2.1 hd ht (fun q => kt (fun z => q ((lg_cmp_eq _ _).mpr ((lI_eq hx hy).mpr z))) H locs ls hP hS hl) (fun q => kf ((lI_eq hx hy).mp ((lg_cmp_eq _ _).mp q)) H locs ls hP hS hl))
theorem g_lc_lt (X : Cx p s m args c A D cA ad own cc mx) {x y : Int} {off : Int} {tgt : Nat} (hd1 : decode cc pc = .ok (.lcmp, 1)) (hd : decode cc (pc + 1) = .ok (.ifCond .lt off, 3)) (ht : ((pc + 1 : Nat) : Int) + off = (tgt : Int)) (hx : i64 x) (hy : i64 y) (kt : x < y → Wg p l e R s m args below meth c A D cA ad cells slots G tgt lv st σ) (kf : y ≤ x → Wg p l e R s m args below meth c A D cA ad cells slots G (pc + 4) lv st σ) : Wg p l e R s m args below meth c A D cA ad cells slots G pc lv (.long (lI y) :: .long (lI x) :: st) σ :=
  fun H locs ls hP hS hl => W.lcmp X.1 X.2.1 hd1 (lv_if_lt X.1 X.2.1 hd ht (fun q => kt ((lI_lt hx hy).mp ((lg_cmp_lt _ _).mp q)) H locs ls hP hS hl) (fun q => kf (Int.not_lt.mp fun z => q ((lg_cmp_lt _ _).mpr ((lI_lt hx hy).mpr z))) H locs ls hP hS hl))
theorem g_lc_ge (X : Cx p s m args c A D cA ad own cc mx) {x y : Int} {off : Int} {tgt : Nat} (hd1 : decode cc pc = .ok (.lcmp, 1)) (hd : decode cc (pc + 1) = .ok (.ifCond .ge off, 3)) (ht : ((pc + 1 : Nat) : Int) + off = (tgt : Int)) (hx : i64 x) (hy : i64 y) (kt : y ≤ x → Wg p l e R s m args below meth c A D cA ad cells slots G tgt lv st σ) (kf : x < y → Wg p l e R s m args below meth c A D cA ad cells slots G (pc + 4) lv st σ) : Wg p l e R s m args below meth c A D cA ad cells slots G pc lv (.long (lI y) :: .long (lI x) :: st) σ :=
  fun H locs ls hP hS hl => W.lcmp X.1 X.2.1 hd1 (lv_if_ge X.1 X.2.1 hd ht (fun q => kt ((lI_le hy hx).mp ((lg_cmp_ge _ _).mp q)) H locs ls hP hS hl) (fun q => kf (Int.not_le.mp fun z => q ((lg_cmp_ge _ _).mpr ((lI_le hy hx).mpr z))) H locs ls hP hS hl))
theorem g_lc_gt (X : Cx p s m args c A D cA ad own cc mx) {x y : Int} {off : Int} {tgt : Nat} (hd1 : decode cc pc = .ok (.lcmp, 1)) (hd : decode cc (pc + 1) = .ok (.ifCond .gt off, 3)) (ht : ((pc + 1 : Nat) : Int) + off = (tgt : Int)) (hx : i64 x) (hy : i64 y) (kt : y < x → Wg p l e R s m args below meth c A D cA ad cells slots G tgt lv st σ) (kf : x ≤ y → Wg p l e R s m args below meth c A D cA ad cells slots G (pc + 4) lv st σ) : Wg p l e R s m args below meth c A D cA ad cells slots G pc lv (.long (lI y) :: .long (lI x) :: st) σ :=
  fun H locs ls hP hS hl => W.lcmp X.1 X.2.1 hd1 (lv_if_gt X.1 X.2.1 hd ht (fun q => kt ((lI_lt hy hx).mp ((lg_cmp_gt _ _).mp q)) H locs ls hP hS hl) (fun q => kf (Int.not_lt.mp fun z => q ((lg_cmp_gt _ _).mpr ((lI_lt hy hx).mpr z))) H locs ls hP hS hl))
theorem g_lc_le (X : Cx p s m args c A D cA ad own cc mx) {x y : Int} {off : Int} {tgt : Nat} (hd1 : decode cc pc = .ok (.lcmp, 1)) (hd : decode cc (pc + 1) = .ok (.ifCond .le off, 3)) (ht : ((pc + 1 : Nat) : Int) + off = (tgt : Int)) (hx : i64 x) (hy : i64 y) (kt : x ≤ y → Wg p l e R s m args below meth c A D cA ad cells slots G tgt lv st σ) (kf : y < x → Wg p l e R s m args below meth c A D cA ad cells slots G (pc + 4) lv st σ) : Wg p l e R s m args below meth c A D cA ad cells slots G pc lv (.long (lI y) :: .long (lI x) :: st) σ :=
  fun H locs ls hP hS hl => W.lcmp X.1 X.2.1 hd1 (lv_if_le X.1 X.2.1 hd ht (fun q => kt ((lI_le hx hy).mp ((lg_cmp_le _ _).mp q)) H locs ls hP hS hl) (fun q => kf (Int.not_le.mp fun z => q ((lg_cmp_le _ _).mpr ((lI_le hx hy).mpr z))) H locs ls hP hS hl))
theorem g_ifnonnull (X : Cx p s m args c A D cA ad own cc mx) {x : Nat} {off : Int} {tgt : Nat} (hd : decode cc pc = .ok (.ifnonnull off, 3)) (ht : (pc : Int) + off = (tgt : Int)) (k : Wg p l e R s m args below meth c A D cA ad cells slots G tgt lv st σ) : Wg p l e R s m args below meth c A D cA ad cells slots G pc lv (.ref x :: st) σ :=
  fun H locs ls hP hS hl => lv_ifnonnull X.1 X.2.1 hd ht (k H locs ls hP hS hl)
theorem g_ifnull (X : Cx p s m args c A D cA ad own cc mx) {x : Nat} {off : Int} (hd : decode cc pc = .ok (.ifnull off, 3)) (k : Wg p l e R s m args below meth c A D cA ad cells slots G (pc + 3) lv st σ) : Wg p l e R s m args below meth c A D cA ad cells slots G pc lv (.ref x :: st) σ :=
  fun H locs ls hP hS hl => lv_ifnull X.1 X.2.1 hd (k H locs ls hP hS hl)
theorem g_ifnullN (X : Cx p s m args c A D cA ad own cc mx) {off : Int} {tgt : Nat} (hd : decode cc pc = .ok (.ifnull off, 3)) (ht : (pc : Int) + off = (tgt : Int)) (k : Wg p l e R s m args below meth c A D cA ad cells slots G tgt lv st σ) : Wg p l e R s m args below meth c A D cA ad cells slots G pc lv (.null :: st) σ :=
  fun H locs ls hP hS hl => lv_ifnullN X.1 X.2.1 hd ht (k H locs ls hP hS hl)
theorem g_ifnonnullN (X : Cx p s m args c A D cA ad own cc mx) {off : Int} (hd : decode cc pc = .ok (.ifnonnull off, 3)) (k : Wg p l e R s m args below meth c A D cA ad cells slots G (pc + 3) lv st σ) : Wg p l e R s m args below meth c A D cA ad cells slots G pc lv (.null :: st) σ :=
  fun H locs ls hP hS hl => lv_ifnonnullN X.1 X.2.1 hd (k H locs ls hP hS hl)
theorem g_acmp_ne (X : Cx p s m args c A D cA ad own cc mx) {x y : Nat} {off : Int} {tgt : Nat} (hd : decode cc pc = .ok (.if_acmp .ne off, 3)) (ht : (pc : Int) + off = (tgt : Int)) (hx : x < NN) (hy : y < NN) (kt : x ≠ y → Wg p l e R s m args below meth c A D cA ad cells slots G tgt lv st σ) (kf : x = y → Wg p l e R s m args below meth c A D cA ad cells slots G (pc + 3) lv st σ) : Wg p l e R s m args below meth c A D cA ad cells slots G pc lv (.ref y :: .ref x :: st) σ :=
  fun H locs ls hP hS hl => lv_acmp_ne (rx := some (ad x)) (ry := some (ad y)) X.1 X.2.1 hd ht (fun q => kt (fun z => q (by rw [z])) H locs ls hP hS hl) (fun q => kf (X.2.2.2.2.2.1 x y hx hy (Option.some.inj q)) H locs ls hP hS hl)
theorem g_acmp_eq (X : Cx p s m args c A D cA ad own cc mx) {x y : Nat} {off : Int} {tgt : Nat} (hd : decode cc pc = .ok (.if_acmp .eq off, 3)) (ht : (pc : Int) + off = (tgt : Int)) (hx : x < NN) (hy : y < NN) (kt : x = y → Wg p l e R s m args below meth c A D cA ad cells slots G tgt lv st σ) (kf : x ≠ y → Wg p l e R s m args below meth c A D cA ad cells slots G (pc + 3) lv st σ) : Wg p l e R s m args below meth c A D cA ad cells slots G pc lv (.ref y :: .ref x :: st) σ :=
  fun H locs ls hP hS hl => lv_acmp_eq (rx := some (ad x)) (ry := some (ad y)) X.1 X.2.1 hd ht (fun q => kt (X.2.2.2.2.2.1 x y hx hy (Option.some.inj q)) H locs ls hP hS hl) (fun q => kf (fun z => q (by rw [z])) H locs ls hP hS hl)
theorem g_acmp_neN (X : Cx p s m args c A D cA ad own cc mx) {x : Nat} {off : Int} {tgt : Nat} (hd : decode cc pc = .ok (.if_acmp .ne off, 3)) (ht : (pc : Int) + off = (tgt : Int)) (k : Wg p l e R s m args below meth c A D cA ad cells slots G tgt lv st σ) : Wg p l e R s m args below meth c A D cA ad cells slots G pc lv (.ref x :: .null :: st) σ :=
  fun H locs ls hP hS hl => lv_acmp_ne (rx := none) (ry := some (ad x)) X.1 X.2.1 hd ht (fun _ => k H locs ls hP hS hl) (fun q => nomatch q)
end GB
end
section
/-! fields and arrays of the world -/
/-- a link to a field: the reader's class, its pool's number, the object's class by number, the place; the descriptor's type -/
def LkF (own : String) (index ci j : Nat) : Prop := ∃ (q : vw_C) (ty : FieldType), vwCl[ci]? = some q ∧ j < q.2.2 ∧ Cond.fieldLink own index (q.2.1 j).1 (q.2.1 j).2.1 (q.2.1 j).2.2.1 ∈ allW ∧ (∀ w ∈ u_ws q.1 q.2.1 q.2.2, w ∈ allW) ∧ parseFieldDescriptor (q.2.1 j).2.2.1 = some ty
/-- a link to a field that may be written -/
def LkP (own : String) (index ci j : Nat) (ty : FieldType) : Prop := ∃ (q : vw_C) (ty0 : Nat → FieldType), vwCl[ci]? = some q ∧ j < q.2.2 ∧ Cond.fieldLink own index (q.2.1 j).1 (q.2.1 j).2.1 (q.2.1 j).2.2.1 ∈ allW ∧ (∀ w ∈ u_ws q.1 q.2.1 q.2.2, w ∈ allW) ∧ parseFieldDescriptor (q.2.1 j).2.2.1 = some ty ∧ (∀ k, k < q.2.2 → parseFieldDescriptor (q.2.1 k).2.2.1 = some (ty0 k)) ∧ (∀ a, a < q.2.2 → ∀ b, b < q.2.2 → a ≠ b → (q.2.1 a).2.1 ≠ (q.2.1 b).2.1) ∧ (q.2.1 j).2.2.2 = false
section GH
variable {p : Program} {l : Launch} {e : Env} {R : Room} {s : State} {m : MethodId} {args : Array Value} {below : List Frame} {meth : Method} {c : Code} {A : Nat → Prop} {D : va_G} {cA : Nat → ClassId} {ad : Nat → Nat} {cells slots : Nat} {G : State → Prop} {own : String} {cc : ByteArray} {mx : Nat} {pc : Nat} {lv lv' : List (Nat × Value)} {st : List Value} {σ : ASt}
theorem g_get (X : Cx p s m args c A D cA ad own cc mx) {index ci j n t id : Nat} (hd : decode cc pc = .ok (.getfield index, 3)) (hL : LkF own index ci j) (hs : shp id = (0, ci, n)) (ht : (fty ci)[j]? = some t) {v : Value} (hv : entF ad σ id j t = cv ad v) (k : Wg p l e R s m args below meth c A D cA ad cells slots G (pc + 3) lv (v :: st) σ) : Wg p l e R s m args below meth c A D cA ad cells slots G pc lv (.ref id :: st) σ := by
  obtain ⟨q, ty, hc, hj, hlk, hin, hty⟩ := hL
  intro H locs ls hP hS hl
  refine va_get (ci := ci) (fs := (fty ci).mapIdx (fun j t => entF ad σ id j t)) X.1 X.2.1 X.2.2.1 hin X.2.2.2.1 X.2.2.2.2.1 hP id ?_ hc j hj (X.2.2.1 _ hlk) (fun _ h => h) (v := cv ad v) ?_ hd (k H locs ls hP hS hl)
  · rw [wl_get cA ad σ (shp_lt hs (by show 0 < 9; decide)), ent_0 hs]
  · rw [List.getElem?_mapIdx, ht, ← hv]; rfl
theorem g_getI (X : Cx p s m args c A D cA ad own cc mx) {index ci j n id : Nat} {z : Int} (hd : decode cc pc = .ok (.getfield index, 3)) (hL : LkF own index ci j) (hs : shp id = (0, ci, n)) (ht : (fty ci)[j]? = some 0) (hz : (j : Int) = z) (k : Wg p l e R s m args below meth c A D cA ad cells slots G (pc + 3) lv (.int (iI (gI σ id z)) :: st) σ) : Wg p l e R s m args below meth c A D cA ad cells slots G pc lv (.ref id :: st) σ := by
  subst hz
  exact g_get X hd hL hs ht rfl k
theorem g_getL (X : Cx p s m args c A D cA ad own cc mx) {index ci j n id : Nat} {z : Int} (hd : decode cc pc = .ok (.getfield index, 3)) (hL : LkF own index ci j) (hs : shp id = (0, ci, n)) (ht : (fty ci)[j]? = some 1) (hz : (j : Int) = z) (k : Wg p l e R s m args below meth c A D cA ad cells slots G (pc + 3) lv (.long (lI (gL σ id z)) :: st) σ) : Wg p l e R s m args below meth c A D cA ad cells slots G pc lv (.ref id :: st) σ := by
  subst hz
  exact g_get X hd hL hs ht rfl k
theorem g_getF (X : Cx p s m args c A D cA ad own cc mx) {index ci j n id f : Nat} (hd : decode cc pc = .ok (.getfield index, 3)) (hL : LkF own index ci j) (hs : shp id = (0, ci, n)) (ht : (fty ci)[j]? = some 2) (hf : fin id j = f) (k : Wg p l e R s m args below meth c A D cA ad cells slots G (pc + 3) lv (.ref f :: st) σ) : Wg p l e R s m args below meth c A D cA ad cells slots G pc lv (.ref id :: st) σ := g_get X hd hL hs ht (by subst hf; rfl) k
theorem g_getP (X : Cx p s m args c A D cA ad own cc mx) {index ci j n id : Nat} (hd : decode cc pc = .ok (.getfield index, 3)) (hL : LkF own index ci j) (hs : shp id = (0, ci, n)) (ht : (fty ci)[j]? = some 3) (kn : gP σ id j = none → Wg p l e R s m args below meth c A D cA ad cells slots G (pc + 3) lv (.null :: st) σ) (ks : ∀ x, gP σ id j = some x → Wg p l e R s m args below meth c A D cA ad cells slots G (pc + 3) lv (.ref x :: st) σ) : Wg p l e R s m args below meth c A D cA ad cells slots G pc lv (.ref id :: st) σ := by
  cases hr : gP σ id j with
  | none => exact g_get X hd hL hs ht (v := .null) (by show va_rf ((gP σ id j).map ad) = _; rw [hr]; rfl) (kn hr)
  | some x => exact g_get X hd hL hs ht (v := .ref x) (by show va_rf ((gP σ id j).map ad) = _; rw [hr]; rfl) (ks x hr)
theorem g_getPn (X : Cx p s m args c A D cA ad own cc mx) {index ci j n id : Nat} (hd : decode cc pc = .ok (.getfield index, 3)) (hL : LkF own index ci j) (hs : shp id = (0, ci, n)) (ht : (fty ci)[j]? = some 3) (hr : gP σ id j = none) (kn : Wg p l e R s m args below meth c A D cA ad cells slots G (pc + 3) lv (.null :: st) σ) : Wg p l e R s m args below meth c A D cA ad cells slots G pc lv (.ref id :: st) σ :=
  g_get X hd hL hs ht (v := .null) (by show va_rf ((gP σ id j).map ad) = _; rw [hr]; rfl) kn
theorem g_getPs (X : Cx p s m args c A D cA ad own cc mx) {index ci j n id x : Nat} (hd : decode cc pc = .ok (.getfield index, 3)) (hL : LkF own index ci j) (hs : shp id = (0, ci, n)) (ht : (fty ci)[j]? = some 3) (hr : gP σ id j = some x) (ks : Wg p l e R s m args below meth c A D cA ad cells slots G (pc + 3) lv (.ref x :: st) σ) : Wg p l e R s m args below meth c A D cA ad cells slots G pc lv (.ref id :: st) σ :=
  g_get X hd hL hs ht (v := .ref x) (by show va_rf ((gP σ id j).map ad) = _; rw [hr]; rfl) ks
theorem ent_put0 {σ' : ASt} {id ci n j t : Nat} {v : Value} (hs : shp id = (0, ci, n)) (ht : (fty ci)[j]? = some t) (hv : entF ad σ' id j t = v) (ho : ∀ i u, i ≠ j → entF ad σ' id i u = entF ad σ id i u) : ent cA ad σ' id = .inr (ci, ((fty ci).mapIdx (fun j t => entF ad σ id j t)).set j v) := by
  rw [ent_0 hs]
  congr 2
  apply List.ext_getElem?
  intro i
  have hlt := (List.getElem?_eq_some_iff.mp ht).1
  by_cases hi : i = j
  · subst hi
    rw [List.getElem?_mapIdx, ht, List.getElem?_set_self (by simpa using hlt), ← hv]; rfl
  · rw [List.getElem?_set_ne (fun q => hi q.symm), List.getElem?_mapIdx, List.getElem?_mapIdx]
    cases (fty ci)[i]? with
    | none => rfl
    | some u => exact congrArg some (ho i u hi)
theorem g_put (X : Cx p s m args c A D cA ad own cc mx) {index ci j n t id : Nat} {ty : FieldType} {v : Value} {σ' : ASt} (hd : decode cc pc = .ok (.putfield index, 3)) (hL : LkP own index ci j ty) (hs : shp id = (0, ci, n)) (ht : (fty ci)[j]? = some t) (hn : narrow ty (cv ad v) = cv ad v) (hfit : fits ty (cv ad v) = true) (hv : entF ad σ' id j t = cv ad v) (ho : ∀ i u, i ≠ j → entF ad σ' id i u = entF ad σ id i u) (ho2 : ∀ b, b ≠ id → ent cA ad σ' b = ent cA ad σ b) (k : Wg p l e R s m args below meth c A D cA ad cells slots G (pc + 3) lv st σ') : Wg p l e R s m args below meth c A D cA ad cells slots G pc lv (v :: .ref id :: st) σ := by
  obtain ⟨q, ty0, hc, hj, hlk, hin, hty, hty0, hnm, hfin⟩ := hL
  intro H locs ls hP hS hl
  have hid := shp_lt hs (by show 0 < 9; decide)
  have hw : (wl cA ad σ).set id (ad id, .inr (ci, ((fty ci).mapIdx (fun j t => entF ad σ id j t)).set j (cv ad v))) = wl cA ad σ' := wl_set cA ad σ σ' hid (ent_put0 hs ht hv ho) ho2
  refine va_put (ci := ci) (fs := (fty ci).mapIdx (fun j t => entF ad σ id j t)) X.1 X.2.1 X.2.2.1 hin ty0 hty0 hnm X.2.2.2.1 X.2.2.2.2.1 hP (wl_D X.2.2.2.2.2.1 X.2.2.2.2.2.2.1) hS id ?_ hc j hj (X.2.2.1 _ hlk) (fun _ h => h) hfin hty hn hfit ?_ hd (fun H1 locs1 hP1 _ hS1 => ?_)
  · rw [wl_get cA ad σ hid, ent_0 hs]
  · have := (List.getElem?_eq_some_iff.mp ht).1
    simpa using this
  · rw [hw] at hP1
    exact k H1 locs1 ls hP1 hS1 hl
theorem g_putI (X : Cx p s m args c A D cA ad own cc mx) {index ci j n id : Nat} {x z : Int} (hd : decode cc pc = .ok (.putfield index, 3)) (hL : LkP own index ci j .int) (hs : shp id = (0, ci, n)) (ht : (fty ci)[j]? = some 0) (hz : (j : Int) = z) (k : Wg p l e R s m args below meth c A D cA ad cells slots G (pc + 3) lv st (sI σ id z x)) : Wg p l e R s m args below meth c A D cA ad cells slots G pc lv (.int (iI x) :: .ref id :: st) σ := by
  subst hz
  refine g_put X (σ' := sI σ id (j : Int) x) hd hL hs ht rfl rfl ?_ ?_ ?_ k
  · show Value.int (iI _) = Value.int (iI x)
    rw [show (sI σ id (j : Int) x).1 id (j : Int) = x from if_pos ⟨rfl, rfl⟩]
  · intro i u hi
    unfold entF
    rw [show (sI σ id (j : Int) x).1 id (i : Int) = σ.1 id (i : Int) from if_neg (fun q => hi (by omega))]
    rfl
  · exact ent_other (fun b hb => by funext i; exact if_neg (fun q => hb q.1)) (fun _ _ => rfl) (fun _ _ => rfl)
theorem g_putZ (X : Cx p s m args c A D cA ad own cc mx) {index ci j n id : Nat} {x z : Int} (hd : decode cc pc = .ok (.putfield index, 3)) (hL : LkP own index ci j .boolean) (hs : shp id = (0, ci, n)) (ht : (fty ci)[j]? = some 0) (hx : narrow .boolean (.int (iI x)) = .int (iI x)) (hfit : fits .boolean (.int (iI x)) = true) (hz : (j : Int) = z) (k : Wg p l e R s m args below meth c A D cA ad cells slots G (pc + 3) lv st (sI σ id z x)) : Wg p l e R s m args below meth c A D cA ad cells slots G pc lv (.int (iI x) :: .ref id :: st) σ := by
  subst hz
  refine g_put X (σ' := sI σ id (j : Int) x) hd hL hs ht hx hfit ?_ ?_ ?_ k
  · show Value.int (iI _) = Value.int (iI x)
    rw [show (sI σ id (j : Int) x).1 id (j : Int) = x from if_pos ⟨rfl, rfl⟩]
  · intro i u hi
    unfold entF
    rw [show (sI σ id (j : Int) x).1 id (i : Int) = σ.1 id (i : Int) from if_neg (fun q => hi (by omega))]
    rfl
  · exact ent_other (fun b hb => by funext i; exact if_neg (fun q => hb q.1)) (fun _ _ => rfl) (fun _ _ => rfl)
theorem g_putL (X : Cx p s m args c A D cA ad own cc mx) {index ci j n id : Nat} {x z : Int} (hd : decode cc pc = .ok (.putfield index, 3)) (hL : LkP own index ci j .long) (hs : shp id = (0, ci, n)) (ht : (fty ci)[j]? = some 1) (hz : (j : Int) = z) (k : Wg p l e R s m args below meth c A D cA ad cells slots G (pc + 3) lv st (sL σ id z x)) : Wg p l e R s m args below meth c A D cA ad cells slots G pc lv (.long (lI x) :: .ref id :: st) σ := by
  subst hz
  refine g_put X (σ' := sL σ id (j : Int) x) hd hL hs ht rfl rfl ?_ ?_ ?_ k
  · show Value.long (lI _) = Value.long (lI x)
    rw [show (sL σ id (j : Int) x).2.1 id (j : Int) = x from if_pos ⟨rfl, rfl⟩]
  · intro i u hi
    unfold entF
    rw [show (sL σ id (j : Int) x).2.1 id (i : Int) = σ.2.1 id (i : Int) from if_neg (fun q => hi (by omega))]
    rfl
  · exact ent_other (fun _ _ => rfl) (fun b hb => by funext i; exact if_neg (fun q => hb q.1)) (fun _ _ => rfl)
theorem g_putP (X : Cx p s m args c A D cA ad own cc mx) {index ci j n id : Nat} {C : String} {v : Value} {r : Option Nat} (hd : decode cc pc = .ok (.putfield index, 3)) (hL : LkP own index ci j (.object C)) (hs : shp id = (0, ci, n)) (ht : (fty ci)[j]? = some 3) (hv : v = va_rf r) (k : Wg p l e R s m args below meth c A D cA ad cells slots G (pc + 3) lv st (sP σ id j r)) : Wg p l e R s m args below meth c A D cA ad cells slots G pc lv (v :: .ref id :: st) σ := by
  subst hv
  refine g_put X (σ' := sP σ id j r) hd hL hs ht (by cases r <;> rfl) (by cases r <;> rfl) ?_ ?_ ?_ k
  · show va_rf (((sP σ id j r).2.2 id j).map ad) = _
    rw [show (sP σ id j r).2.2 id j = r from if_pos ⟨rfl, rfl⟩]
    cases r <;> rfl
  · intro i u hi
    unfold entF
    rw [show (sP σ id j r).2.2 id i = σ.2.2 id i from if_neg (fun q => hi q.2)]
    rfl
  · exact ent_other (fun _ _ => rfl) (fun _ _ => rfl) (fun b hb => by funext i; exact if_neg (fun q => hb q.1))
theorem g_alen1 (X : Cx p s m args c A D cA ad own cc mx) {n x id : Nat} {z : Int} (hd : decode cc pc = .ok (.arraylength, 1)) (hs : shp id = (1, x, n)) (hz : (n : Int) = z) (k : Wg p l e R s m args below meth c A D cA ad cells slots G (pc + 1) lv (.int (iI z) :: st) σ) : Wg p l e R s m args below meth c A D cA ad cells slots G pc lv (.ref id :: st) σ :=
  fun H locs ls hP hS hl => va_alen X.1 X.2.1 X.2.2.2.2.1 hP id 0 (by rw [wl_get cA ad σ (shp_lt hs (by show 1 < 9; decide)), ent_1 hs]) rfl (by rw [← hz]; exact iI_nat n) hd (k H locs ls hP hS hl)
theorem g_alen2 (X : Cx p s m args c A D cA ad own cc mx) {n x id : Nat} {z : Int} (hd : decode cc pc = .ok (.arraylength, 1)) (hs : shp id = (2, x, n)) (hz : (n : Int) = z) (k : Wg p l e R s m args below meth c A D cA ad cells slots G (pc + 1) lv (.int (iI z) :: st) σ) : Wg p l e R s m args below meth c A D cA ad cells slots G pc lv (.ref id :: st) σ :=
  fun H locs ls hP hS hl => va_alen X.1 X.2.1 X.2.2.2.2.1 hP id 1 (by rw [wl_get cA ad σ (shp_lt hs (by show 2 < 9; decide)), ent_2 hs]) rfl (by rw [← hz]; exact iI_nat n) hd (k H locs ls hP hS hl)
theorem g_alen4 (X : Cx p s m args c A D cA ad own cc mx) {n x id : Nat} {z : Int} (hd : decode cc pc = .ok (.arraylength, 1)) (hs : shp id = (4, x, n)) (hx : x = 3 ∨ x = 4 ∨ x = 5) (hz : (n : Int) = z) (k : Wg p l e R s m args below meth c A D cA ad cells slots G (pc + 1) lv (.int (iI z) :: st) σ) : Wg p l e R s m args below meth c A D cA ad cells slots G pc lv (.ref id :: st) σ := by
  intro H locs ls hP hS hl
  have ha : (wl cA ad σ)[id]? = some (ad id, .inl (cA x, n, .inr (.inr (.inr (.inr (fun j => some (ad (fin id j)))))))) := by rw [wl_get cA ad σ (shp_lt hs (by show 4 < 9; decide)), ent_4 hs]
  rcases hx with rfl | rfl | rfl
  · exact va_alen X.1 X.2.1 X.2.2.2.2.1 hP id 3 ha rfl (by rw [← hz]; exact iI_nat n) hd (k H locs ls hP hS hl)
  · exact va_alen X.1 X.2.1 X.2.2.2.2.1 hP id 4 ha rfl (by rw [← hz]; exact iI_nat n) hd (k H locs ls hP hS hl)
  · exact va_alen X.1 X.2.1 X.2.2.2.2.1 hP id 5 ha rfl (by rw [← hz]; exact iI_nat n) hd (k H locs ls hP hS hl)
theorem ix32 {i : Int} {n : Nat} (h0 : 0 ≤ i) (hn : i < (n : Int)) (hs : n < 2147483648) : i32 i := ⟨by omega, by omega⟩
theorem shp_len {id : Nat} {q : Nat × Nat × Nat} (h : shp id = q) : q.2.2 < 2147483648 := by
  subst h
  unfold shp
  rw [List.getD_eq_getElem?_getD]
  cases hq : shpL[id]? with
  | none => decide
  | some r =>
    have h1 : ∀ r ∈ shpL, r.2.2 < 2147483648 := by decide +kernel
    exact h1 r (List.mem_of_getElem? hq)
theorem g_iald (X : Cx p s m args c A D cA ad own cc mx) {n x id : Nat} {i : Int} (hd : decode cc pc = .ok (.iaload, 1)) (hs : shp id = (1, x, n)) (h0 : 0 ≤ i) (hi : i < (n : Int)) (k : Wg p l e R s m args below meth c A D cA ad cells slots G (pc + 1) lv (.int (iI (gI σ id i)) :: st) σ) : Wg p l e R s m args below meth c A D cA ad cells slots G pc lv (.int (iI i) :: .ref id :: st) σ := by
  intro H locs ls hP hS hl
  have hr := ix32 h0 hi (shp_len hs)
  refine va_iald X.1 X.2.1 X.2.2.2.2.1 hP id 0 (f := fun j => iI (σ.1 id (j : Int))) (by rw [wl_get cA ad σ (shp_lt hs (by show 1 < 9; decide)), ent_1 hs]) rfl (iI_in h0 hi hr) hd ?_
  rw [iI_clamp hr, Int.toNat_of_nonneg h0]
  exact k H locs ls hP hS hl
theorem g_zald (X : Cx p s m args c A D cA ad own cc mx) {n x id : Nat} {i : Int} (hd : decode cc pc = .ok (.baload, 1)) (hs : shp id = (3, x, n)) (h0 : 0 ≤ i) (hi : i < (n : Int)) (k : Wg p l e R s m args below meth c A D cA ad cells slots G (pc + 1) lv (.int (iI (gI σ id i)) :: st) σ) : Wg p l e R s m args below meth c A D cA ad cells slots G pc lv (.int (iI i) :: .ref id :: st) σ := by
  intro H locs ls hP hS hl
  have hr := ix32 h0 hi (shp_len hs)
  refine va_zald X.1 X.2.1 X.2.2.2.2.1 hP id 2 (f := fun j => iI (σ.1 id (j : Int))) (by rw [wl_get cA ad σ (shp_lt hs (by show 3 < 9; decide)), ent_3 hs]) rfl (iI_in h0 hi hr) hd ?_
  rw [iI_clamp hr, Int.toNat_of_nonneg h0]
  exact k H locs ls hP hS hl
theorem g_lald (X : Cx p s m args c A D cA ad own cc mx) {n x id : Nat} {i : Int} (hd : decode cc pc = .ok (.laload, 1)) (hs : shp id = (2, x, n)) (h0 : 0 ≤ i) (hi : i < (n : Int)) (k : Wg p l e R s m args below meth c A D cA ad cells slots G (pc + 1) lv (.long (lI (gL σ id i)) :: st) σ) : Wg p l e R s m args below meth c A D cA ad cells slots G pc lv (.int (iI i) :: .ref id :: st) σ := by
  intro H locs ls hP hS hl
  have hr := ix32 h0 hi (shp_len hs)
  refine va_lald X.1 X.2.1 X.2.2.2.2.1 hP id 1 (f := fun j => lI (σ.2.1 id (j : Int))) (by rw [wl_get cA ad σ (shp_lt hs (by show 2 < 9; decide)), ent_2 hs]) rfl (iI_in h0 hi hr) hd ?_
  rw [iI_clamp hr, Int.toNat_of_nonneg h0]
  exact k H locs ls hP hS hl
theorem g_aald (X : Cx p s m args c A D cA ad own cc mx) {n x id f : Nat} {i : Int} (hd : decode cc pc = .ok (.aaload, 1)) (hs : shp id = (4, x, n)) (hx : x = 3 ∨ x = 4 ∨ x = 5) (h0 : 0 ≤ i) (hi : i < (n : Int)) (hf : fin id i.toNat = f) (k : Wg p l e R s m args below meth c A D cA ad cells slots G (pc + 1) lv (.ref f :: st) σ) : Wg p l e R s m args below meth c A D cA ad cells slots G pc lv (.int (iI i) :: .ref id :: st) σ := by
  intro H locs ls hP hS hl
  have hr := ix32 h0 hi (shp_len hs)
  have ha : (wl cA ad σ)[id]? = some (ad id, .inl (cA x, n, .inr (.inr (.inr (.inr (fun j => some (ad (fin id j)))))))) := by rw [wl_get cA ad σ (shp_lt hs (by show 4 < 9; decide)), ent_4 hs]
  subst hf
  have key : ∀ (t : Nat) (C : String), (tyL cA)[t]? = some (cA x, .object C) → W p l e R s m args below meth c H locs cells slots G (F0 m pc ls (List.map (cv ad) (.int (iI i) :: .ref id :: st))) := by
    intro t C ht
    refine va_aldq X.1 X.2.1 X.2.2.2.2.1 hP id t ha ht (iI_in h0 hi hr) hd ?_
    rw [iI_clamp hr]
    exact k H locs ls hP hS hl
  rcases hx with rfl | rfl | rfl
  · exact key 3 _ rfl
  · exact key 4 _ rfl
  · exact key 5 _ rfl
theorem g_iast (X : Cx p s m args c A D cA ad own cc mx) {n x id : Nat} {i v : Int} (hd : decode cc pc = .ok (.iastore, 1)) (hs : shp id = (1, x, n)) (h0 : 0 ≤ i) (hi : i < (n : Int)) (k : Wg p l e R s m args below meth c A D cA ad cells slots G (pc + 1) lv st (sI σ id i v)) : Wg p l e R s m args below meth c A D cA ad cells slots G pc lv (.int (iI v) :: .int (iI i) :: .ref id :: st) σ := by
  intro H locs ls hP hS hl
  have hr := ix32 h0 hi (shp_len hs)
  have hid := shp_lt hs (by show 1 < 9; decide)
  refine va_iast X.1 X.2.1 X.2.2.2.2.1 hP (wl_D X.2.2.2.2.2.1 X.2.2.2.2.2.2.1) hS id 0 (f := fun j => iI (σ.1 id (j : Int))) (by rw [wl_get cA ad σ hid, ent_1 hs]) rfl (iI_in h0 hi hr) hd (fun H1 locs1 hP1 _ hS1 => ?_)
  rw [iI_clamp hr, upd_iI σ id i v h0, wl_set cA ad σ (sI σ id i v) hid (by rw [ent_1 hs]) (ent_other (fun b hb => by funext i; exact if_neg (fun q => hb q.1)) (fun _ _ => rfl) (fun _ _ => rfl))] at hP1
  exact k H1 locs1 ls hP1 hS1 hl
theorem g_zast (X : Cx p s m args c A D cA ad own cc mx) {n x id : Nat} {i v : Int} (hd : decode cc pc = .ok (.bastore, 1)) (hs : shp id = (3, x, n)) (h0 : 0 ≤ i) (hi : i < (n : Int)) (hv : vp_nar .boolean (iI v) = iI v) (k : Wg p l e R s m args below meth c A D cA ad cells slots G (pc + 1) lv st (sI σ id i v)) : Wg p l e R s m args below meth c A D cA ad cells slots G pc lv (.int (iI v) :: .int (iI i) :: .ref id :: st) σ := by
  intro H locs ls hP hS hl
  have hr := ix32 h0 hi (shp_len hs)
  have hid := shp_lt hs (by show 3 < 9; decide)
  refine va_zast X.1 X.2.1 X.2.2.2.2.1 hP (wl_D X.2.2.2.2.2.1 X.2.2.2.2.2.2.1) hS id 2 (f := fun j => iI (σ.1 id (j : Int))) (by rw [wl_get cA ad σ hid, ent_3 hs]) rfl (iI_in h0 hi hr) hd (fun H1 locs1 hP1 _ hS1 => ?_)
  rw [hv, iI_clamp hr, upd_iI σ id i v h0, wl_set cA ad σ (sI σ id i v) hid (by rw [ent_3 hs]) (ent_other (fun b hb => by funext i; exact if_neg (fun q => hb q.1)) (fun _ _ => rfl) (fun _ _ => rfl))] at hP1
  exact k H1 locs1 ls hP1 hS1 hl
theorem g_last (X : Cx p s m args c A D cA ad own cc mx) {n x id : Nat} {i v : Int} (hd : decode cc pc = .ok (.lastore, 1)) (hs : shp id = (2, x, n)) (h0 : 0 ≤ i) (hi : i < (n : Int)) (k : Wg p l e R s m args below meth c A D cA ad cells slots G (pc + 1) lv st (sL σ id i v)) : Wg p l e R s m args below meth c A D cA ad cells slots G pc lv (.long (lI v) :: .int (iI i) :: .ref id :: st) σ := by
  intro H locs ls hP hS hl
  have hr := ix32 h0 hi (shp_len hs)
  have hid := shp_lt hs (by show 2 < 9; decide)
  refine va_last X.1 X.2.1 X.2.2.2.2.1 hP (wl_D X.2.2.2.2.2.1 X.2.2.2.2.2.2.1) hS id 1 (f := fun j => lI (σ.2.1 id (j : Int))) (by rw [wl_get cA ad σ hid, ent_2 hs]) rfl (iI_in h0 hi hr) hd (fun H1 locs1 hP1 _ hS1 => ?_)
  rw [iI_clamp hr, upd_lI σ id i v h0, wl_set cA ad σ (sL σ id i v) hid (by rw [ent_2 hs]) (ent_other (fun _ _ => rfl) (fun b hb => by funext i; exact if_neg (fun q => hb q.1)) (fun _ _ => rfl))] at hP1
  exact k H1 locs1 ls hP1 hS1 hl
end GH
end
section
/-! library members, calls, answers; contracts -/
theorem cv_sum (ad : Nat → Nat) (st : List Value) : ((st.map (cv ad)).map fun v => v.category).sum = (st.map fun v => v.category).sum := by
  rw [List.map_map]
  congr 1
  apply List.map_congr_left
  intro v _
  exact cv_cat ad v
/-- copying within int arrays, within long arrays -/
def cI (σ : ASt) (a b : Nat) (sp dp n : Int) : ASt := uI σ b (fun j => if dp ≤ j ∧ j < dp + n then σ.1 a (sp + (j - dp)) else σ.1 b j)
def cL (σ : ASt) (a b : Nat) (sp dp n : Int) : ASt := uL σ b (fun j => if dp ≤ j ∧ j < dp + n then σ.2.1 a (sp + (j - dp)) else σ.2.1 b j)
def LkA (own : String) (index : Nat) : Prop := Cond.methodLink own index arraycopyName ∈ allW ∧ Cond.native arraycopyName ∈ allW ∧ Cond.static arraycopyName ∈ allW ∧ Cond.initialized "java/lang/System" ∈ allW
def LkM (own : String) (index : Nat) (y : MethodName) (b : ByteArray) (n : Nat) (ty : FieldType) : Prop := Cond.methodLink own index y ∈ allW ∧ Cond.static y ∈ allW ∧ Cond.initialized "java/lang/Math" ∈ allW ∧ Cond.code y b n (some ty) ∈ allW
section GC
variable {p : Program} {l : Launch} {e : Env} {R : Room} {s : State} {m : MethodId} {args : Array Value} {below : List Frame} {meth : Method} {c : Code} {A : Nat → Prop} {D : va_G} {cA : Nat → ClassId} {ad : Nat → Nat} {cells slots : Nat} {G : State → Prop} {own : String} {cc : ByteArray} {mx : Nat} {pc : Nat} {lv lv' : List (Nat × Value)} {st : List Value} {σ : ASt}
theorem g_mmin (X : Cx p s m args c A D cA ad own cc mx) {index : Nat} {x y : Int} (hd : decode cc pc = .ok (.invokestatic index, 3)) (hL : LkM own index Lib.Math.min.name Lib.Math.min.code 2 .int) (hfr : 1 ≤ R.frames) (hlo : (st.map fun v => v.category).sum + 13 ≤ R.locals) (hc : cells ≤ R.cells ∧ slots ≤ R.slots) (hx : i32 x) (hy : i32 y) (k : Wg p l e R s m args below meth c A D cA ad cells slots G (pc + 3) lv (.int (iI (if y < x then y else x)) :: st) σ) : Wg p l e R s m args below meth c A D cA ad cells slots G pc lv (.int (iI y) :: .int (iI x) :: st) σ := by
  intro H locs ls hP hS hl
  refine va_mmin X.1 X.2.1 hl.1.symm X.2.2.2.1 (X.2.2.1 _ hL.1) (X.2.2.1 _ hL.2.1) (X.2.2.1 _ hL.2.2.1) (X.2.2.1 _ hL.2.2.2) hfr (by rw [cv_sum]; exact hlo) hc.1 hc.2 hd ?_
  have e : (if iI y < iI x then iI y else iI x) = iI (if y < x then y else x) := by
    by_cases h : y < x
    · rw [if_pos h, if_pos ((iI_lt hy hx).mpr h)]
    · rw [if_neg h, if_neg (fun q => h ((iI_lt hy hx).mp q))]
  rw [e]
  exact k H locs ls hP hS hl
theorem g_mmax (X : Cx p s m args c A D cA ad own cc mx) {index : Nat} {x y : Int} (hd : decode cc pc = .ok (.invokestatic index, 3)) (hL : LkM own index Lib.Math.max.name Lib.Math.max.code 2 .int) (hfr : 1 ≤ R.frames) (hlo : (st.map fun v => v.category).sum + 13 ≤ R.locals) (hc : cells ≤ R.cells ∧ slots ≤ R.slots) (hx : i32 x) (hy : i32 y) (k : Wg p l e R s m args below meth c A D cA ad cells slots G (pc + 3) lv (.int (iI (if x < y then y else x)) :: st) σ) : Wg p l e R s m args below meth c A D cA ad cells slots G pc lv (.int (iI y) :: .int (iI x) :: st) σ := by
  intro H locs ls hP hS hl
  refine va_mmax X.1 X.2.1 hl.1.symm X.2.2.2.1 (X.2.2.1 _ hL.1) (X.2.2.1 _ hL.2.1) (X.2.2.1 _ hL.2.2.1) (X.2.2.1 _ hL.2.2.2) hfr (by rw [cv_sum]; exact hlo) hc.1 hc.2 hd ?_
  have e : (if iI x < iI y then iI y else iI x) = iI (if x < y then y else x) := by
    by_cases h : x < y
    · rw [if_pos h, if_pos ((iI_lt hx hy).mpr h)]
    · rw [if_neg h, if_neg (fun q => h ((iI_lt hx hy).mp q))]
  rw [e]
  exact k H locs ls hP hS hl
theorem g_copyI (X : Cx p s m args c A D cA ad own cc mx) {index a b n0 n1 x0 x1 : Nat} {sp dp n : Int} (hd : decode cc pc = .ok (.invokestatic index, 3)) (hL : LkA own index) (hfr : 1 ≤ R.frames) (hlo : (st.map fun v => v.category).sum + (nativeFrameWords "java/lang/System" "arraycopy" 5 + 11) ≤ R.locals) (ha : shp a = (1, x0, n0)) (hb : shp b = (1, x1, n1)) (h1 : 0 ≤ sp) (h2 : 0 ≤ dp) (h3 : 0 ≤ n) (h4 : sp + n ≤ (n0 : Int)) (h5 : dp + n ≤ (n1 : Int)) (k : Wg p l e R s m args below meth c A D cA ad cells slots G (pc + 3) lv st (cI σ a b sp dp n)) : Wg p l e R s m args below meth c A D cA ad cells slots G pc lv (.int (iI n) :: .int (iI dp) :: .ref b :: .int (iI sp) :: .ref a :: st) σ := by
  intro H locs ls hP hS hl
  have l0 := shp_len ha
  have l1 := shp_len hb
  dsimp only at l0 l1
  have hra := shp_lt ha (by show 1 < 9; decide)
  have hrb := shp_lt hb (by show 1 < 9; decide)
  have r1 : i32 sp := ⟨by omega, by omega⟩
  have r2 : i32 dp := ⟨by omega, by omega⟩
  have r3 : i32 n := ⟨by omega, by omega⟩
  have ng : ∀ z : Int, i32 z → 0 ≤ z → ¬ iI z < 0 := fun z hz h q => by
    have := (iI_lt hz i32z).mp q
    omega
  refine va_copyi X.1 X.2.1 hl.1.symm X.2.2.2.1 (X.2.2.1 _ hL.1) (X.2.2.1 _ hL.2.1) (X.2.2.1 _ hL.2.2.1) (X.2.2.1 _ hL.2.2.2) X.2.2.2.2.1 hP (wl_D X.2.2.2.2.2.1 X.2.2.2.2.2.2.1) hS a b 0 0 (f := fun j => iI (σ.1 a (j : Int))) (g := fun j => iI (σ.1 b (j : Int))) (by rw [wl_get cA ad σ hra, ent_1 ha]) (by rw [wl_get cA ad σ hrb, ent_1 hb]) rfl rfl rfl (ng sp r1 h1) (ng dp r2 h2) (ng n r3 h3) (by rw [iI_clamp r1, iI_clamp r3]; omega) (by rw [iI_clamp r2, iI_clamp r3]; omega) (fun _ _ => rfl) hfr (by rw [cv_sum]; exact hlo) hd (fun H1 locs1 hP1 _ hS1 => ?_)
  have e : va_cpy (fun j : Nat => iI (σ.1 a (j : Int))) (fun j : Nat => iI (σ.1 b (j : Int))) (iI sp).toNatClampNeg (iI dp).toNatClampNeg (iI n).toNatClampNeg = fun (j : Nat) => iI ((cI σ a b sp dp n).1 b (j : Int)) := by
    rw [iI_clamp r1, iI_clamp r2, iI_clamp r3]
    funext j
    unfold va_cpy cI uI
    dsimp only
    rw [if_pos rfl]
    by_cases h : dp ≤ (j : Int) ∧ (j : Int) < dp + n
    · rw [if_pos h, if_pos (by omega), show ((sp.toNat + (j - dp.toNat) : Nat) : Int) = sp + ((j : Int) - dp) by omega]
    · rw [if_neg h, if_neg (by omega)]
  rw [e, wl_set cA ad σ (cI σ a b sp dp n) hrb (by rw [ent_1 hb]) (ent_other (fun b' hb' => if_neg hb') (fun _ _ => rfl) (fun _ _ => rfl))] at hP1
  exact k H1 locs1 ls hP1 hS1 hl
theorem g_copyL (X : Cx p s m args c A D cA ad own cc mx) {index a b n0 n1 x0 x1 : Nat} {sp dp n : Int} (hd : decode cc pc = .ok (.invokestatic index, 3)) (hL : LkA own index) (hfr : 1 ≤ R.frames) (hlo : (st.map fun v => v.category).sum + (nativeFrameWords "java/lang/System" "arraycopy" 5 + 11) ≤ R.locals) (ha : shp a = (2, x0, n0)) (hb : shp b = (2, x1, n1)) (h1 : 0 ≤ sp) (h2 : 0 ≤ dp) (h3 : 0 ≤ n) (h4 : sp + n ≤ (n0 : Int)) (h5 : dp + n ≤ (n1 : Int)) (k : Wg p l e R s m args below meth c A D cA ad cells slots G (pc + 3) lv st (cL σ a b sp dp n)) : Wg p l e R s m args below meth c A D cA ad cells slots G pc lv (.int (iI n) :: .int (iI dp) :: .ref b :: .int (iI sp) :: .ref a :: st) σ := by
  intro H locs ls hP hS hl
  have l0 := shp_len ha
  have l1 := shp_len hb
  dsimp only at l0 l1
  have hra := shp_lt ha (by show 2 < 9; decide)
  have hrb := shp_lt hb (by show 2 < 9; decide)
  have r1 : i32 sp := ⟨by omega, by omega⟩
  have r2 : i32 dp := ⟨by omega, by omega⟩
  have r3 : i32 n := ⟨by omega, by omega⟩
  have ng : ∀ z : Int, i32 z → 0 ≤ z → ¬ iI z < 0 := fun z hz h q => by
    have := (iI_lt hz i32z).mp q
    omega
  refine va_copyl X.1 X.2.1 hl.1.symm X.2.2.2.1 (X.2.2.1 _ hL.1) (X.2.2.1 _ hL.2.1) (X.2.2.1 _ hL.2.2.1) (X.2.2.1 _ hL.2.2.2) X.2.2.2.2.1 hP (wl_D X.2.2.2.2.2.1 X.2.2.2.2.2.2.1) hS a b 1 1 (f := fun j => lI (σ.2.1 a (j : Int))) (g := fun j => lI (σ.2.1 b (j : Int))) (by rw [wl_get cA ad σ hra, ent_2 ha]) (by rw [wl_get cA ad σ hrb, ent_2 hb]) rfl rfl rfl (ng sp r1 h1) (ng dp r2 h2) (ng n r3 h3) (by rw [iI_clamp r1, iI_clamp r3]; omega) (by rw [iI_clamp r2, iI_clamp r3]; omega) (fun _ _ => rfl) hfr (by rw [cv_sum]; exact hlo) hd (fun H1 locs1 hP1 _ hS1 => ?_)
  have e : va_cpy (fun j : Nat => lI (σ.2.1 a (j : Int))) (fun j : Nat => lI (σ.2.1 b (j : Int))) (iI sp).toNatClampNeg (iI dp).toNatClampNeg (iI n).toNatClampNeg = fun (j : Nat) => lI ((cL σ a b sp dp n).2.1 b (j : Int)) := by
    rw [iI_clamp r1, iI_clamp r2, iI_clamp r3]
    funext j
    unfold va_cpy cL uL
    dsimp only
    rw [if_pos rfl]
    by_cases h : dp ≤ (j : Int) ∧ (j : Int) < dp + n
    · rw [if_pos h, if_pos (by omega), show ((sp.toNat + (j - dp.toNat) : Nat) : Int) = sp + ((j : Int) - dp) by omega]
    · rw [if_neg h, if_neg (by omega)]
  rw [e, wl_set cA ad σ (cL σ a b sp dp n) hrb (by rw [ent_2 hb]) (ent_other (fun _ _ => rfl) (fun b' hb' => if_neg hb') (fun _ _ => rfl))] at hP1
  exact k H1 locs1 ls hP1 hS1 hl
end GC
/-- a method's end: what it answers and the state behind it, by Q; nothing outside the world changes -/
def Qx (Q : Option Value → ASt → Prop) (D : va_G) (cA : Nat → ClassId) (ad : Nat → Nat) : Array Value → State → Outcome → State → Prop := fun _ st oc t =>
  (∃ (r : Option Value) (σ' : ASt), oc = .returned (r.map (cv ad)) ∧ Q r σ' ∧ va_P D vwCl (wl cA ad σ') t.heap) ∧ va_F (adA ad) st t
def PcS (D : va_G) (cA : Nat → ClassId) (ad : Nat → Nat) (σ : ASt) (U : State) : Prop := va_P D vwCl (wl cA ad σ) U.heap ∧ va_K D vwCl (tyL cA) U ∧ Nst U
/-- from this state, with these arguments, the method returns, and Q holds of its answer and of the state behind it -/
def Ev (K : MK) (av : List Value) (σ : ASt) (Q : Option Value → ASt → Prop) : Prop :=
  ∀ (l : Launch) (D : va_G) (cA : Nat → ClassId) (ad : Nat → Nat), adInj ad → Met l K.1 (wsK K) K.2.2.2.2 (va_Pc (av.map (cv ad)) (PcS D cA ad σ)) (Qx Q D cA ad) 0 0 (adA ad)
/-- inside method K: from this place the method returns, and Q holds -/
def Wx (K : MK) (Q : Option Value → ASt → Prop) (pc : Nat) (lv : List (Nat × Value)) (st : List Value) (σ : ASt) : Prop :=
  ∀ (p : Program) (l : Launch) (e : Env) (s : State) (m : MethodId) (args : Array Value) (below : List Frame) (meth : Method) (c : Code) (D : va_G) (cA : Nat → ClassId) (ad : Nat → Nat), Cx p s m args c (adA ad) D cA ad K.1.cls K.2.1 K.2.2.1 → meth.sig.returnType = K.2.2.2.1 → meth.locks = false →
    Wg p l e K.2.2.2.2 s m args below meth c (adA ad) D cA ad 0 0 (MQ below (Qx Q D cA ad) args s 0 0 (adA ad)) pc lv st σ
theorem lv_args_cv (ad : Nat → Nat) : ∀ (av : List Value) (i : Nat), lv_args i (av.map (cv ad)) = (lv_args i av).map (cvp ad)
  | [], _ => rfl
  | v :: vs, i => by
    show (i, cv ad v) :: lv_args (if (cv ad v).category = 2 then i + 2 else i + 1) (vs.map (cv ad)) = (i, cv ad v) :: (lv_args (if v.category = 2 then i + 2 else i + 1) vs).map (cvp ad)
    rw [cv_cat, lv_args_cv ad vs]
theorem lg_sl_cv (ad : Nat → Nat) (av : List Value) : (lg_sl (av.map (cv ad))).length = (lg_sl av).length := by
  unfold lg_sl
  induction av with
  | nil => rfl
  | cons v vs ih =>
    rw [List.map_cons, List.flatMap_cons, List.flatMap_cons, List.length_append, List.length_append, ih, cv_cat]
    by_cases h : v.category = 2
    · rw [if_pos h, if_pos h]; rfl
    · rw [if_neg h, if_neg h]; rfl
theorem Ev.of {K : MK} {av : List Value} {σ : ASt} {Q : Option Value → ASt → Prop} {lv : List (Nat × Value)} (hy : plainName K.1.cls = true) (hn : (lg_sl av).length ≤ K.2.2.1) (hlv : lv_args 0 av = lv) (k : Wx K Q 0 lv [] σ) : Ev K av σ Q := by
  intro l D cA ad hinj
  refine Met.ofW (cc := K.2.1) (maxL := K.2.2.1) (ret := K.2.2.2.1) (ws' := allW) hy rfl ?_
  intro p e s m args below meth c s₁ B hml hv
  obtain ⟨rfl, hP, hK, hN⟩ := hv
  have hts := atoms_spec (ws := wsK K) B.pre
  have hX : Cx p s m (av.map (cv ad)).toArray c (adA ad) D cA ad K.1.cls K.2.1 K.2.2.1 := ⟨B.exec, B.bytes, fun w hw => hts w (List.mem_cons_of_mem _ hw), findClass_of_methodNamed B.named, hK, hinj, fun i hi => ⟨i, hi, rfl⟩, hml, hN⟩
  have hl := lv_entry (av.map (cv ad)) (n := K.2.2.1) (by rw [lg_sl_cv]; exact hn)
  rw [lg_entry_eq]
  rw [lv_args_cv, hlv, ← hml] at hl
  rw [← hml]
  exact k p l e s m _ below meth c D cA ad hX B.returns B.notSynchronized s.heap [] _ hP va_S.rf hl
/-! links to methods -/
def LkC (index n : Nat) (own : String) (K : MK) : Prop := Cond.methodLink own index K.1 ∈ allW ∧ Cond.initialized K.1.cls ∈ allW ∧ Cond.code K.1 K.2.1 K.2.2.1 K.2.2.2.1 ∈ allW ∧ K.1.cls ≠ "java/lang/invoke/MethodHandle" ∧ K.1.cls ≠ "java/lang/invoke/VarHandle" ∧ (parseMethodDescriptor K.1.desc).map (fun d => d.parameters.length) = some n
def LkV (index n : Nat) (own : String) (K : MK) : Prop := LkC index n own K ∧ Cond.instanceMethod K.1 ∈ allW ∧ Cond.selects K.1.cls K.1 K.1 ∈ allW
def LkS (index n : Nat) (own : String) (K : MK) : Prop := LkC index n own K ∧ Cond.static K.1 ∈ allW
def LkN (index n : Nat) (own : String) (K : MK) : Prop := (∀ U, Nst U → va_Nw (.methodLinkNest own index K.1 "SummedBases") U) ∧ Cond.initialized K.1.cls ∈ allW ∧ Cond.code K.1 K.2.1 K.2.2.1 K.2.2.2.1 ∈ allW ∧ (K.1.cls ≠ "java/lang/invoke/MethodHandle" ∧ K.1.cls ≠ "java/lang/invoke/VarHandle" ∧ (parseMethodDescriptor K.1.desc).map (fun d => d.parameters.length) = some n) ∧ Cond.static K.1 ∈ allW
/-- the callee's room within the caller's -/
def RmOk (R : Room) (K : MK) : Prop := K.2.2.2.2.cells = 0 ∧ K.2.2.2.2.slots = 0 ∧ K.2.2.2.2.frames + 1 ≤ R.frames ∧ 8 + (K.2.2.1 + 11) + K.2.2.2.2.locals ≤ R.locals
theorem wsK_good {K : MK} (h : Cond.code K.1 K.2.1 K.2.2.1 K.2.2.2.1 ∈ allW) : GoodIn allW (wsK K) := by
  intro w hw
  rcases List.mem_cons.mp hw with rfl | hw
  · exact ⟨h, allW_good _ h⟩
  · exact ⟨hw, allW_good _ hw⟩
theorem PcS_blind {D : va_G} {cA : Nat → ClassId} {ad : Nat → Nat} {σ : ASt} {av : List Value} : FrameBlind (va_Pc av (PcS D cA ad σ)) := fun a U g mk q => by
  obtain ⟨h1, h2, h3, h4⟩ := q
  exact ⟨h1, h2, va_K.moved (u := U) (U := U.calling g mk a) (Vm.Alike.refl U.vm) h3, Nst.same rfl h4⟩
section GD
variable {p : Program} {l : Launch} {e : Env} {R : Room} {s : State} {m : MethodId} {args : Array Value} {below : List Frame} {meth : Method} {c : Code} {A : Nat → Prop} {D : va_G} {cA : Nat → ClassId} {ad : Nat → Nat} {cells slots : Nat} {G : State → Prop} {own : String} {cc : ByteArray} {mx : Nat} {pc : Nat} {lv lv' : List (Nat × Value)} {st : List Value} {σ : ASt}
theorem g_run {K : MK} {Q' : Option Value → ASt → Prop} {a : Array Value} {rest : List Value} {st0 : List Value} (hA : ∀ q, adA ad q → A q)
    (hrun : ∀ (H : Heap) (locs : List Loc) (ls : Array Slot), va_P D vwCl (wl cA ad σ) H → lv_has ls c.maxLocals (lv.map (cvp ad)) → va_Run p l e R s m args below meth c H locs cells slots 0 0 (F0 m pc ls (st0.map (cv ad))) (rest.map (cv ad)) (Qx Q' D cA ad a) (adA ad))
    (kk : ∀ (r : Option Value) (σ' : ASt), Q' r σ' → Wg p l e R s m args below meth c A D cA ad cells slots G (pc + 3) lv (r.toList ++ rest) σ') : Wg p l e R s m args below meth c A D cA ad cells slots G pc lv st0 σ := by
  intro H locs ls hP hS hl T hT X
  obtain ⟨v, st₀, t, T', L, h0, X', hL, e1, e2, ⟨⟨r, σ', hv, hq, hP1⟩, hz, hk⟩, stp⟩ := hrun H locs ls hP hl T hT X
  cases hv
  rw [h0] at hz hk
  rw [← e1] at hz hk hP1
  have hS1 : va_S A s.heap T'.heap (locs ++ L) := ⟨Nat.le_trans hS.1 hz, fun q h1 h2 => by rw [hk q (Nat.lt_of_lt_of_le h1 hS.1) (fun z => h2 (hA q z))]; exact hS.2.1 q h1 h2, fun q hq => by
    rcases List.mem_append.mp hq with h | h
    · exact hS.2.2 q h
    · exact hA _ (hL q h)⟩
  obtain ⟨t2, a1, b1⟩ := kk r σ' hq T'.heap (locs ++ L) ls hP1 hS1 hl T' rfl X'
  refine ⟨t2, stp t2 ?_, b1⟩
  have e3 : (r.map (cv ad)).toList ++ rest.map (cv ad) = (r.toList ++ rest).map (cv ad) := by cases r <;> simp
  show Steps p.tables e below (T'.setTop (F0 m (pc + 3) ls ((r.map (cv ad)).toList ++ rest.map (cv ad)))) t2
  rw [e3]
  exact a1
theorem g_callV (X : Cx p s m args c A D cA ad own cc mx) {K : MK} {Q' : Option Value → ASt → Prop} {index n ci id x : Nat} (As rest : List Value) (hd : decode cc pc = .ok (.invokevirtual index, 3)) (hL : LkV index n own K) (hR : RmOk R K) (hcs : cells ≤ R.cells ∧ slots ≤ R.slots) (hA : ∀ q, adA ad q → A q) (hs : shp id = (0, ci, x)) (hcl : (vwCl[ci]?).map (fun q => q.1) = some K.1.cls) (hn : As.length = n) (hst : (rest.map fun v => v.category).sum ≤ 8) (he : Ev K (.ref id :: As) σ Q')
    (kk : ∀ (r : Option Value) (σ' : ASt), Q' r σ' → Wg p l e R s m args below meth c A D cA ad cells slots G (pc + 3) lv (r.toList ++ rest) σ') : Wg p l e R s m args below meth c A D cA ad cells slots G pc lv (As.reverse ++ .ref id :: rest) σ := by
  obtain ⟨⟨hl1, hl2, hl3, hm1, hm2, hm3⟩, hi, hse⟩ := hL
  obtain ⟨hr1, hr2, hr3, hr4⟩ := hR
  refine g_run (K := K) (a := (Value.ref (ad id) :: As.map (cv ad)).toArray) hA (fun H locs ls hP hl => ?_) kk
  obtain ⟨q, hq, hqc⟩ : ∃ q, vwCl[ci]? = some q ∧ q.1 = K.1.cls := by
    cases hz : vwCl[ci]? with
    | none => rw [hz] at hcl; cases hcl
    | some q => rw [hz] at hcl; exact ⟨q, rfl, Option.some.inj hcl⟩
  have hid := shp_lt hs (by show 0 < 9; decide)
  have hrecv := va_recv (q0 := id) (ci := ci) (a := ad id) X.2.2.2.2.1 hP hq (fs := (fty ci).mapIdx (fun j t => entF ad σ id j t)) (by rw [wl_get cA ad σ hid, ent_0 hs])
  rw [hqc] at hrecv
  have hst' : List.map (cv ad) (As.reverse ++ .ref id :: rest) = (As.map (cv ad)).reverse ++ .ref (ad id) :: rest.map (cv ad) := by
    rw [List.map_append, List.map_reverse]; rfl
  rw [hst']
  exact va_runV (C := K.1.cls) (As := As.map (cv ad)) (rest := rest.map (cv ad)) (n := n) (bytes := K.2.1) (maxL := K.2.2.1) (ret := K.2.2.2.1) (nL := mx) ⟨X.1, X.2.1, X.2.2.2.2.2.2.2.1, X.2.2.2.1, X.2.2.1⟩ (he l D cA ad X.2.2.2.2.2.1)
    ⟨callB_of (ws' := allW) n X.2.2.1 (wsK_good hl3) rfl hr1 hr2 (X.2.2.1 _ hl2) (X.2.2.1 _ hl1) ⟨hm1, hm2, hm3⟩ ⟨hr3, hr4⟩, X.2.2.1 _ hi, X.2.2.1 _ hse⟩
    ⟨PcS_blind, hrecv, fun U hU hW => ⟨rfl, by rw [hU]; exact hP, va_K.moved hW.alike X.2.2.2.2.1, Nst.warm hW X.2.2.2.2.2.2.2.2⟩⟩ rfl (by rw [List.length_map]; exact hn) (hl.1.trans X.2.2.2.2.2.2.2.1) rfl (lv_room (by rw [cv_sum]; exact hst)) hd ⟨hcs.1, hcs.2⟩
theorem g_callS (X : Cx p s m args c A D cA ad own cc mx) {K : MK} {Q' : Option Value → ASt → Prop} {index n : Nat} (As rest : List Value) (hd : decode cc pc = .ok (.invokestatic index, 3)) (hL : LkS index n own K) (hR : RmOk R K) (hcs : cells ≤ R.cells ∧ slots ≤ R.slots) (hA : ∀ q, adA ad q → A q) (hn : As.length = n) (hst : (rest.map fun v => v.category).sum ≤ 8) (he : Ev K As σ Q')
    (kk : ∀ (r : Option Value) (σ' : ASt), Q' r σ' → Wg p l e R s m args below meth c A D cA ad cells slots G (pc + 3) lv (r.toList ++ rest) σ') : Wg p l e R s m args below meth c A D cA ad cells slots G pc lv (As.reverse ++ rest) σ := by
  obtain ⟨⟨hl1, hl2, hl3, hm1, hm2, hm3⟩, hstt⟩ := hL
  obtain ⟨hr1, hr2, hr3, hr4⟩ := hR
  refine g_run (K := K) (a := (As.map (cv ad)).toArray) hA (fun H locs ls hP hl => ?_) kk
  have hst' : List.map (cv ad) (As.reverse ++ rest) = (As.map (cv ad)).reverse ++ rest.map (cv ad) := by
    rw [List.map_append, List.map_reverse]
  rw [hst']
  exact va_runS (As := As.map (cv ad)) (rest := rest.map (cv ad)) (n := n) (bytes := K.2.1) (maxL := K.2.2.1) (ret := K.2.2.2.1) (nL := mx) ⟨X.1, X.2.1, X.2.2.2.2.2.2.2.1, X.2.2.2.1, X.2.2.1⟩ (he l D cA ad X.2.2.2.2.2.1)
    ⟨callB_of (ws' := allW) n X.2.2.1 (wsK_good hl3) rfl hr1 hr2 (X.2.2.1 _ hl2) (X.2.2.1 _ hl1) ⟨hm1, hm2, hm3⟩ ⟨hr3, hr4⟩, X.2.2.1 _ hstt⟩
    ⟨PcS_blind, fun U hU hW => ⟨rfl, by rw [hU]; exact hP, va_K.moved hW.alike X.2.2.2.2.1, Nst.warm hW X.2.2.2.2.2.2.2.2⟩⟩ rfl (by rw [List.length_map]; exact hn) (hl.1.trans X.2.2.2.2.2.2.2.1) rfl (lv_room (by rw [cv_sum]; exact hst)) hd ⟨hcs.1, hcs.2⟩
theorem g_callN (X : Cx p s m args c A D cA ad own cc mx) {K : MK} {Q' : Option Value → ASt → Prop} {index n : Nat} (As rest : List Value) (hd : decode cc pc = .ok (.invokestatic index, 3)) (hL : LkN index n own K) (hR : RmOk R K) (hcs : cells ≤ R.cells ∧ slots ≤ R.slots) (hA : ∀ q, adA ad q → A q) (hn : As.length = n) (hst : (rest.map fun v => v.category).sum ≤ 8) (he : Ev K As σ Q')
    (kk : ∀ (r : Option Value) (σ' : ASt), Q' r σ' → Wg p l e R s m args below meth c A D cA ad cells slots G (pc + 3) lv (r.toList ++ rest) σ') : Wg p l e R s m args below meth c A D cA ad cells slots G pc lv (As.reverse ++ rest) σ := by
  obtain ⟨hl1, hl2, hl3, hm, hstt⟩ := hL
  obtain ⟨hr1, hr2, hr3, hr4⟩ := hR
  refine g_run (K := K) (a := (As.map (cv ad)).toArray) hA (fun H locs ls hP hl => ?_) kk
  have hst' : List.map (cv ad) (As.reverse ++ rest) = (As.map (cv ad)).reverse ++ rest.map (cv ad) := by
    rw [List.map_append, List.map_reverse]
  rw [hst']
  exact va_runSN (As := As.map (cv ad)) (rest := rest.map (cv ad)) (n := n) (bytes := K.2.1) (maxL := K.2.2.1) (ret := K.2.2.2.1) (nL := mx) ⟨X.1, X.2.1, X.2.2.2.2.2.2.2.1, X.2.2.2.1, X.2.2.1⟩ (he l D cA ad X.2.2.2.2.2.1)
    ⟨va_cnB (ws' := allW) n X.2.2.1 (wsK_good hl3) rfl hr1 hr2 (hl1 s X.2.2.2.2.2.2.2.2) (X.2.2.1 _ hl2) hm ⟨hr3, hr4⟩, X.2.2.1 _ hstt, trivial⟩
    ⟨PcS_blind, fun U hU hW => ⟨rfl, by rw [hU]; exact hP, va_K.moved hW.alike X.2.2.2.2.1, Nst.warm hW X.2.2.2.2.2.2.2.2⟩⟩ rfl (by rw [List.length_map]; exact hn) (hl.1.trans X.2.2.2.2.2.2.2.1) rfl (lv_room (by rw [cv_sum]; exact hst)) hd ⟨hcs.1, hcs.2⟩
end GD
end
section
/-! answers by their kinds -/
def QI (Q : Int → ASt → Prop) : Option Value → ASt → Prop := fun r σ => ∃ x : Int, r = some (.int (iI x)) ∧ i32 x ∧ Q x σ
def QL (Q : Int → ASt → Prop) : Option Value → ASt → Prop := fun r σ => ∃ x : Int, r = some (.long (lI x)) ∧ i64 x ∧ Q x σ
def QV (Q : ASt → Prop) : Option Value → ASt → Prop := fun r σ => r = none ∧ Q σ
def QZ (QT QF : ASt → Prop) : Option Value → ASt → Prop := fun r σ => (r = some (.int (iI 1)) ∧ QT σ) ∨ (r = some (.int (iI 0)) ∧ QF σ)
def QR (ci : Nat) (Qn : ASt → Prop) (Qs : Nat → ASt → Prop) : Option Value → ASt → Prop := fun r σ => (r = some .null ∧ Qn σ) ∨ ∃ x : Nat, r = some (.ref x) ∧ shp x = (0, ci, 0) ∧ Qs x σ
def EvI (K : MK) (av : List Value) (σ : ASt) (Q : Int → ASt → Prop) : Prop := Ev K av σ (QI Q)
def EvL (K : MK) (av : List Value) (σ : ASt) (Q : Int → ASt → Prop) : Prop := Ev K av σ (QL Q)
def EvV (K : MK) (av : List Value) (σ : ASt) (Q : ASt → Prop) : Prop := Ev K av σ (QV Q)
def EvZ (K : MK) (av : List Value) (σ : ASt) (QT QF : ASt → Prop) : Prop := Ev K av σ (QZ QT QF)
def EvR (ci : Nat) (K : MK) (av : List Value) (σ : ASt) (Qn : ASt → Prop) (Qs : Nat → ASt → Prop) : Prop := Ev K av σ (QR ci Qn Qs)
section GE
variable {p : Program} {l : Launch} {e : Env} {R : Room} {s : State} {m : MethodId} {args : Array Value} {below : List Frame} {meth : Method} {c : Code} {A : Nat → Prop} {D : va_G} {cA : Nat → ClassId} {ad : Nat → Nat} {cells slots : Nat} {G : State → Prop} {own : String} {cc : ByteArray} {mx : Nat} {pc : Nat} {lv lv' : List (Nat × Value)} {st st0 : List Value} {σ : ASt}
theorem g_iret {Q : Option Value → ASt → Prop} {x : Int} {ty : FieldType} (X : Cx p s m args c (adA ad) D cA ad own cc mx) (hr : meth.sig.returnType = some ty) (hlk : meth.locks = false) (hd : decode cc pc = .ok (.ireturn, 1)) (hn : narrow ty (.int (iI x)) = .int (iI x)) (hq : Q (some (.int (iI x))) σ) : Wg p l e R s m args below meth c (adA ad) D cA ad 0 0 (MQ below (Qx Q D cA ad) args s 0 0 (adA ad)) pc lv [.int (iI x)] σ :=
  fun H locs ls hP hS _ => W.zret X.1 X.2.1 hr hn (fun t ht _ => ⟨⟨some (.int (iI x)), σ, rfl, hq, by rw [ht]; exact hP⟩, hS.F ht⟩) hS.2.2 hd hlk
theorem g_lret {Q : Option Value → ASt → Prop} {x : Int} (X : Cx p s m args c (adA ad) D cA ad own cc mx) (hr : meth.sig.returnType = some .long) (hlk : meth.locks = false) (hd : decode cc pc = .ok (.lreturn, 1)) (hq : Q (some (.long (lI x))) σ) : Wg p l e R s m args below meth c (adA ad) D cA ad 0 0 (MQ below (Qx Q D cA ad) args s 0 0 (adA ad)) pc lv [.long (lI x)] σ :=
  fun H locs ls hP hS _ => W.lret X.1 X.2.1 hr (fun t ht _ => ⟨⟨some (.long (lI x)), σ, rfl, hq, by rw [ht]; exact hP⟩, hS.F ht⟩) hS.2.2 hd hlk
theorem g_vret {Q : Option Value → ASt → Prop} (X : Cx p s m args c (adA ad) D cA ad own cc mx) (hr : meth.sig.returnType = none) (hlk : meth.locks = false) (hd : decode cc pc = .ok (.return_, 1)) (hq : Q none σ) : Wg p l e R s m args below meth c (adA ad) D cA ad 0 0 (MQ below (Qx Q D cA ad) args s 0 0 (adA ad)) pc lv [] σ :=
  fun H locs ls hP hS _ => W.vret X.1 X.2.1 hr (fun t ht _ => ⟨⟨none, σ, rfl, hq, by rw [ht]; exact hP⟩, hS.F ht⟩) hS.2.2 hd hlk
theorem g_aret {Q : Option Value → ASt → Prop} {x : Nat} {C : String} (X : Cx p s m args c (adA ad) D cA ad own cc mx) (hr : meth.sig.returnType = some (.object C)) (hlk : meth.locks = false) (hd : decode cc pc = .ok (.areturn, 1)) (hq : Q (some (.ref x)) σ) : Wg p l e R s m args below meth c (adA ad) D cA ad 0 0 (MQ below (Qx Q D cA ad) args s 0 0 (adA ad)) pc lv [.ref x] σ :=
  fun H locs ls hP hS _ => W.aret X.1 X.2.1 hr (Or.inl ⟨_, rfl⟩) (Or.inr ⟨ad x, rfl⟩) (fun t ht _ => ⟨⟨some (.ref x), σ, rfl, hq, by rw [ht]; exact hP⟩, hS.F ht⟩) hS.2.2 hd hlk
theorem g_aretN {Q : Option Value → ASt → Prop} {C : String} (X : Cx p s m args c (adA ad) D cA ad own cc mx) (hr : meth.sig.returnType = some (.object C)) (hlk : meth.locks = false) (hd : decode cc pc = .ok (.areturn, 1)) (hq : Q (some .null) σ) : Wg p l e R s m args below meth c (adA ad) D cA ad 0 0 (MQ below (Qx Q D cA ad) args s 0 0 (adA ad)) pc lv [.null] σ :=
  fun H locs ls hP hS _ => W.aret X.1 X.2.1 hr (Or.inl ⟨_, rfl⟩) (Or.inl rfl) (fun t ht _ => ⟨⟨some .null, σ, rfl, hq, by rw [ht]; exact hP⟩, hS.F ht⟩) hS.2.2 hd hlk
theorem g_cVI (X : Cx p s m args c A D cA ad own cc mx) {K : MK} {Q1 : Int → ASt → Prop} {index n ci id x : Nat} (As rest : List Value) (hd : decode cc pc = .ok (.invokevirtual index, 3)) (hL : LkV index n own K) (hR : RmOk R K) (hcs : cells ≤ R.cells ∧ slots ≤ R.slots) (hA : ∀ q, adA ad q → A q) (hs : shp id = (0, ci, x)) (hcl : (vwCl[ci]?).map (fun q => q.1) = some K.1.cls) (hn : As.length = n) (hst : (rest.map fun v => v.category).sum ≤ 8) (hk : st0 = As.reverse ++ .ref id :: rest) (he : EvI K (.ref id :: As) σ Q1) (kk : ∀ (x : Int) (σ1 : ASt), i32 x → Q1 x σ1 → Wg p l e R s m args below meth c A D cA ad cells slots G (pc + 3) lv (.int (iI x) :: rest) σ1) : Wg p l e R s m args below meth c A D cA ad cells slots G pc lv st0 σ := by
  subst hk
  exact g_callV X As rest hd hL hR hcs hA hs hcl hn hst he (fun r σ1 hq => by obtain ⟨x, rfl, h1, h2⟩ := hq; exact kk x σ1 h1 h2)
theorem g_cSI (X : Cx p s m args c A D cA ad own cc mx) {K : MK} {Q1 : Int → ASt → Prop} {index n : Nat} (As rest : List Value) (hd : decode cc pc = .ok (.invokestatic index, 3)) (hL : LkS index n own K) (hR : RmOk R K) (hcs : cells ≤ R.cells ∧ slots ≤ R.slots) (hA : ∀ q, adA ad q → A q) (hn : As.length = n) (hst : (rest.map fun v => v.category).sum ≤ 8) (hk : st0 = As.reverse ++ rest) (he : EvI K As σ Q1) (kk : ∀ (x : Int) (σ1 : ASt), i32 x → Q1 x σ1 → Wg p l e R s m args below meth c A D cA ad cells slots G (pc + 3) lv (.int (iI x) :: rest) σ1) : Wg p l e R s m args below meth c A D cA ad cells slots G pc lv st0 σ := by
  subst hk
  exact g_callS X As rest hd hL hR hcs hA hn hst he (fun r σ1 hq => by obtain ⟨x, rfl, h1, h2⟩ := hq; exact kk x σ1 h1 h2)
theorem g_cVL (X : Cx p s m args c A D cA ad own cc mx) {K : MK} {Q1 : Int → ASt → Prop} {index n ci id x : Nat} (As rest : List Value) (hd : decode cc pc = .ok (.invokevirtual index, 3)) (hL : LkV index n own K) (hR : RmOk R K) (hcs : cells ≤ R.cells ∧ slots ≤ R.slots) (hA : ∀ q, adA ad q → A q) (hs : shp id = (0, ci, x)) (hcl : (vwCl[ci]?).map (fun q => q.1) = some K.1.cls) (hn : As.length = n) (hst : (rest.map fun v => v.category).sum ≤ 8) (hk : st0 = As.reverse ++ .ref id :: rest) (he : EvL K (.ref id :: As) σ Q1) (kk : ∀ (x : Int) (σ1 : ASt), i64 x → Q1 x σ1 → Wg p l e R s m args below meth c A D cA ad cells slots G (pc + 3) lv (.long (lI x) :: rest) σ1) : Wg p l e R s m args below meth c A D cA ad cells slots G pc lv st0 σ := by
  subst hk
  exact g_callV X As rest hd hL hR hcs hA hs hcl hn hst he (fun r σ1 hq => by obtain ⟨x, rfl, h1, h2⟩ := hq; exact kk x σ1 h1 h2)
theorem g_cSL (X : Cx p s m args c A D cA ad own cc mx) {K : MK} {Q1 : Int → ASt → Prop} {index n : Nat} (As rest : List Value) (hd : decode cc pc = .ok (.invokestatic index, 3)) (hL : LkS index n own K) (hR : RmOk R K) (hcs : cells ≤ R.cells ∧ slots ≤ R.slots) (hA : ∀ q, adA ad q → A q) (hn : As.length = n) (hst : (rest.map fun v => v.category).sum ≤ 8) (hk : st0 = As.reverse ++ rest) (he : EvL K As σ Q1) (kk : ∀ (x : Int) (σ1 : ASt), i64 x → Q1 x σ1 → Wg p l e R s m args below meth c A D cA ad cells slots G (pc + 3) lv (.long (lI x) :: rest) σ1) : Wg p l e R s m args below meth c A D cA ad cells slots G pc lv st0 σ := by
  subst hk
  exact g_callS X As rest hd hL hR hcs hA hn hst he (fun r σ1 hq => by obtain ⟨x, rfl, h1, h2⟩ := hq; exact kk x σ1 h1 h2)
theorem g_cVV (X : Cx p s m args c A D cA ad own cc mx) {K : MK} {Q1 : ASt → Prop} {index n ci id x : Nat} (As rest : List Value) (hd : decode cc pc = .ok (.invokevirtual index, 3)) (hL : LkV index n own K) (hR : RmOk R K) (hcs : cells ≤ R.cells ∧ slots ≤ R.slots) (hA : ∀ q, adA ad q → A q) (hs : shp id = (0, ci, x)) (hcl : (vwCl[ci]?).map (fun q => q.1) = some K.1.cls) (hn : As.length = n) (hst : (rest.map fun v => v.category).sum ≤ 8) (hk : st0 = As.reverse ++ .ref id :: rest) (he : EvV K (.ref id :: As) σ Q1) (kk : ∀ (σ1 : ASt), Q1 σ1 → Wg p l e R s m args below meth c A D cA ad cells slots G (pc + 3) lv rest σ1) : Wg p l e R s m args below meth c A D cA ad cells slots G pc lv st0 σ := by
  subst hk
  exact g_callV X As rest hd hL hR hcs hA hs hcl hn hst he (fun r σ1 hq => by obtain ⟨rfl, h2⟩ := hq; exact kk σ1 h2)
theorem g_cSV (X : Cx p s m args c A D cA ad own cc mx) {K : MK} {Q1 : ASt → Prop} {index n : Nat} (As rest : List Value) (hd : decode cc pc = .ok (.invokestatic index, 3)) (hL : LkS index n own K) (hR : RmOk R K) (hcs : cells ≤ R.cells ∧ slots ≤ R.slots) (hA : ∀ q, adA ad q → A q) (hn : As.length = n) (hst : (rest.map fun v => v.category).sum ≤ 8) (hk : st0 = As.reverse ++ rest) (he : EvV K As σ Q1) (kk : ∀ (σ1 : ASt), Q1 σ1 → Wg p l e R s m args below meth c A D cA ad cells slots G (pc + 3) lv rest σ1) : Wg p l e R s m args below meth c A D cA ad cells slots G pc lv st0 σ := by
  subst hk
  exact g_callS X As rest hd hL hR hcs hA hn hst he (fun r σ1 hq => by obtain ⟨rfl, h2⟩ := hq; exact kk σ1 h2)
theorem g_cVZ (X : Cx p s m args c A D cA ad own cc mx) {K : MK} {QT QF : ASt → Prop} {index n ci id x : Nat} (As rest : List Value) (hd : decode cc pc = .ok (.invokevirtual index, 3)) (hL : LkV index n own K) (hR : RmOk R K) (hcs : cells ≤ R.cells ∧ slots ≤ R.slots) (hA : ∀ q, adA ad q → A q) (hs : shp id = (0, ci, x)) (hcl : (vwCl[ci]?).map (fun q => q.1) = some K.1.cls) (hn : As.length = n) (hst : (rest.map fun v => v.category).sum ≤ 8) (hk : st0 = As.reverse ++ .ref id :: rest) (he : EvZ K (.ref id :: As) σ QT QF) (kt : ∀ (σ1 : ASt), QT σ1 → Wg p l e R s m args below meth c A D cA ad cells slots G (pc + 3) lv (.int (iI 1) :: rest) σ1) (kf : ∀ (σ1 : ASt), QF σ1 → Wg p l e R s m args below meth c A D cA ad cells slots G (pc + 3) lv (.int (iI 0) :: rest) σ1) : Wg p l e R s m args below meth c A D cA ad cells slots G pc lv st0 σ := by
  subst hk
  exact g_callV X As rest hd hL hR hcs hA hs hcl hn hst he (fun r σ1 hq => by rcases hq with ⟨rfl, h2⟩ | ⟨rfl, h2⟩; exact kt σ1 h2; exact kf σ1 h2)
theorem g_cSZ (X : Cx p s m args c A D cA ad own cc mx) {K : MK} {QT QF : ASt → Prop} {index n : Nat} (As rest : List Value) (hd : decode cc pc = .ok (.invokestatic index, 3)) (hL : LkS index n own K) (hR : RmOk R K) (hcs : cells ≤ R.cells ∧ slots ≤ R.slots) (hA : ∀ q, adA ad q → A q) (hn : As.length = n) (hst : (rest.map fun v => v.category).sum ≤ 8) (hk : st0 = As.reverse ++ rest) (he : EvZ K As σ QT QF) (kt : ∀ (σ1 : ASt), QT σ1 → Wg p l e R s m args below meth c A D cA ad cells slots G (pc + 3) lv (.int (iI 1) :: rest) σ1) (kf : ∀ (σ1 : ASt), QF σ1 → Wg p l e R s m args below meth c A D cA ad cells slots G (pc + 3) lv (.int (iI 0) :: rest) σ1) : Wg p l e R s m args below meth c A D cA ad cells slots G pc lv st0 σ := by
  subst hk
  exact g_callS X As rest hd hL hR hcs hA hn hst he (fun r σ1 hq => by rcases hq with ⟨rfl, h2⟩ | ⟨rfl, h2⟩; exact kt σ1 h2; exact kf σ1 h2)
theorem g_cVR (X : Cx p s m args c A D cA ad own cc mx) {K : MK} {ri : Nat} {Qn : ASt → Prop} {Qs : Nat → ASt → Prop} {index n ci id x : Nat} (As rest : List Value) (hd : decode cc pc = .ok (.invokevirtual index, 3)) (hL : LkV index n own K) (hR : RmOk R K) (hcs : cells ≤ R.cells ∧ slots ≤ R.slots) (hA : ∀ q, adA ad q → A q) (hs : shp id = (0, ci, x)) (hcl : (vwCl[ci]?).map (fun q => q.1) = some K.1.cls) (hn : As.length = n) (hst : (rest.map fun v => v.category).sum ≤ 8) (hk : st0 = As.reverse ++ .ref id :: rest) (he : EvR ri K (.ref id :: As) σ Qn Qs) (kn : ∀ (σ1 : ASt), Qn σ1 → Wg p l e R s m args below meth c A D cA ad cells slots G (pc + 3) lv (.null :: rest) σ1) (ks : ∀ (x : Nat) (σ1 : ASt), shp x = (0, ri, 0) → Qs x σ1 → Wg p l e R s m args below meth c A D cA ad cells slots G (pc + 3) lv (.ref x :: rest) σ1) : Wg p l e R s m args below meth c A D cA ad cells slots G pc lv st0 σ := by
  subst hk
  exact g_callV X As rest hd hL hR hcs hA hs hcl hn hst he (fun r σ1 hq => by rcases hq with ⟨rfl, h2⟩ | ⟨x, rfl, h1, h2⟩; exact kn σ1 h2; exact ks x σ1 h1 h2)
theorem g_cSR (X : Cx p s m args c A D cA ad own cc mx) {K : MK} {ri : Nat} {Qn : ASt → Prop} {Qs : Nat → ASt → Prop} {index n : Nat} (As rest : List Value) (hd : decode cc pc = .ok (.invokestatic index, 3)) (hL : LkS index n own K) (hR : RmOk R K) (hcs : cells ≤ R.cells ∧ slots ≤ R.slots) (hA : ∀ q, adA ad q → A q) (hn : As.length = n) (hst : (rest.map fun v => v.category).sum ≤ 8) (hk : st0 = As.reverse ++ rest) (he : EvR ri K As σ Qn Qs) (kn : ∀ (σ1 : ASt), Qn σ1 → Wg p l e R s m args below meth c A D cA ad cells slots G (pc + 3) lv (.null :: rest) σ1) (ks : ∀ (x : Nat) (σ1 : ASt), shp x = (0, ri, 0) → Qs x σ1 → Wg p l e R s m args below meth c A D cA ad cells slots G (pc + 3) lv (.ref x :: rest) σ1) : Wg p l e R s m args below meth c A D cA ad cells slots G pc lv st0 σ := by
  subst hk
  exact g_callS X As rest hd hL hR hcs hA hn hst he (fun r σ1 hq => by rcases hq with ⟨rfl, h2⟩ | ⟨x, rfl, h1, h2⟩; exact kn σ1 h2; exact ks x σ1 h1 h2)
theorem g_cNZ (X : Cx p s m args c A D cA ad own cc mx) {K : MK} {QT QF : ASt → Prop} {index n : Nat} (As rest : List Value) (hd : decode cc pc = .ok (.invokestatic index, 3)) (hL : LkN index n own K) (hR : RmOk R K) (hcs : cells ≤ R.cells ∧ slots ≤ R.slots) (hA : ∀ q, adA ad q → A q) (hn : As.length = n) (hst : (rest.map fun v => v.category).sum ≤ 8) (hk : st0 = As.reverse ++ rest) (he : EvZ K As σ QT QF) (kt : ∀ (σ1 : ASt), QT σ1 → Wg p l e R s m args below meth c A D cA ad cells slots G (pc + 3) lv (.int (iI 1) :: rest) σ1) (kf : ∀ (σ1 : ASt), QF σ1 → Wg p l e R s m args below meth c A D cA ad cells slots G (pc + 3) lv (.int (iI 0) :: rest) σ1) : Wg p l e R s m args below meth c A D cA ad cells slots G pc lv st0 σ := by
  subst hk
  exact g_callN X As rest hd hL hR hcs hA hn hst he (fun r σ1 hq => by rcases hq with ⟨rfl, h2⟩ | ⟨rfl, h2⟩; exact kt σ1 h2; exact kf σ1 h2)
end GE
theorem adA_id {ad : Nat → Nat} : ∀ q, adA ad q → adA ad q := fun _ h => h
section GT
variable {p : Program} {l : Launch} {e : Env} {R : Room} {s : State} {m : MethodId} {args : Array Value} {below : List Frame} {meth : Method} {c : Code} {A : Nat → Prop} {D : va_G} {cA : Nat → ClassId} {ad : Nat → Nat} {cells slots : Nat} {G : State → Prop} {own : String} {cc : ByteArray} {mx : Nat} {pc : Nat} {lv lv' : List (Nat × Value)} {st st0 : List Value} {σ : ASt}
theorem g_tswIn (X : Cx p s m args c A D cA ad own cc mx) {dflt lo hi off : Int} {offs : Array Int} {len tgt : Nat} {x : Int} (j : Nat) (hd : decode cc pc = .ok (.tableswitch dflt lo hi offs, len)) (hx : i32 x) (hj : x = lo + (j : Int)) (hh : lo + (j : Int) ≤ hi) (ho : offs[j]? = some off) (ht : (pc : Int) + off = (tgt : Int)) (k : Wg p l e R s m args below meth c A D cA ad cells slots G tgt lv st σ) : Wg p l e R s m args below meth c A D cA ad cells slots G pc lv (.int (iI x) :: st) σ := by
  have e1 := iI_toInt hx
  exact fun H locs ls hP hS hl => lv_tableIn X.1 X.2.1 hd (by rw [e1]; omega) (by rw [e1]; omega) (by rw [e1, show (x - lo).toNat = j by omega]; exact ho) ht (k H locs ls hP hS hl)
theorem g_tswOut (X : Cx p s m args c A D cA ad own cc mx) {dflt lo hi : Int} {offs : Array Int} {len tgt : Nat} {x : Int} (hd : decode cc pc = .ok (.tableswitch dflt lo hi offs, len)) (hx : i32 x) (hj : x < lo ∨ hi < x) (ht : (pc : Int) + dflt = (tgt : Int)) (k : Wg p l e R s m args below meth c A D cA ad cells slots G tgt lv st σ) : Wg p l e R s m args below meth c A D cA ad cells slots G pc lv (.int (iI x) :: st) σ := by
  have e1 := iI_toInt hx
  exact fun H locs ls hP hS hl => lv_tableOut X.1 X.2.1 hd (by rw [e1]; exact hj) ht (k H locs ls hP hS hl)
end GT
end
section
/-! by program: the methods' tuples, their links, their rooms; shapes of fields and places -/
theorem inX0 : ∀ w ∈ u_ws RX0 TX0 6, w ∈ allW := by
  have h1 : ∀ w ∈ u_ws RX0 TX0 6, w ∈ lw_tbl := by decide +kernel
  have h2 : ∀ w ∈ u_ws RX0 TX0 6, goodWord w = true := by decide +kernel
  exact fun w h => List.mem_filter.mpr ⟨h1 w h, h2 w h⟩
theorem inX1 : ∀ w ∈ u_ws RX1 TX1 3, w ∈ allW := by
  have h1 : ∀ w ∈ u_ws RX1 TX1 3, w ∈ lw_tbl := by decide +kernel
  have h2 : ∀ w ∈ u_ws RX1 TX1 3, goodWord w = true := by decide +kernel
  exact fun w h => List.mem_filter.mpr ⟨h1 w h, h2 w h⟩
theorem inX2 : ∀ w ∈ u_ws RX2 TX2 2, w ∈ allW := by
  have h1 : ∀ w ∈ u_ws RX2 TX2 2, w ∈ lw_tbl := by decide +kernel
  have h2 : ∀ w ∈ u_ws RX2 TX2 2, goodWord w = true := by decide +kernel
  exact fun w h => List.mem_filter.mpr ⟨h1 w h, h2 w h⟩
theorem inX3 : ∀ w ∈ u_ws RX3 TX3 3, w ∈ allW := by
  have h1 : ∀ w ∈ u_ws RX3 TX3 3, w ∈ lw_tbl := by decide +kernel
  have h2 : ∀ w ∈ u_ws RX3 TX3 3, goodWord w = true := by decide +kernel
  exact fun w h => List.mem_filter.mpr ⟨h1 w h, h2 w h⟩
theorem inX4 : ∀ w ∈ u_ws RX4 TX4 2, w ∈ allW := by
  have h1 : ∀ w ∈ u_ws RX4 TX4 2, w ∈ lw_tbl := by decide +kernel
  have h2 : ∀ w ∈ u_ws RX4 TX4 2, goodWord w = true := by decide +kernel
  exact fun w h => List.mem_filter.mpr ⟨h1 w h, h2 w h⟩
theorem inX5 : ∀ w ∈ u_ws RX5 TX5 4, w ∈ allW := by
  have h1 : ∀ w ∈ u_ws RX5 TX5 4, w ∈ lw_tbl := by decide +kernel
  have h2 : ∀ w ∈ u_ws RX5 TX5 4, goodWord w = true := by decide +kernel
  exact fun w h => List.mem_filter.mpr ⟨h1 w h, h2 w h⟩
theorem inX6 : ∀ w ∈ u_ws RX6 TX6 2, w ∈ allW := by
  have h1 : ∀ w ∈ u_ws RX6 TX6 2, w ∈ lw_tbl := by decide +kernel
  have h2 : ∀ w ∈ u_ws RX6 TX6 2, goodWord w = true := by decide +kernel
  exact fun w h => List.mem_filter.mpr ⟨h1 w h, h2 w h⟩
theorem inX7 : ∀ w ∈ u_ws RX7 TX7 12, w ∈ allW := by
  have h1 : ∀ w ∈ u_ws RX7 TX7 12, w ∈ lw_tbl := by decide +kernel
  have h2 : ∀ w ∈ u_ws RX7 TX7 12, goodWord w = true := by decide +kernel
  exact fun w h => List.mem_filter.mpr ⟨h1 w h, h2 w h⟩
theorem inX8 : ∀ w ∈ u_ws RX8 TX8 34, w ∈ allW := by
  have h1 : ∀ w ∈ u_ws RX8 TX8 34, w ∈ lw_tbl := by decide +kernel
  have h2 : ∀ w ∈ u_ws RX8 TX8 34, goodWord w = true := by decide +kernel
  exact fun w h => List.mem_filter.mpr ⟨h1 w h, h2 w h⟩
abbrev K_X0_allows : MK := (yX0_allows, cX0_allows, 3, (some .boolean), { frames := 0, cells := 0, slots := 0, locals := 0 })
abbrev K_X0_becomeLike : MK := (yX0_becomeLike, cX0_becomeLike, 2, none, { frames := 1, cells := 0, slots := 0, locals := 26 })
abbrev K_X0_hasPlace : MK := (yX0_hasPlace, cX0_hasPlace, 2, (some .boolean), { frames := 0, cells := 0, slots := 0, locals := 0 })
abbrev K_X7_isWithin : MK := (yX7_isWithin, cX7_isWithin, 3, (some .boolean), { frames := 0, cells := 0, slots := 0, locals := 0 })
abbrev K_X0_isDigit : MK := (yX0_isDigit, cX0_isDigit, 1, (some .boolean), { frames := 1, cells := 0, slots := 0, locals := 22 })
abbrev K_X0_carried : MK := (yX0_carried, cX0_carried, 2, (some .int), { frames := 0, cells := 0, slots := 0, locals := 0 })
abbrev K_X0_canCarry : MK := (yX0_canCarry, cX0_canCarry, 4, (some .boolean), { frames := 2, cells := 0, slots := 0, locals := 42 })
abbrev K_X0_carryOnce : MK := (yX0_carryOnce, cX0_carryOnce, 4, none, { frames := 3, cells := 0, slots := 0, locals := 65 })
abbrev K_X0_greedyInto : MK := (yX0_greedyInto, cX0_greedyInto, 11, none, { frames := 1, cells := 0, slots := 0, locals := 21 })
abbrev K_X0_highestCarry : MK := (yX0_highestCarry, cX0_highestCarry, 4, (some .int), { frames := 3, cells := 0, slots := 0, locals := 65 })
abbrev K_X0_isRowOfSteps : MK := (yX0_isRowOfSteps, cX0_isRowOfSteps, 4, (some .boolean), { frames := 1, cells := 0, slots := 0, locals := 22 })
abbrev K_X0_kind : MK := (yX0_kind, cX0_kind, 2, (some .int), { frames := 0, cells := 0, slots := 0, locals := 0 })
abbrev K_X0_makeWorths : MK := (yX0_makeWorths, cX0_makeWorths, 8, none, { frames := 0, cells := 0, slots := 0, locals := 0 })
abbrev K_X0_settleAll : MK := (yX0_settleAll, cX0_settleAll, 4, (some .int), { frames := 4, cells := 0, slots := 0, locals := 88 })
abbrev K_X0_shiftInto : MK := (yX0_shiftInto, cX0_shiftInto, 6, none, { frames := 1, cells := 0, slots := 0, locals := 21 })
abbrev K_X0_tell : MK := (yX0_tell, cX0_tell, 5, none, { frames := 1, cells := 0, slots := 0, locals := 27 })
abbrev K_X0_valueBelow : MK := (yX0_valueBelow, cX0_valueBelow, 6, (some .long), { frames := 0, cells := 0, slots := 0, locals := 0 })
abbrev K_X0_turnAhead : MK := (yX0_turnAhead, cX0_turnAhead, 9, (some .long), { frames := 1, cells := 0, slots := 0, locals := 25 })
abbrev K_X0_valueOf : MK := (yX0_valueOf, cX0_valueOf, 2, (some .long), { frames := 1, cells := 0, slots := 0, locals := 25 })
abbrev K_X1_move : MK := (yX1_move, cX1_move, 3, none, { frames := 1, cells := 0, slots := 0, locals := 26 })
abbrev K_X1_dropEldest : MK := (yX1_dropEldest, cX1_dropEldest, 2, none, { frames := 2, cells := 0, slots := 0, locals := 48 })
abbrev K_X1_forget : MK := (yX1_forget, cX1_forget, 4, none, { frames := 2, cells := 0, slots := 0, locals := 48 })
abbrev K_X1_keep : MK := (yX1_keep, cX1_keep, 3, none, { frames := 3, cells := 0, slots := 0, locals := 69 })
abbrev K_X1_latestReel : MK := (yX1_latestReel, cX1_latestReel, 1, (some .int), { frames := 1, cells := 0, slots := 0, locals := 22 })
abbrev K_X1_takeLatest : MK := (yX1_takeLatest, cX1_takeLatest, 2, none, { frames := 1, cells := 0, slots := 0, locals := 26 })
abbrev K_X2_become : MK := (yX2_become, cX2_become, 3, none, { frames := 1, cells := 0, slots := 0, locals := 23 })
abbrev K_X2_hasPlace : MK := (yX2_hasPlace, cX2_hasPlace, 2, (some .boolean), { frames := 0, cells := 0, slots := 0, locals := 0 })
abbrev K_X2_digitsInto : MK := (yX2_digitsInto, cX2_digitsInto, 6, (some .boolean), { frames := 1, cells := 0, slots := 0, locals := 21 })
abbrev K_X2_hasRange : MK := (yX2_hasRange, cX2_hasRange, 3, (some .boolean), { frames := 0, cells := 0, slots := 0, locals := 0 })
abbrev K_X2_isMissing : MK := (yX2_isMissing, cX2_isMissing, 1, (some .boolean), { frames := 0, cells := 0, slots := 0, locals := 0 })
abbrev K_X3_firstFrom : MK := (yX3_firstFrom, cX3_firstFrom, 4, (some .int), { frames := 0, cells := 0, slots := 0, locals := 0 })
abbrev K_X5_add : MK := (yX5_add, cX5_add, 6, none, { frames := 1, cells := 0, slots := 0, locals := 23 })
abbrev K_X3_nextLeast : MK := (yX3_nextLeast, cX3_nextLeast, 9, (some .int), { frames := 0, cells := 0, slots := 0, locals := 0 })
abbrev K_X3_take : MK := (yX3_take, cX3_take, 12, none, { frames := 2, cells := 0, slots := 0, locals := 48 })
abbrev K_X3_make : MK := (yX3_make, cX3_make, 9, (some (.object "SummedBases$Rests")), { frames := 3, cells := 0, slots := 0, locals := 79 })
abbrev K_X6_add : MK := (yX6_add, cX6_add, 2, (some .boolean), { frames := 0, cells := 0, slots := 0, locals := 0 })
abbrev K_X6_isFigure : MK := (yX6_isFigure, cX6_isFigure, 1, (some .boolean), { frames := 1, cells := 0, slots := 0, locals := 22 })
abbrev K_X6_fault : MK := (yX6_fault, cX6_fault, 5, (some .int), { frames := 2, cells := 0, slots := 0, locals := 42 })
abbrev K_X6_numbersInto : MK := (yX6_numbersInto, cX6_numbersInto, 5, (some .int), { frames := 1, cells := 0, slots := 0, locals := 23 })
abbrev K_X7_addInto : MK := (yX7_addInto, cX7_addInto, 4, (some .boolean), { frames := 0, cells := 0, slots := 0, locals := 0 })
abbrev K_X7_reelAt : MK := (yX7_reelAt, cX7_reelAt, 2, (some (.object "SummedBases$Reel")), { frames := 1, cells := 0, slots := 0, locals := 22 })
abbrev K_X7_at : MK := (yX7_at, cX7_at, 5, (some .int), { frames := 2, cells := 0, slots := 0, locals := 43 })
abbrev K_X7_back : MK := (yX7_back, cX7_back, 2, (some .int), { frames := 2, cells := 0, slots := 0, locals := 47 })
abbrev K_X7_baseAt : MK := (yX7_baseAt, cX7_baseAt, 2, (some (.object "SummedBases$Base")), { frames := 1, cells := 0, slots := 0, locals := 22 })
abbrev K_X7_clearReel : MK := (yX7_clearReel, cX7_clearReel, 3, none, { frames := 3, cells := 0, slots := 0, locals := 71 })
abbrev K_X7_base : MK := (yX7_base, cX7_base, 7, (some .int), { frames := 4, cells := 0, slots := 0, locals := 93 })
abbrev K_X7_exchange : MK := (yX7_exchange, cX7_exchange, 6, (some .int), { frames := 4, cells := 0, slots := 0, locals := 91 })
abbrev K_X7_borrow : MK := (yX7_borrow, cX7_borrow, 4, (some .int), { frames := 5, cells := 0, slots := 0, locals := 116 })
abbrev K_X7_carry : MK := (yX7_carry, cX7_carry, 4, (some .int), { frames := 5, cells := 0, slots := 0, locals := 116 })
abbrev K_X7_copyDigits : MK := (yX7_copyDigits, cX7_copyDigits, 2, none, { frames := 1, cells := 0, slots := 0, locals := 26 })
abbrev K_X7_carryState : MK := (yX7_carryState, cX7_carryState, 5, none, { frames := 2, cells := 0, slots := 0, locals := 47 })
abbrev K_X7_rowAt : MK := (yX7_rowAt, cX7_rowAt, 2, (some (.object "SummedBases$LongRow")), { frames := 1, cells := 0, slots := 0, locals := 22 })
abbrev K_X7_copy : MK := (yX7_copy, cX7_copy, 8, (some .int), { frames := 2, cells := 0, slots := 0, locals := 43 })
abbrev K_X7_countReels : MK := (yX7_countReels, cX7_countReels, 4, (some .int), { frames := 2, cells := 0, slots := 0, locals := 43 })
abbrev K_X7_countRows : MK := (yX7_countRows, cX7_countRows, 4, (some .int), { frames := 2, cells := 0, slots := 0, locals := 43 })
abbrev K_X7_count : MK := (yX7_count, cX7_count, 2, (some .int), { frames := 3, cells := 0, slots := 0, locals := 66 })
abbrev K_X7_countNotZero : MK := (yX7_countNotZero, cX7_countNotZero, 6, (some .int), { frames := 0, cells := 0, slots := 0, locals := 0 })
abbrev K_X7_countUnlike : MK := (yX7_countUnlike, cX7_countUnlike, 4, (some .int), { frames := 0, cells := 0, slots := 0, locals := 0 })
abbrev K_X7_crossed : MK := (yX7_crossed, cX7_crossed, 9, (some .int), { frames := 2, cells := 0, slots := 0, locals := 51 })
abbrev K_X7_digit : MK := (yX7_digit, cX7_digit, 7, (some .int), { frames := 4, cells := 0, slots := 0, locals := 91 })
abbrev K_X7_empty : MK := (yX7_empty, cX7_empty, 3, (some .int), { frames := 4, cells := 0, slots := 0, locals := 93 })
abbrev K_X7_feed : MK := (yX7_feed, cX7_feed, 2, (some .int), { frames := 1, cells := 0, slots := 0, locals := 22 })
abbrev K_X7_fillReel : MK := (yX7_fillReel, cX7_fillReel, 5, (some .int), { frames := 3, cells := 0, slots := 0, locals := 71 })
abbrev K_X7_film : MK := (yX7_film, cX7_film, 7, (some .int), { frames := 2, cells := 0, slots := 0, locals := 45 })
abbrev K_X7_get : MK := (yX7_get, cX7_get, 4, (some .long), { frames := 2, cells := 0, slots := 0, locals := 43 })
abbrev K_X7_highestNotZero : MK := (yX7_highestNotZero, cX7_highestNotZero, 2, (some .int), { frames := 0, cells := 0, slots := 0, locals := 0 })
abbrev K_X7_image : MK := (yX7_image, cX7_image, 1, (some .int), { frames := 3, cells := 0, slots := 0, locals := 71 })
abbrev K_X7_isUnder : MK := (yX7_isUnder, cX7_isUnder, 2, (some .boolean), { frames := 0, cells := 0, slots := 0, locals := 0 })
abbrev K_X7_lay : MK := (yX7_lay, cX7_lay, 6, (some .int), { frames := 4, cells := 0, slots := 0, locals := 95 })
abbrev K_X7_like : MK := (yX7_like, cX7_like, 9, (some .int), { frames := 2, cells := 0, slots := 0, locals := 46 })
abbrev K_X7_of : MK := (yX7_of, cX7_of, 4, (some .int), { frames := 2, cells := 0, slots := 0, locals := 43 })
abbrev K_X7_turnTo : MK := (yX7_turnTo, cX7_turnTo, 7, (some .int), { frames := 4, cells := 0, slots := 0, locals := 91 })
abbrev K_X7_on : MK := (yX7_on, cX7_on, 7, (some .int), { frames := 5, cells := 0, slots := 0, locals := 117 })
abbrev K_X7_printInto : MK := (yX7_printInto, cX7_printInto, 5, (some .int), { frames := 1, cells := 0, slots := 0, locals := 23 })
abbrev K_X7_print : MK := (yX7_print, cX7_print, 5, (some .int), { frames := 2, cells := 0, slots := 0, locals := 47 })
abbrev K_X7_put : MK := (yX7_put, cX7_put, 6, (some .int), { frames := 2, cells := 0, slots := 0, locals := 43 })
abbrev K_X7_read : MK := (yX7_read, cX7_read, 6, (some .int), { frames := 4, cells := 0, slots := 0, locals := 95 })
abbrev K_X7_times : MK := (yX7_times, cX7_times, 6, (some .long), { frames := 0, cells := 0, slots := 0, locals := 0 })
abbrev K_X7_reckon : MK := (yX7_reckon, cX7_reckon, 7, (some .long), { frames := 1, cells := 0, slots := 0, locals := 25 })
abbrev K_X7_right : MK := (yX7_right, cX7_right, 6, (some .int), { frames := 5, cells := 0, slots := 0, locals := 117 })
abbrev K_X7_row : MK := (yX7_row, cX7_row, 4, (some .int), { frames := 2, cells := 0, slots := 0, locals := 45 })
abbrev K_X7_settle : MK := (yX7_settle, cX7_settle, 4, (some .int), { frames := 5, cells := 0, slots := 0, locals := 111 })
abbrev K_X7_shift : MK := (yX7_shift, cX7_shift, 6, (some .int), { frames := 4, cells := 0, slots := 0, locals := 91 })
abbrev K_X7_soon : MK := (yX7_soon, cX7_soon, 8, (some .int), { frames := 2, cells := 0, slots := 0, locals := 53 })
abbrev K_X7_write : MK := (yX7_write, cX7_write, 6, (some .int), { frames := 4, cells := 0, slots := 0, locals := 95 })
abbrev K_X7_sum : MK := (yX7_sum, cX7_sum, 10, (some .int), { frames := 5, cells := 0, slots := 0, locals := 120 })
abbrev K_X7_taken : MK := (yX7_taken, cX7_taken, 5, (some .int), { frames := 2, cells := 0, slots := 0, locals := 43 })
abbrev K_X7_told : MK := (yX7_told, cX7_told, 5, (some .int), { frames := 2, cells := 0, slots := 0, locals := 43 })
abbrev K_X7_top : MK := (yX7_top, cX7_top, 3, (some .long), { frames := 2, cells := 0, slots := 0, locals := 43 })
abbrev K_X7_undo : MK := (yX7_undo, cX7_undo, 1, (some .int), { frames := 3, cells := 0, slots := 0, locals := 71 })
abbrev K_X7_value : MK := (yX7_value, cX7_value, 4, (some .long), { frames := 2, cells := 0, slots := 0, locals := 46 })
abbrev K_X7_ways : MK := (yX7_ways, cX7_ways, 8, (some .long), { frames := 4, cells := 0, slots := 0, locals := 107 })
abbrev K_X7_worth : MK := (yX7_worth, cX7_worth, 5, (some .long), { frames := 2, cells := 0, slots := 0, locals := 43 })
abbrev K_X8_in : MK := (yX8_in, cX8_in, 6, (some .boolean), { frames := 0, cells := 0, slots := 0, locals := 0 })
abbrev K_X8_isReel : MK := (yX8_isReel, cX8_isReel, 1, (some .boolean), { frames := 1, cells := 0, slots := 0, locals := 25 })
abbrev K_X8_isEmpty : MK := (yX8_isEmpty, cX8_isEmpty, 2, (some .boolean), { frames := 0, cells := 0, slots := 0, locals := 0 })
abbrev K_X8_refusal : MK := (yX8_refusal, cX8_refusal, 2, (some .int), { frames := 2, cells := 0, slots := 0, locals := 45 })
abbrev K_X8_high : MK := (yX8_high, cX8_high, 2, (some .int), { frames := 0, cells := 0, slots := 0, locals := 0 })
abbrev K_X8_refusal_ : MK := (yX8_refusal_, cX8_refusal_, 5, (some .int), { frames := 3, cells := 0, slots := 0, locals := 66 })
abbrev K_X8_digitAt : MK := (yX8_digitAt, cX8_digitAt, 3, (some .int), { frames := 0, cells := 0, slots := 0, locals := 0 })
abbrev K_X8_at : MK := (yX8_at, cX8_at, 4, (some .int), { frames := 4, cells := 0, slots := 0, locals := 90 })
abbrev K_X8_back : MK := (yX8_back, cX8_back, 2, (some .int), { frames := 0, cells := 0, slots := 0, locals := 0 })
abbrev K_X8_isBase : MK := (yX8_isBase, cX8_isBase, 1, (some .boolean), { frames := 1, cells := 0, slots := 0, locals := 25 })
abbrev K_X8_step : MK := (yX8_step, cX8_step, 3, (some .int), { frames := 0, cells := 0, slots := 0, locals := 0 })
abbrev K_X8_fills : MK := (yX8_fills, cX8_fills, 9, none, { frames := 1, cells := 0, slots := 0, locals := 22 })
abbrev K_X8_moves : MK := (yX8_moves, cX8_moves, 4, none, { frames := 0, cells := 0, slots := 0, locals := 0 })
abbrev K_X8_forgets : MK := (yX8_forgets, cX8_forgets, 4, none, { frames := 1, cells := 0, slots := 0, locals := 23 })
abbrev K_X8_base : MK := (yX8_base, cX8_base, 6, (some .int), { frames := 2, cells := 0, slots := 0, locals := 50 })
abbrev K_X8_worth : MK := (yX8_worth, cX8_worth, 3, (some .long), { frames := 0, cells := 0, slots := 0, locals := 0 })
abbrev K_X8_can : MK := (yX8_can, cX8_can, 8, (some .boolean), { frames := 1, cells := 0, slots := 0, locals := 25 })
abbrev K_X8_does : MK := (yX8_does, cX8_does, 3, none, { frames := 1, cells := 0, slots := 0, locals := 23 })
abbrev K_X8_goes : MK := (yX8_goes, cX8_goes, 5, none, { frames := 1, cells := 0, slots := 0, locals := 22 })
abbrev K_X8_borrow : MK := (yX8_borrow, cX8_borrow, 4, (some .int), { frames := 4, cells := 0, slots := 0, locals := 90 })
abbrev K_X8_carry : MK := (yX8_carry, cX8_carry, 4, (some .int), { frames := 4, cells := 0, slots := 0, locals := 90 })
abbrev K_X8_comes : MK := (yX8_comes, cX8_comes, 7, (some .long), { frames := 0, cells := 0, slots := 0, locals := 0 })
abbrev K_X8_isRow : MK := (yX8_isRow, cX8_isRow, 1, (some .boolean), { frames := 1, cells := 0, slots := 0, locals := 25 })
abbrev K_X8_copy : MK := (yX8_copy, cX8_copy, 7, (some .int), { frames := 2, cells := 0, slots := 0, locals := 45 })
abbrev K_X8_full : MK := (yX8_full, cX8_full, 3, (some .int), { frames := 1, cells := 0, slots := 0, locals := 21 })
abbrev K_X8_count : MK := (yX8_count, cX8_count, 4, (some .int), { frames := 2, cells := 0, slots := 0, locals := 43 })
abbrev K_X8_makes : MK := (yX8_makes, cX8_makes, 7, none, { frames := 1, cells := 0, slots := 0, locals := 22 })
abbrev K_X8_crossed : MK := (yX8_crossed, cX8_crossed, 7, (some .int), { frames := 2, cells := 0, slots := 0, locals := 48 })
abbrev K_X8_digit : MK := (yX8_digit, cX8_digit, 6, (some .int), { frames := 4, cells := 0, slots := 0, locals := 90 })
abbrev K_X8_empty : MK := (yX8_empty, cX8_empty, 2, (some .int), { frames := 2, cells := 0, slots := 0, locals := 46 })
abbrev K_X8_feed : MK := (yX8_feed, cX8_feed, 2, (some .int), { frames := 1, cells := 0, slots := 0, locals := 25 })
abbrev K_X8_filled : MK := (yX8_filled, cX8_filled, 4, (some .int), { frames := 1, cells := 0, slots := 0, locals := 22 })
abbrev K_X8_row : MK := (yX8_row, cX8_row, 4, (some .int), { frames := 2, cells := 0, slots := 0, locals := 45 })
abbrev K_X8_film : MK := (yX8_film, cX8_film, 5, (some .int), { frames := 3, cells := 0, slots := 0, locals := 68 })
abbrev K_X8_get : MK := (yX8_get, cX8_get, 3, (some .long), { frames := 2, cells := 0, slots := 0, locals := 45 })
abbrev K_X8_highest : MK := (yX8_highest, cX8_highest, 3, (some .int), { frames := 1, cells := 0, slots := 0, locals := 22 })
abbrev K_X8_takes : MK := (yX8_takes, cX8_takes, 4, (some .int), { frames := 1, cells := 0, slots := 0, locals := 22 })
abbrev K_X8_holds : MK := (yX8_holds, cX8_holds, 3, (some .int), { frames := 2, cells := 0, slots := 0, locals := 46 })
abbrev K_X8_image : MK := (yX8_image, cX8_image, 2, (some .int), { frames := 2, cells := 0, slots := 0, locals := 43 })
abbrev K_X8_isFigure : MK := (yX8_isFigure, cX8_isFigure, 1, (some .boolean), { frames := 1, cells := 0, slots := 0, locals := 25 })
abbrev K_X8_isLegal : MK := (yX8_isLegal, cX8_isLegal, 5, (some .boolean), { frames := 1, cells := 0, slots := 0, locals := 22 })
abbrev K_X8_kind : MK := (yX8_kind, cX8_kind, 3, (some .int), { frames := 1, cells := 0, slots := 0, locals := 22 })
abbrev K_X8_lay : MK := (yX8_lay, cX8_lay, 5, (some .int), { frames := 3, cells := 0, slots := 0, locals := 68 })
abbrev K_X8_leaves : MK := (yX8_leaves, cX8_leaves, 8, none, { frames := 0, cells := 0, slots := 0, locals := 0 })
abbrev K_X8_valueOf : MK := (yX8_valueOf, cX8_valueOf, 5, (some .long), { frames := 1, cells := 0, slots := 0, locals := 22 })
abbrev K_X8_like : MK := (yX8_like, cX8_like, 6, (some .int), { frames := 2, cells := 0, slots := 0, locals := 46 })
abbrev K_X8_of : MK := (yX8_of, cX8_of, 3, (some .int), { frames := 2, cells := 0, slots := 0, locals := 45 })
abbrev K_X8_on : MK := (yX8_on, cX8_on, 5, (some .int), { frames := 2, cells := 0, slots := 0, locals := 48 })
abbrev K_X8_prints : MK := (yX8_prints, cX8_prints, 4, (some .int), { frames := 2, cells := 0, slots := 0, locals := 44 })
abbrev K_X8_print : MK := (yX8_print, cX8_print, 4, (some .int), { frames := 3, cells := 0, slots := 0, locals := 67 })
abbrev K_X8_put : MK := (yX8_put, cX8_put, 5, (some .int), { frames := 2, cells := 0, slots := 0, locals := 45 })
abbrev K_X8_reads : MK := (yX8_reads, cX8_reads, 4, (some .int), { frames := 2, cells := 0, slots := 0, locals := 45 })
abbrev K_X8_read : MK := (yX8_read, cX8_read, 5, (some .int), { frames := 3, cells := 0, slots := 0, locals := 68 })
abbrev K_X8_right : MK := (yX8_right, cX8_right, 3, (some .int), { frames := 3, cells := 0, slots := 0, locals := 66 })
abbrev K_X8_settle : MK := (yX8_settle, cX8_settle, 5, (some .int), { frames := 3, cells := 0, slots := 0, locals := 66 })
abbrev K_X8_shift : MK := (yX8_shift, cX8_shift, 5, (some .int), { frames := 2, cells := 0, slots := 0, locals := 45 })
abbrev K_X8_soon : MK := (yX8_soon, cX8_soon, 7, (some .int), { frames := 4, cells := 0, slots := 0, locals := 90 })
abbrev K_X8_sum : MK := (yX8_sum, cX8_sum, 8, (some .int), { frames := 3, cells := 0, slots := 0, locals := 68 })
abbrev K_X8_taken : MK := (yX8_taken, cX8_taken, 4, (some .int), { frames := 2, cells := 0, slots := 0, locals := 45 })
abbrev K_X8_told : MK := (yX8_told, cX8_told, 3, (some .int), { frames := 2, cells := 0, slots := 0, locals := 46 })
abbrev K_X8_top : MK := (yX8_top, cX8_top, 2, (some .long), { frames := 2, cells := 0, slots := 0, locals := 45 })
abbrev K_X8_undo : MK := (yX8_undo, cX8_undo, 2, (some .int), { frames := 2, cells := 0, slots := 0, locals := 50 })
abbrev K_X8_value : MK := (yX8_value, cX8_value, 2, (some .long), { frames := 3, cells := 0, slots := 0, locals := 66 })
abbrev K_X8_ways : MK := (yX8_ways, cX8_ways, 13, (some .long), { frames := 2, cells := 0, slots := 0, locals := 45 })
abbrev K_X8_worth_ : MK := (yX8_worth_, cX8_worth_, 4, (some .long), { frames := 2, cells := 0, slots := 0, locals := 45 })
abbrev K_X8_write : MK := (yX8_write, cX8_write, 5, (some .int), { frames := 3, cells := 0, slots := 0, locals := 68 })
theorem lm_X0_31 : LkM RX0 31 Lib.Math.min.name Lib.Math.min.code 2 .int := ⟨(wmem 154 (by decide +kernel) rfl), (wmem 155 (by decide +kernel) rfl), (wmem 51 (by decide +kernel) rfl), (wmem 156 (by decide +kernel) rfl)⟩
theorem lm_X0_37 : LkM RX0 37 Lib.Math.max.name Lib.Math.max.code 2 .int := ⟨(wmem 157 (by decide +kernel) rfl), (wmem 158 (by decide +kernel) rfl), (wmem 51 (by decide +kernel) rfl), (wmem 159 (by decide +kernel) rfl)⟩
theorem lm_X1_25 : LkM RX1 25 Lib.Math.min.name Lib.Math.min.code 2 .int := ⟨(wmem 383 (by decide +kernel) rfl), (wmem 155 (by decide +kernel) rfl), (wmem 51 (by decide +kernel) rfl), (wmem 156 (by decide +kernel) rfl)⟩
theorem lm_X2_19 : LkM RX2 19 Lib.Math.min.name Lib.Math.min.code 2 .int := ⟨(wmem 570 (by decide +kernel) rfl), (wmem 155 (by decide +kernel) rfl), (wmem 51 (by decide +kernel) rfl), (wmem 156 (by decide +kernel) rfl)⟩
theorem lm_X2_25 : LkM RX2 25 Lib.Math.max.name Lib.Math.max.code 2 .int := ⟨(wmem 571 (by decide +kernel) rfl), (wmem 158 (by decide +kernel) rfl), (wmem 51 (by decide +kernel) rfl), (wmem 159 (by decide +kernel) rfl)⟩
theorem lm_X5_24 : LkM RX5 24 Lib.Math.min.name Lib.Math.min.code 2 .int := ⟨(wmem 493 (by decide +kernel) rfl), (wmem 155 (by decide +kernel) rfl), (wmem 51 (by decide +kernel) rfl), (wmem 156 (by decide +kernel) rfl)⟩
theorem lm_X6_23 : LkM RX6 23 Lib.Math.min.name Lib.Math.min.code 2 .int := ⟨(wmem 544 (by decide +kernel) rfl), (wmem 155 (by decide +kernel) rfl), (wmem 51 (by decide +kernel) rfl), (wmem 156 (by decide +kernel) rfl)⟩
theorem lm_X7_313 : LkM RX7 313 Lib.Math.min.name Lib.Math.min.code 2 .int := ⟨(wmem 335 (by decide +kernel) rfl), (wmem 155 (by decide +kernel) rfl), (wmem 51 (by decide +kernel) rfl), (wmem 156 (by decide +kernel) rfl)⟩
theorem lm_X7_318 : LkM RX7 318 Lib.Math.max.name Lib.Math.max.code 2 .int := ⟨(wmem 519 (by decide +kernel) rfl), (wmem 158 (by decide +kernel) rfl), (wmem 51 (by decide +kernel) rfl), (wmem 159 (by decide +kernel) rfl)⟩
set_option maxRecDepth 100000 in
theorem ln_X0_27 : LkN 27 3 RX0 K_X7_isWithin := ⟨fun U h => h.1, (wmem 45 (by decide +kernel) rfl), (wmem 266 rfl rfl), ⟨by decide, by decide, by decide +kernel⟩, (wmem 265 (by decide +kernel) rfl)⟩
set_option maxRecDepth 100000 in
theorem ln_X1_41 : LkN 41 3 RX1 K_X7_isWithin := ⟨fun U h => h.2.2, (wmem 45 (by decide +kernel) rfl), (wmem 266 rfl rfl), ⟨by decide, by decide, by decide +kernel⟩, (wmem 265 (by decide +kernel) rfl)⟩
set_option maxRecDepth 100000 in
theorem ln_X6_29 : LkN 29 3 RX6 K_X7_isWithin := ⟨fun U h => h.2.1, (wmem 45 (by decide +kernel) rfl), (wmem 266 rfl rfl), ⟨by decide, by decide, by decide +kernel⟩, (wmem 265 (by decide +kernel) rfl)⟩
set_option maxRecDepth 100000 in
theorem ls_X0_69 : LkS 69 1 RX0 K_X0_isDigit := ⟨⟨(wmem 396 (by decide +kernel) rfl), (wmem 50 (by decide +kernel) rfl), (wmem 398 rfl rfl), by decide, by decide, by decide +kernel⟩, (wmem 397 (by decide +kernel) rfl)⟩
set_option maxRecDepth 100000 in
theorem ls_X6_19 : LkS 19 1 RX6 K_X6_isFigure := ⟨⟨(wmem 536 (by decide +kernel) rfl), (wmem 46 (by decide +kernel) rfl), (wmem 538 rfl rfl), by decide, by decide, by decide +kernel⟩, (wmem 537 (by decide +kernel) rfl)⟩
set_option maxRecDepth 100000 in
theorem ls_X7_102 : LkS 102 3 RX7 K_X7_isWithin := ⟨⟨(wmem 264 (by decide +kernel) rfl), (wmem 45 (by decide +kernel) rfl), (wmem 266 rfl rfl), by decide, by decide, by decide +kernel⟩, (wmem 265 (by decide +kernel) rfl)⟩
set_option maxRecDepth 100000 in
theorem ls_X7_130 : LkS 130 2 RX7 K_X7_isUnder := ⟨⟨(wmem 316 (by decide +kernel) rfl), (wmem 45 (by decide +kernel) rfl), (wmem 318 rfl rfl), by decide, by decide, by decide +kernel⟩, (wmem 317 (by decide +kernel) rfl)⟩
set_option maxRecDepth 100000 in
theorem ls_X7_151 : LkS 151 1 RX7 K_X7_countNotZero := ⟨⟨(wmem 337 (by decide +kernel) rfl), (wmem 45 (by decide +kernel) rfl), (wmem 339 rfl rfl), by decide, by decide, by decide +kernel⟩, (wmem 338 (by decide +kernel) rfl)⟩
set_option maxRecDepth 100000 in
theorem ls_X7_155 : LkS 155 1 RX7 K_X7_highestNotZero := ⟨⟨(wmem 352 (by decide +kernel) rfl), (wmem 45 (by decide +kernel) rfl), (wmem 354 rfl rfl), by decide, by decide, by decide +kernel⟩, (wmem 353 (by decide +kernel) rfl)⟩
set_option maxRecDepth 100000 in
theorem ls_X7_185 : LkS 185 2 RX7 K_X7_copyDigits := ⟨⟨(wmem 332 (by decide +kernel) rfl), (wmem 45 (by decide +kernel) rfl), (wmem 334 rfl rfl), by decide, by decide, by decide +kernel⟩, (wmem 333 (by decide +kernel) rfl)⟩
set_option maxRecDepth 100000 in
theorem ls_X7_197 : LkS 197 3 RX7 K_X7_addInto := ⟨⟨(wmem 465 (by decide +kernel) rfl), (wmem 45 (by decide +kernel) rfl), (wmem 467 rfl rfl), by decide, by decide, by decide +kernel⟩, (wmem 466 (by decide +kernel) rfl)⟩
set_option maxRecDepth 100000 in
theorem ls_X7_201 : LkS 201 4 RX7 K_X7_reckon := ⟨⟨(wmem 468 (by decide +kernel) rfl), (wmem 45 (by decide +kernel) rfl), (wmem 470 rfl rfl), by decide, by decide, by decide +kernel⟩, (wmem 469 (by decide +kernel) rfl)⟩
set_option maxRecDepth 100000 in
theorem ls_X7_209 : LkS 209 2 RX7 K_X7_countUnlike := ⟨⟨(wmem 434 (by decide +kernel) rfl), (wmem 45 (by decide +kernel) rfl), (wmem 436 rfl rfl), by decide, by decide, by decide +kernel⟩, (wmem 435 (by decide +kernel) rfl)⟩
set_option maxRecDepth 100000 in
theorem ls_X7_232 : LkS 232 2 RX7 K_X7_printInto := ⟨⟨(wmem 516 (by decide +kernel) rfl), (wmem 45 (by decide +kernel) rfl), (wmem 518 rfl rfl), by decide, by decide, by decide +kernel⟩, (wmem 517 (by decide +kernel) rfl)⟩
set_option maxRecDepth 100000 in
theorem ls_X7_284 : LkS 284 4 RX7 K_X7_carryState := ⟨⟨(wmem 614 (by decide +kernel) rfl), (wmem 45 (by decide +kernel) rfl), (wmem 616 rfl rfl), by decide, by decide, by decide +kernel⟩, (wmem 615 (by decide +kernel) rfl)⟩
set_option maxRecDepth 100000 in
theorem ls_X7_305 : LkS 305 3 RX7 K_X7_times := ⟨⟨(wmem 471 (by decide +kernel) rfl), (wmem 45 (by decide +kernel) rfl), (wmem 473 rfl rfl), by decide, by decide, by decide +kernel⟩, (wmem 472 (by decide +kernel) rfl)⟩
set_option maxRecDepth 100000 in
theorem ls_X7_79 : LkS 79 2 RX7 K_X0_isRowOfSteps := ⟨⟨(wmem 267 (by decide +kernel) rfl), (wmem 50 (by decide +kernel) rfl), (wmem 269 rfl rfl), by decide, by decide, by decide +kernel⟩, (wmem 268 (by decide +kernel) rfl)⟩
set_option maxRecDepth 100000 in
theorem ls_X8_104 : LkS 104 3 RX8 K_X8_in := ⟨⟨(wmem 765 (by decide +kernel) rfl), (wmem 54 (by decide +kernel) rfl), (wmem 767 rfl rfl), by decide, by decide, by decide +kernel⟩, (wmem 766 (by decide +kernel) rfl)⟩
set_option maxRecDepth 100000 in
theorem ls_X8_114 : LkS 114 1 RX8 K_X8_isBase := ⟨⟨(wmem 761 (by decide +kernel) rfl), (wmem 54 (by decide +kernel) rfl), (wmem 763 rfl rfl), by decide, by decide, by decide +kernel⟩, (wmem 762 (by decide +kernel) rfl)⟩
set_option maxRecDepth 100000 in
theorem ls_X8_149 : LkS 149 1 RX8 K_X8_isReel := ⟨⟨(wmem 807 (by decide +kernel) rfl), (wmem 54 (by decide +kernel) rfl), (wmem 809 rfl rfl), by decide, by decide, by decide +kernel⟩, (wmem 808 (by decide +kernel) rfl)⟩
set_option maxRecDepth 100000 in
theorem ls_X8_211 : LkS 211 4 RX8 K_X8_comes := ⟨⟨(wmem 933 (by decide +kernel) rfl), (wmem 54 (by decide +kernel) rfl), (wmem 935 rfl rfl), by decide, by decide, by decide +kernel⟩, (wmem 934 (by decide +kernel) rfl)⟩
set_option maxRecDepth 100000 in
theorem ls_X8_251 : LkS 251 1 RX8 K_X8_isRow := ⟨⟨(wmem 986 (by decide +kernel) rfl), (wmem 54 (by decide +kernel) rfl), (wmem 988 rfl rfl), by decide, by decide, by decide +kernel⟩, (wmem 987 (by decide +kernel) rfl)⟩
theorem la_X0_55 : LkA RX0 55 := ⟨(wmem 621 (by decide +kernel) rfl), (wmem 290 (by decide +kernel) rfl), (wmem 289 (by decide +kernel) rfl), (wmem 55 (by decide +kernel) rfl)⟩
theorem la_X1_31 : LkA RX1 31 := ⟨(wmem 288 (by decide +kernel) rfl), (wmem 290 (by decide +kernel) rfl), (wmem 289 (by decide +kernel) rfl), (wmem 55 (by decide +kernel) rfl)⟩
theorem la_X7_274 : LkA RX7 274 := ⟨(wmem 336 (by decide +kernel) rfl), (wmem 290 (by decide +kernel) rfl), (wmem 289 (by decide +kernel) rfl), (wmem 55 (by decide +kernel) rfl)⟩
theorem lc_X0_46 : Cond.constantLong RX0 46 (1000000000) ∈ allW := (wmem 164 (by decide +kernel) rfl)
theorem lc_X0_88 : Cond.constantLong RX0 88 (-9223372036854775808) ∈ allW := (wmem 459 (by decide +kernel) rfl)
theorem lc_X2_32 : Cond.constantLong RX2 32 (99) ∈ allW := (wmem 605 (by decide +kernel) rfl)
theorem lc_X3_69 : Cond.constantLong RX3 69 (9223372036854775807) ∈ allW := (wmem 506 (by decide +kernel) rfl)
theorem lc_X7_117 : Cond.constantLong RX7 117 (-9223372036854775808) ∈ allW := (wmem 307 (by decide +kernel) rfl)
theorem lc_X7_189 : Cond.constant RX7 189 (-100000) ∈ allW := (wmem 449 (by decide +kernel) rfl)
theorem lc_X7_190 : Cond.constant RX7 190 (100000) ∈ allW := (wmem 450 (by decide +kernel) rfl)
theorem lc_X7_195 : Cond.constantLong RX7 195 (1000) ∈ allW := (wmem 460 (by decide +kernel) rfl)
theorem lc_X7_213 : Cond.constantLong RX7 213 (1000000000) ∈ allW := (wmem 483 (by decide +kernel) rfl)
theorem lc_X7_224 : Cond.constantLong RX7 224 (-1) ∈ allW := (wmem 507 (by decide +kernel) rfl)
theorem lc_X8_102 : Cond.constantLong RX8 102 (2) ∈ allW := (wmem 764 (by decide +kernel) rfl)
theorem lc_X8_108 : Cond.constantLong RX8 108 (1000000000) ∈ allW := (wmem 648 (by decide +kernel) rfl)
theorem lc_X8_118 : Cond.constantLong RX8 118 (8) ∈ allW := (wmem 768 (by decide +kernel) rfl)
theorem lc_X8_127 : Cond.constantLong RX8 127 (-9223372036854775808) ∈ allW := (wmem 789 (by decide +kernel) rfl)
theorem lc_X8_133 : Cond.constantLong RX8 133 (3) ∈ allW := (wmem 802 (by decide +kernel) rfl)
theorem lc_X8_135 : Cond.constantLong RX8 135 (5) ∈ allW := (wmem 810 (by decide +kernel) rfl)
theorem lc_X8_186 : Cond.constantLong RX8 186 (99) ∈ allW := (wmem 883 (by decide +kernel) rfl)
theorem lc_X8_199 : Cond.constantLong RX8 199 (-9) ∈ allW := (wmem 916 (by decide +kernel) rfl)
theorem lc_X8_201 : Cond.constantLong RX8 201 (9) ∈ allW := (wmem 917 (by decide +kernel) rfl)
theorem lc_X8_203 : Cond.constantLong RX8 203 (-100000) ∈ allW := (wmem 922 (by decide +kernel) rfl)
theorem lc_X8_205 : Cond.constantLong RX8 205 (100000) ∈ allW := (wmem 923 (by decide +kernel) rfl)
theorem lc_X8_207 : Cond.constantLong RX8 207 (-1) ∈ allW := (wmem 936 (by decide +kernel) rfl)
theorem lc_X8_209 : Cond.constantLong RX8 209 (4) ∈ allW := (wmem 932 (by decide +kernel) rfl)
theorem lc_X8_215 : Cond.constantLong RX8 215 (7919) ∈ allW := (wmem 949 (by decide +kernel) rfl)
theorem lc_X8_217 : Cond.constantLong RX8 217 (16383) ∈ allW := (wmem 950 (by decide +kernel) rfl)
theorem lc_X8_232 : Cond.constantLong RX8 232 (127) ∈ allW := (wmem 967 (by decide +kernel) rfl)
theorem lc_X8_240 : Cond.constantLong RX8 240 (48) ∈ allW := (wmem 980 (by decide +kernel) rfl)
theorem lc_X8_242 : Cond.constantLong RX8 242 (57) ∈ allW := (wmem 981 (by decide +kernel) rfl)
theorem lf_X0_15 : LkF RX0 15 0 2 := ⟨(RX0, TX0, 6), tyX0 2, rfl, by decide, (wmem 169 (by decide +kernel) rfl), inX0, tyX0_ok 2 (by decide)⟩
theorem lf_X0_40 : LkF RX0 40 0 3 := ⟨(RX0, TX0, 6), tyX0 3, rfl, by decide, (wmem 172 (by decide +kernel) rfl), inX0, tyX0_ok 3 (by decide)⟩
theorem lf_X0_48 : LkF RX0 48 0 4 := ⟨(RX0, TX0, 6), tyX0 4, rfl, by decide, (wmem 176 (by decide +kernel) rfl), inX0, tyX0_ok 4 (by decide)⟩
theorem lf_X0_51 : LkF RX0 51 0 5 := ⟨(RX0, TX0, 6), tyX0 5, rfl, by decide, (wmem 177 (by decide +kernel) rfl), inX0, tyX0_ok 5 (by decide)⟩
theorem lf_X0_9 : LkF RX0 9 0 1 := ⟨(RX0, TX0, 6), tyX0 1, rfl, by decide, (wmem 167 (by decide +kernel) rfl), inX0, tyX0_ok 1 (by decide)⟩
theorem lf_X1_11 : LkF RX1 11 1 0 := ⟨(RX1, TX1, 3), tyX1 0, rfl, by decide, (wmem 91 (by decide +kernel) rfl), inX1, tyX1_ok 0 (by decide)⟩
theorem lf_X1_15 : LkF RX1 15 1 1 := ⟨(RX1, TX1, 3), tyX1 1, rfl, by decide, (wmem 92 (by decide +kernel) rfl), inX1, tyX1_ok 1 (by decide)⟩
theorem lf_X1_18 : LkF RX1 18 1 2 := ⟨(RX1, TX1, 3), tyX1 2, rfl, by decide, (wmem 93 (by decide +kernel) rfl), inX1, tyX1_ok 2 (by decide)⟩
theorem lf_X2_11 : LkF RX2 11 2 0 := ⟨(RX2, TX2, 2), tyX2 0, rfl, by decide, (wmem 211 (by decide +kernel) rfl), inX2, tyX2_ok 0 (by decide)⟩
theorem lf_X2_15 : LkF RX2 15 2 1 := ⟨(RX2, TX2, 2), tyX2 1, rfl, by decide, (wmem 213 (by decide +kernel) rfl), inX2, tyX2_ok 1 (by decide)⟩
theorem lf_X3_12 : LkF RX3 12 3 0 := ⟨(RX3, TX3, 3), tyX3 0, rfl, by decide, (wmem 135 (by decide +kernel) rfl), inX3, tyX3_ok 0 (by decide)⟩
theorem lf_X3_18 : LkF RX3 18 3 1 := ⟨(RX3, TX3, 3), tyX3 1, rfl, by decide, (wmem 136 (by decide +kernel) rfl), inX3, tyX3_ok 1 (by decide)⟩
theorem lf_X3_21 : LkF RX3 21 3 2 := ⟨(RX3, TX3, 3), tyX3 2, rfl, by decide, (wmem 137 (by decide +kernel) rfl), inX3, tyX3_ok 2 (by decide)⟩
theorem lf_X3_31 : LkF RX3 31 0 2 := ⟨(RX0, TX0, 6), tyX0 2, rfl, by decide, (wmem 170 (by decide +kernel) rfl), inX0, tyX0_ok 2 (by decide)⟩
theorem lf_X3_35 : LkF RX3 35 5 3 := ⟨(RX5, TX5, 4), tyX5 3, rfl, by decide, (wmem 123 (by decide +kernel) rfl), inX5, tyX5_ok 3 (by decide)⟩
theorem lf_X3_43 : LkF RX3 43 0 4 := ⟨(RX0, TX0, 6), tyX0 4, rfl, by decide, (wmem 174 (by decide +kernel) rfl), inX0, tyX0_ok 4 (by decide)⟩
theorem lf_X3_58 : LkF RX3 58 5 0 := ⟨(RX5, TX5, 4), tyX5 0, rfl, by decide, (wmem 115 (by decide +kernel) rfl), inX5, tyX5_ok 0 (by decide)⟩
theorem lf_X3_61 : LkF RX3 61 5 1 := ⟨(RX5, TX5, 4), tyX5 1, rfl, by decide, (wmem 117 (by decide +kernel) rfl), inX5, tyX5_ok 1 (by decide)⟩
theorem lf_X3_64 : LkF RX3 64 5 2 := ⟨(RX5, TX5, 4), tyX5 2, rfl, by decide, (wmem 120 (by decide +kernel) rfl), inX5, tyX5_ok 2 (by decide)⟩
theorem lf_X5_13 : LkF RX5 13 5 1 := ⟨(RX5, TX5, 4), tyX5 1, rfl, by decide, (wmem 116 (by decide +kernel) rfl), inX5, tyX5_ok 1 (by decide)⟩
theorem lf_X5_16 : LkF RX5 16 5 2 := ⟨(RX5, TX5, 4), tyX5 2, rfl, by decide, (wmem 119 (by decide +kernel) rfl), inX5, tyX5_ok 2 (by decide)⟩
theorem lf_X5_20 : LkF RX5 20 5 3 := ⟨(RX5, TX5, 4), tyX5 3, rfl, by decide, (wmem 122 (by decide +kernel) rfl), inX5, tyX5_ok 3 (by decide)⟩
theorem lf_X5_9 : LkF RX5 9 5 0 := ⟨(RX5, TX5, 4), tyX5 0, rfl, by decide, (wmem 114 (by decide +kernel) rfl), inX5, tyX5_ok 0 (by decide)⟩
theorem lf_X6_11 : LkF RX6 11 6 0 := ⟨(RX6, TX6, 2), tyX6 0, rfl, by decide, (wmem 76 (by decide +kernel) rfl), inX6, tyX6_ok 0 (by decide)⟩
theorem lf_X6_15 : LkF RX6 15 6 1 := ⟨(RX6, TX6, 2), tyX6 1, rfl, by decide, (wmem 77 (by decide +kernel) rfl), inX6, tyX6_ok 1 (by decide)⟩
theorem lf_X7_110 : LkF RX7 110 0 3 := ⟨(RX0, TX0, 6), tyX0 3, rfl, by decide, (wmem 173 (by decide +kernel) rfl), inX0, tyX0_ok 3 (by decide)⟩
theorem lf_X7_119 : LkF RX7 119 0 2 := ⟨(RX0, TX0, 6), tyX0 2, rfl, by decide, (wmem 171 (by decide +kernel) rfl), inX0, tyX0_ok 2 (by decide)⟩
theorem lf_X7_123 : LkF RX7 123 0 1 := ⟨(RX0, TX0, 6), tyX0 1, rfl, by decide, (wmem 168 (by decide +kernel) rfl), inX0, tyX0_ok 1 (by decide)⟩
theorem lf_X7_126 : LkF RX7 126 0 5 := ⟨(RX0, TX0, 6), tyX0 5, rfl, by decide, (wmem 178 (by decide +kernel) rfl), inX0, tyX0_ok 5 (by decide)⟩
theorem lf_X7_13 : LkF RX7 13 7 0 := ⟨(RX7, TX7, 12), tyX7 0, rfl, by decide, (wmem 219 (by decide +kernel) rfl), inX7, tyX7_ok 0 (by decide)⟩
theorem lf_X7_141 : LkF RX7 141 0 0 := ⟨(RX0, TX0, 6), tyX0 0, rfl, by decide, (wmem 166 (by decide +kernel) rfl), inX0, tyX0_ok 0 (by decide)⟩
theorem lf_X7_144 : LkF RX7 144 4 1 := ⟨(RX4, TX4, 2), tyX4 1, rfl, by decide, (wmem 200 (by decide +kernel) rfl), inX4, tyX4_ok 1 (by decide)⟩
theorem lf_X7_19 : LkF RX7 19 7 1 := ⟨(RX7, TX7, 12), tyX7 1, rfl, by decide, (wmem 220 (by decide +kernel) rfl), inX7, tyX7_ok 1 (by decide)⟩
theorem lf_X7_219 : LkF RX7 219 5 3 := ⟨(RX5, TX5, 4), tyX5 3, rfl, by decide, (wmem 124 (by decide +kernel) rfl), inX5, tyX5_ok 3 (by decide)⟩
theorem lf_X7_226 : LkF RX7 226 5 1 := ⟨(RX5, TX5, 4), tyX5 1, rfl, by decide, (wmem 118 (by decide +kernel) rfl), inX5, tyX5_ok 1 (by decide)⟩
theorem lf_X7_229 : LkF RX7 229 5 2 := ⟨(RX5, TX5, 4), tyX5 2, rfl, by decide, (wmem 121 (by decide +kernel) rfl), inX5, tyX5_ok 2 (by decide)⟩
theorem lf_X7_238 : LkF RX7 238 6 1 := ⟨(RX6, TX6, 2), tyX6 1, rfl, by decide, (wmem 78 (by decide +kernel) rfl), inX6, tyX6_ok 1 (by decide)⟩
theorem lf_X7_246 : LkF RX7 246 1 2 := ⟨(RX1, TX1, 3), tyX1 2, rfl, by decide, (wmem 94 (by decide +kernel) rfl), inX1, tyX1_ok 2 (by decide)⟩
theorem lf_X7_25 : LkF RX7 25 7 2 := ⟨(RX7, TX7, 12), tyX7 2, rfl, by decide, (wmem 221 (by decide +kernel) rfl), inX7, tyX7_ok 2 (by decide)⟩
theorem lf_X7_268 : LkF RX7 268 2 0 := ⟨(RX2, TX2, 2), tyX2 0, rfl, by decide, (wmem 212 (by decide +kernel) rfl), inX2, tyX2_ok 0 (by decide)⟩
theorem lf_X7_32 : LkF RX7 32 7 3 := ⟨(RX7, TX7, 12), tyX7 3, rfl, by decide, (wmem 222 (by decide +kernel) rfl), inX7, tyX7_ok 3 (by decide)⟩
theorem lf_X7_39 : LkF RX7 39 7 4 := ⟨(RX7, TX7, 12), tyX7 4, rfl, by decide, (wmem 223 (by decide +kernel) rfl), inX7, tyX7_ok 4 (by decide)⟩
theorem lf_X7_46 : LkF RX7 46 7 5 := ⟨(RX7, TX7, 12), tyX7 5, rfl, by decide, (wmem 224 (by decide +kernel) rfl), inX7, tyX7_ok 5 (by decide)⟩
theorem lf_X7_50 : LkF RX7 50 7 6 := ⟨(RX7, TX7, 12), tyX7 6, rfl, by decide, (wmem 225 (by decide +kernel) rfl), inX7, tyX7_ok 6 (by decide)⟩
theorem lf_X7_53 : LkF RX7 53 7 7 := ⟨(RX7, TX7, 12), tyX7 7, rfl, by decide, (wmem 226 (by decide +kernel) rfl), inX7, tyX7_ok 7 (by decide)⟩
theorem lf_X7_56 : LkF RX7 56 7 8 := ⟨(RX7, TX7, 12), tyX7 8, rfl, by decide, (wmem 227 (by decide +kernel) rfl), inX7, tyX7_ok 8 (by decide)⟩
theorem lf_X7_60 : LkF RX7 60 7 9 := ⟨(RX7, TX7, 12), tyX7 9, rfl, by decide, (wmem 228 (by decide +kernel) rfl), inX7, tyX7_ok 9 (by decide)⟩
theorem lf_X7_64 : LkF RX7 64 7 10 := ⟨(RX7, TX7, 12), tyX7 10, rfl, by decide, (wmem 229 (by decide +kernel) rfl), inX7, tyX7_ok 10 (by decide)⟩
theorem lf_X7_67 : LkF RX7 67 7 11 := ⟨(RX7, TX7, 12), tyX7 11, rfl, by decide, (wmem 230 (by decide +kernel) rfl), inX7, tyX7_ok 11 (by decide)⟩
theorem lf_X7_91 : LkF RX7 91 4 0 := ⟨(RX4, TX4, 2), tyX4 0, rfl, by decide, (wmem 198 (by decide +kernel) rfl), inX4, tyX4_ok 0 (by decide)⟩
theorem lf_X7_98 : LkF RX7 98 0 4 := ⟨(RX0, TX0, 6), tyX0 4, rfl, by decide, (wmem 175 (by decide +kernel) rfl), inX0, tyX0_ok 4 (by decide)⟩
theorem lf_X8_11 : LkF RX8 11 8 0 := ⟨(RX8, TX8, 34), tyX8 0, rfl, by decide, (wmem 653 (by decide +kernel) rfl), inX8, tyX8_ok 0 (by decide)⟩
theorem lf_X8_15 : LkF RX8 15 8 1 := ⟨(RX8, TX8, 34), tyX8 1, rfl, by decide, (wmem 654 (by decide +kernel) rfl), inX8, tyX8_ok 1 (by decide)⟩
theorem lf_X8_178 : LkF RX8 178 8 10 := ⟨(RX8, TX8, 34), tyX8 10, rfl, by decide, (wmem 663 (by decide +kernel) rfl), inX8, tyX8_ok 10 (by decide)⟩
theorem lf_X8_18 : LkF RX8 18 8 2 := ⟨(RX8, TX8, 34), tyX8 2, rfl, by decide, (wmem 655 (by decide +kernel) rfl), inX8, tyX8_ok 2 (by decide)⟩
theorem lf_X8_21 : LkF RX8 21 8 3 := ⟨(RX8, TX8, 34), tyX8 3, rfl, by decide, (wmem 656 (by decide +kernel) rfl), inX8, tyX8_ok 3 (by decide)⟩
theorem lf_X8_219 : LkF RX8 219 8 19 := ⟨(RX8, TX8, 34), tyX8 19, rfl, by decide, (wmem 672 (by decide +kernel) rfl), inX8, tyX8_ok 19 (by decide)⟩
theorem lf_X8_222 : LkF RX8 222 8 15 := ⟨(RX8, TX8, 34), tyX8 15, rfl, by decide, (wmem 668 (by decide +kernel) rfl), inX8, tyX8_ok 15 (by decide)⟩
theorem lf_X8_234 : LkF RX8 234 8 23 := ⟨(RX8, TX8, 34), tyX8 23, rfl, by decide, (wmem 676 (by decide +kernel) rfl), inX8, tyX8_ok 23 (by decide)⟩
theorem lf_X8_237 : LkF RX8 237 8 24 := ⟨(RX8, TX8, 34), tyX8 24, rfl, by decide, (wmem 677 (by decide +kernel) rfl), inX8, tyX8_ok 24 (by decide)⟩
theorem lf_X8_25 : LkF RX8 25 8 4 := ⟨(RX8, TX8, 34), tyX8 4, rfl, by decide, (wmem 657 (by decide +kernel) rfl), inX8, tyX8_ok 4 (by decide)⟩
theorem lf_X8_257 : LkF RX8 257 8 33 := ⟨(RX8, TX8, 34), tyX8 33, rfl, by decide, (wmem 686 (by decide +kernel) rfl), inX8, tyX8_ok 33 (by decide)⟩
theorem lf_X8_28 : LkF RX8 28 8 5 := ⟨(RX8, TX8, 34), tyX8 5, rfl, by decide, (wmem 658 (by decide +kernel) rfl), inX8, tyX8_ok 5 (by decide)⟩
theorem lf_X8_31 : LkF RX8 31 8 6 := ⟨(RX8, TX8, 34), tyX8 6, rfl, by decide, (wmem 659 (by decide +kernel) rfl), inX8, tyX8_ok 6 (by decide)⟩
theorem lf_X8_34 : LkF RX8 34 8 7 := ⟨(RX8, TX8, 34), tyX8 7, rfl, by decide, (wmem 660 (by decide +kernel) rfl), inX8, tyX8_ok 7 (by decide)⟩
theorem lf_X8_37 : LkF RX8 37 8 8 := ⟨(RX8, TX8, 34), tyX8 8, rfl, by decide, (wmem 661 (by decide +kernel) rfl), inX8, tyX8_ok 8 (by decide)⟩
theorem lf_X8_40 : LkF RX8 40 8 9 := ⟨(RX8, TX8, 34), tyX8 9, rfl, by decide, (wmem 662 (by decide +kernel) rfl), inX8, tyX8_ok 9 (by decide)⟩
theorem lf_X8_43 : LkF RX8 43 8 11 := ⟨(RX8, TX8, 34), tyX8 11, rfl, by decide, (wmem 664 (by decide +kernel) rfl), inX8, tyX8_ok 11 (by decide)⟩
theorem lf_X8_46 : LkF RX8 46 8 12 := ⟨(RX8, TX8, 34), tyX8 12, rfl, by decide, (wmem 665 (by decide +kernel) rfl), inX8, tyX8_ok 12 (by decide)⟩
theorem lf_X8_49 : LkF RX8 49 8 13 := ⟨(RX8, TX8, 34), tyX8 13, rfl, by decide, (wmem 666 (by decide +kernel) rfl), inX8, tyX8_ok 13 (by decide)⟩
theorem lf_X8_52 : LkF RX8 52 8 14 := ⟨(RX8, TX8, 34), tyX8 14, rfl, by decide, (wmem 667 (by decide +kernel) rfl), inX8, tyX8_ok 14 (by decide)⟩
theorem lf_X8_55 : LkF RX8 55 8 16 := ⟨(RX8, TX8, 34), tyX8 16, rfl, by decide, (wmem 669 (by decide +kernel) rfl), inX8, tyX8_ok 16 (by decide)⟩
theorem lf_X8_58 : LkF RX8 58 8 17 := ⟨(RX8, TX8, 34), tyX8 17, rfl, by decide, (wmem 670 (by decide +kernel) rfl), inX8, tyX8_ok 17 (by decide)⟩
theorem lf_X8_61 : LkF RX8 61 8 18 := ⟨(RX8, TX8, 34), tyX8 18, rfl, by decide, (wmem 671 (by decide +kernel) rfl), inX8, tyX8_ok 18 (by decide)⟩
theorem lf_X8_64 : LkF RX8 64 8 20 := ⟨(RX8, TX8, 34), tyX8 20, rfl, by decide, (wmem 673 (by decide +kernel) rfl), inX8, tyX8_ok 20 (by decide)⟩
theorem lf_X8_67 : LkF RX8 67 8 21 := ⟨(RX8, TX8, 34), tyX8 21, rfl, by decide, (wmem 674 (by decide +kernel) rfl), inX8, tyX8_ok 21 (by decide)⟩
theorem lf_X8_70 : LkF RX8 70 8 22 := ⟨(RX8, TX8, 34), tyX8 22, rfl, by decide, (wmem 675 (by decide +kernel) rfl), inX8, tyX8_ok 22 (by decide)⟩
theorem lf_X8_73 : LkF RX8 73 8 25 := ⟨(RX8, TX8, 34), tyX8 25, rfl, by decide, (wmem 678 (by decide +kernel) rfl), inX8, tyX8_ok 25 (by decide)⟩
theorem lf_X8_77 : LkF RX8 77 8 26 := ⟨(RX8, TX8, 34), tyX8 26, rfl, by decide, (wmem 679 (by decide +kernel) rfl), inX8, tyX8_ok 26 (by decide)⟩
theorem lf_X8_80 : LkF RX8 80 8 27 := ⟨(RX8, TX8, 34), tyX8 27, rfl, by decide, (wmem 680 (by decide +kernel) rfl), inX8, tyX8_ok 27 (by decide)⟩
theorem lf_X8_83 : LkF RX8 83 8 28 := ⟨(RX8, TX8, 34), tyX8 28, rfl, by decide, (wmem 681 (by decide +kernel) rfl), inX8, tyX8_ok 28 (by decide)⟩
theorem lf_X8_86 : LkF RX8 86 8 29 := ⟨(RX8, TX8, 34), tyX8 29, rfl, by decide, (wmem 682 (by decide +kernel) rfl), inX8, tyX8_ok 29 (by decide)⟩
theorem lf_X8_89 : LkF RX8 89 8 30 := ⟨(RX8, TX8, 34), tyX8 30, rfl, by decide, (wmem 683 (by decide +kernel) rfl), inX8, tyX8_ok 30 (by decide)⟩
theorem lf_X8_92 : LkF RX8 92 8 31 := ⟨(RX8, TX8, 34), tyX8 31, rfl, by decide, (wmem 684 (by decide +kernel) rfl), inX8, tyX8_ok 31 (by decide)⟩
theorem lf_X8_95 : LkF RX8 95 8 32 := ⟨(RX8, TX8, 34), tyX8 32, rfl, by decide, (wmem 685 (by decide +kernel) rfl), inX8, tyX8_ok 32 (by decide)⟩
theorem lp_X0_40 : LkP RX0 40 0 3 .int := ⟨(RX0, TX0, 6), tyX0, rfl, by decide, (wmem 172 (by decide +kernel) rfl), inX0, tyX0_ok 3 (by decide), tyX0_ok, nmX0, rfl⟩
theorem lp_X0_48 : LkP RX0 48 0 4 .int := ⟨(RX0, TX0, 6), tyX0, rfl, by decide, (wmem 176 (by decide +kernel) rfl), inX0, tyX0_ok 4 (by decide), tyX0_ok, nmX0, rfl⟩
theorem lp_X0_51 : LkP RX0 51 0 5 .long := ⟨(RX0, TX0, 6), tyX0, rfl, by decide, (wmem 177 (by decide +kernel) rfl), inX0, tyX0_ok 5 (by decide), tyX0_ok, nmX0, rfl⟩
theorem lp_X1_18 : LkP RX1 18 1 2 .int := ⟨(RX1, TX1, 3), tyX1, rfl, by decide, (wmem 93 (by decide +kernel) rfl), inX1, tyX1_ok 2 (by decide), tyX1_ok, nmX1, rfl⟩
theorem lp_X2_15 : LkP RX2 15 2 1 .int := ⟨(RX2, TX2, 2), tyX2, rfl, by decide, (wmem 213 (by decide +kernel) rfl), inX2, tyX2_ok 1 (by decide), tyX2_ok, nmX2, rfl⟩
theorem lp_X3_12 : LkP RX3 12 3 0 (.object "SummedBases$Rests") := ⟨(RX3, TX3, 3), tyX3, rfl, by decide, (wmem 135 (by decide +kernel) rfl), inX3, tyX3_ok 0 (by decide), tyX3_ok, nmX3, rfl⟩
theorem lp_X3_18 : LkP RX3 18 3 1 (.object "SummedBases$Rests") := ⟨(RX3, TX3, 3), tyX3, rfl, by decide, (wmem 136 (by decide +kernel) rfl), inX3, tyX3_ok 1 (by decide), tyX3_ok, nmX3, rfl⟩
theorem lp_X3_35 : LkP RX3 35 5 3 .int := ⟨(RX5, TX5, 4), tyX5, rfl, by decide, (wmem 123 (by decide +kernel) rfl), inX5, tyX5_ok 3 (by decide), tyX5_ok, nmX5, rfl⟩
theorem lp_X5_20 : LkP RX5 20 5 3 .int := ⟨(RX5, TX5, 4), tyX5, rfl, by decide, (wmem 122 (by decide +kernel) rfl), inX5, tyX5_ok 3 (by decide), tyX5_ok, nmX5, rfl⟩
theorem lp_X6_15 : LkP RX6 15 6 1 .int := ⟨(RX6, TX6, 2), tyX6, rfl, by decide, (wmem 77 (by decide +kernel) rfl), inX6, tyX6_ok 1 (by decide), tyX6_ok, nmX6, rfl⟩
theorem lp_X7_238 : LkP RX7 238 6 1 .int := ⟨(RX6, TX6, 2), tyX6, rfl, by decide, (wmem 78 (by decide +kernel) rfl), inX6, tyX6_ok 1 (by decide), tyX6_ok, nmX6, rfl⟩
theorem lp_X7_246 : LkP RX7 246 1 2 .int := ⟨(RX1, TX1, 3), tyX1, rfl, by decide, (wmem 94 (by decide +kernel) rfl), inX1, tyX1_ok 2 (by decide), tyX1_ok, nmX1, rfl⟩
theorem lp_X7_56 : LkP RX7 56 7 8 .boolean := ⟨(RX7, TX7, 12), tyX7, rfl, by decide, (wmem 227 (by decide +kernel) rfl), inX7, tyX7_ok 8 (by decide), tyX7_ok, nmX7, rfl⟩
theorem lp_X7_91 : LkP RX7 91 4 0 (.object "SummedBases$Base") := ⟨(RX4, TX4, 2), tyX4, rfl, by decide, (wmem 198 (by decide +kernel) rfl), inX4, tyX4_ok 0 (by decide), tyX4_ok, nmX4, rfl⟩
theorem lp_X8_178 : LkP RX8 178 8 10 .int := ⟨(RX8, TX8, 34), tyX8, rfl, by decide, (wmem 663 (by decide +kernel) rfl), inX8, tyX8_ok 10 (by decide), tyX8_ok, nmX8, rfl⟩
theorem lp_X8_219 : LkP RX8 219 8 19 .int := ⟨(RX8, TX8, 34), tyX8, rfl, by decide, (wmem 672 (by decide +kernel) rfl), inX8, tyX8_ok 19 (by decide), tyX8_ok, nmX8, rfl⟩
theorem lp_X8_222 : LkP RX8 222 8 15 .int := ⟨(RX8, TX8, 34), tyX8, rfl, by decide, (wmem 668 (by decide +kernel) rfl), inX8, tyX8_ok 15 (by decide), tyX8_ok, nmX8, rfl⟩
theorem lp_X8_234 : LkP RX8 234 8 23 .int := ⟨(RX8, TX8, 34), tyX8, rfl, by decide, (wmem 676 (by decide +kernel) rfl), inX8, tyX8_ok 23 (by decide), tyX8_ok, nmX8, rfl⟩
theorem lp_X8_237 : LkP RX8 237 8 24 .int := ⟨(RX8, TX8, 34), tyX8, rfl, by decide, (wmem 677 (by decide +kernel) rfl), inX8, tyX8_ok 24 (by decide), tyX8_ok, nmX8, rfl⟩
theorem lp_X8_257 : LkP RX8 257 8 33 .boolean := ⟨(RX8, TX8, 34), tyX8, rfl, by decide, (wmem 686 (by decide +kernel) rfl), inX8, tyX8_ok 33 (by decide), tyX8_ok, nmX8, rfl⟩
set_option maxRecDepth 100000 in
theorem lv_X0_43 : LkV 43 0 RX0 K_X0_makeWorths := ⟨⟨(wmem 160 (by decide +kernel) rfl), (wmem 50 (by decide +kernel) rfl), (wmem 163 rfl rfl), by decide, by decide, by decide +kernel⟩, (wmem 162 (by decide +kernel) rfl), (wmem 0 (by decide +kernel) rfl)⟩
set_option maxRecDepth 100000 in
theorem lv_X0_61 : LkV 61 2 RX0 K_X0_valueBelow := ⟨⟨(wmem 367 (by decide +kernel) rfl), (wmem 50 (by decide +kernel) rfl), (wmem 370 rfl rfl), by decide, by decide, by decide +kernel⟩, (wmem 369 (by decide +kernel) rfl), (wmem 6 (by decide +kernel) rfl)⟩
set_option maxRecDepth 100000 in
theorem lv_X0_65 : LkV 65 1 RX0 K_X0_hasPlace := ⟨⟨(wmem 327 (by decide +kernel) rfl), (wmem 50 (by decide +kernel) rfl), (wmem 306 rfl rfl), by decide, by decide, by decide +kernel⟩, (wmem 304 (by decide +kernel) rfl), (wmem 305 (by decide +kernel) rfl)⟩
set_option maxRecDepth 100000 in
theorem lv_X0_72 : LkV 72 1 RX0 K_X0_carried := ⟨⟨(wmem 399 (by decide +kernel) rfl), (wmem 50 (by decide +kernel) rfl), (wmem 402 rfl rfl), by decide, by decide, by decide +kernel⟩, (wmem 401 (by decide +kernel) rfl), (wmem 9 (by decide +kernel) rfl)⟩
set_option maxRecDepth 100000 in
theorem lv_X0_76 : LkV 76 3 RX0 K_X0_canCarry := ⟨⟨(wmem 407 (by decide +kernel) rfl), (wmem 50 (by decide +kernel) rfl), (wmem 395 rfl rfl), by decide, by decide, by decide +kernel⟩, (wmem 393 (by decide +kernel) rfl), (wmem 394 (by decide +kernel) rfl)⟩
set_option maxRecDepth 100000 in
theorem lv_X0_80 : LkV 80 2 RX0 K_X0_highestCarry := ⟨⟨(wmem 421 (by decide +kernel) rfl), (wmem 50 (by decide +kernel) rfl), (wmem 424 rfl rfl), by decide, by decide, by decide +kernel⟩, (wmem 423 (by decide +kernel) rfl), (wmem 10 (by decide +kernel) rfl)⟩
set_option maxRecDepth 100000 in
theorem lv_X0_84 : LkV 84 3 RX0 K_X0_carryOnce := ⟨⟨(wmem 425 (by decide +kernel) rfl), (wmem 50 (by decide +kernel) rfl), (wmem 406 rfl rfl), by decide, by decide, by decide +kernel⟩, (wmem 404 (by decide +kernel) rfl), (wmem 405 (by decide +kernel) rfl)⟩
set_option maxRecDepth 100000 in
theorem lv_X1_22 : LkV 22 0 RX1 K_X1_dropEldest := ⟨⟨(wmem 379 (by decide +kernel) rfl), (wmem 47 (by decide +kernel) rfl), (wmem 382 rfl rfl), by decide, by decide, by decide +kernel⟩, (wmem 381 (by decide +kernel) rfl), (wmem 7 (by decide +kernel) rfl)⟩
set_option maxRecDepth 100000 in
theorem lv_X1_37 : LkV 37 2 RX1 K_X1_move := ⟨⟨(wmem 284 (by decide +kernel) rfl), (wmem 47 (by decide +kernel) rfl), (wmem 287 rfl rfl), by decide, by decide, by decide +kernel⟩, (wmem 286 (by decide +kernel) rfl), (wmem 4 (by decide +kernel) rfl)⟩
set_option maxRecDepth 100000 in
theorem lv_X2_28 : LkV 28 1 RX2 K_X2_hasPlace := ⟨⟨(wmem 604 (by decide +kernel) rfl), (wmem 53 (by decide +kernel) rfl), (wmem 583 rfl rfl), by decide, by decide, by decide +kernel⟩, (wmem 581 (by decide +kernel) rfl), (wmem 582 (by decide +kernel) rfl)⟩
set_option maxRecDepth 100000 in
theorem lv_X3_25 : LkV 25 1 RX3 K_X0_hasPlace := ⟨⟨(wmem 488 (by decide +kernel) rfl), (wmem 50 (by decide +kernel) rfl), (wmem 306 rfl rfl), by decide, by decide, by decide +kernel⟩, (wmem 304 (by decide +kernel) rfl), (wmem 305 (by decide +kernel) rfl)⟩
set_option maxRecDepth 100000 in
theorem lv_X3_39 : LkV 39 3 RX3 K_X5_add := ⟨⟨(wmem 489 (by decide +kernel) rfl), (wmem 49 (by decide +kernel) rfl), (wmem 492 rfl rfl), by decide, by decide, by decide +kernel⟩, (wmem 490 (by decide +kernel) rfl), (wmem 491 (by decide +kernel) rfl)⟩
set_option maxRecDepth 100000 in
theorem lv_X3_46 : LkV 46 3 RX3 K_X3_take := ⟨⟨(wmem 494 (by decide +kernel) rfl), (wmem 48 (by decide +kernel) rfl), (wmem 497 rfl rfl), by decide, by decide, by decide +kernel⟩, (wmem 496 (by decide +kernel) rfl), (wmem 12 (by decide +kernel) rfl)⟩
set_option maxRecDepth 100000 in
theorem lv_X3_50 : LkV 50 1 RX3 K_X3_firstFrom := ⟨⟨(wmem 498 (by decide +kernel) rfl), (wmem 48 (by decide +kernel) rfl), (wmem 501 rfl rfl), by decide, by decide, by decide +kernel⟩, (wmem 500 (by decide +kernel) rfl), (wmem 13 (by decide +kernel) rfl)⟩
set_option maxRecDepth 100000 in
theorem lv_X3_54 : LkV 54 2 RX3 K_X3_nextLeast := ⟨⟨(wmem 502 (by decide +kernel) rfl), (wmem 48 (by decide +kernel) rfl), (wmem 505 rfl rfl), by decide, by decide, by decide +kernel⟩, (wmem 504 (by decide +kernel) rfl), (wmem 14 (by decide +kernel) rfl)⟩
set_option maxRecDepth 100000 in
theorem lv_X7_106 : LkV 106 0 RX7 K_X0_kind := ⟨⟨(wmem 295 (by decide +kernel) rfl), (wmem 50 (by decide +kernel) rfl), (wmem 298 rfl rfl), by decide, by decide, by decide +kernel⟩, (wmem 296 (by decide +kernel) rfl), (wmem 297 (by decide +kernel) rfl)⟩
set_option maxRecDepth 100000 in
theorem lv_X7_113 : LkV 113 1 RX7 K_X0_hasPlace := ⟨⟨(wmem 303 (by decide +kernel) rfl), (wmem 50 (by decide +kernel) rfl), (wmem 306 rfl rfl), by decide, by decide, by decide +kernel⟩, (wmem 304 (by decide +kernel) rfl), (wmem 305 (by decide +kernel) rfl)⟩
set_option maxRecDepth 100000 in
theorem lv_X7_133 : LkV 133 2 RX7 K_X0_greedyInto := ⟨⟨(wmem 323 (by decide +kernel) rfl), (wmem 50 (by decide +kernel) rfl), (wmem 326 rfl rfl), by decide, by decide, by decide +kernel⟩, (wmem 324 (by decide +kernel) rfl), (wmem 325 (by decide +kernel) rfl)⟩
set_option maxRecDepth 100000 in
theorem lv_X7_137 : LkV 137 3 RX7 K_X7_fillReel := ⟨⟨(wmem 328 (by decide +kernel) rfl), (wmem 45 (by decide +kernel) rfl), (wmem 331 rfl rfl), by decide, by decide, by decide +kernel⟩, (wmem 330 (by decide +kernel) rfl), (wmem 5 (by decide +kernel) rfl)⟩
set_option maxRecDepth 100000 in
theorem lv_X7_147 : LkV 147 1 RX7 K_X0_allows := ⟨⟨(wmem 348 (by decide +kernel) rfl), (wmem 50 (by decide +kernel) rfl), (wmem 351 rfl rfl), by decide, by decide, by decide +kernel⟩, (wmem 349 (by decide +kernel) rfl), (wmem 350 (by decide +kernel) rfl)⟩
set_option maxRecDepth 100000 in
theorem lv_X7_158 : LkV 158 1 RX7 K_X0_valueOf := ⟨⟨(wmem 363 (by decide +kernel) rfl), (wmem 50 (by decide +kernel) rfl), (wmem 366 rfl rfl), by decide, by decide, by decide +kernel⟩, (wmem 364 (by decide +kernel) rfl), (wmem 365 (by decide +kernel) rfl)⟩
set_option maxRecDepth 100000 in
theorem lv_X7_162 : LkV 162 2 RX7 K_X1_keep := ⟨⟨(wmem 375 (by decide +kernel) rfl), (wmem 47 (by decide +kernel) rfl), (wmem 378 rfl rfl), by decide, by decide, by decide +kernel⟩, (wmem 376 (by decide +kernel) rfl), (wmem 377 (by decide +kernel) rfl)⟩
set_option maxRecDepth 100000 in
theorem lv_X7_166 : LkV 166 3 RX7 K_X7_exchange := ⟨⟨(wmem 388 (by decide +kernel) rfl), (wmem 45 (by decide +kernel) rfl), (wmem 391 rfl rfl), by decide, by decide, by decide +kernel⟩, (wmem 390 (by decide +kernel) rfl), (wmem 8 (by decide +kernel) rfl)⟩
set_option maxRecDepth 100000 in
theorem lv_X7_170 : LkV 170 2 RX7 K_X7_at := ⟨⟨(wmem 408 (by decide +kernel) rfl), (wmem 45 (by decide +kernel) rfl), (wmem 358 rfl rfl), by decide, by decide, by decide +kernel⟩, (wmem 356 (by decide +kernel) rfl), (wmem 357 (by decide +kernel) rfl)⟩
set_option maxRecDepth 100000 in
theorem lv_X7_174 : LkV 174 1 RX7 K_X0_settleAll := ⟨⟨(wmem 417 (by decide +kernel) rfl), (wmem 50 (by decide +kernel) rfl), (wmem 420 rfl rfl), by decide, by decide, by decide +kernel⟩, (wmem 418 (by decide +kernel) rfl), (wmem 419 (by decide +kernel) rfl)⟩
set_option maxRecDepth 100000 in
theorem lv_X7_177 : LkV 177 4 RX7 K_X7_turnTo := ⟨⟨(wmem 430 (by decide +kernel) rfl), (wmem 45 (by decide +kernel) rfl), (wmem 433 rfl rfl), by decide, by decide, by decide +kernel⟩, (wmem 432 (by decide +kernel) rfl), (wmem 11 (by decide +kernel) rfl)⟩
set_option maxRecDepth 100000 in
theorem lv_X7_181 : LkV 181 3 RX7 K_X0_shiftInto := ⟨⟨(wmem 441 (by decide +kernel) rfl), (wmem 50 (by decide +kernel) rfl), (wmem 444 rfl rfl), by decide, by decide, by decide +kernel⟩, (wmem 442 (by decide +kernel) rfl), (wmem 443 (by decide +kernel) rfl)⟩
set_option maxRecDepth 100000 in
theorem lv_X7_191 : LkV 191 2 RX7 K_X0_turnAhead := ⟨⟨(wmem 455 (by decide +kernel) rfl), (wmem 50 (by decide +kernel) rfl), (wmem 458 rfl rfl), by decide, by decide, by decide +kernel⟩, (wmem 456 (by decide +kernel) rfl), (wmem 457 (by decide +kernel) rfl)⟩
set_option maxRecDepth 100000 in
theorem lv_X7_205 : LkV 205 3 RX7 K_X7_write := ⟨⟨(wmem 474 (by decide +kernel) rfl), (wmem 45 (by decide +kernel) rfl), (wmem 322 rfl rfl), by decide, by decide, by decide +kernel⟩, (wmem 320 (by decide +kernel) rfl), (wmem 321 (by decide +kernel) rfl)⟩
set_option maxRecDepth 100000 in
theorem lv_X7_215 : LkV 215 3 RX7 K_X3_make := ⟨⟨(wmem 484 (by decide +kernel) rfl), (wmem 48 (by decide +kernel) rfl), (wmem 487 rfl rfl), by decide, by decide, by decide +kernel⟩, (wmem 485 (by decide +kernel) rfl), (wmem 486 (by decide +kernel) rfl)⟩
set_option maxRecDepth 100000 in
theorem lv_X7_235 : LkV 235 1 RX7 K_X6_add := ⟨⟨(wmem 524 (by decide +kernel) rfl), (wmem 46 (by decide +kernel) rfl), (wmem 527 rfl rfl), by decide, by decide, by decide +kernel⟩, (wmem 525 (by decide +kernel) rfl), (wmem 526 (by decide +kernel) rfl)⟩
set_option maxRecDepth 100000 in
theorem lv_X7_239 : LkV 239 1 RX7 K_X6_fault := ⟨⟨(wmem 532 (by decide +kernel) rfl), (wmem 46 (by decide +kernel) rfl), (wmem 535 rfl rfl), by decide, by decide, by decide +kernel⟩, (wmem 533 (by decide +kernel) rfl), (wmem 534 (by decide +kernel) rfl)⟩
set_option maxRecDepth 100000 in
theorem lv_X7_243 : LkV 243 1 RX7 K_X6_numbersInto := ⟨⟨(wmem 540 (by decide +kernel) rfl), (wmem 46 (by decide +kernel) rfl), (wmem 543 rfl rfl), by decide, by decide, by decide +kernel⟩, (wmem 541 (by decide +kernel) rfl), (wmem 542 (by decide +kernel) rfl)⟩
set_option maxRecDepth 100000 in
theorem lv_X7_249 : LkV 249 0 RX7 K_X1_latestReel := ⟨⟨(wmem 549 (by decide +kernel) rfl), (wmem 47 (by decide +kernel) rfl), (wmem 552 rfl rfl), by decide, by decide, by decide +kernel⟩, (wmem 550 (by decide +kernel) rfl), (wmem 551 (by decide +kernel) rfl)⟩
set_option maxRecDepth 100000 in
theorem lv_X7_252 : LkV 252 1 RX7 K_X1_takeLatest := ⟨⟨(wmem 554 (by decide +kernel) rfl), (wmem 47 (by decide +kernel) rfl), (wmem 557 rfl rfl), by decide, by decide, by decide +kernel⟩, (wmem 555 (by decide +kernel) rfl), (wmem 556 (by decide +kernel) rfl)⟩
set_option maxRecDepth 100000 in
theorem lv_X7_256 : LkV 256 1 RX7 K_X7_rowAt := ⟨⟨(wmem 562 (by decide +kernel) rfl), (wmem 45 (by decide +kernel) rfl), (wmem 565 rfl rfl), by decide, by decide, by decide +kernel⟩, (wmem 564 (by decide +kernel) rfl), (wmem 15 (by decide +kernel) rfl)⟩
set_option maxRecDepth 100000 in
theorem lv_X7_260 : LkV 260 1 RX7 K_X2_become := ⟨⟨(wmem 566 (by decide +kernel) rfl), (wmem 53 (by decide +kernel) rfl), (wmem 569 rfl rfl), by decide, by decide, by decide +kernel⟩, (wmem 567 (by decide +kernel) rfl), (wmem 568 (by decide +kernel) rfl)⟩
set_option maxRecDepth 100000 in
theorem lv_X7_263 : LkV 263 0 RX7 K_X2_isMissing := ⟨⟨(wmem 576 (by decide +kernel) rfl), (wmem 53 (by decide +kernel) rfl), (wmem 579 rfl rfl), by decide, by decide, by decide +kernel⟩, (wmem 577 (by decide +kernel) rfl), (wmem 578 (by decide +kernel) rfl)⟩
set_option maxRecDepth 100000 in
theorem lv_X7_267 : LkV 267 1 RX7 K_X2_hasPlace := ⟨⟨(wmem 580 (by decide +kernel) rfl), (wmem 53 (by decide +kernel) rfl), (wmem 583 rfl rfl), by decide, by decide, by decide +kernel⟩, (wmem 581 (by decide +kernel) rfl), (wmem 582 (by decide +kernel) rfl)⟩
set_option maxRecDepth 100000 in
theorem lv_X7_271 : LkV 271 2 RX7 K_X2_hasRange := ⟨⟨(wmem 592 (by decide +kernel) rfl), (wmem 53 (by decide +kernel) rfl), (wmem 595 rfl rfl), by decide, by decide, by decide +kernel⟩, (wmem 593 (by decide +kernel) rfl), (wmem 594 (by decide +kernel) rfl)⟩
set_option maxRecDepth 100000 in
theorem lv_X7_280 : LkV 280 2 RX7 K_X2_digitsInto := ⟨⟨(wmem 600 (by decide +kernel) rfl), (wmem 53 (by decide +kernel) rfl), (wmem 603 rfl rfl), by decide, by decide, by decide +kernel⟩, (wmem 601 (by decide +kernel) rfl), (wmem 602 (by decide +kernel) rfl)⟩
set_option maxRecDepth 100000 in
theorem lv_X7_288 : LkV 288 0 RX7 K_X7_countReels := ⟨⟨(wmem 622 (by decide +kernel) rfl), (wmem 45 (by decide +kernel) rfl), (wmem 625 rfl rfl), by decide, by decide, by decide +kernel⟩, (wmem 624 (by decide +kernel) rfl), (wmem 16 (by decide +kernel) rfl)⟩
set_option maxRecDepth 100000 in
theorem lv_X7_291 : LkV 291 0 RX7 K_X7_countRows := ⟨⟨(wmem 634 (by decide +kernel) rfl), (wmem 45 (by decide +kernel) rfl), (wmem 637 rfl rfl), by decide, by decide, by decide +kernel⟩, (wmem 636 (by decide +kernel) rfl), (wmem 17 (by decide +kernel) rfl)⟩
set_option maxRecDepth 100000 in
theorem lv_X7_294 : LkV 294 1 RX7 K_X1_forget := ⟨⟨(wmem 280 (by decide +kernel) rfl), (wmem 47 (by decide +kernel) rfl), (wmem 283 rfl rfl), by decide, by decide, by decide +kernel⟩, (wmem 281 (by decide +kernel) rfl), (wmem 282 (by decide +kernel) rfl)⟩
set_option maxRecDepth 100000 in
theorem lv_X7_297 : LkV 297 3 RX7 K_X0_canCarry := ⟨⟨(wmem 392 (by decide +kernel) rfl), (wmem 50 (by decide +kernel) rfl), (wmem 395 rfl rfl), by decide, by decide, by decide +kernel⟩, (wmem 393 (by decide +kernel) rfl), (wmem 394 (by decide +kernel) rfl)⟩
set_option maxRecDepth 100000 in
theorem lv_X7_301 : LkV 301 3 RX7 K_X0_carryOnce := ⟨⟨(wmem 403 (by decide +kernel) rfl), (wmem 50 (by decide +kernel) rfl), (wmem 406 rfl rfl), by decide, by decide, by decide +kernel⟩, (wmem 404 (by decide +kernel) rfl), (wmem 405 (by decide +kernel) rfl)⟩
set_option maxRecDepth 100000 in
theorem lv_X7_309 : LkV 309 1 RX7 K_X0_becomeLike := ⟨⟨(wmem 617 (by decide +kernel) rfl), (wmem 50 (by decide +kernel) rfl), (wmem 620 rfl rfl), by decide, by decide, by decide +kernel⟩, (wmem 618 (by decide +kernel) rfl), (wmem 619 (by decide +kernel) rfl)⟩
set_option maxRecDepth 100000 in
theorem lv_X7_75 : LkV 75 1 RX7 K_X7_baseAt := ⟨⟨(wmem 260 (by decide +kernel) rfl), (wmem 45 (by decide +kernel) rfl), (wmem 263 rfl rfl), by decide, by decide, by decide +kernel⟩, (wmem 262 (by decide +kernel) rfl), (wmem 1 (by decide +kernel) rfl)⟩
set_option maxRecDepth 100000 in
theorem lv_X7_83 : LkV 83 2 RX7 K_X0_tell := ⟨⟨(wmem 271 (by decide +kernel) rfl), (wmem 50 (by decide +kernel) rfl), (wmem 153 rfl rfl), by decide, by decide, by decide +kernel⟩, (wmem 151 (by decide +kernel) rfl), (wmem 152 (by decide +kernel) rfl)⟩
set_option maxRecDepth 100000 in
theorem lv_X7_87 : LkV 87 1 RX7 K_X7_reelAt := ⟨⟨(wmem 272 (by decide +kernel) rfl), (wmem 45 (by decide +kernel) rfl), (wmem 275 rfl rfl), by decide, by decide, by decide +kernel⟩, (wmem 274 (by decide +kernel) rfl), (wmem 2 (by decide +kernel) rfl)⟩
set_option maxRecDepth 100000 in
theorem lv_X7_95 : LkV 95 1 RX7 K_X7_clearReel := ⟨⟨(wmem 276 (by decide +kernel) rfl), (wmem 45 (by decide +kernel) rfl), (wmem 279 rfl rfl), by decide, by decide, by decide +kernel⟩, (wmem 278 (by decide +kernel) rfl), (wmem 3 (by decide +kernel) rfl)⟩
set_option maxRecDepth 100000 in
theorem lv_X8_110 : LkV 110 2 RX8 K_X8_step := ⟨⟨(wmem 649 (by decide +kernel) rfl), (wmem 54 (by decide +kernel) rfl), (wmem 652 rfl rfl), by decide, by decide, by decide +kernel⟩, (wmem 651 (by decide +kernel) rfl), (wmem 19 (by decide +kernel) rfl)⟩
set_option maxRecDepth 100000 in
theorem lv_X8_120 : LkV 120 1 RX8 K_X8_forgets := ⟨⟨(wmem 769 (by decide +kernel) rfl), (wmem 54 (by decide +kernel) rfl), (wmem 772 rfl rfl), by decide, by decide, by decide +kernel⟩, (wmem 771 (by decide +kernel) rfl), (wmem 20 (by decide +kernel) rfl)⟩
set_option maxRecDepth 100000 in
theorem lv_X8_123 : LkV 123 1 RX8 K_X8_kind := ⟨⟨(wmem 781 (by decide +kernel) rfl), (wmem 54 (by decide +kernel) rfl), (wmem 784 rfl rfl), by decide, by decide, by decide +kernel⟩, (wmem 783 (by decide +kernel) rfl), (wmem 22 (by decide +kernel) rfl)⟩
set_option maxRecDepth 100000 in
theorem lv_X8_129 : LkV 129 2 RX8 K_X8_worth := ⟨⟨(wmem 790 (by decide +kernel) rfl), (wmem 54 (by decide +kernel) rfl), (wmem 793 rfl rfl), by decide, by decide, by decide +kernel⟩, (wmem 792 (by decide +kernel) rfl), (wmem 23 (by decide +kernel) rfl)⟩
set_option maxRecDepth 100000 in
theorem lv_X8_137 : LkV 137 1 RX8 K_X8_high := ⟨⟨(wmem 823 (by decide +kernel) rfl), (wmem 54 (by decide +kernel) rfl), (wmem 826 rfl rfl), by decide, by decide, by decide +kernel⟩, (wmem 825 (by decide +kernel) rfl), (wmem 27 (by decide +kernel) rfl)⟩
set_option maxRecDepth 100000 in
theorem lv_X8_140 : LkV 140 2 RX8 K_X8_digitAt := ⟨⟨(wmem 827 (by decide +kernel) rfl), (wmem 54 (by decide +kernel) rfl), (wmem 830 rfl rfl), by decide, by decide, by decide +kernel⟩, (wmem 829 (by decide +kernel) rfl), (wmem 28 (by decide +kernel) rfl)⟩
set_option maxRecDepth 100000 in
theorem lv_X8_143 : LkV 143 1 RX8 K_X8_takes := ⟨⟨(wmem 819 (by decide +kernel) rfl), (wmem 54 (by decide +kernel) rfl), (wmem 822 rfl rfl), by decide, by decide, by decide +kernel⟩, (wmem 821 (by decide +kernel) rfl), (wmem 26 (by decide +kernel) rfl)⟩
set_option maxRecDepth 100000 in
theorem lv_X8_146 : LkV 146 1 RX8 K_X8_filled := ⟨⟨(wmem 831 (by decide +kernel) rfl), (wmem 54 (by decide +kernel) rfl), (wmem 834 rfl rfl), by decide, by decide, by decide +kernel⟩, (wmem 833 (by decide +kernel) rfl), (wmem 29 (by decide +kernel) rfl)⟩
set_option maxRecDepth 100000 in
theorem lv_X8_152 : LkV 152 2 RX8 K_X8_makes := ⟨⟨(wmem 811 (by decide +kernel) rfl), (wmem 54 (by decide +kernel) rfl), (wmem 814 rfl rfl), by decide, by decide, by decide +kernel⟩, (wmem 813 (by decide +kernel) rfl), (wmem 24 (by decide +kernel) rfl)⟩
set_option maxRecDepth 100000 in
theorem lv_X8_156 : LkV 156 2 RX8 K_X8_holds := ⟨⟨(wmem 815 (by decide +kernel) rfl), (wmem 54 (by decide +kernel) rfl), (wmem 818 rfl rfl), by decide, by decide, by decide +kernel⟩, (wmem 817 (by decide +kernel) rfl), (wmem 25 (by decide +kernel) rfl)⟩
set_option maxRecDepth 100000 in
theorem lv_X8_159 : LkV 159 1 RX8 K_X8_isEmpty := ⟨⟨(wmem 839 (by decide +kernel) rfl), (wmem 54 (by decide +kernel) rfl), (wmem 842 rfl rfl), by decide, by decide, by decide +kernel⟩, (wmem 841 (by decide +kernel) rfl), (wmem 30 (by decide +kernel) rfl)⟩
set_option maxRecDepth 100000 in
theorem lv_X8_162 : LkV 162 1 RX8 K_X8_refusal := ⟨⟨(wmem 863 (by decide +kernel) rfl), (wmem 54 (by decide +kernel) rfl), (wmem 866 rfl rfl), by decide, by decide, by decide +kernel⟩, (wmem 865 (by decide +kernel) rfl), (wmem 34 (by decide +kernel) rfl)⟩
set_option maxRecDepth 100000 in
theorem lv_X8_165 : LkV 165 1 RX8 K_X8_isLegal := ⟨⟨(wmem 847 (by decide +kernel) rfl), (wmem 54 (by decide +kernel) rfl), (wmem 850 rfl rfl), by decide, by decide, by decide +kernel⟩, (wmem 849 (by decide +kernel) rfl), (wmem 31 (by decide +kernel) rfl)⟩
set_option maxRecDepth 100000 in
theorem lv_X8_168 : LkV 168 1 RX8 K_X8_highest := ⟨⟨(wmem 851 (by decide +kernel) rfl), (wmem 54 (by decide +kernel) rfl), (wmem 854 rfl rfl), by decide, by decide, by decide +kernel⟩, (wmem 853 (by decide +kernel) rfl), (wmem 32 (by decide +kernel) rfl)⟩
set_option maxRecDepth 100000 in
theorem lv_X8_171 : LkV 171 3 RX8 K_X8_refusal_ := ⟨⟨(wmem 859 (by decide +kernel) rfl), (wmem 54 (by decide +kernel) rfl), (wmem 862 rfl rfl), by decide, by decide, by decide +kernel⟩, (wmem 861 (by decide +kernel) rfl), (wmem 33 (by decide +kernel) rfl)⟩
set_option maxRecDepth 100000 in
theorem lv_X8_174 : LkV 174 1 RX8 K_X8_valueOf := ⟨⟨(wmem 871 (by decide +kernel) rfl), (wmem 54 (by decide +kernel) rfl), (wmem 874 rfl rfl), by decide, by decide, by decide +kernel⟩, (wmem 873 (by decide +kernel) rfl), (wmem 35 (by decide +kernel) rfl)⟩
set_option maxRecDepth 100000 in
theorem lv_X8_182 : LkV 182 2 RX8 K_X8_moves := ⟨⟨(wmem 773 (by decide +kernel) rfl), (wmem 54 (by decide +kernel) rfl), (wmem 776 rfl rfl), by decide, by decide, by decide +kernel⟩, (wmem 775 (by decide +kernel) rfl), (wmem 21 (by decide +kernel) rfl)⟩
set_option maxRecDepth 100000 in
theorem lv_X8_188 : LkV 188 1 RX8 K_X8_does := ⟨⟨(wmem 884 (by decide +kernel) rfl), (wmem 54 (by decide +kernel) rfl), (wmem 887 rfl rfl), by decide, by decide, by decide +kernel⟩, (wmem 886 (by decide +kernel) rfl), (wmem 36 (by decide +kernel) rfl)⟩
set_option maxRecDepth 100000 in
theorem lv_X8_191 : LkV 191 3 RX8 K_X8_can := ⟨⟨(wmem 892 (by decide +kernel) rfl), (wmem 54 (by decide +kernel) rfl), (wmem 895 rfl rfl), by decide, by decide, by decide +kernel⟩, (wmem 894 (by decide +kernel) rfl), (wmem 37 (by decide +kernel) rfl)⟩
set_option maxRecDepth 100000 in
theorem lv_X8_195 : LkV 195 3 RX8 K_X8_goes := ⟨⟨(wmem 896 (by decide +kernel) rfl), (wmem 54 (by decide +kernel) rfl), (wmem 899 rfl rfl), by decide, by decide, by decide +kernel⟩, (wmem 898 (by decide +kernel) rfl), (wmem 38 (by decide +kernel) rfl)⟩
set_option maxRecDepth 100000 in
theorem lv_X8_225 : LkV 225 3 RX8 K_X8_leaves := ⟨⟨(wmem 945 (by decide +kernel) rfl), (wmem 54 (by decide +kernel) rfl), (wmem 948 rfl rfl), by decide, by decide, by decide +kernel⟩, (wmem 947 (by decide +kernel) rfl), (wmem 39 (by decide +kernel) rfl)⟩
set_option maxRecDepth 100000 in
theorem lv_X8_229 : LkV 229 1 RX8 K_X8_prints := ⟨⟨(wmem 959 (by decide +kernel) rfl), (wmem 54 (by decide +kernel) rfl), (wmem 962 rfl rfl), by decide, by decide, by decide +kernel⟩, (wmem 961 (by decide +kernel) rfl), (wmem 40 (by decide +kernel) rfl)⟩
set_option maxRecDepth 100000 in
theorem lv_X8_244 : LkV 244 0 RX8 K_X8_isFigure := ⟨⟨(wmem 976 (by decide +kernel) rfl), (wmem 54 (by decide +kernel) rfl), (wmem 979 rfl rfl), by decide, by decide, by decide +kernel⟩, (wmem 978 (by decide +kernel) rfl), (wmem 42 (by decide +kernel) rfl)⟩
set_option maxRecDepth 100000 in
theorem lv_X8_248 : LkV 248 1 RX8 K_X8_reads := ⟨⟨(wmem 972 (by decide +kernel) rfl), (wmem 54 (by decide +kernel) rfl), (wmem 975 rfl rfl), by decide, by decide, by decide +kernel⟩, (wmem 974 (by decide +kernel) rfl), (wmem 41 (by decide +kernel) rfl)⟩
set_option maxRecDepth 100000 in
theorem lv_X8_254 : LkV 254 2 RX8 K_X8_row := ⟨⟨(wmem 1009 (by decide +kernel) rfl), (wmem 54 (by decide +kernel) rfl), (wmem 985 rfl rfl), by decide, by decide, by decide +kernel⟩, (wmem 983 (by decide +kernel) rfl), (wmem 984 (by decide +kernel) rfl)⟩
set_option maxRecDepth 100000 in
theorem lv_X8_261 : LkV 261 0 RX8 K_X8_full := ⟨⟨(wmem 1014 (by decide +kernel) rfl), (wmem 54 (by decide +kernel) rfl), (wmem 1017 rfl rfl), by decide, by decide, by decide +kernel⟩, (wmem 1016 (by decide +kernel) rfl), (wmem 43 (by decide +kernel) rfl)⟩
set_option maxRecDepth 100000 in
theorem lv_X8_98 : LkV 98 1 RX8 K_X8_fills := ⟨⟨(wmem 644 (by decide +kernel) rfl), (wmem 54 (by decide +kernel) rfl), (wmem 647 rfl rfl), by decide, by decide, by decide +kernel⟩, (wmem 646 (by decide +kernel) rfl), (wmem 18 (by decide +kernel) rfl)⟩
theorem rm_X0_isDigit_X7_isWithin : RmOk K_X0_isDigit.2.2.2.2 K_X7_isWithin := ⟨rfl, rfl, Nat.le_of_ble_eq_true rfl, Nat.le_of_ble_eq_true rfl⟩
theorem rm_X0_canCarry_X0_carried : RmOk K_X0_canCarry.2.2.2.2 K_X0_carried := ⟨rfl, rfl, Nat.le_of_ble_eq_true rfl, Nat.le_of_ble_eq_true rfl⟩
theorem rm_X0_canCarry_X0_hasPlace : RmOk K_X0_canCarry.2.2.2.2 K_X0_hasPlace := ⟨rfl, rfl, Nat.le_of_ble_eq_true rfl, Nat.le_of_ble_eq_true rfl⟩
theorem rm_X0_canCarry_X0_isDigit : RmOk K_X0_canCarry.2.2.2.2 K_X0_isDigit := ⟨rfl, rfl, Nat.le_of_ble_eq_true rfl, Nat.le_of_ble_eq_true rfl⟩
theorem rm_X0_carryOnce_X0_canCarry : RmOk K_X0_carryOnce.2.2.2.2 K_X0_canCarry := ⟨rfl, rfl, Nat.le_of_ble_eq_true rfl, Nat.le_of_ble_eq_true rfl⟩
theorem rm_X0_carryOnce_X0_carried : RmOk K_X0_carryOnce.2.2.2.2 K_X0_carried := ⟨rfl, rfl, Nat.le_of_ble_eq_true rfl, Nat.le_of_ble_eq_true rfl⟩
theorem rm_X0_greedyInto_X0_hasPlace : RmOk K_X0_greedyInto.2.2.2.2 K_X0_hasPlace := ⟨rfl, rfl, Nat.le_of_ble_eq_true rfl, Nat.le_of_ble_eq_true rfl⟩
theorem rm_X0_highestCarry_X0_canCarry : RmOk K_X0_highestCarry.2.2.2.2 K_X0_canCarry := ⟨rfl, rfl, Nat.le_of_ble_eq_true rfl, Nat.le_of_ble_eq_true rfl⟩
theorem rm_X0_isRowOfSteps_X7_isWithin : RmOk K_X0_isRowOfSteps.2.2.2.2 K_X7_isWithin := ⟨rfl, rfl, Nat.le_of_ble_eq_true rfl, Nat.le_of_ble_eq_true rfl⟩
theorem rm_X0_settleAll_X0_carryOnce : RmOk K_X0_settleAll.2.2.2.2 K_X0_carryOnce := ⟨rfl, rfl, Nat.le_of_ble_eq_true rfl, Nat.le_of_ble_eq_true rfl⟩
theorem rm_X0_settleAll_X0_highestCarry : RmOk K_X0_settleAll.2.2.2.2 K_X0_highestCarry := ⟨rfl, rfl, Nat.le_of_ble_eq_true rfl, Nat.le_of_ble_eq_true rfl⟩
theorem rm_X0_shiftInto_X0_hasPlace : RmOk K_X0_shiftInto.2.2.2.2 K_X0_hasPlace := ⟨rfl, rfl, Nat.le_of_ble_eq_true rfl, Nat.le_of_ble_eq_true rfl⟩
theorem rm_X0_tell_X0_makeWorths : RmOk K_X0_tell.2.2.2.2 K_X0_makeWorths := ⟨rfl, rfl, Nat.le_of_ble_eq_true rfl, Nat.le_of_ble_eq_true rfl⟩
theorem rm_X0_turnAhead_X0_hasPlace : RmOk K_X0_turnAhead.2.2.2.2 K_X0_hasPlace := ⟨rfl, rfl, Nat.le_of_ble_eq_true rfl, Nat.le_of_ble_eq_true rfl⟩
theorem rm_X0_turnAhead_X0_valueBelow : RmOk K_X0_turnAhead.2.2.2.2 K_X0_valueBelow := ⟨rfl, rfl, Nat.le_of_ble_eq_true rfl, Nat.le_of_ble_eq_true rfl⟩
theorem rm_X0_valueOf_X0_valueBelow : RmOk K_X0_valueOf.2.2.2.2 K_X0_valueBelow := ⟨rfl, rfl, Nat.le_of_ble_eq_true rfl, Nat.le_of_ble_eq_true rfl⟩
theorem rm_X1_dropEldest_X1_move : RmOk K_X1_dropEldest.2.2.2.2 K_X1_move := ⟨rfl, rfl, Nat.le_of_ble_eq_true rfl, Nat.le_of_ble_eq_true rfl⟩
theorem rm_X1_forget_X1_move : RmOk K_X1_forget.2.2.2.2 K_X1_move := ⟨rfl, rfl, Nat.le_of_ble_eq_true rfl, Nat.le_of_ble_eq_true rfl⟩
theorem rm_X1_keep_X1_dropEldest : RmOk K_X1_keep.2.2.2.2 K_X1_dropEldest := ⟨rfl, rfl, Nat.le_of_ble_eq_true rfl, Nat.le_of_ble_eq_true rfl⟩
theorem rm_X1_latestReel_X7_isWithin : RmOk K_X1_latestReel.2.2.2.2 K_X7_isWithin := ⟨rfl, rfl, Nat.le_of_ble_eq_true rfl, Nat.le_of_ble_eq_true rfl⟩
theorem rm_X1_takeLatest_X7_isWithin : RmOk K_X1_takeLatest.2.2.2.2 K_X7_isWithin := ⟨rfl, rfl, Nat.le_of_ble_eq_true rfl, Nat.le_of_ble_eq_true rfl⟩
theorem rm_X2_digitsInto_X2_hasPlace : RmOk K_X2_digitsInto.2.2.2.2 K_X2_hasPlace := ⟨rfl, rfl, Nat.le_of_ble_eq_true rfl, Nat.le_of_ble_eq_true rfl⟩
theorem rm_X3_take_X3_firstFrom : RmOk K_X3_take.2.2.2.2 K_X3_firstFrom := ⟨rfl, rfl, Nat.le_of_ble_eq_true rfl, Nat.le_of_ble_eq_true rfl⟩
theorem rm_X3_take_X3_nextLeast : RmOk K_X3_take.2.2.2.2 K_X3_nextLeast := ⟨rfl, rfl, Nat.le_of_ble_eq_true rfl, Nat.le_of_ble_eq_true rfl⟩
theorem rm_X3_take_X5_add : RmOk K_X3_take.2.2.2.2 K_X5_add := ⟨rfl, rfl, Nat.le_of_ble_eq_true rfl, Nat.le_of_ble_eq_true rfl⟩
theorem rm_X3_make_X0_hasPlace : RmOk K_X3_make.2.2.2.2 K_X0_hasPlace := ⟨rfl, rfl, Nat.le_of_ble_eq_true rfl, Nat.le_of_ble_eq_true rfl⟩
theorem rm_X3_make_X3_take : RmOk K_X3_make.2.2.2.2 K_X3_take := ⟨rfl, rfl, Nat.le_of_ble_eq_true rfl, Nat.le_of_ble_eq_true rfl⟩
theorem rm_X3_make_X5_add : RmOk K_X3_make.2.2.2.2 K_X5_add := ⟨rfl, rfl, Nat.le_of_ble_eq_true rfl, Nat.le_of_ble_eq_true rfl⟩
theorem rm_X6_isFigure_X7_isWithin : RmOk K_X6_isFigure.2.2.2.2 K_X7_isWithin := ⟨rfl, rfl, Nat.le_of_ble_eq_true rfl, Nat.le_of_ble_eq_true rfl⟩
theorem rm_X6_fault_X6_isFigure : RmOk K_X6_fault.2.2.2.2 K_X6_isFigure := ⟨rfl, rfl, Nat.le_of_ble_eq_true rfl, Nat.le_of_ble_eq_true rfl⟩
theorem rm_X7_reelAt_X7_isWithin : RmOk K_X7_reelAt.2.2.2.2 K_X7_isWithin := ⟨rfl, rfl, Nat.le_of_ble_eq_true rfl, Nat.le_of_ble_eq_true rfl⟩
theorem rm_X7_at_X0_hasPlace : RmOk K_X7_at.2.2.2.2 K_X0_hasPlace := ⟨rfl, rfl, Nat.le_of_ble_eq_true rfl, Nat.le_of_ble_eq_true rfl⟩
theorem rm_X7_at_X7_reelAt : RmOk K_X7_at.2.2.2.2 K_X7_reelAt := ⟨rfl, rfl, Nat.le_of_ble_eq_true rfl, Nat.le_of_ble_eq_true rfl⟩
theorem rm_X7_back_X1_latestReel : RmOk K_X7_back.2.2.2.2 K_X1_latestReel := ⟨rfl, rfl, Nat.le_of_ble_eq_true rfl, Nat.le_of_ble_eq_true rfl⟩
theorem rm_X7_back_X1_takeLatest : RmOk K_X7_back.2.2.2.2 K_X1_takeLatest := ⟨rfl, rfl, Nat.le_of_ble_eq_true rfl, Nat.le_of_ble_eq_true rfl⟩
theorem rm_X7_back_X7_reelAt : RmOk K_X7_back.2.2.2.2 K_X7_reelAt := ⟨rfl, rfl, Nat.le_of_ble_eq_true rfl, Nat.le_of_ble_eq_true rfl⟩
theorem rm_X7_baseAt_X7_isWithin : RmOk K_X7_baseAt.2.2.2.2 K_X7_isWithin := ⟨rfl, rfl, Nat.le_of_ble_eq_true rfl, Nat.le_of_ble_eq_true rfl⟩
theorem rm_X7_clearReel_X1_forget : RmOk K_X7_clearReel.2.2.2.2 K_X1_forget := ⟨rfl, rfl, Nat.le_of_ble_eq_true rfl, Nat.le_of_ble_eq_true rfl⟩
theorem rm_X7_clearReel_X7_reelAt : RmOk K_X7_clearReel.2.2.2.2 K_X7_reelAt := ⟨rfl, rfl, Nat.le_of_ble_eq_true rfl, Nat.le_of_ble_eq_true rfl⟩
theorem rm_X7_base_X0_isRowOfSteps : RmOk K_X7_base.2.2.2.2 K_X0_isRowOfSteps := ⟨rfl, rfl, Nat.le_of_ble_eq_true rfl, Nat.le_of_ble_eq_true rfl⟩
theorem rm_X7_base_X0_tell : RmOk K_X7_base.2.2.2.2 K_X0_tell := ⟨rfl, rfl, Nat.le_of_ble_eq_true rfl, Nat.le_of_ble_eq_true rfl⟩
theorem rm_X7_base_X7_baseAt : RmOk K_X7_base.2.2.2.2 K_X7_baseAt := ⟨rfl, rfl, Nat.le_of_ble_eq_true rfl, Nat.le_of_ble_eq_true rfl⟩
theorem rm_X7_base_X7_clearReel : RmOk K_X7_base.2.2.2.2 K_X7_clearReel := ⟨rfl, rfl, Nat.le_of_ble_eq_true rfl, Nat.le_of_ble_eq_true rfl⟩
theorem rm_X7_base_X7_reelAt : RmOk K_X7_base.2.2.2.2 K_X7_reelAt := ⟨rfl, rfl, Nat.le_of_ble_eq_true rfl, Nat.le_of_ble_eq_true rfl⟩
theorem rm_X7_exchange_X0_canCarry : RmOk K_X7_exchange.2.2.2.2 K_X0_canCarry := ⟨rfl, rfl, Nat.le_of_ble_eq_true rfl, Nat.le_of_ble_eq_true rfl⟩
theorem rm_X7_exchange_X0_carryOnce : RmOk K_X7_exchange.2.2.2.2 K_X0_carryOnce := ⟨rfl, rfl, Nat.le_of_ble_eq_true rfl, Nat.le_of_ble_eq_true rfl⟩
theorem rm_X7_exchange_X1_keep : RmOk K_X7_exchange.2.2.2.2 K_X1_keep := ⟨rfl, rfl, Nat.le_of_ble_eq_true rfl, Nat.le_of_ble_eq_true rfl⟩
theorem rm_X7_exchange_X7_isWithin : RmOk K_X7_exchange.2.2.2.2 K_X7_isWithin := ⟨rfl, rfl, Nat.le_of_ble_eq_true rfl, Nat.le_of_ble_eq_true rfl⟩
theorem rm_X7_exchange_X7_reelAt : RmOk K_X7_exchange.2.2.2.2 K_X7_reelAt := ⟨rfl, rfl, Nat.le_of_ble_eq_true rfl, Nat.le_of_ble_eq_true rfl⟩
theorem rm_X7_borrow_X7_at : RmOk K_X7_borrow.2.2.2.2 K_X7_at := ⟨rfl, rfl, Nat.le_of_ble_eq_true rfl, Nat.le_of_ble_eq_true rfl⟩
theorem rm_X7_borrow_X7_exchange : RmOk K_X7_borrow.2.2.2.2 K_X7_exchange := ⟨rfl, rfl, Nat.le_of_ble_eq_true rfl, Nat.le_of_ble_eq_true rfl⟩
theorem rm_X7_carry_X7_at : RmOk K_X7_carry.2.2.2.2 K_X7_at := ⟨rfl, rfl, Nat.le_of_ble_eq_true rfl, Nat.le_of_ble_eq_true rfl⟩
theorem rm_X7_carry_X7_exchange : RmOk K_X7_carry.2.2.2.2 K_X7_exchange := ⟨rfl, rfl, Nat.le_of_ble_eq_true rfl, Nat.le_of_ble_eq_true rfl⟩
theorem rm_X7_carryState_X0_becomeLike : RmOk K_X7_carryState.2.2.2.2 K_X0_becomeLike := ⟨rfl, rfl, Nat.le_of_ble_eq_true rfl, Nat.le_of_ble_eq_true rfl⟩
theorem rm_X7_carryState_X7_copyDigits : RmOk K_X7_carryState.2.2.2.2 K_X7_copyDigits := ⟨rfl, rfl, Nat.le_of_ble_eq_true rfl, Nat.le_of_ble_eq_true rfl⟩
theorem rm_X7_rowAt_X7_isWithin : RmOk K_X7_rowAt.2.2.2.2 K_X7_isWithin := ⟨rfl, rfl, Nat.le_of_ble_eq_true rfl, Nat.le_of_ble_eq_true rfl⟩
theorem rm_X7_copy_X2_hasRange : RmOk K_X7_copy.2.2.2.2 K_X2_hasRange := ⟨rfl, rfl, Nat.le_of_ble_eq_true rfl, Nat.le_of_ble_eq_true rfl⟩
theorem rm_X7_copy_X2_isMissing : RmOk K_X7_copy.2.2.2.2 K_X2_isMissing := ⟨rfl, rfl, Nat.le_of_ble_eq_true rfl, Nat.le_of_ble_eq_true rfl⟩
theorem rm_X7_copy_X7_rowAt : RmOk K_X7_copy.2.2.2.2 K_X7_rowAt := ⟨rfl, rfl, Nat.le_of_ble_eq_true rfl, Nat.le_of_ble_eq_true rfl⟩
theorem rm_X7_countReels_X7_reelAt : RmOk K_X7_countReels.2.2.2.2 K_X7_reelAt := ⟨rfl, rfl, Nat.le_of_ble_eq_true rfl, Nat.le_of_ble_eq_true rfl⟩
theorem rm_X7_countRows_X2_isMissing : RmOk K_X7_countRows.2.2.2.2 K_X2_isMissing := ⟨rfl, rfl, Nat.le_of_ble_eq_true rfl, Nat.le_of_ble_eq_true rfl⟩
theorem rm_X7_countRows_X7_rowAt : RmOk K_X7_countRows.2.2.2.2 K_X7_rowAt := ⟨rfl, rfl, Nat.le_of_ble_eq_true rfl, Nat.le_of_ble_eq_true rfl⟩
theorem rm_X7_count_X7_countReels : RmOk K_X7_count.2.2.2.2 K_X7_countReels := ⟨rfl, rfl, Nat.le_of_ble_eq_true rfl, Nat.le_of_ble_eq_true rfl⟩
theorem rm_X7_count_X7_countRows : RmOk K_X7_count.2.2.2.2 K_X7_countRows := ⟨rfl, rfl, Nat.le_of_ble_eq_true rfl, Nat.le_of_ble_eq_true rfl⟩
theorem rm_X7_crossed_X0_greedyInto : RmOk K_X7_crossed.2.2.2.2 K_X0_greedyInto := ⟨rfl, rfl, Nat.le_of_ble_eq_true rfl, Nat.le_of_ble_eq_true rfl⟩
theorem rm_X7_crossed_X0_hasPlace : RmOk K_X7_crossed.2.2.2.2 K_X0_hasPlace := ⟨rfl, rfl, Nat.le_of_ble_eq_true rfl, Nat.le_of_ble_eq_true rfl⟩
theorem rm_X7_crossed_X7_baseAt : RmOk K_X7_crossed.2.2.2.2 K_X7_baseAt := ⟨rfl, rfl, Nat.le_of_ble_eq_true rfl, Nat.le_of_ble_eq_true rfl⟩
theorem rm_X7_digit_X0_hasPlace : RmOk K_X7_digit.2.2.2.2 K_X0_hasPlace := ⟨rfl, rfl, Nat.le_of_ble_eq_true rfl, Nat.le_of_ble_eq_true rfl⟩
theorem rm_X7_digit_X1_keep : RmOk K_X7_digit.2.2.2.2 K_X1_keep := ⟨rfl, rfl, Nat.le_of_ble_eq_true rfl, Nat.le_of_ble_eq_true rfl⟩
theorem rm_X7_digit_X7_isWithin : RmOk K_X7_digit.2.2.2.2 K_X7_isWithin := ⟨rfl, rfl, Nat.le_of_ble_eq_true rfl, Nat.le_of_ble_eq_true rfl⟩
theorem rm_X7_digit_X7_reelAt : RmOk K_X7_digit.2.2.2.2 K_X7_reelAt := ⟨rfl, rfl, Nat.le_of_ble_eq_true rfl, Nat.le_of_ble_eq_true rfl⟩
theorem rm_X7_empty_X7_clearReel : RmOk K_X7_empty.2.2.2.2 K_X7_clearReel := ⟨rfl, rfl, Nat.le_of_ble_eq_true rfl, Nat.le_of_ble_eq_true rfl⟩
theorem rm_X7_empty_X7_reelAt : RmOk K_X7_empty.2.2.2.2 K_X7_reelAt := ⟨rfl, rfl, Nat.le_of_ble_eq_true rfl, Nat.le_of_ble_eq_true rfl⟩
theorem rm_X7_feed_X6_add : RmOk K_X7_feed.2.2.2.2 K_X6_add := ⟨rfl, rfl, Nat.le_of_ble_eq_true rfl, Nat.le_of_ble_eq_true rfl⟩
theorem rm_X7_feed_X7_isWithin : RmOk K_X7_feed.2.2.2.2 K_X7_isWithin := ⟨rfl, rfl, Nat.le_of_ble_eq_true rfl, Nat.le_of_ble_eq_true rfl⟩
theorem rm_X7_fillReel_X1_forget : RmOk K_X7_fillReel.2.2.2.2 K_X1_forget := ⟨rfl, rfl, Nat.le_of_ble_eq_true rfl, Nat.le_of_ble_eq_true rfl⟩
theorem rm_X7_fillReel_X7_copyDigits : RmOk K_X7_fillReel.2.2.2.2 K_X7_copyDigits := ⟨rfl, rfl, Nat.le_of_ble_eq_true rfl, Nat.le_of_ble_eq_true rfl⟩
theorem rm_X7_fillReel_X7_countNotZero : RmOk K_X7_fillReel.2.2.2.2 K_X7_countNotZero := ⟨rfl, rfl, Nat.le_of_ble_eq_true rfl, Nat.le_of_ble_eq_true rfl⟩
theorem rm_X7_fillReel_X7_reelAt : RmOk K_X7_fillReel.2.2.2.2 K_X7_reelAt := ⟨rfl, rfl, Nat.le_of_ble_eq_true rfl, Nat.le_of_ble_eq_true rfl⟩
theorem rm_X7_film_X2_become : RmOk K_X7_film.2.2.2.2 K_X2_become := ⟨rfl, rfl, Nat.le_of_ble_eq_true rfl, Nat.le_of_ble_eq_true rfl⟩
theorem rm_X7_film_X2_hasPlace : RmOk K_X7_film.2.2.2.2 K_X2_hasPlace := ⟨rfl, rfl, Nat.le_of_ble_eq_true rfl, Nat.le_of_ble_eq_true rfl⟩
theorem rm_X7_film_X7_reelAt : RmOk K_X7_film.2.2.2.2 K_X7_reelAt := ⟨rfl, rfl, Nat.le_of_ble_eq_true rfl, Nat.le_of_ble_eq_true rfl⟩
theorem rm_X7_film_X7_rowAt : RmOk K_X7_film.2.2.2.2 K_X7_rowAt := ⟨rfl, rfl, Nat.le_of_ble_eq_true rfl, Nat.le_of_ble_eq_true rfl⟩
theorem rm_X7_get_X2_hasPlace : RmOk K_X7_get.2.2.2.2 K_X2_hasPlace := ⟨rfl, rfl, Nat.le_of_ble_eq_true rfl, Nat.le_of_ble_eq_true rfl⟩
theorem rm_X7_get_X7_rowAt : RmOk K_X7_get.2.2.2.2 K_X7_rowAt := ⟨rfl, rfl, Nat.le_of_ble_eq_true rfl, Nat.le_of_ble_eq_true rfl⟩
theorem rm_X7_image_X7_carryState : RmOk K_X7_image.2.2.2.2 K_X7_carryState := ⟨rfl, rfl, Nat.le_of_ble_eq_true rfl, Nat.le_of_ble_eq_true rfl⟩
theorem rm_X7_image_X7_countReels : RmOk K_X7_image.2.2.2.2 K_X7_countReels := ⟨rfl, rfl, Nat.le_of_ble_eq_true rfl, Nat.le_of_ble_eq_true rfl⟩
theorem rm_X7_lay_X2_digitsInto : RmOk K_X7_lay.2.2.2.2 K_X2_digitsInto := ⟨rfl, rfl, Nat.le_of_ble_eq_true rfl, Nat.le_of_ble_eq_true rfl⟩
theorem rm_X7_lay_X2_isMissing : RmOk K_X7_lay.2.2.2.2 K_X2_isMissing := ⟨rfl, rfl, Nat.le_of_ble_eq_true rfl, Nat.le_of_ble_eq_true rfl⟩
theorem rm_X7_lay_X7_baseAt : RmOk K_X7_lay.2.2.2.2 K_X7_baseAt := ⟨rfl, rfl, Nat.le_of_ble_eq_true rfl, Nat.le_of_ble_eq_true rfl⟩
theorem rm_X7_lay_X7_fillReel : RmOk K_X7_lay.2.2.2.2 K_X7_fillReel := ⟨rfl, rfl, Nat.le_of_ble_eq_true rfl, Nat.le_of_ble_eq_true rfl⟩
theorem rm_X7_lay_X7_reelAt : RmOk K_X7_lay.2.2.2.2 K_X7_reelAt := ⟨rfl, rfl, Nat.le_of_ble_eq_true rfl, Nat.le_of_ble_eq_true rfl⟩
theorem rm_X7_lay_X7_rowAt : RmOk K_X7_lay.2.2.2.2 K_X7_rowAt := ⟨rfl, rfl, Nat.le_of_ble_eq_true rfl, Nat.le_of_ble_eq_true rfl⟩
theorem rm_X7_like_X0_valueOf : RmOk K_X7_like.2.2.2.2 K_X0_valueOf := ⟨rfl, rfl, Nat.le_of_ble_eq_true rfl, Nat.le_of_ble_eq_true rfl⟩
theorem rm_X7_like_X7_countUnlike : RmOk K_X7_like.2.2.2.2 K_X7_countUnlike := ⟨rfl, rfl, Nat.le_of_ble_eq_true rfl, Nat.le_of_ble_eq_true rfl⟩
theorem rm_X7_like_X7_isWithin : RmOk K_X7_like.2.2.2.2 K_X7_isWithin := ⟨rfl, rfl, Nat.le_of_ble_eq_true rfl, Nat.le_of_ble_eq_true rfl⟩
theorem rm_X7_like_X7_reelAt : RmOk K_X7_like.2.2.2.2 K_X7_reelAt := ⟨rfl, rfl, Nat.le_of_ble_eq_true rfl, Nat.le_of_ble_eq_true rfl⟩
theorem rm_X7_of_X0_kind : RmOk K_X7_of.2.2.2.2 K_X0_kind := ⟨rfl, rfl, Nat.le_of_ble_eq_true rfl, Nat.le_of_ble_eq_true rfl⟩
theorem rm_X7_of_X7_baseAt : RmOk K_X7_of.2.2.2.2 K_X7_baseAt := ⟨rfl, rfl, Nat.le_of_ble_eq_true rfl, Nat.le_of_ble_eq_true rfl⟩
theorem rm_X7_of_X7_isWithin : RmOk K_X7_of.2.2.2.2 K_X7_isWithin := ⟨rfl, rfl, Nat.le_of_ble_eq_true rfl, Nat.le_of_ble_eq_true rfl⟩
theorem rm_X7_turnTo_X0_greedyInto : RmOk K_X7_turnTo.2.2.2.2 K_X0_greedyInto := ⟨rfl, rfl, Nat.le_of_ble_eq_true rfl, Nat.le_of_ble_eq_true rfl⟩
theorem rm_X7_turnTo_X1_keep : RmOk K_X7_turnTo.2.2.2.2 K_X1_keep := ⟨rfl, rfl, Nat.le_of_ble_eq_true rfl, Nat.le_of_ble_eq_true rfl⟩
theorem rm_X7_turnTo_X7_copyDigits : RmOk K_X7_turnTo.2.2.2.2 K_X7_copyDigits := ⟨rfl, rfl, Nat.le_of_ble_eq_true rfl, Nat.le_of_ble_eq_true rfl⟩
theorem rm_X7_turnTo_X7_countUnlike : RmOk K_X7_turnTo.2.2.2.2 K_X7_countUnlike := ⟨rfl, rfl, Nat.le_of_ble_eq_true rfl, Nat.le_of_ble_eq_true rfl⟩
theorem rm_X7_on_X0_allows : RmOk K_X7_on.2.2.2.2 K_X0_allows := ⟨rfl, rfl, Nat.le_of_ble_eq_true rfl, Nat.le_of_ble_eq_true rfl⟩
theorem rm_X7_on_X0_valueOf : RmOk K_X7_on.2.2.2.2 K_X0_valueOf := ⟨rfl, rfl, Nat.le_of_ble_eq_true rfl, Nat.le_of_ble_eq_true rfl⟩
theorem rm_X7_on_X7_isWithin : RmOk K_X7_on.2.2.2.2 K_X7_isWithin := ⟨rfl, rfl, Nat.le_of_ble_eq_true rfl, Nat.le_of_ble_eq_true rfl⟩
theorem rm_X7_on_X7_reelAt : RmOk K_X7_on.2.2.2.2 K_X7_reelAt := ⟨rfl, rfl, Nat.le_of_ble_eq_true rfl, Nat.le_of_ble_eq_true rfl⟩
theorem rm_X7_on_X7_turnTo : RmOk K_X7_on.2.2.2.2 K_X7_turnTo := ⟨rfl, rfl, Nat.le_of_ble_eq_true rfl, Nat.le_of_ble_eq_true rfl⟩
theorem rm_X7_printInto_X7_highestNotZero : RmOk K_X7_printInto.2.2.2.2 K_X7_highestNotZero := ⟨rfl, rfl, Nat.le_of_ble_eq_true rfl, Nat.le_of_ble_eq_true rfl⟩
theorem rm_X7_print_X7_printInto : RmOk K_X7_print.2.2.2.2 K_X7_printInto := ⟨rfl, rfl, Nat.le_of_ble_eq_true rfl, Nat.le_of_ble_eq_true rfl⟩
theorem rm_X7_print_X7_reelAt : RmOk K_X7_print.2.2.2.2 K_X7_reelAt := ⟨rfl, rfl, Nat.le_of_ble_eq_true rfl, Nat.le_of_ble_eq_true rfl⟩
theorem rm_X7_put_X2_hasPlace : RmOk K_X7_put.2.2.2.2 K_X2_hasPlace := ⟨rfl, rfl, Nat.le_of_ble_eq_true rfl, Nat.le_of_ble_eq_true rfl⟩
theorem rm_X7_put_X2_isMissing : RmOk K_X7_put.2.2.2.2 K_X2_isMissing := ⟨rfl, rfl, Nat.le_of_ble_eq_true rfl, Nat.le_of_ble_eq_true rfl⟩
theorem rm_X7_put_X7_rowAt : RmOk K_X7_put.2.2.2.2 K_X7_rowAt := ⟨rfl, rfl, Nat.le_of_ble_eq_true rfl, Nat.le_of_ble_eq_true rfl⟩
theorem rm_X7_read_X6_fault : RmOk K_X7_read.2.2.2.2 K_X6_fault := ⟨rfl, rfl, Nat.le_of_ble_eq_true rfl, Nat.le_of_ble_eq_true rfl⟩
theorem rm_X7_read_X6_numbersInto : RmOk K_X7_read.2.2.2.2 K_X6_numbersInto := ⟨rfl, rfl, Nat.le_of_ble_eq_true rfl, Nat.le_of_ble_eq_true rfl⟩
theorem rm_X7_read_X7_baseAt : RmOk K_X7_read.2.2.2.2 K_X7_baseAt := ⟨rfl, rfl, Nat.le_of_ble_eq_true rfl, Nat.le_of_ble_eq_true rfl⟩
theorem rm_X7_read_X7_fillReel : RmOk K_X7_read.2.2.2.2 K_X7_fillReel := ⟨rfl, rfl, Nat.le_of_ble_eq_true rfl, Nat.le_of_ble_eq_true rfl⟩
theorem rm_X7_read_X7_reelAt : RmOk K_X7_read.2.2.2.2 K_X7_reelAt := ⟨rfl, rfl, Nat.le_of_ble_eq_true rfl, Nat.le_of_ble_eq_true rfl⟩
theorem rm_X7_reckon_X7_times : RmOk K_X7_reckon.2.2.2.2 K_X7_times := ⟨rfl, rfl, Nat.le_of_ble_eq_true rfl, Nat.le_of_ble_eq_true rfl⟩
theorem rm_X7_right_X0_valueOf : RmOk K_X7_right.2.2.2.2 K_X0_valueOf := ⟨rfl, rfl, Nat.le_of_ble_eq_true rfl, Nat.le_of_ble_eq_true rfl⟩
theorem rm_X7_right_X7_reelAt : RmOk K_X7_right.2.2.2.2 K_X7_reelAt := ⟨rfl, rfl, Nat.le_of_ble_eq_true rfl, Nat.le_of_ble_eq_true rfl⟩
theorem rm_X7_right_X7_turnTo : RmOk K_X7_right.2.2.2.2 K_X7_turnTo := ⟨rfl, rfl, Nat.le_of_ble_eq_true rfl, Nat.le_of_ble_eq_true rfl⟩
theorem rm_X7_row_X2_become : RmOk K_X7_row.2.2.2.2 K_X2_become := ⟨rfl, rfl, Nat.le_of_ble_eq_true rfl, Nat.le_of_ble_eq_true rfl⟩
theorem rm_X7_row_X7_rowAt : RmOk K_X7_row.2.2.2.2 K_X7_rowAt := ⟨rfl, rfl, Nat.le_of_ble_eq_true rfl, Nat.le_of_ble_eq_true rfl⟩
theorem rm_X7_settle_X0_settleAll : RmOk K_X7_settle.2.2.2.2 K_X0_settleAll := ⟨rfl, rfl, Nat.le_of_ble_eq_true rfl, Nat.le_of_ble_eq_true rfl⟩
theorem rm_X7_settle_X1_keep : RmOk K_X7_settle.2.2.2.2 K_X1_keep := ⟨rfl, rfl, Nat.le_of_ble_eq_true rfl, Nat.le_of_ble_eq_true rfl⟩
theorem rm_X7_settle_X7_reelAt : RmOk K_X7_settle.2.2.2.2 K_X7_reelAt := ⟨rfl, rfl, Nat.le_of_ble_eq_true rfl, Nat.le_of_ble_eq_true rfl⟩
theorem rm_X7_shift_X0_shiftInto : RmOk K_X7_shift.2.2.2.2 K_X0_shiftInto := ⟨rfl, rfl, Nat.le_of_ble_eq_true rfl, Nat.le_of_ble_eq_true rfl⟩
theorem rm_X7_shift_X1_keep : RmOk K_X7_shift.2.2.2.2 K_X1_keep := ⟨rfl, rfl, Nat.le_of_ble_eq_true rfl, Nat.le_of_ble_eq_true rfl⟩
theorem rm_X7_shift_X7_copyDigits : RmOk K_X7_shift.2.2.2.2 K_X7_copyDigits := ⟨rfl, rfl, Nat.le_of_ble_eq_true rfl, Nat.le_of_ble_eq_true rfl⟩
theorem rm_X7_shift_X7_countNotZero : RmOk K_X7_shift.2.2.2.2 K_X7_countNotZero := ⟨rfl, rfl, Nat.le_of_ble_eq_true rfl, Nat.le_of_ble_eq_true rfl⟩
theorem rm_X7_shift_X7_isWithin : RmOk K_X7_shift.2.2.2.2 K_X7_isWithin := ⟨rfl, rfl, Nat.le_of_ble_eq_true rfl, Nat.le_of_ble_eq_true rfl⟩
theorem rm_X7_shift_X7_reelAt : RmOk K_X7_shift.2.2.2.2 K_X7_reelAt := ⟨rfl, rfl, Nat.le_of_ble_eq_true rfl, Nat.le_of_ble_eq_true rfl⟩
theorem rm_X7_soon_X0_allows : RmOk K_X7_soon.2.2.2.2 K_X0_allows := ⟨rfl, rfl, Nat.le_of_ble_eq_true rfl, Nat.le_of_ble_eq_true rfl⟩
theorem rm_X7_soon_X0_hasPlace : RmOk K_X7_soon.2.2.2.2 K_X0_hasPlace := ⟨rfl, rfl, Nat.le_of_ble_eq_true rfl, Nat.le_of_ble_eq_true rfl⟩
theorem rm_X7_soon_X0_turnAhead : RmOk K_X7_soon.2.2.2.2 K_X0_turnAhead := ⟨rfl, rfl, Nat.le_of_ble_eq_true rfl, Nat.le_of_ble_eq_true rfl⟩
theorem rm_X7_soon_X0_valueOf : RmOk K_X7_soon.2.2.2.2 K_X0_valueOf := ⟨rfl, rfl, Nat.le_of_ble_eq_true rfl, Nat.le_of_ble_eq_true rfl⟩
theorem rm_X7_soon_X7_reelAt : RmOk K_X7_soon.2.2.2.2 K_X7_reelAt := ⟨rfl, rfl, Nat.le_of_ble_eq_true rfl, Nat.le_of_ble_eq_true rfl⟩
theorem rm_X7_write_X0_greedyInto : RmOk K_X7_write.2.2.2.2 K_X0_greedyInto := ⟨rfl, rfl, Nat.le_of_ble_eq_true rfl, Nat.le_of_ble_eq_true rfl⟩
theorem rm_X7_write_X7_baseAt : RmOk K_X7_write.2.2.2.2 K_X7_baseAt := ⟨rfl, rfl, Nat.le_of_ble_eq_true rfl, Nat.le_of_ble_eq_true rfl⟩
theorem rm_X7_write_X7_fillReel : RmOk K_X7_write.2.2.2.2 K_X7_fillReel := ⟨rfl, rfl, Nat.le_of_ble_eq_true rfl, Nat.le_of_ble_eq_true rfl⟩
theorem rm_X7_write_X7_reelAt : RmOk K_X7_write.2.2.2.2 K_X7_reelAt := ⟨rfl, rfl, Nat.le_of_ble_eq_true rfl, Nat.le_of_ble_eq_true rfl⟩
theorem rm_X7_sum_X0_valueOf : RmOk K_X7_sum.2.2.2.2 K_X0_valueOf := ⟨rfl, rfl, Nat.le_of_ble_eq_true rfl, Nat.le_of_ble_eq_true rfl⟩
theorem rm_X7_sum_X7_addInto : RmOk K_X7_sum.2.2.2.2 K_X7_addInto := ⟨rfl, rfl, Nat.le_of_ble_eq_true rfl, Nat.le_of_ble_eq_true rfl⟩
theorem rm_X7_sum_X7_fillReel : RmOk K_X7_sum.2.2.2.2 K_X7_fillReel := ⟨rfl, rfl, Nat.le_of_ble_eq_true rfl, Nat.le_of_ble_eq_true rfl⟩
theorem rm_X7_sum_X7_isWithin : RmOk K_X7_sum.2.2.2.2 K_X7_isWithin := ⟨rfl, rfl, Nat.le_of_ble_eq_true rfl, Nat.le_of_ble_eq_true rfl⟩
theorem rm_X7_sum_X7_reckon : RmOk K_X7_sum.2.2.2.2 K_X7_reckon := ⟨rfl, rfl, Nat.le_of_ble_eq_true rfl, Nat.le_of_ble_eq_true rfl⟩
theorem rm_X7_sum_X7_reelAt : RmOk K_X7_sum.2.2.2.2 K_X7_reelAt := ⟨rfl, rfl, Nat.le_of_ble_eq_true rfl, Nat.le_of_ble_eq_true rfl⟩
theorem rm_X7_sum_X7_write : RmOk K_X7_sum.2.2.2.2 K_X7_write := ⟨rfl, rfl, Nat.le_of_ble_eq_true rfl, Nat.le_of_ble_eq_true rfl⟩
theorem rm_X7_taken_X0_kind : RmOk K_X7_taken.2.2.2.2 K_X0_kind := ⟨rfl, rfl, Nat.le_of_ble_eq_true rfl, Nat.le_of_ble_eq_true rfl⟩
theorem rm_X7_taken_X7_baseAt : RmOk K_X7_taken.2.2.2.2 K_X7_baseAt := ⟨rfl, rfl, Nat.le_of_ble_eq_true rfl, Nat.le_of_ble_eq_true rfl⟩
theorem rm_X7_taken_X7_isUnder : RmOk K_X7_taken.2.2.2.2 K_X7_isUnder := ⟨rfl, rfl, Nat.le_of_ble_eq_true rfl, Nat.le_of_ble_eq_true rfl⟩
theorem rm_X7_taken_X7_isWithin : RmOk K_X7_taken.2.2.2.2 K_X7_isWithin := ⟨rfl, rfl, Nat.le_of_ble_eq_true rfl, Nat.le_of_ble_eq_true rfl⟩
theorem rm_X7_told_X0_allows : RmOk K_X7_told.2.2.2.2 K_X0_allows := ⟨rfl, rfl, Nat.le_of_ble_eq_true rfl, Nat.le_of_ble_eq_true rfl⟩
theorem rm_X7_told_X7_countNotZero : RmOk K_X7_told.2.2.2.2 K_X7_countNotZero := ⟨rfl, rfl, Nat.le_of_ble_eq_true rfl, Nat.le_of_ble_eq_true rfl⟩
theorem rm_X7_told_X7_highestNotZero : RmOk K_X7_told.2.2.2.2 K_X7_highestNotZero := ⟨rfl, rfl, Nat.le_of_ble_eq_true rfl, Nat.le_of_ble_eq_true rfl⟩
theorem rm_X7_told_X7_isWithin : RmOk K_X7_told.2.2.2.2 K_X7_isWithin := ⟨rfl, rfl, Nat.le_of_ble_eq_true rfl, Nat.le_of_ble_eq_true rfl⟩
theorem rm_X7_told_X7_reelAt : RmOk K_X7_told.2.2.2.2 K_X7_reelAt := ⟨rfl, rfl, Nat.le_of_ble_eq_true rfl, Nat.le_of_ble_eq_true rfl⟩
theorem rm_X7_top_X7_baseAt : RmOk K_X7_top.2.2.2.2 K_X7_baseAt := ⟨rfl, rfl, Nat.le_of_ble_eq_true rfl, Nat.le_of_ble_eq_true rfl⟩
theorem rm_X7_undo_X7_carryState : RmOk K_X7_undo.2.2.2.2 K_X7_carryState := ⟨rfl, rfl, Nat.le_of_ble_eq_true rfl, Nat.le_of_ble_eq_true rfl⟩
theorem rm_X7_undo_X7_countReels : RmOk K_X7_undo.2.2.2.2 K_X7_countReels := ⟨rfl, rfl, Nat.le_of_ble_eq_true rfl, Nat.le_of_ble_eq_true rfl⟩
theorem rm_X7_value_X0_valueOf : RmOk K_X7_value.2.2.2.2 K_X0_valueOf := ⟨rfl, rfl, Nat.le_of_ble_eq_true rfl, Nat.le_of_ble_eq_true rfl⟩
theorem rm_X7_value_X7_reelAt : RmOk K_X7_value.2.2.2.2 K_X7_reelAt := ⟨rfl, rfl, Nat.le_of_ble_eq_true rfl, Nat.le_of_ble_eq_true rfl⟩
theorem rm_X7_ways_X3_make : RmOk K_X7_ways.2.2.2.2 K_X3_make := ⟨rfl, rfl, Nat.le_of_ble_eq_true rfl, Nat.le_of_ble_eq_true rfl⟩
theorem rm_X7_ways_X7_baseAt : RmOk K_X7_ways.2.2.2.2 K_X7_baseAt := ⟨rfl, rfl, Nat.le_of_ble_eq_true rfl, Nat.le_of_ble_eq_true rfl⟩
theorem rm_X7_ways_X7_isWithin : RmOk K_X7_ways.2.2.2.2 K_X7_isWithin := ⟨rfl, rfl, Nat.le_of_ble_eq_true rfl, Nat.le_of_ble_eq_true rfl⟩
theorem rm_X7_worth_X0_hasPlace : RmOk K_X7_worth.2.2.2.2 K_X0_hasPlace := ⟨rfl, rfl, Nat.le_of_ble_eq_true rfl, Nat.le_of_ble_eq_true rfl⟩
theorem rm_X7_worth_X7_baseAt : RmOk K_X7_worth.2.2.2.2 K_X7_baseAt := ⟨rfl, rfl, Nat.le_of_ble_eq_true rfl, Nat.le_of_ble_eq_true rfl⟩
theorem rm_X7_worth_X7_isWithin : RmOk K_X7_worth.2.2.2.2 K_X7_isWithin := ⟨rfl, rfl, Nat.le_of_ble_eq_true rfl, Nat.le_of_ble_eq_true rfl⟩
theorem rm_X8_isReel_X8_in : RmOk K_X8_isReel.2.2.2.2 K_X8_in := ⟨rfl, rfl, Nat.le_of_ble_eq_true rfl, Nat.le_of_ble_eq_true rfl⟩
theorem rm_X8_refusal_X8_isEmpty : RmOk K_X8_refusal.2.2.2.2 K_X8_isEmpty := ⟨rfl, rfl, Nat.le_of_ble_eq_true rfl, Nat.le_of_ble_eq_true rfl⟩
theorem rm_X8_refusal_X8_isReel : RmOk K_X8_refusal.2.2.2.2 K_X8_isReel := ⟨rfl, rfl, Nat.le_of_ble_eq_true rfl, Nat.le_of_ble_eq_true rfl⟩
theorem rm_X8_refusal__X8_high : RmOk K_X8_refusal_.2.2.2.2 K_X8_high := ⟨rfl, rfl, Nat.le_of_ble_eq_true rfl, Nat.le_of_ble_eq_true rfl⟩
theorem rm_X8_refusal__X8_in : RmOk K_X8_refusal_.2.2.2.2 K_X8_in := ⟨rfl, rfl, Nat.le_of_ble_eq_true rfl, Nat.le_of_ble_eq_true rfl⟩
theorem rm_X8_refusal__X8_refusal : RmOk K_X8_refusal_.2.2.2.2 K_X8_refusal := ⟨rfl, rfl, Nat.le_of_ble_eq_true rfl, Nat.le_of_ble_eq_true rfl⟩
theorem rm_X8_at_X8_digitAt : RmOk K_X8_at.2.2.2.2 K_X8_digitAt := ⟨rfl, rfl, Nat.le_of_ble_eq_true rfl, Nat.le_of_ble_eq_true rfl⟩
theorem rm_X8_at_X8_refusal_ : RmOk K_X8_at.2.2.2.2 K_X8_refusal_ := ⟨rfl, rfl, Nat.le_of_ble_eq_true rfl, Nat.le_of_ble_eq_true rfl⟩
theorem rm_X8_isBase_X8_in : RmOk K_X8_isBase.2.2.2.2 K_X8_in := ⟨rfl, rfl, Nat.le_of_ble_eq_true rfl, Nat.le_of_ble_eq_true rfl⟩
theorem rm_X8_fills_X8_step : RmOk K_X8_fills.2.2.2.2 K_X8_step := ⟨rfl, rfl, Nat.le_of_ble_eq_true rfl, Nat.le_of_ble_eq_true rfl⟩
theorem rm_X8_forgets_X8_moves : RmOk K_X8_forgets.2.2.2.2 K_X8_moves := ⟨rfl, rfl, Nat.le_of_ble_eq_true rfl, Nat.le_of_ble_eq_true rfl⟩
theorem rm_X8_base_X8_fills : RmOk K_X8_base.2.2.2.2 K_X8_fills := ⟨rfl, rfl, Nat.le_of_ble_eq_true rfl, Nat.le_of_ble_eq_true rfl⟩
theorem rm_X8_base_X8_forgets : RmOk K_X8_base.2.2.2.2 K_X8_forgets := ⟨rfl, rfl, Nat.le_of_ble_eq_true rfl, Nat.le_of_ble_eq_true rfl⟩
theorem rm_X8_base_X8_in : RmOk K_X8_base.2.2.2.2 K_X8_in := ⟨rfl, rfl, Nat.le_of_ble_eq_true rfl, Nat.le_of_ble_eq_true rfl⟩
theorem rm_X8_base_X8_isBase : RmOk K_X8_base.2.2.2.2 K_X8_isBase := ⟨rfl, rfl, Nat.le_of_ble_eq_true rfl, Nat.le_of_ble_eq_true rfl⟩
theorem rm_X8_can_X8_digitAt : RmOk K_X8_can.2.2.2.2 K_X8_digitAt := ⟨rfl, rfl, Nat.le_of_ble_eq_true rfl, Nat.le_of_ble_eq_true rfl⟩
theorem rm_X8_can_X8_in : RmOk K_X8_can.2.2.2.2 K_X8_in := ⟨rfl, rfl, Nat.le_of_ble_eq_true rfl, Nat.le_of_ble_eq_true rfl⟩
theorem rm_X8_can_X8_step : RmOk K_X8_can.2.2.2.2 K_X8_step := ⟨rfl, rfl, Nat.le_of_ble_eq_true rfl, Nat.le_of_ble_eq_true rfl⟩
theorem rm_X8_can_X8_worth : RmOk K_X8_can.2.2.2.2 K_X8_worth := ⟨rfl, rfl, Nat.le_of_ble_eq_true rfl, Nat.le_of_ble_eq_true rfl⟩
theorem rm_X8_does_X8_digitAt : RmOk K_X8_does.2.2.2.2 K_X8_digitAt := ⟨rfl, rfl, Nat.le_of_ble_eq_true rfl, Nat.le_of_ble_eq_true rfl⟩
theorem rm_X8_does_X8_moves : RmOk K_X8_does.2.2.2.2 K_X8_moves := ⟨rfl, rfl, Nat.le_of_ble_eq_true rfl, Nat.le_of_ble_eq_true rfl⟩
theorem rm_X8_goes_X8_step : RmOk K_X8_goes.2.2.2.2 K_X8_step := ⟨rfl, rfl, Nat.le_of_ble_eq_true rfl, Nat.le_of_ble_eq_true rfl⟩
theorem rm_X8_goes_X8_worth : RmOk K_X8_goes.2.2.2.2 K_X8_worth := ⟨rfl, rfl, Nat.le_of_ble_eq_true rfl, Nat.le_of_ble_eq_true rfl⟩
theorem rm_X8_borrow_X8_can : RmOk K_X8_borrow.2.2.2.2 K_X8_can := ⟨rfl, rfl, Nat.le_of_ble_eq_true rfl, Nat.le_of_ble_eq_true rfl⟩
theorem rm_X8_borrow_X8_digitAt : RmOk K_X8_borrow.2.2.2.2 K_X8_digitAt := ⟨rfl, rfl, Nat.le_of_ble_eq_true rfl, Nat.le_of_ble_eq_true rfl⟩
theorem rm_X8_borrow_X8_does : RmOk K_X8_borrow.2.2.2.2 K_X8_does := ⟨rfl, rfl, Nat.le_of_ble_eq_true rfl, Nat.le_of_ble_eq_true rfl⟩
theorem rm_X8_borrow_X8_goes : RmOk K_X8_borrow.2.2.2.2 K_X8_goes := ⟨rfl, rfl, Nat.le_of_ble_eq_true rfl, Nat.le_of_ble_eq_true rfl⟩
theorem rm_X8_borrow_X8_refusal_ : RmOk K_X8_borrow.2.2.2.2 K_X8_refusal_ := ⟨rfl, rfl, Nat.le_of_ble_eq_true rfl, Nat.le_of_ble_eq_true rfl⟩
theorem rm_X8_carry_X8_can : RmOk K_X8_carry.2.2.2.2 K_X8_can := ⟨rfl, rfl, Nat.le_of_ble_eq_true rfl, Nat.le_of_ble_eq_true rfl⟩
theorem rm_X8_carry_X8_digitAt : RmOk K_X8_carry.2.2.2.2 K_X8_digitAt := ⟨rfl, rfl, Nat.le_of_ble_eq_true rfl, Nat.le_of_ble_eq_true rfl⟩
theorem rm_X8_carry_X8_does : RmOk K_X8_carry.2.2.2.2 K_X8_does := ⟨rfl, rfl, Nat.le_of_ble_eq_true rfl, Nat.le_of_ble_eq_true rfl⟩
theorem rm_X8_carry_X8_goes : RmOk K_X8_carry.2.2.2.2 K_X8_goes := ⟨rfl, rfl, Nat.le_of_ble_eq_true rfl, Nat.le_of_ble_eq_true rfl⟩
theorem rm_X8_carry_X8_refusal_ : RmOk K_X8_carry.2.2.2.2 K_X8_refusal_ := ⟨rfl, rfl, Nat.le_of_ble_eq_true rfl, Nat.le_of_ble_eq_true rfl⟩
theorem rm_X8_isRow_X8_in : RmOk K_X8_isRow.2.2.2.2 K_X8_in := ⟨rfl, rfl, Nat.le_of_ble_eq_true rfl, Nat.le_of_ble_eq_true rfl⟩
theorem rm_X8_copy_X8_isRow : RmOk K_X8_copy.2.2.2.2 K_X8_isRow := ⟨rfl, rfl, Nat.le_of_ble_eq_true rfl, Nat.le_of_ble_eq_true rfl⟩
theorem rm_X8_full_X8_isEmpty : RmOk K_X8_full.2.2.2.2 K_X8_isEmpty := ⟨rfl, rfl, Nat.le_of_ble_eq_true rfl, Nat.le_of_ble_eq_true rfl⟩
theorem rm_X8_count_X8_full : RmOk K_X8_count.2.2.2.2 K_X8_full := ⟨rfl, rfl, Nat.le_of_ble_eq_true rfl, Nat.le_of_ble_eq_true rfl⟩
theorem rm_X8_makes_X8_worth : RmOk K_X8_makes.2.2.2.2 K_X8_worth := ⟨rfl, rfl, Nat.le_of_ble_eq_true rfl, Nat.le_of_ble_eq_true rfl⟩
theorem rm_X8_crossed_X8_isBase : RmOk K_X8_crossed.2.2.2.2 K_X8_isBase := ⟨rfl, rfl, Nat.le_of_ble_eq_true rfl, Nat.le_of_ble_eq_true rfl⟩
theorem rm_X8_crossed_X8_makes : RmOk K_X8_crossed.2.2.2.2 K_X8_makes := ⟨rfl, rfl, Nat.le_of_ble_eq_true rfl, Nat.le_of_ble_eq_true rfl⟩
theorem rm_X8_digit_X8_digitAt : RmOk K_X8_digit.2.2.2.2 K_X8_digitAt := ⟨rfl, rfl, Nat.le_of_ble_eq_true rfl, Nat.le_of_ble_eq_true rfl⟩
theorem rm_X8_digit_X8_does : RmOk K_X8_digit.2.2.2.2 K_X8_does := ⟨rfl, rfl, Nat.le_of_ble_eq_true rfl, Nat.le_of_ble_eq_true rfl⟩
theorem rm_X8_digit_X8_in : RmOk K_X8_digit.2.2.2.2 K_X8_in := ⟨rfl, rfl, Nat.le_of_ble_eq_true rfl, Nat.le_of_ble_eq_true rfl⟩
theorem rm_X8_digit_X8_isReel : RmOk K_X8_digit.2.2.2.2 K_X8_isReel := ⟨rfl, rfl, Nat.le_of_ble_eq_true rfl, Nat.le_of_ble_eq_true rfl⟩
theorem rm_X8_digit_X8_refusal_ : RmOk K_X8_digit.2.2.2.2 K_X8_refusal_ := ⟨rfl, rfl, Nat.le_of_ble_eq_true rfl, Nat.le_of_ble_eq_true rfl⟩
theorem rm_X8_empty_X8_forgets : RmOk K_X8_empty.2.2.2.2 K_X8_forgets := ⟨rfl, rfl, Nat.le_of_ble_eq_true rfl, Nat.le_of_ble_eq_true rfl⟩
theorem rm_X8_empty_X8_isEmpty : RmOk K_X8_empty.2.2.2.2 K_X8_isEmpty := ⟨rfl, rfl, Nat.le_of_ble_eq_true rfl, Nat.le_of_ble_eq_true rfl⟩
theorem rm_X8_empty_X8_isReel : RmOk K_X8_empty.2.2.2.2 K_X8_isReel := ⟨rfl, rfl, Nat.le_of_ble_eq_true rfl, Nat.le_of_ble_eq_true rfl⟩
theorem rm_X8_feed_X8_in : RmOk K_X8_feed.2.2.2.2 K_X8_in := ⟨rfl, rfl, Nat.le_of_ble_eq_true rfl, Nat.le_of_ble_eq_true rfl⟩
theorem rm_X8_filled_X8_digitAt : RmOk K_X8_filled.2.2.2.2 K_X8_digitAt := ⟨rfl, rfl, Nat.le_of_ble_eq_true rfl, Nat.le_of_ble_eq_true rfl⟩
theorem rm_X8_filled_X8_high : RmOk K_X8_filled.2.2.2.2 K_X8_high := ⟨rfl, rfl, Nat.le_of_ble_eq_true rfl, Nat.le_of_ble_eq_true rfl⟩
theorem rm_X8_row_X8_isRow : RmOk K_X8_row.2.2.2.2 K_X8_isRow := ⟨rfl, rfl, Nat.le_of_ble_eq_true rfl, Nat.le_of_ble_eq_true rfl⟩
theorem rm_X8_film_X8_digitAt : RmOk K_X8_film.2.2.2.2 K_X8_digitAt := ⟨rfl, rfl, Nat.le_of_ble_eq_true rfl, Nat.le_of_ble_eq_true rfl⟩
theorem rm_X8_film_X8_high : RmOk K_X8_film.2.2.2.2 K_X8_high := ⟨rfl, rfl, Nat.le_of_ble_eq_true rfl, Nat.le_of_ble_eq_true rfl⟩
theorem rm_X8_film_X8_isEmpty : RmOk K_X8_film.2.2.2.2 K_X8_isEmpty := ⟨rfl, rfl, Nat.le_of_ble_eq_true rfl, Nat.le_of_ble_eq_true rfl⟩
theorem rm_X8_film_X8_isReel : RmOk K_X8_film.2.2.2.2 K_X8_isReel := ⟨rfl, rfl, Nat.le_of_ble_eq_true rfl, Nat.le_of_ble_eq_true rfl⟩
theorem rm_X8_film_X8_isRow : RmOk K_X8_film.2.2.2.2 K_X8_isRow := ⟨rfl, rfl, Nat.le_of_ble_eq_true rfl, Nat.le_of_ble_eq_true rfl⟩
theorem rm_X8_film_X8_row : RmOk K_X8_film.2.2.2.2 K_X8_row := ⟨rfl, rfl, Nat.le_of_ble_eq_true rfl, Nat.le_of_ble_eq_true rfl⟩
theorem rm_X8_get_X8_in : RmOk K_X8_get.2.2.2.2 K_X8_in := ⟨rfl, rfl, Nat.le_of_ble_eq_true rfl, Nat.le_of_ble_eq_true rfl⟩
theorem rm_X8_get_X8_isRow : RmOk K_X8_get.2.2.2.2 K_X8_isRow := ⟨rfl, rfl, Nat.le_of_ble_eq_true rfl, Nat.le_of_ble_eq_true rfl⟩
theorem rm_X8_highest_X8_digitAt : RmOk K_X8_highest.2.2.2.2 K_X8_digitAt := ⟨rfl, rfl, Nat.le_of_ble_eq_true rfl, Nat.le_of_ble_eq_true rfl⟩
theorem rm_X8_highest_X8_high : RmOk K_X8_highest.2.2.2.2 K_X8_high := ⟨rfl, rfl, Nat.le_of_ble_eq_true rfl, Nat.le_of_ble_eq_true rfl⟩
theorem rm_X8_takes_X8_digitAt : RmOk K_X8_takes.2.2.2.2 K_X8_digitAt := ⟨rfl, rfl, Nat.le_of_ble_eq_true rfl, Nat.le_of_ble_eq_true rfl⟩
theorem rm_X8_takes_X8_high : RmOk K_X8_takes.2.2.2.2 K_X8_high := ⟨rfl, rfl, Nat.le_of_ble_eq_true rfl, Nat.le_of_ble_eq_true rfl⟩
theorem rm_X8_holds_X8_filled : RmOk K_X8_holds.2.2.2.2 K_X8_filled := ⟨rfl, rfl, Nat.le_of_ble_eq_true rfl, Nat.le_of_ble_eq_true rfl⟩
theorem rm_X8_holds_X8_forgets : RmOk K_X8_holds.2.2.2.2 K_X8_forgets := ⟨rfl, rfl, Nat.le_of_ble_eq_true rfl, Nat.le_of_ble_eq_true rfl⟩
theorem rm_X8_holds_X8_takes : RmOk K_X8_holds.2.2.2.2 K_X8_takes := ⟨rfl, rfl, Nat.le_of_ble_eq_true rfl, Nat.le_of_ble_eq_true rfl⟩
theorem rm_X8_image_X8_full : RmOk K_X8_image.2.2.2.2 K_X8_full := ⟨rfl, rfl, Nat.le_of_ble_eq_true rfl, Nat.le_of_ble_eq_true rfl⟩
theorem rm_X8_isFigure_X8_in : RmOk K_X8_isFigure.2.2.2.2 K_X8_in := ⟨rfl, rfl, Nat.le_of_ble_eq_true rfl, Nat.le_of_ble_eq_true rfl⟩
theorem rm_X8_isLegal_X8_digitAt : RmOk K_X8_isLegal.2.2.2.2 K_X8_digitAt := ⟨rfl, rfl, Nat.le_of_ble_eq_true rfl, Nat.le_of_ble_eq_true rfl⟩
theorem rm_X8_isLegal_X8_high : RmOk K_X8_isLegal.2.2.2.2 K_X8_high := ⟨rfl, rfl, Nat.le_of_ble_eq_true rfl, Nat.le_of_ble_eq_true rfl⟩
theorem rm_X8_isLegal_X8_step : RmOk K_X8_isLegal.2.2.2.2 K_X8_step := ⟨rfl, rfl, Nat.le_of_ble_eq_true rfl, Nat.le_of_ble_eq_true rfl⟩
theorem rm_X8_kind_X8_step : RmOk K_X8_kind.2.2.2.2 K_X8_step := ⟨rfl, rfl, Nat.le_of_ble_eq_true rfl, Nat.le_of_ble_eq_true rfl⟩
theorem rm_X8_lay_X8_holds : RmOk K_X8_lay.2.2.2.2 K_X8_holds := ⟨rfl, rfl, Nat.le_of_ble_eq_true rfl, Nat.le_of_ble_eq_true rfl⟩
theorem rm_X8_lay_X8_in : RmOk K_X8_lay.2.2.2.2 K_X8_in := ⟨rfl, rfl, Nat.le_of_ble_eq_true rfl, Nat.le_of_ble_eq_true rfl⟩
theorem rm_X8_lay_X8_isBase : RmOk K_X8_lay.2.2.2.2 K_X8_isBase := ⟨rfl, rfl, Nat.le_of_ble_eq_true rfl, Nat.le_of_ble_eq_true rfl⟩
theorem rm_X8_lay_X8_isReel : RmOk K_X8_lay.2.2.2.2 K_X8_isReel := ⟨rfl, rfl, Nat.le_of_ble_eq_true rfl, Nat.le_of_ble_eq_true rfl⟩
theorem rm_X8_lay_X8_isRow : RmOk K_X8_lay.2.2.2.2 K_X8_isRow := ⟨rfl, rfl, Nat.le_of_ble_eq_true rfl, Nat.le_of_ble_eq_true rfl⟩
theorem rm_X8_valueOf_X8_digitAt : RmOk K_X8_valueOf.2.2.2.2 K_X8_digitAt := ⟨rfl, rfl, Nat.le_of_ble_eq_true rfl, Nat.le_of_ble_eq_true rfl⟩
theorem rm_X8_valueOf_X8_high : RmOk K_X8_valueOf.2.2.2.2 K_X8_high := ⟨rfl, rfl, Nat.le_of_ble_eq_true rfl, Nat.le_of_ble_eq_true rfl⟩
theorem rm_X8_valueOf_X8_worth : RmOk K_X8_valueOf.2.2.2.2 K_X8_worth := ⟨rfl, rfl, Nat.le_of_ble_eq_true rfl, Nat.le_of_ble_eq_true rfl⟩
theorem rm_X8_like_X8_digitAt : RmOk K_X8_like.2.2.2.2 K_X8_digitAt := ⟨rfl, rfl, Nat.le_of_ble_eq_true rfl, Nat.le_of_ble_eq_true rfl⟩
theorem rm_X8_like_X8_high : RmOk K_X8_like.2.2.2.2 K_X8_high := ⟨rfl, rfl, Nat.le_of_ble_eq_true rfl, Nat.le_of_ble_eq_true rfl⟩
theorem rm_X8_like_X8_in : RmOk K_X8_like.2.2.2.2 K_X8_in := ⟨rfl, rfl, Nat.le_of_ble_eq_true rfl, Nat.le_of_ble_eq_true rfl⟩
theorem rm_X8_like_X8_isEmpty : RmOk K_X8_like.2.2.2.2 K_X8_isEmpty := ⟨rfl, rfl, Nat.le_of_ble_eq_true rfl, Nat.le_of_ble_eq_true rfl⟩
theorem rm_X8_like_X8_isReel : RmOk K_X8_like.2.2.2.2 K_X8_isReel := ⟨rfl, rfl, Nat.le_of_ble_eq_true rfl, Nat.le_of_ble_eq_true rfl⟩
theorem rm_X8_like_X8_valueOf : RmOk K_X8_like.2.2.2.2 K_X8_valueOf := ⟨rfl, rfl, Nat.le_of_ble_eq_true rfl, Nat.le_of_ble_eq_true rfl⟩
theorem rm_X8_of_X8_in : RmOk K_X8_of.2.2.2.2 K_X8_in := ⟨rfl, rfl, Nat.le_of_ble_eq_true rfl, Nat.le_of_ble_eq_true rfl⟩
theorem rm_X8_of_X8_isBase : RmOk K_X8_of.2.2.2.2 K_X8_isBase := ⟨rfl, rfl, Nat.le_of_ble_eq_true rfl, Nat.le_of_ble_eq_true rfl⟩
theorem rm_X8_of_X8_kind : RmOk K_X8_of.2.2.2.2 K_X8_kind := ⟨rfl, rfl, Nat.le_of_ble_eq_true rfl, Nat.le_of_ble_eq_true rfl⟩
theorem rm_X8_on_X8_does : RmOk K_X8_on.2.2.2.2 K_X8_does := ⟨rfl, rfl, Nat.le_of_ble_eq_true rfl, Nat.le_of_ble_eq_true rfl⟩
theorem rm_X8_on_X8_in : RmOk K_X8_on.2.2.2.2 K_X8_in := ⟨rfl, rfl, Nat.le_of_ble_eq_true rfl, Nat.le_of_ble_eq_true rfl⟩
theorem rm_X8_on_X8_isEmpty : RmOk K_X8_on.2.2.2.2 K_X8_isEmpty := ⟨rfl, rfl, Nat.le_of_ble_eq_true rfl, Nat.le_of_ble_eq_true rfl⟩
theorem rm_X8_on_X8_isLegal : RmOk K_X8_on.2.2.2.2 K_X8_isLegal := ⟨rfl, rfl, Nat.le_of_ble_eq_true rfl, Nat.le_of_ble_eq_true rfl⟩
theorem rm_X8_on_X8_isReel : RmOk K_X8_on.2.2.2.2 K_X8_isReel := ⟨rfl, rfl, Nat.le_of_ble_eq_true rfl, Nat.le_of_ble_eq_true rfl⟩
theorem rm_X8_on_X8_makes : RmOk K_X8_on.2.2.2.2 K_X8_makes := ⟨rfl, rfl, Nat.le_of_ble_eq_true rfl, Nat.le_of_ble_eq_true rfl⟩
theorem rm_X8_on_X8_takes : RmOk K_X8_on.2.2.2.2 K_X8_takes := ⟨rfl, rfl, Nat.le_of_ble_eq_true rfl, Nat.le_of_ble_eq_true rfl⟩
theorem rm_X8_on_X8_valueOf : RmOk K_X8_on.2.2.2.2 K_X8_valueOf := ⟨rfl, rfl, Nat.le_of_ble_eq_true rfl, Nat.le_of_ble_eq_true rfl⟩
theorem rm_X8_prints_X8_digitAt : RmOk K_X8_prints.2.2.2.2 K_X8_digitAt := ⟨rfl, rfl, Nat.le_of_ble_eq_true rfl, Nat.le_of_ble_eq_true rfl⟩
theorem rm_X8_prints_X8_highest : RmOk K_X8_prints.2.2.2.2 K_X8_highest := ⟨rfl, rfl, Nat.le_of_ble_eq_true rfl, Nat.le_of_ble_eq_true rfl⟩
theorem rm_X8_print_X8_isEmpty : RmOk K_X8_print.2.2.2.2 K_X8_isEmpty := ⟨rfl, rfl, Nat.le_of_ble_eq_true rfl, Nat.le_of_ble_eq_true rfl⟩
theorem rm_X8_print_X8_isReel : RmOk K_X8_print.2.2.2.2 K_X8_isReel := ⟨rfl, rfl, Nat.le_of_ble_eq_true rfl, Nat.le_of_ble_eq_true rfl⟩
theorem rm_X8_print_X8_prints : RmOk K_X8_print.2.2.2.2 K_X8_prints := ⟨rfl, rfl, Nat.le_of_ble_eq_true rfl, Nat.le_of_ble_eq_true rfl⟩
theorem rm_X8_put_X8_in : RmOk K_X8_put.2.2.2.2 K_X8_in := ⟨rfl, rfl, Nat.le_of_ble_eq_true rfl, Nat.le_of_ble_eq_true rfl⟩
theorem rm_X8_put_X8_isRow : RmOk K_X8_put.2.2.2.2 K_X8_isRow := ⟨rfl, rfl, Nat.le_of_ble_eq_true rfl, Nat.le_of_ble_eq_true rfl⟩
theorem rm_X8_reads_X8_isFigure : RmOk K_X8_reads.2.2.2.2 K_X8_isFigure := ⟨rfl, rfl, Nat.le_of_ble_eq_true rfl, Nat.le_of_ble_eq_true rfl⟩
theorem rm_X8_read_X8_holds : RmOk K_X8_read.2.2.2.2 K_X8_holds := ⟨rfl, rfl, Nat.le_of_ble_eq_true rfl, Nat.le_of_ble_eq_true rfl⟩
theorem rm_X8_read_X8_isBase : RmOk K_X8_read.2.2.2.2 K_X8_isBase := ⟨rfl, rfl, Nat.le_of_ble_eq_true rfl, Nat.le_of_ble_eq_true rfl⟩
theorem rm_X8_read_X8_isReel : RmOk K_X8_read.2.2.2.2 K_X8_isReel := ⟨rfl, rfl, Nat.le_of_ble_eq_true rfl, Nat.le_of_ble_eq_true rfl⟩
theorem rm_X8_read_X8_reads : RmOk K_X8_read.2.2.2.2 K_X8_reads := ⟨rfl, rfl, Nat.le_of_ble_eq_true rfl, Nat.le_of_ble_eq_true rfl⟩
theorem rm_X8_right_X8_does : RmOk K_X8_right.2.2.2.2 K_X8_does := ⟨rfl, rfl, Nat.le_of_ble_eq_true rfl, Nat.le_of_ble_eq_true rfl⟩
theorem rm_X8_right_X8_makes : RmOk K_X8_right.2.2.2.2 K_X8_makes := ⟨rfl, rfl, Nat.le_of_ble_eq_true rfl, Nat.le_of_ble_eq_true rfl⟩
theorem rm_X8_right_X8_refusal : RmOk K_X8_right.2.2.2.2 K_X8_refusal := ⟨rfl, rfl, Nat.le_of_ble_eq_true rfl, Nat.le_of_ble_eq_true rfl⟩
theorem rm_X8_right_X8_takes : RmOk K_X8_right.2.2.2.2 K_X8_takes := ⟨rfl, rfl, Nat.le_of_ble_eq_true rfl, Nat.le_of_ble_eq_true rfl⟩
theorem rm_X8_right_X8_valueOf : RmOk K_X8_right.2.2.2.2 K_X8_valueOf := ⟨rfl, rfl, Nat.le_of_ble_eq_true rfl, Nat.le_of_ble_eq_true rfl⟩
theorem rm_X8_settle_X8_can : RmOk K_X8_settle.2.2.2.2 K_X8_can := ⟨rfl, rfl, Nat.le_of_ble_eq_true rfl, Nat.le_of_ble_eq_true rfl⟩
theorem rm_X8_settle_X8_does : RmOk K_X8_settle.2.2.2.2 K_X8_does := ⟨rfl, rfl, Nat.le_of_ble_eq_true rfl, Nat.le_of_ble_eq_true rfl⟩
theorem rm_X8_settle_X8_goes : RmOk K_X8_settle.2.2.2.2 K_X8_goes := ⟨rfl, rfl, Nat.le_of_ble_eq_true rfl, Nat.le_of_ble_eq_true rfl⟩
theorem rm_X8_settle_X8_high : RmOk K_X8_settle.2.2.2.2 K_X8_high := ⟨rfl, rfl, Nat.le_of_ble_eq_true rfl, Nat.le_of_ble_eq_true rfl⟩
theorem rm_X8_settle_X8_refusal : RmOk K_X8_settle.2.2.2.2 K_X8_refusal := ⟨rfl, rfl, Nat.le_of_ble_eq_true rfl, Nat.le_of_ble_eq_true rfl⟩
theorem rm_X8_shift_X8_digitAt : RmOk K_X8_shift.2.2.2.2 K_X8_digitAt := ⟨rfl, rfl, Nat.le_of_ble_eq_true rfl, Nat.le_of_ble_eq_true rfl⟩
theorem rm_X8_shift_X8_does : RmOk K_X8_shift.2.2.2.2 K_X8_does := ⟨rfl, rfl, Nat.le_of_ble_eq_true rfl, Nat.le_of_ble_eq_true rfl⟩
theorem rm_X8_shift_X8_high : RmOk K_X8_shift.2.2.2.2 K_X8_high := ⟨rfl, rfl, Nat.le_of_ble_eq_true rfl, Nat.le_of_ble_eq_true rfl⟩
theorem rm_X8_shift_X8_in : RmOk K_X8_shift.2.2.2.2 K_X8_in := ⟨rfl, rfl, Nat.le_of_ble_eq_true rfl, Nat.le_of_ble_eq_true rfl⟩
theorem rm_X8_shift_X8_isEmpty : RmOk K_X8_shift.2.2.2.2 K_X8_isEmpty := ⟨rfl, rfl, Nat.le_of_ble_eq_true rfl, Nat.le_of_ble_eq_true rfl⟩
theorem rm_X8_shift_X8_isReel : RmOk K_X8_shift.2.2.2.2 K_X8_isReel := ⟨rfl, rfl, Nat.le_of_ble_eq_true rfl, Nat.le_of_ble_eq_true rfl⟩
theorem rm_X8_shift_X8_takes : RmOk K_X8_shift.2.2.2.2 K_X8_takes := ⟨rfl, rfl, Nat.le_of_ble_eq_true rfl, Nat.le_of_ble_eq_true rfl⟩
theorem rm_X8_soon_X8_digitAt : RmOk K_X8_soon.2.2.2.2 K_X8_digitAt := ⟨rfl, rfl, Nat.le_of_ble_eq_true rfl, Nat.le_of_ble_eq_true rfl⟩
theorem rm_X8_soon_X8_isLegal : RmOk K_X8_soon.2.2.2.2 K_X8_isLegal := ⟨rfl, rfl, Nat.le_of_ble_eq_true rfl, Nat.le_of_ble_eq_true rfl⟩
theorem rm_X8_soon_X8_makes : RmOk K_X8_soon.2.2.2.2 K_X8_makes := ⟨rfl, rfl, Nat.le_of_ble_eq_true rfl, Nat.le_of_ble_eq_true rfl⟩
theorem rm_X8_soon_X8_refusal_ : RmOk K_X8_soon.2.2.2.2 K_X8_refusal_ := ⟨rfl, rfl, Nat.le_of_ble_eq_true rfl, Nat.le_of_ble_eq_true rfl⟩
theorem rm_X8_soon_X8_valueOf : RmOk K_X8_soon.2.2.2.2 K_X8_valueOf := ⟨rfl, rfl, Nat.le_of_ble_eq_true rfl, Nat.le_of_ble_eq_true rfl⟩
theorem rm_X8_sum_X8_comes : RmOk K_X8_sum.2.2.2.2 K_X8_comes := ⟨rfl, rfl, Nat.le_of_ble_eq_true rfl, Nat.le_of_ble_eq_true rfl⟩
theorem rm_X8_sum_X8_digitAt : RmOk K_X8_sum.2.2.2.2 K_X8_digitAt := ⟨rfl, rfl, Nat.le_of_ble_eq_true rfl, Nat.le_of_ble_eq_true rfl⟩
theorem rm_X8_sum_X8_holds : RmOk K_X8_sum.2.2.2.2 K_X8_holds := ⟨rfl, rfl, Nat.le_of_ble_eq_true rfl, Nat.le_of_ble_eq_true rfl⟩
theorem rm_X8_sum_X8_in : RmOk K_X8_sum.2.2.2.2 K_X8_in := ⟨rfl, rfl, Nat.le_of_ble_eq_true rfl, Nat.le_of_ble_eq_true rfl⟩
theorem rm_X8_sum_X8_isEmpty : RmOk K_X8_sum.2.2.2.2 K_X8_isEmpty := ⟨rfl, rfl, Nat.le_of_ble_eq_true rfl, Nat.le_of_ble_eq_true rfl⟩
theorem rm_X8_sum_X8_isReel : RmOk K_X8_sum.2.2.2.2 K_X8_isReel := ⟨rfl, rfl, Nat.le_of_ble_eq_true rfl, Nat.le_of_ble_eq_true rfl⟩
theorem rm_X8_sum_X8_makes : RmOk K_X8_sum.2.2.2.2 K_X8_makes := ⟨rfl, rfl, Nat.le_of_ble_eq_true rfl, Nat.le_of_ble_eq_true rfl⟩
theorem rm_X8_sum_X8_valueOf : RmOk K_X8_sum.2.2.2.2 K_X8_valueOf := ⟨rfl, rfl, Nat.le_of_ble_eq_true rfl, Nat.le_of_ble_eq_true rfl⟩
theorem rm_X8_taken_X8_in : RmOk K_X8_taken.2.2.2.2 K_X8_in := ⟨rfl, rfl, Nat.le_of_ble_eq_true rfl, Nat.le_of_ble_eq_true rfl⟩
theorem rm_X8_taken_X8_isBase : RmOk K_X8_taken.2.2.2.2 K_X8_isBase := ⟨rfl, rfl, Nat.le_of_ble_eq_true rfl, Nat.le_of_ble_eq_true rfl⟩
theorem rm_X8_taken_X8_kind : RmOk K_X8_taken.2.2.2.2 K_X8_kind := ⟨rfl, rfl, Nat.le_of_ble_eq_true rfl, Nat.le_of_ble_eq_true rfl⟩
theorem rm_X8_told_X8_filled : RmOk K_X8_told.2.2.2.2 K_X8_filled := ⟨rfl, rfl, Nat.le_of_ble_eq_true rfl, Nat.le_of_ble_eq_true rfl⟩
theorem rm_X8_told_X8_highest : RmOk K_X8_told.2.2.2.2 K_X8_highest := ⟨rfl, rfl, Nat.le_of_ble_eq_true rfl, Nat.le_of_ble_eq_true rfl⟩
theorem rm_X8_told_X8_in : RmOk K_X8_told.2.2.2.2 K_X8_in := ⟨rfl, rfl, Nat.le_of_ble_eq_true rfl, Nat.le_of_ble_eq_true rfl⟩
theorem rm_X8_told_X8_isEmpty : RmOk K_X8_told.2.2.2.2 K_X8_isEmpty := ⟨rfl, rfl, Nat.le_of_ble_eq_true rfl, Nat.le_of_ble_eq_true rfl⟩
theorem rm_X8_told_X8_isLegal : RmOk K_X8_told.2.2.2.2 K_X8_isLegal := ⟨rfl, rfl, Nat.le_of_ble_eq_true rfl, Nat.le_of_ble_eq_true rfl⟩
theorem rm_X8_told_X8_isReel : RmOk K_X8_told.2.2.2.2 K_X8_isReel := ⟨rfl, rfl, Nat.le_of_ble_eq_true rfl, Nat.le_of_ble_eq_true rfl⟩
theorem rm_X8_top_X8_isBase : RmOk K_X8_top.2.2.2.2 K_X8_isBase := ⟨rfl, rfl, Nat.le_of_ble_eq_true rfl, Nat.le_of_ble_eq_true rfl⟩
theorem rm_X8_undo_X8_fills : RmOk K_X8_undo.2.2.2.2 K_X8_fills := ⟨rfl, rfl, Nat.le_of_ble_eq_true rfl, Nat.le_of_ble_eq_true rfl⟩
theorem rm_X8_undo_X8_full : RmOk K_X8_undo.2.2.2.2 K_X8_full := ⟨rfl, rfl, Nat.le_of_ble_eq_true rfl, Nat.le_of_ble_eq_true rfl⟩
theorem rm_X8_value_X8_refusal : RmOk K_X8_value.2.2.2.2 K_X8_refusal := ⟨rfl, rfl, Nat.le_of_ble_eq_true rfl, Nat.le_of_ble_eq_true rfl⟩
theorem rm_X8_value_X8_valueOf : RmOk K_X8_value.2.2.2.2 K_X8_valueOf := ⟨rfl, rfl, Nat.le_of_ble_eq_true rfl, Nat.le_of_ble_eq_true rfl⟩
theorem rm_X8_ways_X8_in : RmOk K_X8_ways.2.2.2.2 K_X8_in := ⟨rfl, rfl, Nat.le_of_ble_eq_true rfl, Nat.le_of_ble_eq_true rfl⟩
theorem rm_X8_ways_X8_isBase : RmOk K_X8_ways.2.2.2.2 K_X8_isBase := ⟨rfl, rfl, Nat.le_of_ble_eq_true rfl, Nat.le_of_ble_eq_true rfl⟩
theorem rm_X8_ways_X8_leaves : RmOk K_X8_ways.2.2.2.2 K_X8_leaves := ⟨rfl, rfl, Nat.le_of_ble_eq_true rfl, Nat.le_of_ble_eq_true rfl⟩
theorem rm_X8_ways_X8_worth : RmOk K_X8_ways.2.2.2.2 K_X8_worth := ⟨rfl, rfl, Nat.le_of_ble_eq_true rfl, Nat.le_of_ble_eq_true rfl⟩
theorem rm_X8_worth__X8_in : RmOk K_X8_worth_.2.2.2.2 K_X8_in := ⟨rfl, rfl, Nat.le_of_ble_eq_true rfl, Nat.le_of_ble_eq_true rfl⟩
theorem rm_X8_worth__X8_isBase : RmOk K_X8_worth_.2.2.2.2 K_X8_isBase := ⟨rfl, rfl, Nat.le_of_ble_eq_true rfl, Nat.le_of_ble_eq_true rfl⟩
theorem rm_X8_worth__X8_step : RmOk K_X8_worth_.2.2.2.2 K_X8_step := ⟨rfl, rfl, Nat.le_of_ble_eq_true rfl, Nat.le_of_ble_eq_true rfl⟩
theorem rm_X8_worth__X8_worth : RmOk K_X8_worth_.2.2.2.2 K_X8_worth := ⟨rfl, rfl, Nat.le_of_ble_eq_true rfl, Nat.le_of_ble_eq_true rfl⟩
theorem rm_X8_write_X8_holds : RmOk K_X8_write.2.2.2.2 K_X8_holds := ⟨rfl, rfl, Nat.le_of_ble_eq_true rfl, Nat.le_of_ble_eq_true rfl⟩
theorem rm_X8_write_X8_isBase : RmOk K_X8_write.2.2.2.2 K_X8_isBase := ⟨rfl, rfl, Nat.le_of_ble_eq_true rfl, Nat.le_of_ble_eq_true rfl⟩
theorem rm_X8_write_X8_isReel : RmOk K_X8_write.2.2.2.2 K_X8_isReel := ⟨rfl, rfl, Nat.le_of_ble_eq_true rfl, Nat.le_of_ble_eq_true rfl⟩
theorem rm_X8_write_X8_makes : RmOk K_X8_write.2.2.2.2 K_X8_makes := ⟨rfl, rfl, Nat.le_of_ble_eq_true rfl, Nat.le_of_ble_eq_true rfl⟩
theorem fn_0_1 {b : Nat} (h : shp b = (0, 0, 0)) : fin b 1 = b + 6 :=
  have key : ∀ b, b < 101 → shp b = (0, 0, 0) → fin b 1 = b + 6 := by decide +kernel
  key b (shp_lt h (by decide)) h
theorem sf_0_1 {b : Nat} (h : shp b = (0, 0, 0)) : shp (b + 6) = (1, 0, 43) :=
  have key : ∀ b, b < 101 → shp b = (0, 0, 0) → shp (b + 6) = (1, 0, 43) := by decide +kernel
  key b (shp_lt h (by decide)) h
theorem fn_0_2 {b : Nat} (h : shp b = (0, 0, 0)) : fin b 2 = b + 12 :=
  have key : ∀ b, b < 101 → shp b = (0, 0, 0) → fin b 2 = b + 12 := by decide +kernel
  key b (shp_lt h (by decide)) h
theorem sf_0_2 {b : Nat} (h : shp b = (0, 0, 0)) : shp (b + 12) = (2, 0, 43) :=
  have key : ∀ b, b < 101 → shp b = (0, 0, 0) → shp (b + 12) = (2, 0, 43) := by decide +kernel
  key b (shp_lt h (by decide)) h
theorem fn_2_0 {b : Nat} (h : shp b = (0, 2, 0)) : fin b 0 = b + 3 :=
  have key : ∀ b, b < 101 → shp b = (0, 2, 0) → fin b 0 = b + 3 := by decide +kernel
  key b (shp_lt h (by decide)) h
theorem sf_2_0 {b : Nat} (h : shp b = (0, 2, 0)) : shp (b + 3) = (2, 0, 60) :=
  have key : ∀ b, b < 101 → shp b = (0, 2, 0) → shp (b + 3) = (2, 0, 60) := by decide +kernel
  key b (shp_lt h (by decide)) h
theorem fn_4_1 {b : Nat} (h : shp b = (0, 4, 0)) : fin b 1 = b + 12 :=
  have key : ∀ b, b < 101 → shp b = (0, 4, 0) → fin b 1 = b + 12 := by decide +kernel
  key b (shp_lt h (by decide)) h
theorem sf_4_1 {b : Nat} (h : shp b = (0, 4, 0)) : shp (b + 12) = (1, 0, 43) :=
  have key : ∀ b, b < 101 → shp b = (0, 4, 0) → shp (b + 12) = (1, 0, 43) := by decide +kernel
  key b (shp_lt h (by decide)) h
theorem fn_5_0 {b : Nat} (h : shp b = (0, 5, 0)) : fin b 0 = b + 2 :=
  have key : ∀ b, b < 101 → shp b = (0, 5, 0) → fin b 0 = b + 2 := by decide +kernel
  key b (shp_lt h (by decide)) h
theorem sf_5_0 {b : Nat} (h : shp b = (0, 5, 0)) : shp (b + 2) = (2, 0, 1300) :=
  have key : ∀ b, b < 101 → shp b = (0, 5, 0) → shp (b + 2) = (2, 0, 1300) := by decide +kernel
  key b (shp_lt h (by decide)) h
theorem fn_5_1 {b : Nat} (h : shp b = (0, 5, 0)) : fin b 1 = b + 4 :=
  have key : ∀ b, b < 101 → shp b = (0, 5, 0) → fin b 1 = b + 4 := by decide +kernel
  key b (shp_lt h (by decide)) h
theorem sf_5_1 {b : Nat} (h : shp b = (0, 5, 0)) : shp (b + 4) = (2, 0, 1300) :=
  have key : ∀ b, b < 101 → shp b = (0, 5, 0) → shp (b + 4) = (2, 0, 1300) := by decide +kernel
  key b (shp_lt h (by decide)) h
theorem fn_5_2 {b : Nat} (h : shp b = (0, 5, 0)) : fin b 2 = b + 6 :=
  have key : ∀ b, b < 101 → shp b = (0, 5, 0) → fin b 2 = b + 6 := by decide +kernel
  key b (shp_lt h (by decide)) h
theorem sf_5_2 {b : Nat} (h : shp b = (0, 5, 0)) : shp (b + 6) = (1, 0, 1300) :=
  have key : ∀ b, b < 101 → shp b = (0, 5, 0) → shp (b + 6) = (1, 0, 1300) := by decide +kernel
  key b (shp_lt h (by decide)) h
theorem se_1 {i : Int} (h0 : 0 ≤ i) (h1 : i < 3) : shp (24 + i.toNat) = (0, 0, 0) :=
  have key : ∀ n, n < 3 → shp (24 + n) = (0, 0, 0) := by decide +kernel
  key i.toNat (by omega)
theorem se_2 {i : Int} (h0 : 0 ≤ i) (h1 : i < 3) : shp (27 + i.toNat) = (0, 0, 0) :=
  have key : ∀ n, n < 3 → shp (27 + n) = (0, 0, 0) := by decide +kernel
  key i.toNat (by omega)
theorem se_3 {i : Int} (h0 : 0 ≤ i) (h1 : i < 6) : shp (42 + i.toNat) = (0, 4, 0) :=
  have key : ∀ n, n < 6 → shp (42 + n) = (0, 4, 0) := by decide +kernel
  key i.toNat (by omega)
theorem se_4 {i : Int} (h0 : 0 ≤ i) (h1 : i < 6) : shp (48 + i.toNat) = (0, 4, 0) :=
  have key : ∀ n, n < 6 → shp (48 + n) = (0, 4, 0) := by decide +kernel
  key i.toNat (by omega)
theorem se_5 {i : Int} (h0 : 0 ≤ i) (h1 : i < 3) : shp (66 + i.toNat) = (0, 2, 0) :=
  have key : ∀ n, n < 3 → shp (66 + n) = (0, 2, 0) := by decide +kernel
  key i.toNat (by omega)
theorem sv_3 {a : Nat} {i : Int} (h : shp a = (4, 3, 3)) (h0 : 0 ≤ i) (h1 : i < 3) : shp (fin a i.toNat) = (0, 0, 0) :=
  have key : ∀ a, a < 101 → shp a = (4, 3, 3) → ∀ n, n < 3 → shp (fin a n) = (0, 0, 0) := by decide +kernel
  key a (shp_lt h (by decide)) h i.toNat (by omega)
theorem sv_4 {a : Nat} {i : Int} (h : shp a = (4, 4, 6)) (h0 : 0 ≤ i) (h1 : i < 6) : shp (fin a i.toNat) = (0, 4, 0) :=
  have key : ∀ a, a < 101 → shp a = (4, 4, 6) → ∀ n, n < 6 → shp (fin a n) = (0, 4, 0) := by decide +kernel
  key a (shp_lt h (by decide)) h i.toNat (by omega)
end
section
/-! by program: the block rules of class 0 -/
theorem bX0_allows_0 {a0 : Nat} {a1 : Nat} {σ : ASt} {QT QF : ASt → Prop} (ha0 : shp a0 = (0, 0, 0)) (ha1 : shp a1 = (1, 0, 43)) (h : Wx K_X0_allows (QZ QT QF) 2 [(0, .ref a0), (1, .ref a1), (2, .int (iI 0))] [] σ) : Wx K_X0_allows (QZ QT QF) 0 [(0, .ref a0), (1, .ref a1)] [] σ := by
  intro p l e s m args below meth c D cA ad X0 hr hlk
  have X : Cx p s m args c (adA ad) D cA ad RX0 cX0_allows 3 := X0
  refine g_iconst X dX0_allows_0 ?_
  refine g_istore_n X (lv' := [(2, .int (iI 0)), (0, .ref a0), (1, .ref a1)]) dX0_allows_1 (by decide) rfl ?_
  exact g_sub (lv' := [(0, .ref a0), (1, .ref a1), (2, .int (iI 0))]) [1, 2, 0] rfl (h p l e s m args below meth c D cA ad X0 hr hlk)
theorem eX0_allows {a0 : Nat} {a1 : Nat} {σ : ASt} {QT QF : ASt → Prop} (ha0 : shp a0 = (0, 0, 0)) (ha1 : shp a1 = (1, 0, 43)) (h : Wx K_X0_allows (QZ QT QF) 2 [(0, .ref a0), (1, .ref a1), (2, .int (iI 0))] [] σ) : EvZ K_X0_allows [.ref a0, .ref a1] σ QT QF := Ev.of rfl (Nat.le_of_ble_eq_true rfl) rfl (bX0_allows_0 ha0 ha1 h)
theorem bX0_allows_2 {a0 : Nat} {a1 : Nat} {v2 : Int} {σ : ASt} {QT QF : ASt → Prop} (ha0 : shp a0 = (0, 0, 0)) (ha1 : shp a1 = (1, 0, 43)) (h32v2 : i32 v2) (h : ((43 ≤ v2 → QT σ) ∧ (v2 < 43 → ((43 ≤ v2 → QT σ) ∧ (v2 < 43 → (0 ≤ v2 ∧ v2 < 43) ∧ i32 ((gI σ a1 v2)) ∧ i32 ((gI σ (a0 + 6) v2)) ∧ (((gI σ (a0 + 6) v2) < (gI σ a1 v2) → QF σ) ∧ ((gI σ a1 v2) ≤ (gI σ (a0 + 6) v2) → (((gI σ a1 v2) ≠ (gI σ (a0 + 6) v2) → Wx K_X0_allows (QZ QT QF) 2 [(0, .ref a0), (1, .ref a1), (2, .int (iI (v2 + 1)))] [] σ) ∧ ((gI σ a1 v2) = (gI σ (a0 + 6) v2) → ((v2 ≤ 0 → Wx K_X0_allows (QZ QT QF) 2 [(0, .ref a0), (1, .ref a1), (2, .int (iI (v2 + 1)))] [] σ) ∧ (0 < v2 → (0 ≤ (v2 - 1) ∧ (v2 - 1) < 43) ∧ i32 ((gI σ a1 (v2 - 1))) ∧ (((gI σ a1 (v2 - 1)) = 0 → Wx K_X0_allows (QZ QT QF) 2 [(0, .ref a0), (1, .ref a1), (2, .int (iI (v2 + 1)))] [] σ) ∧ ((gI σ a1 (v2 - 1)) ≠ 0 → QF σ))))))))))))) : Wx K_X0_allows (QZ QT QF) 2 [(0, .ref a0), (1, .ref a1), (2, .int (iI v2))] [] σ := by
  intro p l e s m args below meth c D cA ad X0 hr hlk
  have X : Cx p s m args c (adA ad) D cA ad RX0 cX0_allows 3 := X0
  refine g_iload_n X 2 dX0_allows_2 rfl ?_
  refine g_aload_n X 1 dX0_allows_3 rfl ?_
  refine g_alen1 X (z := 43) dX0_allows_4 ha1 rfl ?_
  refine g_icmp_ge X (tgt := 61) dX0_allows_5 (by decide) h32v2 (by omega) (fun c1 => ?_) (fun c1 => ?_)
  · have h := h.1 c1
    refine g_iconst X dX0_allows_61 ?_
    exact g_iret X hr hlk dX0_allows_62 rfl (Or.inl ⟨rfl, h⟩)
  · have h := h.2 c1
    refine g_iload_n X 2 dX0_allows_8 rfl ?_
    refine g_aload_n X 0 dX0_allows_9 rfl ?_
    refine g_getF X (f := (a0 + 6)) dX0_allows_10 lf_X0_9 ha0 rfl (fn_0_1 ha0) ?_
    refine g_alen1 X (z := 43) dX0_allows_13 (sf_0_1 ha0) rfl ?_
    refine g_icmp_ge X (tgt := 61) dX0_allows_14 (by decide) h32v2 (by omega) (fun c2 => ?_) (fun c2 => ?_)
    · have h := h.1 c2
      refine g_iconst X dX0_allows_61 ?_
      exact g_iret X hr hlk dX0_allows_62 rfl (Or.inl ⟨rfl, h⟩)
    · have h := h.2 c2
      refine g_aload_n X 1 dX0_allows_17 rfl ?_
      refine g_iload_n X 2 dX0_allows_18 rfl ?_
      obtain ⟨q3, h⟩ := h
      refine g_iald X dX0_allows_19 ha1 q3.1 q3.2 ?_
      refine g_aload_n X 0 dX0_allows_20 rfl ?_
      refine g_getF X (f := (a0 + 6)) dX0_allows_21 lf_X0_9 ha0 rfl (fn_0_1 ha0) ?_
      refine g_iload_n X 2 dX0_allows_24 rfl ?_
      refine g_iald X dX0_allows_25 (sf_0_1 ha0) q3.1 q3.2 ?_
      obtain ⟨q4, h⟩ := h
      obtain ⟨q5, h⟩ := h
      refine g_icmp_gt X (tgt := 53) dX0_allows_26 (by decide) q4 q5 (fun c6 => ?_) (fun c6 => ?_)
      · have h := h.1 c6
        refine g_iconst X dX0_allows_53 ?_
        exact g_iret X hr hlk dX0_allows_54 rfl (Or.inr ⟨rfl, h⟩)
      · have h := h.2 c6
        refine g_aload_n X 1 dX0_allows_29 rfl ?_
        refine g_iload_n X 2 dX0_allows_30 rfl ?_
        refine g_iald X dX0_allows_31 ha1 q3.1 q3.2 ?_
        refine g_aload_n X 0 dX0_allows_32 rfl ?_
        refine g_getF X (f := (a0 + 6)) dX0_allows_33 lf_X0_9 ha0 rfl (fn_0_1 ha0) ?_
        refine g_iload_n X 2 dX0_allows_36 rfl ?_
        refine g_iald X dX0_allows_37 (sf_0_1 ha0) q3.1 q3.2 ?_
        refine g_icmp_ne X (tgt := 55) dX0_allows_38 (by decide) q4 q5 (fun c7 => ?_) (fun c7 => ?_)
        · have h := h.1 c7
          refine g_iinc X (x := v2) (lv' := [(2, .int (iI (v2 + 1))), (0, .ref a0), (1, .ref a1)]) 2 dX0_allows_55 rfl (by decide) rfl ?_
          refine g_goto X (tgt := 2) dX0_allows_58 (by decide) ?_
          exact g_sub (lv' := [(0, .ref a0), (1, .ref a1), (2, .int (iI (v2 + 1)))]) [1, 2, 0] rfl (h p l e s m args below meth c D cA ad X0 hr hlk)
        · have h := h.2 c7
          refine g_iload_n X 2 dX0_allows_41 rfl ?_
          refine g_if_le X (tgt := 55) dX0_allows_42 (by decide) h32v2 (fun c8 => ?_) (fun c8 => ?_)
          · have h := h.1 c8
            refine g_iinc X (x := v2) (lv' := [(2, .int (iI (v2 + 1))), (0, .ref a0), (1, .ref a1)]) 2 dX0_allows_55 rfl (by decide) rfl ?_
            refine g_goto X (tgt := 2) dX0_allows_58 (by decide) ?_
            exact g_sub (lv' := [(0, .ref a0), (1, .ref a1), (2, .int (iI (v2 + 1)))]) [1, 2, 0] rfl (h p l e s m args below meth c D cA ad X0 hr hlk)
          · have h := h.2 c8
            refine g_aload_n X 1 dX0_allows_45 rfl ?_
            refine g_iload_n X 2 dX0_allows_46 rfl ?_
            refine g_iconst X dX0_allows_47 ?_
            refine g_isub X dX0_allows_48 ?_
            obtain ⟨q9, h⟩ := h
            refine g_iald X dX0_allows_49 ha1 q9.1 q9.2 ?_
            obtain ⟨q10, h⟩ := h
            refine g_if_eq X (tgt := 55) dX0_allows_50 (by decide) q10 (fun c11 => ?_) (fun c11 => ?_)
            · have h := h.1 c11
              refine g_iinc X (x := v2) (lv' := [(2, .int (iI (v2 + 1))), (0, .ref a0), (1, .ref a1)]) 2 dX0_allows_55 rfl (by decide) rfl ?_
              refine g_goto X (tgt := 2) dX0_allows_58 (by decide) ?_
              exact g_sub (lv' := [(0, .ref a0), (1, .ref a1), (2, .int (iI (v2 + 1)))]) [1, 2, 0] rfl (h p l e s m args below meth c D cA ad X0 hr hlk)
            · have h := h.2 c11
              refine g_iconst X dX0_allows_53 ?_
              exact g_iret X hr hlk dX0_allows_54 rfl (Or.inr ⟨rfl, h⟩)
theorem bX0_becomeLike_0 {a0 : Nat} {a1 : Nat} {σ : ASt} {Q : ASt → Prop} (ha0 : shp a0 = (0, 0, 0)) (ha1 : shp a1 = (0, 0, 0)) (h : Q (cL (cI (sL (sI (sI σ a0 3 (gI σ a1 3)) a0 4 (gI (sI σ a0 3 (gI σ a1 3)) a1 4)) a0 5 (gL (sI (sI σ a0 3 (gI σ a1 3)) a0 4 (gI (sI σ a0 3 (gI σ a1 3)) a1 4)) a1 5)) (a1 + 6) (a0 + 6) 0 0 43) (a1 + 12) (a0 + 12) 0 0 43)) : Wx K_X0_becomeLike (QV Q) 0 [(0, .ref a0), (1, .ref a1)] [] σ := by
  intro p l e s m args below meth c D cA ad X0 hr hlk
  have X : Cx p s m args c (adA ad) D cA ad RX0 cX0_becomeLike 2 := X0
  refine g_aload_n X 0 dX0_becomeLike_0 rfl ?_
  refine g_aload_n X 1 dX0_becomeLike_1 rfl ?_
  refine g_getI X (z := 3) dX0_becomeLike_2 lf_X0_40 ha1 rfl rfl ?_
  refine g_putI X (j := 3) (z := 3) dX0_becomeLike_5 lp_X0_40 ha0 rfl rfl ?_
  refine g_aload_n X 0 dX0_becomeLike_8 rfl ?_
  refine g_aload_n X 1 dX0_becomeLike_9 rfl ?_
  refine g_getI X (z := 4) dX0_becomeLike_10 lf_X0_48 ha1 rfl rfl ?_
  refine g_putI X (j := 4) (z := 4) dX0_becomeLike_13 lp_X0_48 ha0 rfl rfl ?_
  refine g_aload_n X 0 dX0_becomeLike_16 rfl ?_
  refine g_aload_n X 1 dX0_becomeLike_17 rfl ?_
  refine g_getL X (z := 5) dX0_becomeLike_18 lf_X0_51 ha1 rfl rfl ?_
  refine g_putL X (j := 5) (z := 5) dX0_becomeLike_21 lp_X0_51 ha0 rfl rfl ?_
  refine g_aload_n X 1 dX0_becomeLike_24 rfl ?_
  refine g_getF X (f := (a1 + 6)) dX0_becomeLike_25 lf_X0_9 ha1 rfl (fn_0_1 ha1) ?_
  refine g_iconst X dX0_becomeLike_28 ?_
  refine g_aload_n X 0 dX0_becomeLike_29 rfl ?_
  refine g_getF X (f := (a0 + 6)) dX0_becomeLike_30 lf_X0_9 ha0 rfl (fn_0_1 ha0) ?_
  refine g_iconst X dX0_becomeLike_33 ?_
  refine g_aload_n X 0 dX0_becomeLike_34 rfl ?_
  refine g_getF X (f := (a0 + 6)) dX0_becomeLike_35 lf_X0_9 ha0 rfl (fn_0_1 ha0) ?_
  refine g_alen1 X (z := 43) dX0_becomeLike_38 (sf_0_1 ha0) rfl ?_
  refine g_copyI X dX0_becomeLike_39 la_X0_55 (by decide) (Nat.le_of_ble_eq_true rfl) (sf_0_1 ha1) (sf_0_1 ha0) (by decide) (by decide) (by decide) (by decide) (by decide) ?_
  refine g_aload_n X 1 dX0_becomeLike_42 rfl ?_
  refine g_getF X (f := (a1 + 12)) dX0_becomeLike_43 lf_X0_15 ha1 rfl (fn_0_2 ha1) ?_
  refine g_iconst X dX0_becomeLike_46 ?_
  refine g_aload_n X 0 dX0_becomeLike_47 rfl ?_
  refine g_getF X (f := (a0 + 12)) dX0_becomeLike_48 lf_X0_15 ha0 rfl (fn_0_2 ha0) ?_
  refine g_iconst X dX0_becomeLike_51 ?_
  refine g_aload_n X 0 dX0_becomeLike_52 rfl ?_
  refine g_getF X (f := (a0 + 12)) dX0_becomeLike_53 lf_X0_15 ha0 rfl (fn_0_2 ha0) ?_
  refine g_alen2 X (z := 43) dX0_becomeLike_56 (sf_0_2 ha0) rfl ?_
  refine g_copyL X dX0_becomeLike_57 la_X0_55 (by decide) (Nat.le_of_ble_eq_true rfl) (sf_0_2 ha1) (sf_0_2 ha0) (by decide) (by decide) (by decide) (by decide) (by decide) ?_
  exact g_vret X hr hlk dX0_becomeLike_60 ⟨rfl, h⟩
theorem eX0_becomeLike {a0 : Nat} {a1 : Nat} {σ : ASt} {Q : ASt → Prop} (ha0 : shp a0 = (0, 0, 0)) (ha1 : shp a1 = (0, 0, 0)) (h : Q (cL (cI (sL (sI (sI σ a0 3 (gI σ a1 3)) a0 4 (gI (sI σ a0 3 (gI σ a1 3)) a1 4)) a0 5 (gL (sI (sI σ a0 3 (gI σ a1 3)) a0 4 (gI (sI σ a0 3 (gI σ a1 3)) a1 4)) a1 5)) (a1 + 6) (a0 + 6) 0 0 43) (a1 + 12) (a0 + 12) 0 0 43)) : EvV K_X0_becomeLike [.ref a0, .ref a1] σ Q := Ev.of rfl (Nat.le_of_ble_eq_true rfl) rfl (bX0_becomeLike_0 ha0 ha1 h)
theorem bX0_hasPlace_0 {a0 : Nat} {v1 : Int} {σ : ASt} {QT QF : ASt → Prop} (ha0 : shp a0 = (0, 0, 0)) (h32v1 : i32 v1) (h : ((v1 < 0 → QF σ) ∧ (0 ≤ v1 → i32 ((gI σ a0 4)) ∧ (((gI σ a0 4) ≤ v1 → QF σ) ∧ (v1 < (gI σ a0 4) → ((43 ≤ v1 → QF σ) ∧ (v1 < 43 → QT σ))))))) : Wx K_X0_hasPlace (QZ QT QF) 0 [(0, .ref a0), (1, .int (iI v1))] [] σ := by
  intro p l e s m args below meth c D cA ad X0 hr hlk
  have X : Cx p s m args c (adA ad) D cA ad RX0 cX0_hasPlace 2 := X0
  refine g_iload_n X 1 dX0_hasPlace_0 rfl ?_
  refine g_if_lt X (tgt := 22) dX0_hasPlace_1 (by decide) h32v1 (fun c1 => ?_) (fun c1 => ?_)
  · have h := h.1 c1
    refine g_iconst X dX0_hasPlace_22 ?_
    exact g_iret X hr hlk dX0_hasPlace_23 rfl (Or.inr ⟨rfl, h⟩)
  · have h := h.2 c1
    refine g_iload_n X 1 dX0_hasPlace_4 rfl ?_
    refine g_aload_n X 0 dX0_hasPlace_5 rfl ?_
    refine g_getI X (z := 4) dX0_hasPlace_6 lf_X0_48 ha0 rfl rfl ?_
    obtain ⟨q2, h⟩ := h
    refine g_icmp_ge X (tgt := 22) dX0_hasPlace_9 (by decide) h32v1 q2 (fun c3 => ?_) (fun c3 => ?_)
    · have h := h.1 c3
      refine g_iconst X dX0_hasPlace_22 ?_
      exact g_iret X hr hlk dX0_hasPlace_23 rfl (Or.inr ⟨rfl, h⟩)
    · have h := h.2 c3
      refine g_iload_n X 1 dX0_hasPlace_12 rfl ?_
      refine g_bipush X dX0_hasPlace_13 (by decide +kernel) ?_
      refine g_icmp_ge X (tgt := 22) dX0_hasPlace_15 (by decide) h32v1 (by omega) (fun c4 => ?_) (fun c4 => ?_)
      · have h := h.1 c4
        refine g_iconst X dX0_hasPlace_22 ?_
        exact g_iret X hr hlk dX0_hasPlace_23 rfl (Or.inr ⟨rfl, h⟩)
      · have h := h.2 c4
        refine g_iconst X dX0_hasPlace_18 ?_
        refine g_goto X (tgt := 23) dX0_hasPlace_19 (by decide) ?_
        exact g_iret X hr hlk dX0_hasPlace_23 rfl (Or.inl ⟨rfl, h⟩)
theorem eX0_hasPlace {a0 : Nat} {v1 : Int} {σ : ASt} {QT QF : ASt → Prop} (ha0 : shp a0 = (0, 0, 0)) (h32v1 : i32 v1) (h : ((v1 < 0 → QF σ) ∧ (0 ≤ v1 → i32 ((gI σ a0 4)) ∧ (((gI σ a0 4) ≤ v1 → QF σ) ∧ (v1 < (gI σ a0 4) → ((43 ≤ v1 → QF σ) ∧ (v1 < 43 → QT σ))))))) : EvZ K_X0_hasPlace [.ref a0, .int (iI v1)] σ QT QF := Ev.of rfl (Nat.le_of_ble_eq_true rfl) rfl (bX0_hasPlace_0 ha0 h32v1 h)
theorem bX0_isDigit_0 {v0 : Int} {σ : ASt} {QT QF : ASt → Prop}  (h : EvZ K_X7_isWithin [.int (iI v0), .int (iI 0), .int (iI 99)] σ (fun s1 => QT s1) (fun s1 => QF s1)) : Wx K_X0_isDigit (QZ QT QF) 0 [(0, .int (iI v0))] [] σ := by
  intro p l e s m args below meth c D cA ad X0 hr hlk
  have X : Cx p s m args c (adA ad) D cA ad RX0 cX0_isDigit 1 := X0
  refine g_iload_n X 0 dX0_isDigit_0 rfl ?_
  refine g_iconst X dX0_isDigit_1 ?_
  refine g_bipush X dX0_isDigit_2 (by decide +kernel) ?_
  refine g_cNZ X (K := K_X7_isWithin) [.int (iI v0), .int (iI 0), .int (iI 99)] [] dX0_isDigit_4 ln_X0_27 rm_X0_isDigit_X7_isWithin ⟨by decide, by decide⟩ adA_id rfl (Nat.le_of_ble_eq_true rfl) rfl h (fun s1 h => ?_) (fun s1 h => ?_)
  · skip
    exact g_iret X hr hlk dX0_isDigit_7 rfl (Or.inl ⟨rfl, h⟩)
  · skip
    exact g_iret X hr hlk dX0_isDigit_7 rfl (Or.inr ⟨rfl, h⟩)
theorem eX0_isDigit {v0 : Int} {σ : ASt} {QT QF : ASt → Prop}  (h : EvZ K_X7_isWithin [.int (iI v0), .int (iI 0), .int (iI 99)] σ (fun s1 => QT s1) (fun s1 => QF s1)) : EvZ K_X0_isDigit [.int (iI v0)] σ QT QF := Ev.of rfl (Nat.le_of_ble_eq_true rfl) rfl (bX0_isDigit_0  h)
theorem bX0_carried_0 {a0 : Nat} {v1 : Int} {σ : ASt} {Q : Int → ASt → Prop} (ha0 : shp a0 = (0, 0, 0)) (h32v1 : i32 v1) (h : ((v1 ≠ 0 → (0 ≤ v1 ∧ v1 < 43) ∧ i32 ((gI σ (a0 + 6) v1)) ∧ Q (gI σ (a0 + 6) v1) σ) ∧ (v1 = 0 → i32 (((gI σ (a0 + 6) 0) + 1)) ∧ Q ((gI σ (a0 + 6) 0) + 1) σ))) : Wx K_X0_carried (QI Q) 0 [(0, .ref a0), (1, .int (iI v1))] [] σ := by
  intro p l e s m args below meth c D cA ad X0 hr hlk
  have X : Cx p s m args c (adA ad) D cA ad RX0 cX0_carried 2 := X0
  refine g_iload_n X 1 dX0_carried_0 rfl ?_
  refine g_if_ne X (tgt := 15) dX0_carried_1 (by decide) h32v1 (fun c1 => ?_) (fun c1 => ?_)
  · have h := h.1 c1
    refine g_aload_n X 0 dX0_carried_15 rfl ?_
    refine g_getF X (f := (a0 + 6)) dX0_carried_16 lf_X0_9 ha0 rfl (fn_0_1 ha0) ?_
    refine g_iload_n X 1 dX0_carried_19 rfl ?_
    obtain ⟨q2, h⟩ := h
    refine g_iald X dX0_carried_20 (sf_0_1 ha0) q2.1 q2.2 ?_
    obtain ⟨q3, h⟩ := h
    exact g_iret X hr hlk dX0_carried_21 rfl ⟨_, rfl, q3, h⟩
  · have h := h.2 c1
    refine g_aload_n X 0 dX0_carried_4 rfl ?_
    refine g_getF X (f := (a0 + 6)) dX0_carried_5 lf_X0_9 ha0 rfl (fn_0_1 ha0) ?_
    refine g_iconst X dX0_carried_8 ?_
    refine g_iald X dX0_carried_9 (sf_0_1 ha0) (by omega) (by omega) ?_
    refine g_iconst X dX0_carried_10 ?_
    refine g_iadd X dX0_carried_11 ?_
    refine g_goto X (tgt := 21) dX0_carried_12 (by decide) ?_
    obtain ⟨q4, h⟩ := h
    exact g_iret X hr hlk dX0_carried_21 rfl ⟨_, rfl, q4, h⟩
theorem eX0_carried {a0 : Nat} {v1 : Int} {σ : ASt} {Q : Int → ASt → Prop} (ha0 : shp a0 = (0, 0, 0)) (h32v1 : i32 v1) (h : ((v1 ≠ 0 → (0 ≤ v1 ∧ v1 < 43) ∧ i32 ((gI σ (a0 + 6) v1)) ∧ Q (gI σ (a0 + 6) v1) σ) ∧ (v1 = 0 → i32 (((gI σ (a0 + 6) 0) + 1)) ∧ Q ((gI σ (a0 + 6) 0) + 1) σ))) : EvI K_X0_carried [.ref a0, .int (iI v1)] σ Q := Ev.of rfl (Nat.le_of_ble_eq_true rfl) rfl (bX0_carried_0 ha0 h32v1 h)
theorem bX0_canCarry_0 {a0 : Nat} {a1 : Nat} {v2 : Int} {v3 : Int} {σ : ASt} {QT QF : ASt → Prop} (ha0 : shp a0 = (0, 0, 0)) (ha1 : shp a1 = (1, 0, 43)) (h32v2 : i32 v2) (h : EvZ K_X0_hasPlace [.ref a0, .int (iI v2)] σ (fun s1 => EvZ K_X0_hasPlace [.ref a0, .int (iI (v2 + 1))] s1 (fun s2 => (0 ≤ (v2 + 1) ∧ (v2 + 1) < 43) ∧ EvZ K_X0_isDigit [.int (iI ((gI s2 a1 (v2 + 1)) + v3))] s2 (fun s4 => (0 ≤ v2 ∧ v2 < 43) ∧ EvI K_X0_carried [.ref a0, .int (iI v2)] s4 (fun x7 s6 => EvZ K_X0_isDigit [.int (iI ((gI s4 a1 v2) - (v3 * x7)))] s6 (fun s9 => ((v2 = 0 → QT s9) ∧ (v2 ≠ 0 → (0 ≤ (v2 - 1) ∧ (v2 - 1) < 43) ∧ EvZ K_X0_isDigit [.int (iI ((gI s9 a1 (v2 - 1)) - v3))] s9 (fun s12 => QT s12) (fun s12 => QF s12)))) (fun s9 => QF s9))) (fun s4 => QF s4)) (fun s2 => QF s2)) (fun s1 => QF s1)) : Wx K_X0_canCarry (QZ QT QF) 0 [(0, .ref a0), (1, .ref a1), (2, .int (iI v2)), (3, .int (iI v3))] [] σ := by
  intro p l e s m args below meth c D cA ad X0 hr hlk
  have X : Cx p s m args c (adA ad) D cA ad RX0 cX0_canCarry 4 := X0
  refine g_aload_n X 0 dX0_canCarry_0 rfl ?_
  refine g_iload_n X 2 dX0_canCarry_1 rfl ?_
  refine g_cVZ X (K := K_X0_hasPlace) [.int (iI v2)] [] dX0_canCarry_2 lv_X0_65 rm_X0_canCarry_X0_hasPlace ⟨by decide, by decide⟩ adA_id ha0 rfl rfl (Nat.le_of_ble_eq_true rfl) rfl h (fun s1 h => ?_) (fun s1 h => ?_)
  · skip
    refine g_if_eq X (tgt := 18) dX0_canCarry_5 (by decide) (by omega) (fun hc => absurd hc (by decide)) (fun _ => ?_)
    refine g_aload_n X 0 dX0_canCarry_8 rfl ?_
    refine g_iload_n X 2 dX0_canCarry_9 rfl ?_
    refine g_iconst X dX0_canCarry_10 ?_
    refine g_iadd X dX0_canCarry_11 ?_
    refine g_cVZ X (K := K_X0_hasPlace) [.int (iI (v2 + 1))] [] dX0_canCarry_12 lv_X0_65 rm_X0_canCarry_X0_hasPlace ⟨by decide, by decide⟩ adA_id ha0 rfl rfl (Nat.le_of_ble_eq_true rfl) rfl h (fun s2 h => ?_) (fun s2 h => ?_)
    · skip
      refine g_if_ne X (tgt := 20) dX0_canCarry_15 (by decide) (by omega) (fun _ => ?_) (fun hc => absurd hc (by decide))
      refine g_aload_n X 1 dX0_canCarry_20 rfl ?_
      refine g_iload_n X 2 dX0_canCarry_21 rfl ?_
      refine g_iconst X dX0_canCarry_22 ?_
      refine g_iadd X dX0_canCarry_23 ?_
      obtain ⟨q3, h⟩ := h
      refine g_iald X dX0_canCarry_24 ha1 q3.1 q3.2 ?_
      refine g_iload_n X 3 dX0_canCarry_25 rfl ?_
      refine g_iadd X dX0_canCarry_26 ?_
      refine g_cSZ X (K := K_X0_isDigit) [.int (iI ((gI s2 a1 (v2 + 1)) + v3))] [] dX0_canCarry_27 ls_X0_69 rm_X0_canCarry_X0_isDigit ⟨by decide, by decide⟩ adA_id rfl (Nat.le_of_ble_eq_true rfl) rfl h (fun s4 h => ?_) (fun s4 h => ?_)
      · skip
        refine g_if_eq X (tgt := 71) dX0_canCarry_30 (by decide) (by omega) (fun hc => absurd hc (by decide)) (fun _ => ?_)
        refine g_aload_n X 1 dX0_canCarry_33 rfl ?_
        refine g_iload_n X 2 dX0_canCarry_34 rfl ?_
        obtain ⟨q5, h⟩ := h
        refine g_iald X dX0_canCarry_35 ha1 q5.1 q5.2 ?_
        refine g_iload_n X 3 dX0_canCarry_36 rfl ?_
        refine g_aload_n X 0 dX0_canCarry_37 rfl ?_
        refine g_iload_n X 2 dX0_canCarry_38 rfl ?_
        refine g_cVI X (K := K_X0_carried) [.int (iI v2)] [.int (iI v3), .int (iI (gI s4 a1 v2))] dX0_canCarry_39 lv_X0_72 rm_X0_canCarry_X0_carried ⟨by decide, by decide⟩ adA_id ha0 rfl rfl (Nat.le_of_ble_eq_true rfl) rfl h (fun x7 s6 q8 h => ?_)
        refine g_imul X dX0_canCarry_42 ?_
        refine g_isub X dX0_canCarry_43 ?_
        refine g_cSZ X (K := K_X0_isDigit) [.int (iI ((gI s4 a1 v2) - (v3 * x7)))] [] dX0_canCarry_44 ls_X0_69 rm_X0_canCarry_X0_isDigit ⟨by decide, by decide⟩ adA_id rfl (Nat.le_of_ble_eq_true rfl) rfl h (fun s9 h => ?_) (fun s9 h => ?_)
        · skip
          refine g_if_eq X (tgt := 71) dX0_canCarry_47 (by decide) (by omega) (fun hc => absurd hc (by decide)) (fun _ => ?_)
          refine g_iload_n X 2 dX0_canCarry_50 rfl ?_
          refine g_if_eq X (tgt := 67) dX0_canCarry_51 (by decide) h32v2 (fun c10 => ?_) (fun c10 => ?_)
          · have h := h.1 c10
            refine g_iconst X dX0_canCarry_67 ?_
            refine g_goto X (tgt := 72) dX0_canCarry_68 (by decide) ?_
            exact g_iret X hr hlk dX0_canCarry_72 rfl (Or.inl ⟨rfl, h⟩)
          · have h := h.2 c10
            refine g_aload_n X 1 dX0_canCarry_54 rfl ?_
            refine g_iload_n X 2 dX0_canCarry_55 rfl ?_
            refine g_iconst X dX0_canCarry_56 ?_
            refine g_isub X dX0_canCarry_57 ?_
            obtain ⟨q11, h⟩ := h
            refine g_iald X dX0_canCarry_58 ha1 q11.1 q11.2 ?_
            refine g_iload_n X 3 dX0_canCarry_59 rfl ?_
            refine g_isub X dX0_canCarry_60 ?_
            refine g_cSZ X (K := K_X0_isDigit) [.int (iI ((gI s9 a1 (v2 - 1)) - v3))] [] dX0_canCarry_61 ls_X0_69 rm_X0_canCarry_X0_isDigit ⟨by decide, by decide⟩ adA_id rfl (Nat.le_of_ble_eq_true rfl) rfl h (fun s12 h => ?_) (fun s12 h => ?_)
            · skip
              refine g_if_eq X (tgt := 71) dX0_canCarry_64 (by decide) (by omega) (fun hc => absurd hc (by decide)) (fun _ => ?_)
              refine g_iconst X dX0_canCarry_67 ?_
              refine g_goto X (tgt := 72) dX0_canCarry_68 (by decide) ?_
              exact g_iret X hr hlk dX0_canCarry_72 rfl (Or.inl ⟨rfl, h⟩)
            · skip
              refine g_if_eq X (tgt := 71) dX0_canCarry_64 (by decide) (by omega) (fun _ => ?_) (fun hc => absurd hc (by decide))
              refine g_iconst X dX0_canCarry_71 ?_
              exact g_iret X hr hlk dX0_canCarry_72 rfl (Or.inr ⟨rfl, h⟩)
        · skip
          refine g_if_eq X (tgt := 71) dX0_canCarry_47 (by decide) (by omega) (fun _ => ?_) (fun hc => absurd hc (by decide))
          refine g_iconst X dX0_canCarry_71 ?_
          exact g_iret X hr hlk dX0_canCarry_72 rfl (Or.inr ⟨rfl, h⟩)
      · skip
        refine g_if_eq X (tgt := 71) dX0_canCarry_30 (by decide) (by omega) (fun _ => ?_) (fun hc => absurd hc (by decide))
        refine g_iconst X dX0_canCarry_71 ?_
        exact g_iret X hr hlk dX0_canCarry_72 rfl (Or.inr ⟨rfl, h⟩)
    · skip
      refine g_if_ne X (tgt := 20) dX0_canCarry_15 (by decide) (by omega) (fun hc => absurd hc (by decide)) (fun _ => ?_)
      refine g_iconst X dX0_canCarry_18 ?_
      exact g_iret X hr hlk dX0_canCarry_19 rfl (Or.inr ⟨rfl, h⟩)
  · skip
    refine g_if_eq X (tgt := 18) dX0_canCarry_5 (by decide) (by omega) (fun _ => ?_) (fun hc => absurd hc (by decide))
    refine g_iconst X dX0_canCarry_18 ?_
    exact g_iret X hr hlk dX0_canCarry_19 rfl (Or.inr ⟨rfl, h⟩)
theorem eX0_canCarry {a0 : Nat} {a1 : Nat} {v2 : Int} {v3 : Int} {σ : ASt} {QT QF : ASt → Prop} (ha0 : shp a0 = (0, 0, 0)) (ha1 : shp a1 = (1, 0, 43)) (h32v2 : i32 v2) (h : EvZ K_X0_hasPlace [.ref a0, .int (iI v2)] σ (fun s1 => EvZ K_X0_hasPlace [.ref a0, .int (iI (v2 + 1))] s1 (fun s2 => (0 ≤ (v2 + 1) ∧ (v2 + 1) < 43) ∧ EvZ K_X0_isDigit [.int (iI ((gI s2 a1 (v2 + 1)) + v3))] s2 (fun s4 => (0 ≤ v2 ∧ v2 < 43) ∧ EvI K_X0_carried [.ref a0, .int (iI v2)] s4 (fun x7 s6 => EvZ K_X0_isDigit [.int (iI ((gI s4 a1 v2) - (v3 * x7)))] s6 (fun s9 => ((v2 = 0 → QT s9) ∧ (v2 ≠ 0 → (0 ≤ (v2 - 1) ∧ (v2 - 1) < 43) ∧ EvZ K_X0_isDigit [.int (iI ((gI s9 a1 (v2 - 1)) - v3))] s9 (fun s12 => QT s12) (fun s12 => QF s12)))) (fun s9 => QF s9))) (fun s4 => QF s4)) (fun s2 => QF s2)) (fun s1 => QF s1)) : EvZ K_X0_canCarry [.ref a0, .ref a1, .int (iI v2), .int (iI v3)] σ QT QF := Ev.of rfl (Nat.le_of_ble_eq_true rfl) rfl (bX0_canCarry_0 ha0 ha1 h32v2 h)
theorem bX0_carryOnce_0 {a0 : Nat} {a1 : Nat} {v2 : Int} {v3 : Int} {σ : ASt} {Q : ASt → Prop} (ha0 : shp a0 = (0, 0, 0)) (ha1 : shp a1 = (1, 0, 43)) (h32v2 : i32 v2) (h : EvZ K_X0_canCarry [.ref a0, .ref a1, .int (iI v2), .int (iI v3)] σ (fun s1 => (0 ≤ (v2 + 1) ∧ (v2 + 1) < 43) ∧ (0 ≤ v2 ∧ v2 < 43) ∧ EvI K_X0_carried [.ref a0, .int (iI v2)] (sI s1 a1 (v2 + 1) ((gI s1 a1 (v2 + 1)) + v3)) (fun x5 s4 => ((v2 ≤ 0 → Q (sI s4 a1 v2 ((gI (sI s1 a1 (v2 + 1) ((gI s1 a1 (v2 + 1)) + v3)) a1 v2) - (v3 * x5)))) ∧ (0 < v2 → (0 ≤ (v2 - 1) ∧ (v2 - 1) < 43) ∧ Q (sI (sI s4 a1 v2 ((gI (sI s1 a1 (v2 + 1) ((gI s1 a1 (v2 + 1)) + v3)) a1 v2) - (v3 * x5))) a1 (v2 - 1) ((gI (sI s4 a1 v2 ((gI (sI s1 a1 (v2 + 1) ((gI s1 a1 (v2 + 1)) + v3)) a1 v2) - (v3 * x5))) a1 (v2 - 1)) - v3)))))) (fun s1 => Q s1)) : Wx K_X0_carryOnce (QV Q) 0 [(0, .ref a0), (1, .ref a1), (2, .int (iI v2)), (3, .int (iI v3))] [] σ := by
  intro p l e s m args below meth c D cA ad X0 hr hlk
  have X : Cx p s m args c (adA ad) D cA ad RX0 cX0_carryOnce 4 := X0
  refine g_aload_n X 0 dX0_carryOnce_0 rfl ?_
  refine g_aload_n X 1 dX0_carryOnce_1 rfl ?_
  refine g_iload_n X 2 dX0_carryOnce_2 rfl ?_
  refine g_iload_n X 3 dX0_carryOnce_3 rfl ?_
  refine g_cVZ X (K := K_X0_canCarry) [.ref a1, .int (iI v2), .int (iI v3)] [] dX0_carryOnce_4 lv_X0_76 rm_X0_carryOnce_X0_canCarry ⟨by decide, by decide⟩ adA_id ha0 rfl rfl (Nat.le_of_ble_eq_true rfl) rfl h (fun s1 h => ?_) (fun s1 h => ?_)
  · skip
    refine g_if_ne X (tgt := 11) dX0_carryOnce_7 (by decide) (by omega) (fun _ => ?_) (fun hc => absurd hc (by decide))
    refine g_aload_n X 1 dX0_carryOnce_11 rfl ?_
    refine g_iload_n X 2 dX0_carryOnce_12 rfl ?_
    refine g_iconst X dX0_carryOnce_13 ?_
    refine g_iadd X dX0_carryOnce_14 ?_
    refine g_dup2 X dX0_carryOnce_15 rfl rfl ?_
    obtain ⟨q2, h⟩ := h
    refine g_iald X dX0_carryOnce_16 ha1 q2.1 q2.2 ?_
    refine g_iload_n X 3 dX0_carryOnce_17 rfl ?_
    refine g_iadd X dX0_carryOnce_18 ?_
    refine g_iast X dX0_carryOnce_19 ha1 q2.1 q2.2 ?_
    refine g_aload_n X 1 dX0_carryOnce_20 rfl ?_
    refine g_iload_n X 2 dX0_carryOnce_21 rfl ?_
    refine g_dup2 X dX0_carryOnce_22 rfl rfl ?_
    obtain ⟨q3, h⟩ := h
    refine g_iald X dX0_carryOnce_23 ha1 q3.1 q3.2 ?_
    refine g_iload_n X 3 dX0_carryOnce_24 rfl ?_
    refine g_aload_n X 0 dX0_carryOnce_25 rfl ?_
    refine g_iload_n X 2 dX0_carryOnce_26 rfl ?_
    refine g_cVI X (K := K_X0_carried) [.int (iI v2)] [.int (iI v3), .int (iI (gI (sI s1 a1 (v2 + 1) ((gI s1 a1 (v2 + 1)) + v3)) a1 v2)), .int (iI v2), .ref a1] dX0_carryOnce_27 lv_X0_72 rm_X0_carryOnce_X0_carried ⟨by decide, by decide⟩ adA_id ha0 rfl rfl (Nat.le_of_ble_eq_true rfl) rfl h (fun x5 s4 q6 h => ?_)
    refine g_imul X dX0_carryOnce_30 ?_
    refine g_isub X dX0_carryOnce_31 ?_
    refine g_iast X dX0_carryOnce_32 ha1 q3.1 q3.2 ?_
    refine g_iload_n X 2 dX0_carryOnce_33 rfl ?_
    refine g_if_le X (tgt := 46) dX0_carryOnce_34 (by decide) h32v2 (fun c7 => ?_) (fun c7 => ?_)
    · have h := h.1 c7
      exact g_vret X hr hlk dX0_carryOnce_46 ⟨rfl, h⟩
    · have h := h.2 c7
      refine g_aload_n X 1 dX0_carryOnce_37 rfl ?_
      refine g_iload_n X 2 dX0_carryOnce_38 rfl ?_
      refine g_iconst X dX0_carryOnce_39 ?_
      refine g_isub X dX0_carryOnce_40 ?_
      refine g_dup2 X dX0_carryOnce_41 rfl rfl ?_
      obtain ⟨q8, h⟩ := h
      refine g_iald X dX0_carryOnce_42 ha1 q8.1 q8.2 ?_
      refine g_iload_n X 3 dX0_carryOnce_43 rfl ?_
      refine g_isub X dX0_carryOnce_44 ?_
      refine g_iast X dX0_carryOnce_45 ha1 q8.1 q8.2 ?_
      exact g_vret X hr hlk dX0_carryOnce_46 ⟨rfl, h⟩
  · skip
    refine g_if_ne X (tgt := 11) dX0_carryOnce_7 (by decide) (by omega) (fun hc => absurd hc (by decide)) (fun _ => ?_)
    exact g_vret X hr hlk dX0_carryOnce_10 ⟨rfl, h⟩
theorem eX0_carryOnce {a0 : Nat} {a1 : Nat} {v2 : Int} {v3 : Int} {σ : ASt} {Q : ASt → Prop} (ha0 : shp a0 = (0, 0, 0)) (ha1 : shp a1 = (1, 0, 43)) (h32v2 : i32 v2) (h : EvZ K_X0_canCarry [.ref a0, .ref a1, .int (iI v2), .int (iI v3)] σ (fun s1 => (0 ≤ (v2 + 1) ∧ (v2 + 1) < 43) ∧ (0 ≤ v2 ∧ v2 < 43) ∧ EvI K_X0_carried [.ref a0, .int (iI v2)] (sI s1 a1 (v2 + 1) ((gI s1 a1 (v2 + 1)) + v3)) (fun x5 s4 => ((v2 ≤ 0 → Q (sI s4 a1 v2 ((gI (sI s1 a1 (v2 + 1) ((gI s1 a1 (v2 + 1)) + v3)) a1 v2) - (v3 * x5)))) ∧ (0 < v2 → (0 ≤ (v2 - 1) ∧ (v2 - 1) < 43) ∧ Q (sI (sI s4 a1 v2 ((gI (sI s1 a1 (v2 + 1) ((gI s1 a1 (v2 + 1)) + v3)) a1 v2) - (v3 * x5))) a1 (v2 - 1) ((gI (sI s4 a1 v2 ((gI (sI s1 a1 (v2 + 1) ((gI s1 a1 (v2 + 1)) + v3)) a1 v2) - (v3 * x5))) a1 (v2 - 1)) - v3)))))) (fun s1 => Q s1)) : EvV K_X0_carryOnce [.ref a0, .ref a1, .int (iI v2), .int (iI v3)] σ Q := Ev.of rfl (Nat.le_of_ble_eq_true rfl) rfl (bX0_carryOnce_0 ha0 ha1 h32v2 h)
theorem bX0_greedyInto_0 {a0 : Nat} {a1 : Nat} {v2 : Int} {σ : ASt} {Q : ASt → Prop} (ha0 : shp a0 = (0, 0, 0)) (ha1 : shp a1 = (1, 0, 43)) (h : Wx K_X0_greedyInto (QV Q) 9 [(0, .ref a0), (1, .ref a1), (4, .long (lI v2)), (6, .int (iI (43 - 1)))] [] σ) : Wx K_X0_greedyInto (QV Q) 0 [(0, .ref a0), (1, .ref a1), (2, .long (lI v2))] [] σ := by
  intro p l e s m args below meth c D cA ad X0 hr hlk
  have X : Cx p s m args c (adA ad) D cA ad RX0 cX0_greedyInto 11 := X0
  refine g_lload_n X 2 dX0_greedyInto_0 rfl ?_
  refine g_lstore X (lv' := [(4, .long (lI v2)), (0, .ref a0), (1, .ref a1), (2, .long (lI v2))]) dX0_greedyInto_1 (by decide) rfl ?_
  refine g_aload_n X 2 dX0_greedyInto_3 rfl ?_
  refine g_alen1 X (z := 43) dX0_greedyInto_4 ha1 rfl ?_
  refine g_iconst X dX0_greedyInto_5 ?_
  refine g_isub X dX0_greedyInto_6 ?_
  refine g_istore X (lv' := [(6, .int (iI (43 - 1))), (4, .long (lI v2)), (0, .ref a0), (1, .ref a1), (2, .long (lI v2))]) dX0_greedyInto_7 (by decide) rfl ?_
  exact g_sub (lv' := [(0, .ref a0), (1, .ref a1), (4, .long (lI v2)), (6, .int (iI (43 - 1)))]) [2, 3, 1, 0] rfl (h p l e s m args below meth c D cA ad X0 hr hlk)
theorem eX0_greedyInto {a0 : Nat} {a1 : Nat} {v2 : Int} {σ : ASt} {Q : ASt → Prop} (ha0 : shp a0 = (0, 0, 0)) (ha1 : shp a1 = (1, 0, 43)) (h : Wx K_X0_greedyInto (QV Q) 9 [(0, .ref a0), (1, .ref a1), (4, .long (lI v2)), (6, .int (iI (43 - 1)))] [] σ) : EvV K_X0_greedyInto [.ref a0, .ref a1, .long (lI v2)] σ Q := Ev.of rfl (Nat.le_of_ble_eq_true rfl) rfl (bX0_greedyInto_0 ha0 ha1 h)
theorem bX0_greedyInto_9 {a0 : Nat} {a1 : Nat} {v4 : Int} {v6 : Int} {σ : ASt} {Q : ASt → Prop} (ha0 : shp a0 = (0, 0, 0)) (ha1 : shp a1 = (1, 0, 43)) (h32v6 : i32 v6) (h64v4 : i64 v4) (h : ((v6 < 0 → Q σ) ∧ (0 ≤ v6 → EvZ K_X0_hasPlace [.ref a0, .int (iI v6)] σ (fun s2 => (0 ≤ v6 ∧ v6 < 43) ∧ i64 ((gL s2 (a0 + 12) v6)) ∧ (((gL s2 (a0 + 12) v6) ≤ 0 → Wx K_X0_greedyInto (QV Q) 9 [(0, .ref a0), (1, .ref a1), (4, .long (lI (v4 - (0 * (gL s2 (a0 + 12) v6))))), (6, .int (iI (v6 + (-1))))] [] (sI s2 a1 v6 0)) ∧ (0 < (gL s2 (a0 + 12) v6) → (gL s2 (a0 + 12) v6) ≠ 0 ∧ Wx K_X0_greedyInto (QV Q) 9 [(0, .ref a0), (1, .ref a1), (4, .long (lI (v4 - ((Int.tdiv v4 (gL s2 (a0 + 12) v6)) * (gL s2 (a0 + 12) v6))))), (6, .int (iI (v6 + (-1))))] [] (sI s2 a1 v6 (Int.tdiv v4 (gL s2 (a0 + 12) v6)))))) (fun s2 => (0 ≤ v6 ∧ v6 < 43) ∧ Wx K_X0_greedyInto (QV Q) 9 [(0, .ref a0), (1, .ref a1), (4, .long (lI (v4 - (0 * 0)))), (6, .int (iI (v6 + (-1))))] [] (sI s2 a1 v6 0))))) : Wx K_X0_greedyInto (QV Q) 9 [(0, .ref a0), (1, .ref a1), (4, .long (lI v4)), (6, .int (iI v6))] [] σ := by
  intro p l e s m args below meth c D cA ad X0 hr hlk
  have X : Cx p s m args c (adA ad) D cA ad RX0 cX0_greedyInto 11 := X0
  refine g_iload X 3 dX0_greedyInto_9 rfl ?_
  refine g_if_lt X (tgt := 77) dX0_greedyInto_11 (by decide) h32v6 (fun c1 => ?_) (fun c1 => ?_)
  · have h := h.1 c1
    exact g_vret X hr hlk dX0_greedyInto_77 ⟨rfl, h⟩
  · have h := h.2 c1
    refine g_aload_n X 0 dX0_greedyInto_14 rfl ?_
    refine g_iload X 3 dX0_greedyInto_15 rfl ?_
    refine g_cVZ X (K := K_X0_hasPlace) [.int (iI v6)] [] dX0_greedyInto_17 lv_X0_65 rm_X0_greedyInto_X0_hasPlace ⟨by decide, by decide⟩ adA_id ha0 rfl rfl (Nat.le_of_ble_eq_true rfl) rfl h (fun s2 h => ?_) (fun s2 h => ?_)
    · skip
      refine g_if_eq X (tgt := 33) dX0_greedyInto_20 (by decide) (by omega) (fun hc => absurd hc (by decide)) (fun _ => ?_)
      refine g_aload_n X 0 dX0_greedyInto_23 rfl ?_
      refine g_getF X (f := (a0 + 12)) dX0_greedyInto_24 lf_X0_15 ha0 rfl (fn_0_2 ha0) ?_
      refine g_iload X 3 dX0_greedyInto_27 rfl ?_
      obtain ⟨q3, h⟩ := h
      refine g_lald X dX0_greedyInto_29 (sf_0_2 ha0) q3.1 q3.2 ?_
      refine g_goto X (tgt := 34) dX0_greedyInto_30 (by decide) ?_
      refine g_lstore X (lv' := [(7, .long (lI (gL s2 (a0 + 12) v6))), (0, .ref a0), (1, .ref a1), (4, .long (lI v4)), (6, .int (iI v6))]) dX0_greedyInto_34 (by decide) rfl ?_
      refine g_lload X 0 dX0_greedyInto_36 rfl ?_
      refine g_lconst X (z := 0) dX0_greedyInto_38 (by decide +kernel) ?_
      obtain ⟨q4, h⟩ := h
      refine g_lc_le X (tgt := 51) dX0_greedyInto_39 dX0_greedyInto_40 (by decide) q4 (by omega) (fun c5 => ?_) (fun c5 => ?_)
      · have h := h.1 c5
        refine g_lconst X (z := 0) dX0_greedyInto_51 (by decide +kernel) ?_
        refine g_lstore X (lv' := [(9, .long (lI 0)), (7, .long (lI (gL s2 (a0 + 12) v6))), (0, .ref a0), (1, .ref a1), (4, .long (lI v4)), (6, .int (iI v6))]) dX0_greedyInto_52 (by decide) rfl ?_
        refine g_aload_n X 3 dX0_greedyInto_54 rfl ?_
        refine g_iload X 5 dX0_greedyInto_55 rfl ?_
        refine g_lload X 0 dX0_greedyInto_57 rfl ?_
        refine g_l2i X dX0_greedyInto_59 ?_
        refine g_iast X dX0_greedyInto_60 ha1 q3.1 q3.2 ?_
        refine g_lload X 4 dX0_greedyInto_61 rfl ?_
        refine g_lload X 0 dX0_greedyInto_63 rfl ?_
        refine g_lload X 1 dX0_greedyInto_65 rfl ?_
        refine g_lmul X dX0_greedyInto_67 ?_
        refine g_lsub X dX0_greedyInto_68 ?_
        refine g_lstore X (lv' := [(4, .long (lI (v4 - (0 * (gL s2 (a0 + 12) v6))))), (9, .long (lI 0)), (7, .long (lI (gL s2 (a0 + 12) v6))), (0, .ref a0), (1, .ref a1), (6, .int (iI v6))]) dX0_greedyInto_69 (by decide) rfl ?_
        refine g_iinc X (x := v6) (lv' := [(6, .int (iI (v6 + (-1)))), (4, .long (lI (v4 - (0 * (gL s2 (a0 + 12) v6))))), (9, .long (lI 0)), (7, .long (lI (gL s2 (a0 + 12) v6))), (0, .ref a0), (1, .ref a1)]) 5 dX0_greedyInto_71 rfl (by decide) rfl ?_
        refine g_goto X (tgt := 9) dX0_greedyInto_74 (by decide) ?_
        exact g_sub (lv' := [(0, .ref a0), (1, .ref a1), (4, .long (lI (v4 - (0 * (gL s2 (a0 + 12) v6))))), (6, .int (iI (v6 + (-1))))]) [4, 5, 1, 0] rfl (h p l e s m args below meth c D cA ad X0 hr hlk)
      · have h := h.2 c5
        refine g_lload X 3 dX0_greedyInto_43 rfl ?_
        refine g_lload X 0 dX0_greedyInto_45 rfl ?_
        obtain ⟨q6, h⟩ := h
        refine g_ldiv X dX0_greedyInto_47 h64v4 q4 q6 ?_
        refine g_goto X (tgt := 52) dX0_greedyInto_48 (by decide) ?_
        refine g_lstore X (lv' := [(9, .long (lI (Int.tdiv v4 (gL s2 (a0 + 12) v6)))), (7, .long (lI (gL s2 (a0 + 12) v6))), (0, .ref a0), (1, .ref a1), (4, .long (lI v4)), (6, .int (iI v6))]) dX0_greedyInto_52 (by decide) rfl ?_
        refine g_aload_n X 3 dX0_greedyInto_54 rfl ?_
        refine g_iload X 5 dX0_greedyInto_55 rfl ?_
        refine g_lload X 0 dX0_greedyInto_57 rfl ?_
        refine g_l2i X dX0_greedyInto_59 ?_
        refine g_iast X dX0_greedyInto_60 ha1 q3.1 q3.2 ?_
        refine g_lload X 4 dX0_greedyInto_61 rfl ?_
        refine g_lload X 0 dX0_greedyInto_63 rfl ?_
        refine g_lload X 1 dX0_greedyInto_65 rfl ?_
        refine g_lmul X dX0_greedyInto_67 ?_
        refine g_lsub X dX0_greedyInto_68 ?_
        refine g_lstore X (lv' := [(4, .long (lI (v4 - ((Int.tdiv v4 (gL s2 (a0 + 12) v6)) * (gL s2 (a0 + 12) v6))))), (9, .long (lI (Int.tdiv v4 (gL s2 (a0 + 12) v6)))), (7, .long (lI (gL s2 (a0 + 12) v6))), (0, .ref a0), (1, .ref a1), (6, .int (iI v6))]) dX0_greedyInto_69 (by decide) rfl ?_
        refine g_iinc X (x := v6) (lv' := [(6, .int (iI (v6 + (-1)))), (4, .long (lI (v4 - ((Int.tdiv v4 (gL s2 (a0 + 12) v6)) * (gL s2 (a0 + 12) v6))))), (9, .long (lI (Int.tdiv v4 (gL s2 (a0 + 12) v6)))), (7, .long (lI (gL s2 (a0 + 12) v6))), (0, .ref a0), (1, .ref a1)]) 5 dX0_greedyInto_71 rfl (by decide) rfl ?_
        refine g_goto X (tgt := 9) dX0_greedyInto_74 (by decide) ?_
        exact g_sub (lv' := [(0, .ref a0), (1, .ref a1), (4, .long (lI (v4 - ((Int.tdiv v4 (gL s2 (a0 + 12) v6)) * (gL s2 (a0 + 12) v6))))), (6, .int (iI (v6 + (-1))))]) [4, 5, 1, 0] rfl (h p l e s m args below meth c D cA ad X0 hr hlk)
    · skip
      refine g_if_eq X (tgt := 33) dX0_greedyInto_20 (by decide) (by omega) (fun _ => ?_) (fun hc => absurd hc (by decide))
      refine g_lconst X (z := 0) dX0_greedyInto_33 (by decide +kernel) ?_
      refine g_lstore X (lv' := [(7, .long (lI 0)), (0, .ref a0), (1, .ref a1), (4, .long (lI v4)), (6, .int (iI v6))]) dX0_greedyInto_34 (by decide) rfl ?_
      refine g_lload X 0 dX0_greedyInto_36 rfl ?_
      refine g_lconst X (z := 0) dX0_greedyInto_38 (by decide +kernel) ?_
      refine g_lc_le X (tgt := 51) dX0_greedyInto_39 dX0_greedyInto_40 (by decide) (by omega) (by omega) (fun _ => ?_) (fun hc => absurd hc (by decide))
      refine g_lconst X (z := 0) dX0_greedyInto_51 (by decide +kernel) ?_
      refine g_lstore X (lv' := [(9, .long (lI 0)), (7, .long (lI 0)), (0, .ref a0), (1, .ref a1), (4, .long (lI v4)), (6, .int (iI v6))]) dX0_greedyInto_52 (by decide) rfl ?_
      refine g_aload_n X 3 dX0_greedyInto_54 rfl ?_
      refine g_iload X 5 dX0_greedyInto_55 rfl ?_
      refine g_lload X 0 dX0_greedyInto_57 rfl ?_
      refine g_l2i X dX0_greedyInto_59 ?_
      obtain ⟨q7, h⟩ := h
      refine g_iast X dX0_greedyInto_60 ha1 q7.1 q7.2 ?_
      refine g_lload X 4 dX0_greedyInto_61 rfl ?_
      refine g_lload X 0 dX0_greedyInto_63 rfl ?_
      refine g_lload X 1 dX0_greedyInto_65 rfl ?_
      refine g_lmul X dX0_greedyInto_67 ?_
      refine g_lsub X dX0_greedyInto_68 ?_
      refine g_lstore X (lv' := [(4, .long (lI (v4 - (0 * 0)))), (9, .long (lI 0)), (7, .long (lI 0)), (0, .ref a0), (1, .ref a1), (6, .int (iI v6))]) dX0_greedyInto_69 (by decide) rfl ?_
      refine g_iinc X (x := v6) (lv' := [(6, .int (iI (v6 + (-1)))), (4, .long (lI (v4 - (0 * 0)))), (9, .long (lI 0)), (7, .long (lI 0)), (0, .ref a0), (1, .ref a1)]) 5 dX0_greedyInto_71 rfl (by decide) rfl ?_
      refine g_goto X (tgt := 9) dX0_greedyInto_74 (by decide) ?_
      exact g_sub (lv' := [(0, .ref a0), (1, .ref a1), (4, .long (lI (v4 - (0 * 0)))), (6, .int (iI (v6 + (-1))))]) [4, 5, 1, 0] rfl (h p l e s m args below meth c D cA ad X0 hr hlk)
theorem bX0_highestCarry_0 {a0 : Nat} {a1 : Nat} {v2 : Int} {σ : ASt} {Q : Int → ASt → Prop} (ha0 : shp a0 = (0, 0, 0)) (ha1 : shp a1 = (1, 0, 43)) (h : Wx K_X0_highestCarry (QI Q) 2 [(0, .ref a0), (1, .ref a1), (3, .int (iI v2))] [] σ) : Wx K_X0_highestCarry (QI Q) 0 [(0, .ref a0), (1, .ref a1), (2, .int (iI v2))] [] σ := by
  intro p l e s m args below meth c D cA ad X0 hr hlk
  have X : Cx p s m args c (adA ad) D cA ad RX0 cX0_highestCarry 4 := X0
  refine g_iload_n X 2 dX0_highestCarry_0 rfl ?_
  refine g_istore_n X (lv' := [(3, .int (iI v2)), (0, .ref a0), (1, .ref a1), (2, .int (iI v2))]) dX0_highestCarry_1 (by decide) rfl ?_
  exact g_sub (lv' := [(0, .ref a0), (1, .ref a1), (3, .int (iI v2))]) [1, 2, 0] rfl (h p l e s m args below meth c D cA ad X0 hr hlk)
theorem eX0_highestCarry {a0 : Nat} {a1 : Nat} {v2 : Int} {σ : ASt} {Q : Int → ASt → Prop} (ha0 : shp a0 = (0, 0, 0)) (ha1 : shp a1 = (1, 0, 43)) (h : Wx K_X0_highestCarry (QI Q) 2 [(0, .ref a0), (1, .ref a1), (3, .int (iI v2))] [] σ) : EvI K_X0_highestCarry [.ref a0, .ref a1, .int (iI v2)] σ Q := Ev.of rfl (Nat.le_of_ble_eq_true rfl) rfl (bX0_highestCarry_0 ha0 ha1 h)
theorem bX0_highestCarry_2 {a0 : Nat} {a1 : Nat} {v3 : Int} {σ : ASt} {Q : Int → ASt → Prop} (ha0 : shp a0 = (0, 0, 0)) (ha1 : shp a1 = (1, 0, 43)) (h32v3 : i32 v3) (h : ((v3 < 0 → Q (-1) σ) ∧ (0 ≤ v3 → EvZ K_X0_canCarry [.ref a0, .ref a1, .int (iI v3), .int (iI 1)] σ (fun s2 => Q v3 s2) (fun s2 => Wx K_X0_highestCarry (QI Q) 2 [(0, .ref a0), (1, .ref a1), (3, .int (iI (v3 + (-1))))] [] s2)))) : Wx K_X0_highestCarry (QI Q) 2 [(0, .ref a0), (1, .ref a1), (3, .int (iI v3))] [] σ := by
  intro p l e s m args below meth c D cA ad X0 hr hlk
  have X : Cx p s m args c (adA ad) D cA ad RX0 cX0_highestCarry 4 := X0
  refine g_iload_n X 2 dX0_highestCarry_2 rfl ?_
  refine g_if_lt X (tgt := 24) dX0_highestCarry_3 (by decide) h32v3 (fun c1 => ?_) (fun c1 => ?_)
  · have h := h.1 c1
    refine g_iconst X dX0_highestCarry_24 ?_
    exact g_iret X hr hlk dX0_highestCarry_25 rfl ⟨_, rfl, (by omega), h⟩
  · have h := h.2 c1
    refine g_aload_n X 0 dX0_highestCarry_6 rfl ?_
    refine g_aload_n X 1 dX0_highestCarry_7 rfl ?_
    refine g_iload_n X 2 dX0_highestCarry_8 rfl ?_
    refine g_iconst X dX0_highestCarry_9 ?_
    refine g_cVZ X (K := K_X0_canCarry) [.ref a1, .int (iI v3), .int (iI 1)] [] dX0_highestCarry_10 lv_X0_76 rm_X0_highestCarry_X0_canCarry ⟨by decide, by decide⟩ adA_id ha0 rfl rfl (Nat.le_of_ble_eq_true rfl) rfl h (fun s2 h => ?_) (fun s2 h => ?_)
    · skip
      refine g_if_eq X (tgt := 18) dX0_highestCarry_13 (by decide) (by omega) (fun hc => absurd hc (by decide)) (fun _ => ?_)
      refine g_iload_n X 2 dX0_highestCarry_16 rfl ?_
      exact g_iret X hr hlk dX0_highestCarry_17 rfl ⟨_, rfl, h32v3, h⟩
    · skip
      refine g_if_eq X (tgt := 18) dX0_highestCarry_13 (by decide) (by omega) (fun _ => ?_) (fun hc => absurd hc (by decide))
      refine g_iinc X (x := v3) (lv' := [(3, .int (iI (v3 + (-1)))), (0, .ref a0), (1, .ref a1)]) 2 dX0_highestCarry_18 rfl (by decide) rfl ?_
      refine g_goto X (tgt := 2) dX0_highestCarry_21 (by decide) ?_
      exact g_sub (lv' := [(0, .ref a0), (1, .ref a1), (3, .int (iI (v3 + (-1))))]) [1, 2, 0] rfl (h p l e s m args below meth c D cA ad X0 hr hlk)
theorem bX0_isRowOfSteps_0 {v0 : Int} {v1 : Int} {σ : ASt} {QT QF : ASt → Prop} (h32v1 : i32 v1) (h : EvZ K_X7_isWithin [.int (iI v0), .int (iI 1), .int (iI 8)] σ (fun s1 => ((0 ≤ v1 → Wx K_X0_isRowOfSteps (QZ QT QF) 20 [(0, .int (iI v0)), (2, .int (iI v1)), (3, .int (iI 0))] [] s1) ∧ (v1 < 0 → QF s1))) (fun s1 => QF s1)) : Wx K_X0_isRowOfSteps (QZ QT QF) 0 [(0, .int (iI v0)), (1, .int (iI v1))] [] σ := by
  intro p l e s m args below meth c D cA ad X0 hr hlk
  have X : Cx p s m args c (adA ad) D cA ad RX0 cX0_isRowOfSteps 4 := X0
  refine g_iload_n X 0 dX0_isRowOfSteps_0 rfl ?_
  refine g_iconst X dX0_isRowOfSteps_1 ?_
  refine g_bipush X dX0_isRowOfSteps_2 (by decide +kernel) ?_
  refine g_cNZ X (K := K_X7_isWithin) [.int (iI v0), .int (iI 1), .int (iI 8)] [] dX0_isRowOfSteps_4 ln_X0_27 rm_X0_isRowOfSteps_X7_isWithin ⟨by decide, by decide⟩ adA_id rfl (Nat.le_of_ble_eq_true rfl) rfl h (fun s1 h => ?_) (fun s1 h => ?_)
  · skip
    refine g_if_eq X (tgt := 14) dX0_isRowOfSteps_7 (by decide) (by omega) (fun hc => absurd hc (by decide)) (fun _ => ?_)
    refine g_iload_n X 1 dX0_isRowOfSteps_10 rfl ?_
    refine g_if_ge X (tgt := 16) dX0_isRowOfSteps_11 (by decide) h32v1 (fun c2 => ?_) (fun c2 => ?_)
    · have h := h.1 c2
      refine g_iload_n X 1 dX0_isRowOfSteps_16 rfl ?_
      refine g_istore_n X (lv' := [(2, .int (iI v1)), (0, .int (iI v0)), (1, .int (iI v1))]) dX0_isRowOfSteps_17 (by decide) rfl ?_
      refine g_iconst X dX0_isRowOfSteps_18 ?_
      refine g_istore_n X (lv' := [(3, .int (iI 0)), (2, .int (iI v1)), (0, .int (iI v0)), (1, .int (iI v1))]) dX0_isRowOfSteps_19 (by decide) rfl ?_
      exact g_sub (lv' := [(0, .int (iI v0)), (2, .int (iI v1)), (3, .int (iI 0))]) [2, 1, 0] rfl (h p l e s m args below meth c D cA ad X0 hr hlk)
    · have h := h.2 c2
      refine g_iconst X dX0_isRowOfSteps_14 ?_
      exact g_iret X hr hlk dX0_isRowOfSteps_15 rfl (Or.inr ⟨rfl, h⟩)
  · skip
    refine g_if_eq X (tgt := 14) dX0_isRowOfSteps_7 (by decide) (by omega) (fun _ => ?_) (fun hc => absurd hc (by decide))
    refine g_iconst X dX0_isRowOfSteps_14 ?_
    exact g_iret X hr hlk dX0_isRowOfSteps_15 rfl (Or.inr ⟨rfl, h⟩)
theorem eX0_isRowOfSteps {v0 : Int} {v1 : Int} {σ : ASt} {QT QF : ASt → Prop} (h32v1 : i32 v1) (h : EvZ K_X7_isWithin [.int (iI v0), .int (iI 1), .int (iI 8)] σ (fun s1 => ((0 ≤ v1 → Wx K_X0_isRowOfSteps (QZ QT QF) 20 [(0, .int (iI v0)), (2, .int (iI v1)), (3, .int (iI 0))] [] s1) ∧ (v1 < 0 → QF s1))) (fun s1 => QF s1)) : EvZ K_X0_isRowOfSteps [.int (iI v0), .int (iI v1)] σ QT QF := Ev.of rfl (Nat.le_of_ble_eq_true rfl) rfl (bX0_isRowOfSteps_0 h32v1 h)
theorem bX0_isRowOfSteps_20 {v0 : Int} {v2 : Int} {v3 : Int} {σ : ASt} {QT QF : ASt → Prop} (h32v0 : i32 v0) (h32v2 : i32 v2) (h32v3 : i32 v3) (h : ((v0 ≤ v3 → ((v2 ≠ 0 → QF σ) ∧ (v2 = 0 → QT σ))) ∧ (v3 < v0 → i32 ((Int.tmod v2 10)) ∧ (((Int.tmod v2 10) ≠ 0 → Wx K_X0_isRowOfSteps (QZ QT QF) 20 [(0, .int (iI v0)), (2, .int (iI (Int.tdiv v2 10))), (3, .int (iI (v3 + 1)))] [] σ) ∧ ((Int.tmod v2 10) = 0 → QF σ))))) : Wx K_X0_isRowOfSteps (QZ QT QF) 20 [(0, .int (iI v0)), (2, .int (iI v2)), (3, .int (iI v3))] [] σ := by
  intro p l e s m args below meth c D cA ad X0 hr hlk
  have X : Cx p s m args c (adA ad) D cA ad RX0 cX0_isRowOfSteps 4 := X0
  refine g_iload_n X 2 dX0_isRowOfSteps_20 rfl ?_
  refine g_iload_n X 0 dX0_isRowOfSteps_21 rfl ?_
  refine g_icmp_ge X (tgt := 45) dX0_isRowOfSteps_22 (by decide) h32v3 h32v0 (fun c1 => ?_) (fun c1 => ?_)
  · have h := h.1 c1
    refine g_iload_n X 1 dX0_isRowOfSteps_45 rfl ?_
    refine g_if_ne X (tgt := 53) dX0_isRowOfSteps_46 (by decide) h32v2 (fun c2 => ?_) (fun c2 => ?_)
    · have h := h.1 c2
      refine g_iconst X dX0_isRowOfSteps_53 ?_
      exact g_iret X hr hlk dX0_isRowOfSteps_54 rfl (Or.inr ⟨rfl, h⟩)
    · have h := h.2 c2
      refine g_iconst X dX0_isRowOfSteps_49 ?_
      refine g_goto X (tgt := 54) dX0_isRowOfSteps_50 (by decide) ?_
      exact g_iret X hr hlk dX0_isRowOfSteps_54 rfl (Or.inl ⟨rfl, h⟩)
  · have h := h.2 c1
    refine g_iload_n X 1 dX0_isRowOfSteps_25 rfl ?_
    refine g_bipush X dX0_isRowOfSteps_26 (by decide +kernel) ?_
    refine g_irem X dX0_isRowOfSteps_28 h32v2 (by omega) (by decide) ?_
    obtain ⟨q3, h⟩ := h
    refine g_if_ne X (tgt := 34) dX0_isRowOfSteps_29 (by decide) q3 (fun c4 => ?_) (fun c4 => ?_)
    · have h := h.1 c4
      refine g_iload_n X 1 dX0_isRowOfSteps_34 rfl ?_
      refine g_bipush X dX0_isRowOfSteps_35 (by decide +kernel) ?_
      refine g_idiv X dX0_isRowOfSteps_37 h32v2 (by omega) (by decide) ?_
      refine g_istore_n X (lv' := [(2, .int (iI (Int.tdiv v2 10))), (0, .int (iI v0)), (3, .int (iI v3))]) dX0_isRowOfSteps_38 (by decide) rfl ?_
      refine g_iinc X (x := v3) (lv' := [(3, .int (iI (v3 + 1))), (2, .int (iI (Int.tdiv v2 10))), (0, .int (iI v0))]) 2 dX0_isRowOfSteps_39 rfl (by decide) rfl ?_
      refine g_goto X (tgt := 20) dX0_isRowOfSteps_42 (by decide) ?_
      exact g_sub (lv' := [(0, .int (iI v0)), (2, .int (iI (Int.tdiv v2 10))), (3, .int (iI (v3 + 1)))]) [2, 1, 0] rfl (h p l e s m args below meth c D cA ad X0 hr hlk)
    · have h := h.2 c4
      refine g_iconst X dX0_isRowOfSteps_32 ?_
      exact g_iret X hr hlk dX0_isRowOfSteps_33 rfl (Or.inr ⟨rfl, h⟩)
theorem bX0_kind_0 {a0 : Nat} {σ : ASt} {Q : Int → ASt → Prop} (ha0 : shp a0 = (0, 0, 0)) (h : Wx K_X0_kind (QI Q) 2 [(0, .ref a0), (1, .int (iI 1))] [] σ) : Wx K_X0_kind (QI Q) 0 [(0, .ref a0)] [] σ := by
  intro p l e s m args below meth c D cA ad X0 hr hlk
  have X : Cx p s m args c (adA ad) D cA ad RX0 cX0_kind 2 := X0
  refine g_iconst X dX0_kind_0 ?_
  refine g_istore_n X (lv' := [(1, .int (iI 1)), (0, .ref a0)]) dX0_kind_1 (by decide) rfl ?_
  exact g_sub (lv' := [(0, .ref a0), (1, .int (iI 1))]) [1, 0] rfl (h p l e s m args below meth c D cA ad X0 hr hlk)
theorem eX0_kind {a0 : Nat} {σ : ASt} {Q : Int → ASt → Prop} (ha0 : shp a0 = (0, 0, 0)) (h : Wx K_X0_kind (QI Q) 2 [(0, .ref a0), (1, .int (iI 1))] [] σ) : EvI K_X0_kind [.ref a0] σ Q := Ev.of rfl (Nat.le_of_ble_eq_true rfl) rfl (bX0_kind_0 ha0 h)
theorem bX0_kind_2 {a0 : Nat} {v1 : Int} {σ : ASt} {Q : Int → ASt → Prop} (ha0 : shp a0 = (0, 0, 0)) (h32v1 : i32 v1) (h : i32 ((gI σ a0 3)) ∧ (((gI σ a0 3) ≤ v1 → i32 ((gI σ (a0 + 6) 0)) ∧ (((gI σ (a0 + 6) 0) ≠ 1 → (((gI σ (a0 + 6) 0) ≠ 2 → Q 1 σ) ∧ ((gI σ (a0 + 6) 0) = 2 → Q 3 σ))) ∧ ((gI σ (a0 + 6) 0) = 1 → Q 2 σ))) ∧ (v1 < (gI σ a0 3) → ((43 ≤ v1 → i32 ((gI σ (a0 + 6) 0)) ∧ (((gI σ (a0 + 6) 0) ≠ 1 → (((gI σ (a0 + 6) 0) ≠ 2 → Q 1 σ) ∧ ((gI σ (a0 + 6) 0) = 2 → Q 3 σ))) ∧ ((gI σ (a0 + 6) 0) = 1 → Q 2 σ))) ∧ (v1 < 43 → (0 ≤ v1 ∧ v1 < 43) ∧ i32 ((gI σ (a0 + 6) v1)) ∧ i32 ((gI σ (a0 + 6) 0)) ∧ (((gI σ (a0 + 6) v1) = (gI σ (a0 + 6) 0) → Wx K_X0_kind (QI Q) 2 [(0, .ref a0), (1, .int (iI (v1 + 1)))] [] σ) ∧ ((gI σ (a0 + 6) v1) ≠ (gI σ (a0 + 6) 0) → Q 0 σ))))))) : Wx K_X0_kind (QI Q) 2 [(0, .ref a0), (1, .int (iI v1))] [] σ := by
  intro p l e s m args below meth c D cA ad X0 hr hlk
  have X : Cx p s m args c (adA ad) D cA ad RX0 cX0_kind 2 := X0
  refine g_iload_n X 1 dX0_kind_2 rfl ?_
  refine g_aload_n X 0 dX0_kind_3 rfl ?_
  refine g_getI X (z := 3) dX0_kind_4 lf_X0_40 ha0 rfl rfl ?_
  obtain ⟨q1, h⟩ := h
  refine g_icmp_ge X (tgt := 42) dX0_kind_7 (by decide) h32v1 q1 (fun c2 => ?_) (fun c2 => ?_)
  · have h := h.1 c2
    refine g_aload_n X 0 dX0_kind_42 rfl ?_
    refine g_getF X (f := (a0 + 6)) dX0_kind_43 lf_X0_9 ha0 rfl (fn_0_1 ha0) ?_
    refine g_iconst X dX0_kind_46 ?_
    refine g_iald X dX0_kind_47 (sf_0_1 ha0) (by omega) (by omega) ?_
    refine g_iconst X dX0_kind_48 ?_
    obtain ⟨q3, h⟩ := h
    refine g_icmp_ne X (tgt := 54) dX0_kind_49 (by decide) q3 (by omega) (fun c4 => ?_) (fun c4 => ?_)
    · have h := h.1 c4
      refine g_aload_n X 0 dX0_kind_54 rfl ?_
      refine g_getF X (f := (a0 + 6)) dX0_kind_55 lf_X0_9 ha0 rfl (fn_0_1 ha0) ?_
      refine g_iconst X dX0_kind_58 ?_
      refine g_iald X dX0_kind_59 (sf_0_1 ha0) (by omega) (by omega) ?_
      refine g_iconst X dX0_kind_60 ?_
      refine g_icmp_ne X (tgt := 68) dX0_kind_61 (by decide) q3 (by omega) (fun c5 => ?_) (fun c5 => ?_)
      · have h := h.1 c5
        refine g_iconst X dX0_kind_68 ?_
        exact g_iret X hr hlk dX0_kind_69 rfl ⟨_, rfl, (by omega), h⟩
      · have h := h.2 c5
        refine g_iconst X dX0_kind_64 ?_
        refine g_goto X (tgt := 69) dX0_kind_65 (by decide) ?_
        exact g_iret X hr hlk dX0_kind_69 rfl ⟨_, rfl, (by omega), h⟩
    · have h := h.2 c4
      refine g_iconst X dX0_kind_52 ?_
      exact g_iret X hr hlk dX0_kind_53 rfl ⟨_, rfl, (by omega), h⟩
  · have h := h.2 c2
    refine g_iload_n X 1 dX0_kind_10 rfl ?_
    refine g_aload_n X 0 dX0_kind_11 rfl ?_
    refine g_getF X (f := (a0 + 6)) dX0_kind_12 lf_X0_9 ha0 rfl (fn_0_1 ha0) ?_
    refine g_alen1 X (z := 43) dX0_kind_15 (sf_0_1 ha0) rfl ?_
    refine g_icmp_ge X (tgt := 42) dX0_kind_16 (by decide) h32v1 (by omega) (fun c6 => ?_) (fun c6 => ?_)
    · have h := h.1 c6
      refine g_aload_n X 0 dX0_kind_42 rfl ?_
      refine g_getF X (f := (a0 + 6)) dX0_kind_43 lf_X0_9 ha0 rfl (fn_0_1 ha0) ?_
      refine g_iconst X dX0_kind_46 ?_
      refine g_iald X dX0_kind_47 (sf_0_1 ha0) (by omega) (by omega) ?_
      refine g_iconst X dX0_kind_48 ?_
      obtain ⟨q7, h⟩ := h
      refine g_icmp_ne X (tgt := 54) dX0_kind_49 (by decide) q7 (by omega) (fun c8 => ?_) (fun c8 => ?_)
      · have h := h.1 c8
        refine g_aload_n X 0 dX0_kind_54 rfl ?_
        refine g_getF X (f := (a0 + 6)) dX0_kind_55 lf_X0_9 ha0 rfl (fn_0_1 ha0) ?_
        refine g_iconst X dX0_kind_58 ?_
        refine g_iald X dX0_kind_59 (sf_0_1 ha0) (by omega) (by omega) ?_
        refine g_iconst X dX0_kind_60 ?_
        refine g_icmp_ne X (tgt := 68) dX0_kind_61 (by decide) q7 (by omega) (fun c9 => ?_) (fun c9 => ?_)
        · have h := h.1 c9
          refine g_iconst X dX0_kind_68 ?_
          exact g_iret X hr hlk dX0_kind_69 rfl ⟨_, rfl, (by omega), h⟩
        · have h := h.2 c9
          refine g_iconst X dX0_kind_64 ?_
          refine g_goto X (tgt := 69) dX0_kind_65 (by decide) ?_
          exact g_iret X hr hlk dX0_kind_69 rfl ⟨_, rfl, (by omega), h⟩
      · have h := h.2 c8
        refine g_iconst X dX0_kind_52 ?_
        exact g_iret X hr hlk dX0_kind_53 rfl ⟨_, rfl, (by omega), h⟩
    · have h := h.2 c6
      refine g_aload_n X 0 dX0_kind_19 rfl ?_
      refine g_getF X (f := (a0 + 6)) dX0_kind_20 lf_X0_9 ha0 rfl (fn_0_1 ha0) ?_
      refine g_iload_n X 1 dX0_kind_23 rfl ?_
      obtain ⟨q10, h⟩ := h
      refine g_iald X dX0_kind_24 (sf_0_1 ha0) q10.1 q10.2 ?_
      refine g_aload_n X 0 dX0_kind_25 rfl ?_
      refine g_getF X (f := (a0 + 6)) dX0_kind_26 lf_X0_9 ha0 rfl (fn_0_1 ha0) ?_
      refine g_iconst X dX0_kind_29 ?_
      refine g_iald X dX0_kind_30 (sf_0_1 ha0) (by omega) (by omega) ?_
      obtain ⟨q11, h⟩ := h
      obtain ⟨q12, h⟩ := h
      refine g_icmp_eq X (tgt := 36) dX0_kind_31 (by decide) q11 q12 (fun c13 => ?_) (fun c13 => ?_)
      · have h := h.1 c13
        refine g_iinc X (x := v1) (lv' := [(1, .int (iI (v1 + 1))), (0, .ref a0)]) 1 dX0_kind_36 rfl (by decide) rfl ?_
        refine g_goto X (tgt := 2) dX0_kind_39 (by decide) ?_
        exact g_sub (lv' := [(0, .ref a0), (1, .int (iI (v1 + 1)))]) [1, 0] rfl (h p l e s m args below meth c D cA ad X0 hr hlk)
      · have h := h.2 c13
        refine g_iconst X dX0_kind_34 ?_
        exact g_iret X hr hlk dX0_kind_35 rfl ⟨_, rfl, (by omega), h⟩
theorem bX0_makeWorths_0 {a0 : Nat} {σ : ASt} {Q : ASt → Prop} (ha0 : shp a0 = (0, 0, 0)) (h : Wx K_X0_makeWorths (QV Q) 7 [(0, .ref a0), (1, .long (lI 1)), (3, .long (lI 1)), (5, .int (iI 0))] [] σ) : Wx K_X0_makeWorths (QV Q) 0 [(0, .ref a0)] [] σ := by
  intro p l e s m args below meth c D cA ad X0 hr hlk
  have X : Cx p s m args c (adA ad) D cA ad RX0 cX0_makeWorths 8 := X0
  refine g_lconst X (z := 1) dX0_makeWorths_0 (by decide +kernel) ?_
  refine g_lstore_n X (lv' := [(1, .long (lI 1)), (0, .ref a0)]) dX0_makeWorths_1 (by decide) rfl ?_
  refine g_lconst X (z := 1) dX0_makeWorths_2 (by decide +kernel) ?_
  refine g_lstore_n X (lv' := [(3, .long (lI 1)), (1, .long (lI 1)), (0, .ref a0)]) dX0_makeWorths_3 (by decide) rfl ?_
  refine g_iconst X dX0_makeWorths_4 ?_
  refine g_istore X (lv' := [(5, .int (iI 0)), (3, .long (lI 1)), (1, .long (lI 1)), (0, .ref a0)]) dX0_makeWorths_5 (by decide) rfl ?_
  exact g_sub (lv' := [(0, .ref a0), (1, .long (lI 1)), (3, .long (lI 1)), (5, .int (iI 0))]) [3, 2, 1, 0] rfl (h p l e s m args below meth c D cA ad X0 hr hlk)
theorem eX0_makeWorths {a0 : Nat} {σ : ASt} {Q : ASt → Prop} (ha0 : shp a0 = (0, 0, 0)) (h : Wx K_X0_makeWorths (QV Q) 7 [(0, .ref a0), (1, .long (lI 1)), (3, .long (lI 1)), (5, .int (iI 0))] [] σ) : EvV K_X0_makeWorths [.ref a0] σ Q := Ev.of rfl (Nat.le_of_ble_eq_true rfl) rfl (bX0_makeWorths_0 ha0 h)
theorem bX0_makeWorths_7 {a0 : Nat} {v1 : Int} {v3 : Int} {v5 : Int} {σ : ASt} {Q : ASt → Prop} (ha0 : shp a0 = (0, 0, 0)) (h32v5 : i32 v5) (h64v3 : i64 v3) (h : ((43 ≤ v5 → Q (sL σ a0 5 (v3 - 1))) ∧ (v5 < 43 → ((1000000000 < v3 → Q (sL σ a0 5 (v3 - 1))) ∧ (v3 ≤ 1000000000 → (0 ≤ v5 ∧ v5 < 43) ∧ i32 ((gI (sI (sL σ (a0 + 12) v5 v3) a0 4 (v5 + 1)) (a0 + 6) v5)) ∧ Wx K_X0_makeWorths (QV Q) 7 [(0, .ref a0), (1, .long (lI v3)), (3, .long (lI (((gI (sI (sL σ (a0 + 12) v5 v3) a0 4 (v5 + 1)) (a0 + 6) v5) * v3) + v1))), (5, .int (iI (v5 + 1)))] [] (sI (sL σ (a0 + 12) v5 v3) a0 4 (v5 + 1))))))) : Wx K_X0_makeWorths (QV Q) 7 [(0, .ref a0), (1, .long (lI v1)), (3, .long (lI v3)), (5, .int (iI v5))] [] σ := by
  intro p l e s m args below meth c D cA ad X0 hr hlk
  have X : Cx p s m args c (adA ad) D cA ad RX0 cX0_makeWorths 8 := X0
  refine g_iload X 3 dX0_makeWorths_7 rfl ?_
  refine g_aload_n X 0 dX0_makeWorths_9 rfl ?_
  refine g_getF X (f := (a0 + 12)) dX0_makeWorths_10 lf_X0_15 ha0 rfl (fn_0_2 ha0) ?_
  refine g_alen2 X (z := 43) dX0_makeWorths_13 (sf_0_2 ha0) rfl ?_
  refine g_icmp_ge X (tgt := 66) dX0_makeWorths_14 (by decide) h32v5 (by omega) (fun c1 => ?_) (fun c1 => ?_)
  · have h := h.1 c1
    refine g_aload_n X 0 dX0_makeWorths_66 rfl ?_
    refine g_lload_n X 2 dX0_makeWorths_67 rfl ?_
    refine g_lconst X (z := 1) dX0_makeWorths_68 (by decide +kernel) ?_
    refine g_lsub X dX0_makeWorths_69 ?_
    refine g_putL X (j := 5) (z := 5) dX0_makeWorths_70 lp_X0_51 ha0 rfl rfl ?_
    exact g_vret X hr hlk dX0_makeWorths_73 ⟨rfl, h⟩
  · have h := h.2 c1
    refine g_lload_n X 2 dX0_makeWorths_17 rfl ?_
    refine g_ldc2 X (z := 1000000000) dX0_makeWorths_18 lc_X0_46 (by decide +kernel) ?_
    refine g_lc_gt X (tgt := 66) dX0_makeWorths_21 dX0_makeWorths_22 (by decide) h64v3 (by omega) (fun c2 => ?_) (fun c2 => ?_)
    · have h := h.1 c2
      refine g_aload_n X 0 dX0_makeWorths_66 rfl ?_
      refine g_lload_n X 2 dX0_makeWorths_67 rfl ?_
      refine g_lconst X (z := 1) dX0_makeWorths_68 (by decide +kernel) ?_
      refine g_lsub X dX0_makeWorths_69 ?_
      refine g_putL X (j := 5) (z := 5) dX0_makeWorths_70 lp_X0_51 ha0 rfl rfl ?_
      exact g_vret X hr hlk dX0_makeWorths_73 ⟨rfl, h⟩
    · have h := h.2 c2
      refine g_aload_n X 0 dX0_makeWorths_25 rfl ?_
      refine g_getF X (f := (a0 + 12)) dX0_makeWorths_26 lf_X0_15 ha0 rfl (fn_0_2 ha0) ?_
      refine g_iload X 3 dX0_makeWorths_29 rfl ?_
      refine g_lload_n X 2 dX0_makeWorths_31 rfl ?_
      obtain ⟨q3, h⟩ := h
      refine g_last X dX0_makeWorths_32 (sf_0_2 ha0) q3.1 q3.2 ?_
      refine g_aload_n X 0 dX0_makeWorths_33 rfl ?_
      refine g_iload X 3 dX0_makeWorths_34 rfl ?_
      refine g_iconst X dX0_makeWorths_36 ?_
      refine g_iadd X dX0_makeWorths_37 ?_
      refine g_putI X (j := 4) (z := 4) dX0_makeWorths_38 lp_X0_48 ha0 rfl rfl ?_
      refine g_aload_n X 0 dX0_makeWorths_41 rfl ?_
      refine g_getF X (f := (a0 + 6)) dX0_makeWorths_42 lf_X0_9 ha0 rfl (fn_0_1 ha0) ?_
      refine g_iload X 3 dX0_makeWorths_45 rfl ?_
      refine g_iald X dX0_makeWorths_47 (sf_0_1 ha0) q3.1 q3.2 ?_
      obtain ⟨q4, h⟩ := h
      refine g_i2l X dX0_makeWorths_48 q4 ?_
      refine g_lload_n X 2 dX0_makeWorths_49 rfl ?_
      refine g_lmul X dX0_makeWorths_50 ?_
      refine g_lload_n X 1 dX0_makeWorths_51 rfl ?_
      refine g_ladd X dX0_makeWorths_52 ?_
      refine g_lstore X (lv' := [(6, .long (lI (((gI (sI (sL σ (a0 + 12) v5 v3) a0 4 (v5 + 1)) (a0 + 6) v5) * v3) + v1))), (0, .ref a0), (1, .long (lI v1)), (3, .long (lI v3)), (5, .int (iI v5))]) dX0_makeWorths_53 (by decide) rfl ?_
      refine g_lload_n X 3 dX0_makeWorths_55 rfl ?_
      refine g_lstore_n X (lv' := [(1, .long (lI v3)), (6, .long (lI (((gI (sI (sL σ (a0 + 12) v5 v3) a0 4 (v5 + 1)) (a0 + 6) v5) * v3) + v1))), (0, .ref a0), (3, .long (lI v3)), (5, .int (iI v5))]) dX0_makeWorths_56 (by decide) rfl ?_
      refine g_lload X 1 dX0_makeWorths_57 rfl ?_
      refine g_lstore_n X (lv' := [(3, .long (lI (((gI (sI (sL σ (a0 + 12) v5 v3) a0 4 (v5 + 1)) (a0 + 6) v5) * v3) + v1))), (1, .long (lI v3)), (6, .long (lI (((gI (sI (sL σ (a0 + 12) v5 v3) a0 4 (v5 + 1)) (a0 + 6) v5) * v3) + v1))), (0, .ref a0), (5, .int (iI v5))]) dX0_makeWorths_59 (by decide) rfl ?_
      refine g_iinc X (x := v5) (lv' := [(5, .int (iI (v5 + 1))), (3, .long (lI (((gI (sI (sL σ (a0 + 12) v5 v3) a0 4 (v5 + 1)) (a0 + 6) v5) * v3) + v1))), (1, .long (lI v3)), (6, .long (lI (((gI (sI (sL σ (a0 + 12) v5 v3) a0 4 (v5 + 1)) (a0 + 6) v5) * v3) + v1))), (0, .ref a0)]) 4 dX0_makeWorths_60 rfl (by decide) rfl ?_
      refine g_goto X (tgt := 7) dX0_makeWorths_63 (by decide) ?_
      exact g_sub (lv' := [(0, .ref a0), (1, .long (lI v3)), (3, .long (lI (((gI (sI (sL σ (a0 + 12) v5 v3) a0 4 (v5 + 1)) (a0 + 6) v5) * v3) + v1))), (5, .int (iI (v5 + 1)))]) [4, 2, 1, 0] rfl (h p l e s m args below meth c D cA ad X0 hr hlk)
theorem bX0_settleAll_0 {a0 : Nat} {a1 : Nat} {σ : ASt} {Q : Int → ASt → Prop} (ha0 : shp a0 = (0, 0, 0)) (ha1 : shp a1 = (1, 0, 43)) (h : Wx K_X0_settleAll (QI Q) 9 [(0, .ref a0), (1, .ref a1), (2, .int (iI ((gI σ a0 4) - 2))), (3, .int (iI 0))] [] σ) : Wx K_X0_settleAll (QI Q) 0 [(0, .ref a0), (1, .ref a1)] [] σ := by
  intro p l e s m args below meth c D cA ad X0 hr hlk
  have X : Cx p s m args c (adA ad) D cA ad RX0 cX0_settleAll 4 := X0
  refine g_aload_n X 0 dX0_settleAll_0 rfl ?_
  refine g_getI X (z := 4) dX0_settleAll_1 lf_X0_48 ha0 rfl rfl ?_
  refine g_iconst X dX0_settleAll_4 ?_
  refine g_isub X dX0_settleAll_5 ?_
  refine g_istore_n X (lv' := [(2, .int (iI ((gI σ a0 4) - 2))), (0, .ref a0), (1, .ref a1)]) dX0_settleAll_6 (by decide) rfl ?_
  refine g_iconst X dX0_settleAll_7 ?_
  refine g_istore_n X (lv' := [(3, .int (iI 0)), (2, .int (iI ((gI σ a0 4) - 2))), (0, .ref a0), (1, .ref a1)]) dX0_settleAll_8 (by decide) rfl ?_
  exact g_sub (lv' := [(0, .ref a0), (1, .ref a1), (2, .int (iI ((gI σ a0 4) - 2))), (3, .int (iI 0))]) [2, 3, 1, 0] rfl (h p l e s m args below meth c D cA ad X0 hr hlk)
theorem eX0_settleAll {a0 : Nat} {a1 : Nat} {σ : ASt} {Q : Int → ASt → Prop} (ha0 : shp a0 = (0, 0, 0)) (ha1 : shp a1 = (1, 0, 43)) (h : Wx K_X0_settleAll (QI Q) 9 [(0, .ref a0), (1, .ref a1), (2, .int (iI ((gI σ a0 4) - 2))), (3, .int (iI 0))] [] σ) : EvI K_X0_settleAll [.ref a0, .ref a1] σ Q := Ev.of rfl (Nat.le_of_ble_eq_true rfl) rfl (bX0_settleAll_0 ha0 ha1 h)
theorem bX0_settleAll_9 {a0 : Nat} {a1 : Nat} {v2 : Int} {v3 : Int} {σ : ASt} {Q : Int → ASt → Prop} (ha0 : shp a0 = (0, 0, 0)) (ha1 : shp a1 = (1, 0, 43)) (h32v3 : i32 v3) (h : ((4257 ≤ v3 → Q 4257 σ) ∧ (v3 < 4257 → EvI K_X0_highestCarry [.ref a0, .ref a1, .int (iI v2)] σ (fun x3 s2 => ((0 ≤ x3 → EvV K_X0_carryOnce [.ref a0, .ref a1, .int (iI x3), .int (iI 1)] s2 (fun s6 => i32 ((x3 + 2)) ∧ i32 (((gI s6 a0 4) - 2)) ∧ Wx K_X0_settleAll (QI Q) 9 [(0, .ref a0), (1, .ref a1), (2, .int (iI (if ((gI s6 a0 4) - 2) < (x3 + 2) then ((gI s6 a0 4) - 2) else (x3 + 2)))), (3, .int (iI (v3 + 1)))] [] s6)) ∧ (x3 < 0 → Q v3 s2)))))) : Wx K_X0_settleAll (QI Q) 9 [(0, .ref a0), (1, .ref a1), (2, .int (iI v2)), (3, .int (iI v3))] [] σ := by
  intro p l e s m args below meth c D cA ad X0 hr hlk
  have X : Cx p s m args c (adA ad) D cA ad RX0 cX0_settleAll 4 := X0
  refine g_iload_n X 3 dX0_settleAll_9 rfl ?_
  refine g_sipush X dX0_settleAll_10 (by decide +kernel) ?_
  refine g_icmp_ge X (tgt := 55) dX0_settleAll_13 (by decide) h32v3 (by omega) (fun c1 => ?_) (fun c1 => ?_)
  · have h := h.1 c1
    refine g_sipush X dX0_settleAll_55 (by decide +kernel) ?_
    exact g_iret X hr hlk dX0_settleAll_58 rfl ⟨_, rfl, (by omega), h⟩
  · have h := h.2 c1
    refine g_aload_n X 0 dX0_settleAll_16 rfl ?_
    refine g_aload_n X 1 dX0_settleAll_17 rfl ?_
    refine g_iload_n X 2 dX0_settleAll_18 rfl ?_
    refine g_cVI X (K := K_X0_highestCarry) [.ref a1, .int (iI v2)] [] dX0_settleAll_19 lv_X0_80 rm_X0_settleAll_X0_highestCarry ⟨by decide, by decide⟩ adA_id ha0 rfl rfl (Nat.le_of_ble_eq_true rfl) rfl h (fun x3 s2 q4 h => ?_)
    refine g_istore_n X (lv' := [(2, .int (iI x3)), (0, .ref a0), (1, .ref a1), (3, .int (iI v3))]) dX0_settleAll_22 (by decide) rfl ?_
    refine g_iload_n X 0 dX0_settleAll_23 rfl ?_
    refine g_if_ge X (tgt := 29) dX0_settleAll_24 (by decide) q4 (fun c5 => ?_) (fun c5 => ?_)
    · have h := h.1 c5
      refine g_aload_n X 1 dX0_settleAll_29 rfl ?_
      refine g_aload_n X 2 dX0_settleAll_30 rfl ?_
      refine g_iload_n X 0 dX0_settleAll_31 rfl ?_
      refine g_iconst X dX0_settleAll_32 ?_
      refine g_cVV X (K := K_X0_carryOnce) [.ref a1, .int (iI x3), .int (iI 1)] [] dX0_settleAll_33 lv_X0_84 rm_X0_settleAll_X0_carryOnce ⟨by decide, by decide⟩ adA_id ha0 rfl rfl (Nat.le_of_ble_eq_true rfl) rfl h (fun s6 h => ?_)
      refine g_iload_n X 0 dX0_settleAll_36 rfl ?_
      refine g_iconst X dX0_settleAll_37 ?_
      refine g_iadd X dX0_settleAll_38 ?_
      refine g_aload_n X 1 dX0_settleAll_39 rfl ?_
      refine g_getI X (z := 4) dX0_settleAll_40 lf_X0_48 ha0 rfl rfl ?_
      refine g_iconst X dX0_settleAll_43 ?_
      refine g_isub X dX0_settleAll_44 ?_
      obtain ⟨q7, h⟩ := h
      obtain ⟨q8, h⟩ := h
      refine g_mmin X dX0_settleAll_45 lm_X0_31 (by decide) (Nat.le_of_ble_eq_true rfl) ⟨by decide, by decide⟩ q7 q8 ?_
      refine g_istore_n X (lv' := [(2, .int (iI (if ((gI s6 a0 4) - 2) < (x3 + 2) then ((gI s6 a0 4) - 2) else (x3 + 2)))), (0, .ref a0), (1, .ref a1), (3, .int (iI v3))]) dX0_settleAll_48 (by decide) rfl ?_
      refine g_iinc X (x := v3) (lv' := [(3, .int (iI (v3 + 1))), (2, .int (iI (if ((gI s6 a0 4) - 2) < (x3 + 2) then ((gI s6 a0 4) - 2) else (x3 + 2)))), (0, .ref a0), (1, .ref a1)]) 3 dX0_settleAll_49 rfl (by decide) rfl ?_
      refine g_goto X (tgt := 9) dX0_settleAll_52 (by decide) ?_
      exact g_sub (lv' := [(0, .ref a0), (1, .ref a1), (2, .int (iI (if ((gI s6 a0 4) - 2) < (x3 + 2) then ((gI s6 a0 4) - 2) else (x3 + 2)))), (3, .int (iI (v3 + 1)))]) [2, 3, 1, 0] rfl (h p l e s m args below meth c D cA ad X0 hr hlk)
    · have h := h.2 c5
      refine g_iload_n X 3 dX0_settleAll_27 rfl ?_
      exact g_iret X hr hlk dX0_settleAll_28 rfl ⟨_, rfl, h32v3, h⟩
theorem bX0_shiftInto_0 {a0 : Nat} {a1 : Nat} {a2 : Nat} {v3 : Int} {σ : ASt} {Q : ASt → Prop} (ha0 : shp a0 = (0, 0, 0)) (ha1 : shp a1 = (1, 0, 43)) (ha2 : shp a2 = (1, 0, 43)) (h : Wx K_X0_shiftInto (QV Q) 3 [(0, .ref a0), (1, .ref a1), (2, .ref a2), (3, .int (iI v3)), (4, .int (iI 0))] [] σ) : Wx K_X0_shiftInto (QV Q) 0 [(0, .ref a0), (1, .ref a1), (2, .ref a2), (3, .int (iI v3))] [] σ := by
  intro p l e s m args below meth c D cA ad X0 hr hlk
  have X : Cx p s m args c (adA ad) D cA ad RX0 cX0_shiftInto 6 := X0
  refine g_iconst X dX0_shiftInto_0 ?_
  refine g_istore X (lv' := [(4, .int (iI 0)), (0, .ref a0), (1, .ref a1), (2, .ref a2), (3, .int (iI v3))]) dX0_shiftInto_1 (by decide) rfl ?_
  exact g_sub (lv' := [(0, .ref a0), (1, .ref a1), (2, .ref a2), (3, .int (iI v3)), (4, .int (iI 0))]) [1, 2, 3, 4, 0] rfl (h p l e s m args below meth c D cA ad X0 hr hlk)
theorem eX0_shiftInto {a0 : Nat} {a1 : Nat} {a2 : Nat} {v3 : Int} {σ : ASt} {Q : ASt → Prop} (ha0 : shp a0 = (0, 0, 0)) (ha1 : shp a1 = (1, 0, 43)) (ha2 : shp a2 = (1, 0, 43)) (h : Wx K_X0_shiftInto (QV Q) 3 [(0, .ref a0), (1, .ref a1), (2, .ref a2), (3, .int (iI v3)), (4, .int (iI 0))] [] σ) : EvV K_X0_shiftInto [.ref a0, .ref a1, .ref a2, .int (iI v3)] σ Q := Ev.of rfl (Nat.le_of_ble_eq_true rfl) rfl (bX0_shiftInto_0 ha0 ha1 ha2 h)
theorem bX0_shiftInto_3 {a0 : Nat} {a1 : Nat} {a2 : Nat} {v3 : Int} {v4 : Int} {σ : ASt} {Q : ASt → Prop} (ha0 : shp a0 = (0, 0, 0)) (ha1 : shp a1 = (1, 0, 43)) (ha2 : shp a2 = (1, 0, 43)) (h32v4 : i32 v4) (h : ((43 ≤ v4 → Q σ) ∧ (v4 < 43 → EvZ K_X0_hasPlace [.ref a0, .int (iI v4)] σ (fun s2 => EvZ K_X0_hasPlace [.ref a0, .int (iI (v4 - v3))] s2 (fun s3 => (0 ≤ (v4 - v3) ∧ (v4 - v3) < 43) ∧ (0 ≤ v4 ∧ v4 < 43) ∧ Wx K_X0_shiftInto (QV Q) 3 [(0, .ref a0), (1, .ref a1), (2, .ref a2), (3, .int (iI v3)), (4, .int (iI (v4 + 1)))] [] (sI s3 a1 v4 (gI s3 a2 (v4 - v3)))) (fun s3 => (0 ≤ v4 ∧ v4 < 43) ∧ Wx K_X0_shiftInto (QV Q) 3 [(0, .ref a0), (1, .ref a1), (2, .ref a2), (3, .int (iI v3)), (4, .int (iI (v4 + 1)))] [] (sI s3 a1 v4 0))) (fun s2 => (0 ≤ v4 ∧ v4 < 43) ∧ Wx K_X0_shiftInto (QV Q) 3 [(0, .ref a0), (1, .ref a1), (2, .ref a2), (3, .int (iI v3)), (4, .int (iI (v4 + 1)))] [] (sI s2 a1 v4 0))))) : Wx K_X0_shiftInto (QV Q) 3 [(0, .ref a0), (1, .ref a1), (2, .ref a2), (3, .int (iI v3)), (4, .int (iI v4))] [] σ := by
  intro p l e s m args below meth c D cA ad X0 hr hlk
  have X : Cx p s m args c (adA ad) D cA ad RX0 cX0_shiftInto 6 := X0
  refine g_iload X 4 dX0_shiftInto_3 rfl ?_
  refine g_aload_n X 1 dX0_shiftInto_5 rfl ?_
  refine g_alen1 X (z := 43) dX0_shiftInto_6 ha1 rfl ?_
  refine g_icmp_ge X (tgt := 52) dX0_shiftInto_7 (by decide) h32v4 (by omega) (fun c1 => ?_) (fun c1 => ?_)
  · have h := h.1 c1
    exact g_vret X hr hlk dX0_shiftInto_52 ⟨rfl, h⟩
  · have h := h.2 c1
    refine g_iload X 4 dX0_shiftInto_10 rfl ?_
    refine g_iload_n X 3 dX0_shiftInto_12 rfl ?_
    refine g_isub X dX0_shiftInto_13 ?_
    refine g_istore X (lv' := [(5, .int (iI (v4 - v3))), (0, .ref a0), (1, .ref a1), (2, .ref a2), (3, .int (iI v3)), (4, .int (iI v4))]) dX0_shiftInto_14 (by decide) rfl ?_
    refine g_aload_n X 2 dX0_shiftInto_16 rfl ?_
    refine g_iload X 5 dX0_shiftInto_17 rfl ?_
    refine g_aload_n X 1 dX0_shiftInto_19 rfl ?_
    refine g_iload X 5 dX0_shiftInto_20 rfl ?_
    refine g_cVZ X (K := K_X0_hasPlace) [.int (iI v4)] [.int (iI v4), .ref a1] dX0_shiftInto_22 lv_X0_65 rm_X0_shiftInto_X0_hasPlace ⟨by decide, by decide⟩ adA_id ha0 rfl rfl (Nat.le_of_ble_eq_true rfl) rfl h (fun s2 h => ?_) (fun s2 h => ?_)
    · skip
      refine g_if_eq X (tgt := 44) dX0_shiftInto_25 (by decide) (by omega) (fun hc => absurd hc (by decide)) (fun _ => ?_)
      refine g_aload_n X 1 dX0_shiftInto_28 rfl ?_
      refine g_iload X 0 dX0_shiftInto_29 rfl ?_
      refine g_cVZ X (K := K_X0_hasPlace) [.int (iI (v4 - v3))] [.int (iI v4), .ref a1] dX0_shiftInto_31 lv_X0_65 rm_X0_shiftInto_X0_hasPlace ⟨by decide, by decide⟩ adA_id ha0 rfl rfl (Nat.le_of_ble_eq_true rfl) rfl h (fun s3 h => ?_) (fun s3 h => ?_)
      · skip
        refine g_if_eq X (tgt := 44) dX0_shiftInto_34 (by decide) (by omega) (fun hc => absurd hc (by decide)) (fun _ => ?_)
        refine g_aload_n X 3 dX0_shiftInto_37 rfl ?_
        refine g_iload X 0 dX0_shiftInto_38 rfl ?_
        obtain ⟨q4, h⟩ := h
        refine g_iald X dX0_shiftInto_40 ha2 q4.1 q4.2 ?_
        refine g_goto X (tgt := 45) dX0_shiftInto_41 (by decide) ?_
        obtain ⟨q5, h⟩ := h
        refine g_iast X dX0_shiftInto_45 ha1 q5.1 q5.2 ?_
        refine g_iinc X (x := v4) (lv' := [(4, .int (iI (v4 + 1))), (5, .int (iI (v4 - v3))), (0, .ref a0), (1, .ref a1), (2, .ref a2), (3, .int (iI v3))]) 5 dX0_shiftInto_46 rfl (by decide) rfl ?_
        refine g_goto X (tgt := 3) dX0_shiftInto_49 (by decide) ?_
        exact g_sub (lv' := [(0, .ref a0), (1, .ref a1), (2, .ref a2), (3, .int (iI v3)), (4, .int (iI (v4 + 1)))]) [2, 3, 4, 5, 0] rfl (h p l e s m args below meth c D cA ad X0 hr hlk)
      · skip
        refine g_if_eq X (tgt := 44) dX0_shiftInto_34 (by decide) (by omega) (fun _ => ?_) (fun hc => absurd hc (by decide))
        refine g_iconst X dX0_shiftInto_44 ?_
        obtain ⟨q6, h⟩ := h
        refine g_iast X dX0_shiftInto_45 ha1 q6.1 q6.2 ?_
        refine g_iinc X (x := v4) (lv' := [(4, .int (iI (v4 + 1))), (5, .int (iI (v4 - v3))), (0, .ref a0), (1, .ref a1), (2, .ref a2), (3, .int (iI v3))]) 5 dX0_shiftInto_46 rfl (by decide) rfl ?_
        refine g_goto X (tgt := 3) dX0_shiftInto_49 (by decide) ?_
        exact g_sub (lv' := [(0, .ref a0), (1, .ref a1), (2, .ref a2), (3, .int (iI v3)), (4, .int (iI (v4 + 1)))]) [2, 3, 4, 5, 0] rfl (h p l e s m args below meth c D cA ad X0 hr hlk)
    · skip
      refine g_if_eq X (tgt := 44) dX0_shiftInto_25 (by decide) (by omega) (fun _ => ?_) (fun hc => absurd hc (by decide))
      refine g_iconst X dX0_shiftInto_44 ?_
      obtain ⟨q7, h⟩ := h
      refine g_iast X dX0_shiftInto_45 ha1 q7.1 q7.2 ?_
      refine g_iinc X (x := v4) (lv' := [(4, .int (iI (v4 + 1))), (5, .int (iI (v4 - v3))), (0, .ref a0), (1, .ref a1), (2, .ref a2), (3, .int (iI v3))]) 5 dX0_shiftInto_46 rfl (by decide) rfl ?_
      refine g_goto X (tgt := 3) dX0_shiftInto_49 (by decide) ?_
      exact g_sub (lv' := [(0, .ref a0), (1, .ref a1), (2, .ref a2), (3, .int (iI v3)), (4, .int (iI (v4 + 1)))]) [2, 3, 4, 5, 0] rfl (h p l e s m args below meth c D cA ad X0 hr hlk)
theorem bX0_tell_0 {a0 : Nat} {v1 : Int} {v2 : Int} {σ : ASt} {Q : ASt → Prop} (ha0 : shp a0 = (0, 0, 0)) (h32v1 : i32 v1) (h : i32 ((if 8 < v1 then 8 else v1)) ∧ Wx K_X0_tell (QV Q) 24 [(0, .ref a0), (3, .int (iI v2)), (4, .int (iI ((gI (sI σ a0 3 (if 1 < (if 8 < v1 then 8 else v1) then (if 8 < v1 then 8 else v1) else 1)) a0 3) - 1)))] [] (sI σ a0 3 (if 1 < (if 8 < v1 then 8 else v1) then (if 8 < v1 then 8 else v1) else 1))) : Wx K_X0_tell (QV Q) 0 [(0, .ref a0), (1, .int (iI v1)), (2, .int (iI v2))] [] σ := by
  intro p l e s m args below meth c D cA ad X0 hr hlk
  have X : Cx p s m args c (adA ad) D cA ad RX0 cX0_tell 5 := X0
  refine g_aload_n X 0 dX0_tell_0 rfl ?_
  refine g_iconst X dX0_tell_1 ?_
  refine g_iload_n X 1 dX0_tell_2 rfl ?_
  refine g_bipush X dX0_tell_3 (by decide +kernel) ?_
  refine g_mmin X dX0_tell_5 lm_X0_31 (by decide) (Nat.le_of_ble_eq_true rfl) ⟨by decide, by decide⟩ h32v1 (by omega) ?_
  obtain ⟨q1, h⟩ := h
  refine g_mmax X dX0_tell_8 lm_X0_37 (by decide) (Nat.le_of_ble_eq_true rfl) ⟨by decide, by decide⟩ (by omega) q1 ?_
  refine g_putI X (j := 3) (z := 3) dX0_tell_11 lp_X0_40 ha0 rfl rfl ?_
  refine g_iload_n X 2 dX0_tell_14 rfl ?_
  refine g_istore_n X (lv' := [(3, .int (iI v2)), (0, .ref a0), (1, .int (iI v1)), (2, .int (iI v2))]) dX0_tell_15 (by decide) rfl ?_
  refine g_aload_n X 1 dX0_tell_16 rfl ?_
  refine g_getI X (z := 3) dX0_tell_17 lf_X0_40 ha0 rfl rfl ?_
  refine g_iconst X dX0_tell_20 ?_
  refine g_isub X dX0_tell_21 ?_
  refine g_istore X (lv' := [(4, .int (iI ((gI (sI σ a0 3 (if 1 < (if 8 < v1 then 8 else v1) then (if 8 < v1 then 8 else v1) else 1)) a0 3) - 1))), (3, .int (iI v2)), (0, .ref a0), (1, .int (iI v1)), (2, .int (iI v2))]) dX0_tell_22 (by decide) rfl ?_
  exact g_sub (lv' := [(0, .ref a0), (3, .int (iI v2)), (4, .int (iI ((gI (sI σ a0 3 (if 1 < (if 8 < v1 then 8 else v1) then (if 8 < v1 then 8 else v1) else 1)) a0 3) - 1)))]) [2, 1, 0] rfl (h p l e s m args below meth c D cA ad X0 hr hlk)
theorem eX0_tell {a0 : Nat} {v1 : Int} {v2 : Int} {σ : ASt} {Q : ASt → Prop} (ha0 : shp a0 = (0, 0, 0)) (h32v1 : i32 v1) (h : i32 ((if 8 < v1 then 8 else v1)) ∧ Wx K_X0_tell (QV Q) 24 [(0, .ref a0), (3, .int (iI v2)), (4, .int (iI ((gI (sI σ a0 3 (if 1 < (if 8 < v1 then 8 else v1) then (if 8 < v1 then 8 else v1) else 1)) a0 3) - 1)))] [] (sI σ a0 3 (if 1 < (if 8 < v1 then 8 else v1) then (if 8 < v1 then 8 else v1) else 1))) : EvV K_X0_tell [.ref a0, .int (iI v1), .int (iI v2)] σ Q := Ev.of rfl (Nat.le_of_ble_eq_true rfl) rfl (bX0_tell_0 ha0 h32v1 h)
theorem bX0_tell_24 {a0 : Nat} {v3 : Int} {v4 : Int} {σ : ASt} {Q : ASt → Prop} (ha0 : shp a0 = (0, 0, 0)) (h32v3 : i32 v3) (h32v4 : i32 v4) (h : ((v4 < 0 → Wx K_X0_tell (QV Q) 57 [(0, .ref a0), (4, .int (iI (gI σ a0 3)))] [] σ) ∧ (0 ≤ v4 → (0 ≤ v4 ∧ v4 < 43) ∧ Wx K_X0_tell (QV Q) 24 [(0, .ref a0), (3, .int (iI (Int.tdiv v3 10))), (4, .int (iI (v4 + (-1))))] [] (sI σ (a0 + 6) v4 (Int.tmod v3 10))))) : Wx K_X0_tell (QV Q) 24 [(0, .ref a0), (3, .int (iI v3)), (4, .int (iI v4))] [] σ := by
  intro p l e s m args below meth c D cA ad X0 hr hlk
  have X : Cx p s m args c (adA ad) D cA ad RX0 cX0_tell 5 := X0
  refine g_iload X 2 dX0_tell_24 rfl ?_
  refine g_if_lt X (tgt := 51) dX0_tell_26 (by decide) h32v4 (fun c1 => ?_) (fun c1 => ?_)
  · have h := h.1 c1
    refine g_aload_n X 0 dX0_tell_51 rfl ?_
    refine g_getI X (z := 3) dX0_tell_52 lf_X0_40 ha0 rfl rfl ?_
    refine g_istore X (lv' := [(4, .int (iI (gI σ a0 3))), (0, .ref a0), (3, .int (iI v3))]) dX0_tell_55 (by decide) rfl ?_
    exact g_sub (lv' := [(0, .ref a0), (4, .int (iI (gI σ a0 3)))]) [1, 0] rfl (h p l e s m args below meth c D cA ad X0 hr hlk)
  · have h := h.2 c1
    refine g_aload_n X 0 dX0_tell_29 rfl ?_
    refine g_getF X (f := (a0 + 6)) dX0_tell_30 lf_X0_9 ha0 rfl (fn_0_1 ha0) ?_
    refine g_iload X 2 dX0_tell_33 rfl ?_
    refine g_iload_n X 1 dX0_tell_35 rfl ?_
    refine g_bipush X dX0_tell_36 (by decide +kernel) ?_
    refine g_irem X dX0_tell_38 h32v3 (by omega) (by decide) ?_
    obtain ⟨q2, h⟩ := h
    refine g_iast X dX0_tell_39 (sf_0_1 ha0) q2.1 q2.2 ?_
    refine g_iload_n X 1 dX0_tell_40 rfl ?_
    refine g_bipush X dX0_tell_41 (by decide +kernel) ?_
    refine g_idiv X dX0_tell_43 h32v3 (by omega) (by decide) ?_
    refine g_istore_n X (lv' := [(3, .int (iI (Int.tdiv v3 10))), (0, .ref a0), (4, .int (iI v4))]) dX0_tell_44 (by decide) rfl ?_
    refine g_iinc X (x := v4) (lv' := [(4, .int (iI (v4 + (-1)))), (3, .int (iI (Int.tdiv v3 10))), (0, .ref a0)]) 2 dX0_tell_45 rfl (by decide) rfl ?_
    refine g_goto X (tgt := 24) dX0_tell_48 (by decide) ?_
    exact g_sub (lv' := [(0, .ref a0), (3, .int (iI (Int.tdiv v3 10))), (4, .int (iI (v4 + (-1))))]) [2, 1, 0] rfl (h p l e s m args below meth c D cA ad X0 hr hlk)
theorem bX0_tell_57 {a0 : Nat} {v4 : Int} {σ : ASt} {Q : ASt → Prop} (ha0 : shp a0 = (0, 0, 0)) (h32v4 : i32 v4) (h : ((43 ≤ v4 → EvV K_X0_makeWorths [.ref a0] σ (fun s2 => Q s2)) ∧ (v4 < 43 → (0 ≤ (v4 - (gI σ a0 3)) ∧ (v4 - (gI σ a0 3)) < 43) ∧ (0 ≤ v4 ∧ v4 < 43) ∧ Wx K_X0_tell (QV Q) 57 [(0, .ref a0), (4, .int (iI (v4 + 1)))] [] (sI σ (a0 + 6) v4 (gI σ (a0 + 6) (v4 - (gI σ a0 3))))))) : Wx K_X0_tell (QV Q) 57 [(0, .ref a0), (4, .int (iI v4))] [] σ := by
  intro p l e s m args below meth c D cA ad X0 hr hlk
  have X : Cx p s m args c (adA ad) D cA ad RX0 cX0_tell 5 := X0
  refine g_iload X 1 dX0_tell_57 rfl ?_
  refine g_aload_n X 0 dX0_tell_59 rfl ?_
  refine g_getF X (f := (a0 + 6)) dX0_tell_60 lf_X0_9 ha0 rfl (fn_0_1 ha0) ?_
  refine g_alen1 X (z := 43) dX0_tell_63 (sf_0_1 ha0) rfl ?_
  refine g_icmp_ge X (tgt := 92) dX0_tell_64 (by decide) h32v4 (by omega) (fun c1 => ?_) (fun c1 => ?_)
  · have h := h.1 c1
    refine g_aload_n X 0 dX0_tell_92 rfl ?_
    refine g_cVV X (K := K_X0_makeWorths) [] [] dX0_tell_93 lv_X0_43 rm_X0_tell_X0_makeWorths ⟨by decide, by decide⟩ adA_id ha0 rfl rfl (Nat.le_of_ble_eq_true rfl) rfl h (fun s2 h => ?_)
    exact g_vret X hr hlk dX0_tell_96 ⟨rfl, h⟩
  · have h := h.2 c1
    refine g_aload_n X 0 dX0_tell_67 rfl ?_
    refine g_getF X (f := (a0 + 6)) dX0_tell_68 lf_X0_9 ha0 rfl (fn_0_1 ha0) ?_
    refine g_iload X 1 dX0_tell_71 rfl ?_
    refine g_aload_n X 0 dX0_tell_73 rfl ?_
    refine g_getF X (f := (a0 + 6)) dX0_tell_74 lf_X0_9 ha0 rfl (fn_0_1 ha0) ?_
    refine g_iload X 1 dX0_tell_77 rfl ?_
    refine g_aload_n X 0 dX0_tell_79 rfl ?_
    refine g_getI X (z := 3) dX0_tell_80 lf_X0_40 ha0 rfl rfl ?_
    refine g_isub X dX0_tell_83 ?_
    obtain ⟨q3, h⟩ := h
    refine g_iald X dX0_tell_84 (sf_0_1 ha0) q3.1 q3.2 ?_
    obtain ⟨q4, h⟩ := h
    refine g_iast X dX0_tell_85 (sf_0_1 ha0) q4.1 q4.2 ?_
    refine g_iinc X (x := v4) (lv' := [(4, .int (iI (v4 + 1))), (0, .ref a0)]) 1 dX0_tell_86 rfl (by decide) rfl ?_
    refine g_goto X (tgt := 57) dX0_tell_89 (by decide) ?_
    exact g_sub (lv' := [(0, .ref a0), (4, .int (iI (v4 + 1)))]) [1, 0] rfl (h p l e s m args below meth c D cA ad X0 hr hlk)
theorem bX0_valueBelow_0 {a0 : Nat} {a1 : Nat} {v2 : Int} {σ : ASt} {Q : Int → ASt → Prop} (ha0 : shp a0 = (0, 0, 0)) (ha1 : shp a1 = (1, 0, 43)) (h : Wx K_X0_valueBelow (QL Q) 5 [(0, .ref a0), (1, .ref a1), (2, .int (iI v2)), (3, .long (lI 0)), (5, .int (iI 0))] [] σ) : Wx K_X0_valueBelow (QL Q) 0 [(0, .ref a0), (1, .ref a1), (2, .int (iI v2))] [] σ := by
  intro p l e s m args below meth c D cA ad X0 hr hlk
  have X : Cx p s m args c (adA ad) D cA ad RX0 cX0_valueBelow 6 := X0
  refine g_lconst X (z := 0) dX0_valueBelow_0 (by decide +kernel) ?_
  refine g_lstore_n X (lv' := [(3, .long (lI 0)), (0, .ref a0), (1, .ref a1), (2, .int (iI v2))]) dX0_valueBelow_1 (by decide) rfl ?_
  refine g_iconst X dX0_valueBelow_2 ?_
  refine g_istore X (lv' := [(5, .int (iI 0)), (3, .long (lI 0)), (0, .ref a0), (1, .ref a1), (2, .int (iI v2))]) dX0_valueBelow_3 (by decide) rfl ?_
  exact g_sub (lv' := [(0, .ref a0), (1, .ref a1), (2, .int (iI v2)), (3, .long (lI 0)), (5, .int (iI 0))]) [2, 3, 4, 1, 0] rfl (h p l e s m args below meth c D cA ad X0 hr hlk)
theorem eX0_valueBelow {a0 : Nat} {a1 : Nat} {v2 : Int} {σ : ASt} {Q : Int → ASt → Prop} (ha0 : shp a0 = (0, 0, 0)) (ha1 : shp a1 = (1, 0, 43)) (h : Wx K_X0_valueBelow (QL Q) 5 [(0, .ref a0), (1, .ref a1), (2, .int (iI v2)), (3, .long (lI 0)), (5, .int (iI 0))] [] σ) : EvL K_X0_valueBelow [.ref a0, .ref a1, .int (iI v2)] σ Q := Ev.of rfl (Nat.le_of_ble_eq_true rfl) rfl (bX0_valueBelow_0 ha0 ha1 h)
theorem bX0_valueBelow_5 {a0 : Nat} {a1 : Nat} {v2 : Int} {v3 : Int} {v5 : Int} {σ : ASt} {Q : Int → ASt → Prop} (ha0 : shp a0 = (0, 0, 0)) (ha1 : shp a1 = (1, 0, 43)) (h32v2 : i32 v2) (h32v5 : i32 v5) (h64v3 : i64 v3) (h : ((v2 ≤ v5 → Q v3 σ) ∧ (v5 < v2 → ((43 ≤ v5 → Q v3 σ) ∧ (v5 < 43 → ((43 ≤ v5 → Q v3 σ) ∧ (v5 < 43 → (0 ≤ v5 ∧ v5 < 43) ∧ i32 ((gI σ a1 v5)) ∧ Wx K_X0_valueBelow (QL Q) 5 [(0, .ref a0), (1, .ref a1), (2, .int (iI v2)), (3, .long (lI (v3 + ((gI σ a1 v5) * (gL σ (a0 + 12) v5))))), (5, .int (iI (v5 + 1)))] [] σ))))))) : Wx K_X0_valueBelow (QL Q) 5 [(0, .ref a0), (1, .ref a1), (2, .int (iI v2)), (3, .long (lI v3)), (5, .int (iI v5))] [] σ := by
  intro p l e s m args below meth c D cA ad X0 hr hlk
  have X : Cx p s m args c (adA ad) D cA ad RX0 cX0_valueBelow 6 := X0
  refine g_iload X 4 dX0_valueBelow_5 rfl ?_
  refine g_iload_n X 2 dX0_valueBelow_7 rfl ?_
  refine g_icmp_ge X (tgt := 50) dX0_valueBelow_8 (by decide) h32v5 h32v2 (fun c1 => ?_) (fun c1 => ?_)
  · have h := h.1 c1
    refine g_lload_n X 3 dX0_valueBelow_50 rfl ?_
    exact g_lret X hr hlk dX0_valueBelow_51 ⟨_, rfl, h64v3, h⟩
  · have h := h.2 c1
    refine g_iload X 4 dX0_valueBelow_11 rfl ?_
    refine g_aload_n X 1 dX0_valueBelow_13 rfl ?_
    refine g_alen1 X (z := 43) dX0_valueBelow_14 ha1 rfl ?_
    refine g_icmp_ge X (tgt := 50) dX0_valueBelow_15 (by decide) h32v5 (by omega) (fun c2 => ?_) (fun c2 => ?_)
    · have h := h.1 c2
      refine g_lload_n X 3 dX0_valueBelow_50 rfl ?_
      exact g_lret X hr hlk dX0_valueBelow_51 ⟨_, rfl, h64v3, h⟩
    · have h := h.2 c2
      refine g_iload X 4 dX0_valueBelow_18 rfl ?_
      refine g_aload_n X 0 dX0_valueBelow_20 rfl ?_
      refine g_getF X (f := (a0 + 12)) dX0_valueBelow_21 lf_X0_15 ha0 rfl (fn_0_2 ha0) ?_
      refine g_alen2 X (z := 43) dX0_valueBelow_24 (sf_0_2 ha0) rfl ?_
      refine g_icmp_ge X (tgt := 50) dX0_valueBelow_25 (by decide) h32v5 (by omega) (fun c3 => ?_) (fun c3 => ?_)
      · have h := h.1 c3
        refine g_lload_n X 3 dX0_valueBelow_50 rfl ?_
        exact g_lret X hr hlk dX0_valueBelow_51 ⟨_, rfl, h64v3, h⟩
      · have h := h.2 c3
        refine g_lload_n X 3 dX0_valueBelow_28 rfl ?_
        refine g_aload_n X 1 dX0_valueBelow_29 rfl ?_
        refine g_iload X 4 dX0_valueBelow_30 rfl ?_
        obtain ⟨q4, h⟩ := h
        refine g_iald X dX0_valueBelow_32 ha1 q4.1 q4.2 ?_
        obtain ⟨q5, h⟩ := h
        refine g_i2l X dX0_valueBelow_33 q5 ?_
        refine g_aload_n X 0 dX0_valueBelow_34 rfl ?_
        refine g_getF X (f := (a0 + 12)) dX0_valueBelow_35 lf_X0_15 ha0 rfl (fn_0_2 ha0) ?_
        refine g_iload X 4 dX0_valueBelow_38 rfl ?_
        refine g_lald X dX0_valueBelow_40 (sf_0_2 ha0) q4.1 q4.2 ?_
        refine g_lmul X dX0_valueBelow_41 ?_
        refine g_ladd X dX0_valueBelow_42 ?_
        refine g_lstore_n X (lv' := [(3, .long (lI (v3 + ((gI σ a1 v5) * (gL σ (a0 + 12) v5))))), (0, .ref a0), (1, .ref a1), (2, .int (iI v2)), (5, .int (iI v5))]) dX0_valueBelow_43 (by decide) rfl ?_
        refine g_iinc X (x := v5) (lv' := [(5, .int (iI (v5 + 1))), (3, .long (lI (v3 + ((gI σ a1 v5) * (gL σ (a0 + 12) v5))))), (0, .ref a0), (1, .ref a1), (2, .int (iI v2))]) 4 dX0_valueBelow_44 rfl (by decide) rfl ?_
        refine g_goto X (tgt := 5) dX0_valueBelow_47 (by decide) ?_
        exact g_sub (lv' := [(0, .ref a0), (1, .ref a1), (2, .int (iI v2)), (3, .long (lI (v3 + ((gI σ a1 v5) * (gL σ (a0 + 12) v5))))), (5, .int (iI (v5 + 1)))]) [2, 3, 4, 1, 0] rfl (h p l e s m args below meth c D cA ad X0 hr hlk)
theorem bX0_turnAhead_0 {a0 : Nat} {a1 : Nat} {v2 : Int} {σ : ASt} {Q : Int → ASt → Prop} (ha0 : shp a0 = (0, 0, 0)) (ha1 : shp a1 = (1, 0, 43)) (h32v2 : i32 v2) (h : EvZ K_X0_hasPlace [.ref a0, .int (iI v2)] σ (fun s1 => ((v2 ≤ 0 → (0 ≤ v2 ∧ v2 < 43) ∧ EvL K_X0_valueBelow [.ref a0, .ref a1, .int (iI v2)] s1 (fun x5 s4 => i32 ((gI s4 a1 v2)) ∧ (((gI s4 a1 v2) ≠ 0 → i64 (((gL s1 (a0 + 12) v2) - x5)) ∧ Q ((gL s1 (a0 + 12) v2) - x5) s4) ∧ ((gI s4 a1 v2) = 0 → EvZ K_X0_hasPlace [.ref a0, .int (iI (v2 + 1))] s4 (fun s10 => (0 ≤ (v2 + 1) ∧ (v2 + 1) < 43) ∧ i32 ((gI s10 a1 (v2 + 1))) ∧ i32 ((gI s10 (a0 + 6) (v2 + 1))) ∧ (((gI s10 a1 (v2 + 1)) ≠ (gI s10 (a0 + 6) (v2 + 1)) → i64 (((gL s1 (a0 + 12) v2) - x5)) ∧ Q ((gL s1 (a0 + 12) v2) - x5) s10) ∧ ((gI s10 a1 (v2 + 1)) = (gI s10 (a0 + 6) (v2 + 1)) → i64 ((((gL s1 (a0 + 12) v2) - x5) + (gL s10 (a0 + 12) v2))) ∧ Q (((gL s1 (a0 + 12) v2) - x5) + (gL s10 (a0 + 12) v2)) s10))) (fun s10 => i64 (((gL s1 (a0 + 12) v2) - x5)) ∧ Q ((gL s1 (a0 + 12) v2) - x5) s10))))) ∧ (0 < v2 → (0 ≤ v2 ∧ v2 < 43) ∧ i32 ((gI s1 a1 v2)) ∧ i32 ((gI s1 (a0 + 6) v2)) ∧ (((gI s1 a1 v2) ≠ (gI s1 (a0 + 6) v2) → EvL K_X0_valueBelow [.ref a0, .ref a1, .int (iI v2)] s1 (fun x23 s22 => i32 ((gI s22 a1 v2)) ∧ (((gI s22 a1 v2) ≠ 0 → i64 (((gL s1 (a0 + 12) v2) - x23)) ∧ Q ((gL s1 (a0 + 12) v2) - x23) s22) ∧ ((gI s22 a1 v2) = 0 → EvZ K_X0_hasPlace [.ref a0, .int (iI (v2 + 1))] s22 (fun s28 => (0 ≤ (v2 + 1) ∧ (v2 + 1) < 43) ∧ i32 ((gI s28 a1 (v2 + 1))) ∧ i32 ((gI s28 (a0 + 6) (v2 + 1))) ∧ (((gI s28 a1 (v2 + 1)) ≠ (gI s28 (a0 + 6) (v2 + 1)) → i64 (((gL s1 (a0 + 12) v2) - x23)) ∧ Q ((gL s1 (a0 + 12) v2) - x23) s28) ∧ ((gI s28 a1 (v2 + 1)) = (gI s28 (a0 + 6) (v2 + 1)) → i64 ((((gL s1 (a0 + 12) v2) - x23) + (gL s28 (a0 + 12) v2))) ∧ Q (((gL s1 (a0 + 12) v2) - x23) + (gL s28 (a0 + 12) v2)) s28))) (fun s28 => i64 (((gL s1 (a0 + 12) v2) - x23)) ∧ Q ((gL s1 (a0 + 12) v2) - x23) s28))))) ∧ ((gI s1 a1 v2) = (gI s1 (a0 + 6) v2) → (0 ≤ (v2 - 1) ∧ (v2 - 1) < 43) ∧ EvL K_X0_valueBelow [.ref a0, .ref a1, .int (iI v2)] s1 (fun x38 s37 => i32 ((gI s37 a1 v2)) ∧ (((gI s37 a1 v2) ≠ 0 → i64 (((gL s1 (a0 + 12) (v2 - 1)) - x38)) ∧ Q ((gL s1 (a0 + 12) (v2 - 1)) - x38) s37) ∧ ((gI s37 a1 v2) = 0 → EvZ K_X0_hasPlace [.ref a0, .int (iI (v2 + 1))] s37 (fun s43 => (0 ≤ (v2 + 1) ∧ (v2 + 1) < 43) ∧ i32 ((gI s43 a1 (v2 + 1))) ∧ i32 ((gI s43 (a0 + 6) (v2 + 1))) ∧ (((gI s43 a1 (v2 + 1)) ≠ (gI s43 (a0 + 6) (v2 + 1)) → i64 (((gL s1 (a0 + 12) (v2 - 1)) - x38)) ∧ Q ((gL s1 (a0 + 12) (v2 - 1)) - x38) s43) ∧ ((gI s43 a1 (v2 + 1)) = (gI s43 (a0 + 6) (v2 + 1)) → i64 ((((gL s1 (a0 + 12) (v2 - 1)) - x38) + (gL s43 (a0 + 12) v2))) ∧ Q (((gL s1 (a0 + 12) (v2 - 1)) - x38) + (gL s43 (a0 + 12) v2)) s43))) (fun s43 => i64 (((gL s1 (a0 + 12) (v2 - 1)) - x38)) ∧ Q ((gL s1 (a0 + 12) (v2 - 1)) - x38) s43))))))))) (fun s1 => Q (-9223372036854775808) s1)) : Wx K_X0_turnAhead (QL Q) 0 [(0, .ref a0), (1, .ref a1), (2, .int (iI v2))] [] σ := by
  intro p l e s m args below meth c D cA ad X0 hr hlk
  have X : Cx p s m args c (adA ad) D cA ad RX0 cX0_turnAhead 9 := X0
  refine g_aload_n X 0 dX0_turnAhead_0 rfl ?_
  refine g_iload_n X 2 dX0_turnAhead_1 rfl ?_
  refine g_cVZ X (K := K_X0_hasPlace) [.int (iI v2)] [] dX0_turnAhead_2 lv_X0_65 rm_X0_turnAhead_X0_hasPlace ⟨by decide, by decide⟩ adA_id ha0 rfl rfl (Nat.le_of_ble_eq_true rfl) rfl h (fun s1 h => ?_) (fun s1 h => ?_)
  · skip
    refine g_if_ne X (tgt := 12) dX0_turnAhead_5 (by decide) (by omega) (fun _ => ?_) (fun hc => absurd hc (by decide))
    refine g_iload_n X 2 dX0_turnAhead_12 rfl ?_
    refine g_if_le X (tgt := 32) dX0_turnAhead_13 (by decide) h32v2 (fun c2 => ?_) (fun c2 => ?_)
    · have h := h.1 c2
      refine g_iconst X dX0_turnAhead_32 ?_
      refine g_istore_n X (lv' := [(3, .int (iI 0)), (0, .ref a0), (1, .ref a1), (2, .int (iI v2))]) dX0_turnAhead_33 (by decide) rfl ?_
      refine g_iload_n X 0 dX0_turnAhead_34 rfl ?_
      refine g_if_eq X (tgt := 49) dX0_turnAhead_35 (by decide) (by omega) (fun _ => ?_) (fun hc => absurd hc (by decide))
      refine g_aload_n X 1 dX0_turnAhead_49 rfl ?_
      refine g_getF X (f := (a0 + 12)) dX0_turnAhead_50 lf_X0_15 ha0 rfl (fn_0_2 ha0) ?_
      refine g_iload_n X 3 dX0_turnAhead_53 rfl ?_
      obtain ⟨q3, h⟩ := h
      refine g_lald X dX0_turnAhead_54 (sf_0_2 ha0) q3.1 q3.2 ?_
      refine g_lstore X (lv' := [(4, .long (lI (gL s1 (a0 + 12) v2))), (3, .int (iI 0)), (0, .ref a0), (1, .ref a1), (2, .int (iI v2))]) dX0_turnAhead_55 (by decide) rfl ?_
      refine g_lload X 0 dX0_turnAhead_57 rfl ?_
      refine g_aload_n X 2 dX0_turnAhead_59 rfl ?_
      refine g_aload_n X 3 dX0_turnAhead_60 rfl ?_
      refine g_iload_n X 4 dX0_turnAhead_61 rfl ?_
      refine g_cVL X (K := K_X0_valueBelow) [.ref a1, .int (iI v2)] [.long (lI (gL s1 (a0 + 12) v2))] dX0_turnAhead_62 lv_X0_61 rm_X0_turnAhead_X0_valueBelow ⟨by decide, by decide⟩ adA_id ha0 rfl rfl (Nat.le_of_ble_eq_true rfl) rfl h (fun x5 s4 q6 h => ?_)
      refine g_lsub X dX0_turnAhead_65 ?_
      refine g_lstore X (lv' := [(6, .long (lI ((gL s1 (a0 + 12) v2) - x5))), (4, .long (lI (gL s1 (a0 + 12) v2))), (3, .int (iI 0)), (0, .ref a0), (1, .ref a1), (2, .int (iI v2))]) dX0_turnAhead_66 (by decide) rfl ?_
      refine g_aload_n X 4 dX0_turnAhead_68 rfl ?_
      refine g_iload_n X 5 dX0_turnAhead_69 rfl ?_
      refine g_iald X dX0_turnAhead_70 ha1 q3.1 q3.2 ?_
      obtain ⟨q7, h⟩ := h
      refine g_if_ne X (tgt := 104) dX0_turnAhead_71 (by decide) q7 (fun c8 => ?_) (fun c8 => ?_)
      · have h := h.1 c8
        refine g_iconst X dX0_turnAhead_104 ?_
        refine g_istore X (lv' := [(8, .int (iI 0)), (6, .long (lI ((gL s1 (a0 + 12) v2) - x5))), (4, .long (lI (gL s1 (a0 + 12) v2))), (3, .int (iI 0)), (0, .ref a0), (1, .ref a1), (2, .int (iI v2))]) dX0_turnAhead_105 (by decide) rfl ?_
        refine g_iload X 0 dX0_turnAhead_107 rfl ?_
        refine g_if_eq X (tgt := 124) dX0_turnAhead_109 (by decide) (by omega) (fun _ => ?_) (fun hc => absurd hc (by decide))
        refine g_lload X 1 dX0_turnAhead_124 rfl ?_
        obtain ⟨q9, h⟩ := h
        exact g_lret X hr hlk dX0_turnAhead_126 ⟨_, rfl, q9, h⟩
      · have h := h.2 c8
        refine g_aload_n X 3 dX0_turnAhead_74 rfl ?_
        refine g_iload_n X 5 dX0_turnAhead_75 rfl ?_
        refine g_iconst X dX0_turnAhead_76 ?_
        refine g_iadd X dX0_turnAhead_77 ?_
        refine g_cVZ X (K := K_X0_hasPlace) [.int (iI (v2 + 1))] [] dX0_turnAhead_78 lv_X0_65 rm_X0_turnAhead_X0_hasPlace ⟨by decide, by decide⟩ adA_id ha0 rfl rfl (Nat.le_of_ble_eq_true rfl) rfl h (fun s10 h => ?_) (fun s10 h => ?_)
        · skip
          refine g_if_eq X (tgt := 104) dX0_turnAhead_81 (by decide) (by omega) (fun hc => absurd hc (by decide)) (fun _ => ?_)
          refine g_aload_n X 4 dX0_turnAhead_84 rfl ?_
          refine g_iload_n X 5 dX0_turnAhead_85 rfl ?_
          refine g_iconst X dX0_turnAhead_86 ?_
          refine g_iadd X dX0_turnAhead_87 ?_
          obtain ⟨q11, h⟩ := h
          refine g_iald X dX0_turnAhead_88 ha1 q11.1 q11.2 ?_
          refine g_aload_n X 3 dX0_turnAhead_89 rfl ?_
          refine g_getF X (f := (a0 + 6)) dX0_turnAhead_90 lf_X0_9 ha0 rfl (fn_0_1 ha0) ?_
          refine g_iload_n X 5 dX0_turnAhead_93 rfl ?_
          refine g_iconst X dX0_turnAhead_94 ?_
          refine g_iadd X dX0_turnAhead_95 ?_
          refine g_iald X dX0_turnAhead_96 (sf_0_1 ha0) q11.1 q11.2 ?_
          obtain ⟨q12, h⟩ := h
          obtain ⟨q13, h⟩ := h
          refine g_icmp_ne X (tgt := 104) dX0_turnAhead_97 (by decide) q12 q13 (fun c14 => ?_) (fun c14 => ?_)
          · have h := h.1 c14
            refine g_iconst X dX0_turnAhead_104 ?_
            refine g_istore X (lv' := [(8, .int (iI 0)), (6, .long (lI ((gL s1 (a0 + 12) v2) - x5))), (4, .long (lI (gL s1 (a0 + 12) v2))), (3, .int (iI 0)), (0, .ref a0), (1, .ref a1), (2, .int (iI v2))]) dX0_turnAhead_105 (by decide) rfl ?_
            refine g_iload X 0 dX0_turnAhead_107 rfl ?_
            refine g_if_eq X (tgt := 124) dX0_turnAhead_109 (by decide) (by omega) (fun _ => ?_) (fun hc => absurd hc (by decide))
            refine g_lload X 1 dX0_turnAhead_124 rfl ?_
            obtain ⟨q15, h⟩ := h
            exact g_lret X hr hlk dX0_turnAhead_126 ⟨_, rfl, q15, h⟩
          · have h := h.2 c14
            refine g_iconst X dX0_turnAhead_100 ?_
            refine g_goto X (tgt := 105) dX0_turnAhead_101 (by decide) ?_
            refine g_istore X (lv' := [(8, .int (iI 1)), (6, .long (lI ((gL s1 (a0 + 12) v2) - x5))), (4, .long (lI (gL s1 (a0 + 12) v2))), (3, .int (iI 0)), (0, .ref a0), (1, .ref a1), (2, .int (iI v2))]) dX0_turnAhead_105 (by decide) rfl ?_
            refine g_iload X 0 dX0_turnAhead_107 rfl ?_
            refine g_if_eq X (tgt := 124) dX0_turnAhead_109 (by decide) (by omega) (fun hc => absurd hc (by decide)) (fun _ => ?_)
            refine g_lload X 1 dX0_turnAhead_112 rfl ?_
            refine g_aload_n X 4 dX0_turnAhead_114 rfl ?_
            refine g_getF X (f := (a0 + 12)) dX0_turnAhead_115 lf_X0_15 ha0 rfl (fn_0_2 ha0) ?_
            refine g_iload_n X 6 dX0_turnAhead_118 rfl ?_
            refine g_lald X dX0_turnAhead_119 (sf_0_2 ha0) q3.1 q3.2 ?_
            refine g_ladd X dX0_turnAhead_120 ?_
            refine g_goto X (tgt := 126) dX0_turnAhead_121 (by decide) ?_
            obtain ⟨q16, h⟩ := h
            exact g_lret X hr hlk dX0_turnAhead_126 ⟨_, rfl, q16, h⟩
        · skip
          refine g_if_eq X (tgt := 104) dX0_turnAhead_81 (by decide) (by omega) (fun _ => ?_) (fun hc => absurd hc (by decide))
          refine g_iconst X dX0_turnAhead_104 ?_
          refine g_istore X (lv' := [(8, .int (iI 0)), (6, .long (lI ((gL s1 (a0 + 12) v2) - x5))), (4, .long (lI (gL s1 (a0 + 12) v2))), (3, .int (iI 0)), (0, .ref a0), (1, .ref a1), (2, .int (iI v2))]) dX0_turnAhead_105 (by decide) rfl ?_
          refine g_iload X 0 dX0_turnAhead_107 rfl ?_
          refine g_if_eq X (tgt := 124) dX0_turnAhead_109 (by decide) (by omega) (fun _ => ?_) (fun hc => absurd hc (by decide))
          refine g_lload X 1 dX0_turnAhead_124 rfl ?_
          obtain ⟨q17, h⟩ := h
          exact g_lret X hr hlk dX0_turnAhead_126 ⟨_, rfl, q17, h⟩
    · have h := h.2 c2
      refine g_aload_n X 1 dX0_turnAhead_16 rfl ?_
      refine g_iload_n X 2 dX0_turnAhead_17 rfl ?_
      obtain ⟨q18, h⟩ := h
      refine g_iald X dX0_turnAhead_18 ha1 q18.1 q18.2 ?_
      refine g_aload_n X 0 dX0_turnAhead_19 rfl ?_
      refine g_getF X (f := (a0 + 6)) dX0_turnAhead_20 lf_X0_9 ha0 rfl (fn_0_1 ha0) ?_
      refine g_iload_n X 2 dX0_turnAhead_23 rfl ?_
      refine g_iald X dX0_turnAhead_24 (sf_0_1 ha0) q18.1 q18.2 ?_
      obtain ⟨q19, h⟩ := h
      obtain ⟨q20, h⟩ := h
      refine g_icmp_ne X (tgt := 32) dX0_turnAhead_25 (by decide) q19 q20 (fun c21 => ?_) (fun c21 => ?_)
      · have h := h.1 c21
        refine g_iconst X dX0_turnAhead_32 ?_
        refine g_istore_n X (lv' := [(3, .int (iI 0)), (0, .ref a0), (1, .ref a1), (2, .int (iI v2))]) dX0_turnAhead_33 (by decide) rfl ?_
        refine g_iload_n X 0 dX0_turnAhead_34 rfl ?_
        refine g_if_eq X (tgt := 49) dX0_turnAhead_35 (by decide) (by omega) (fun _ => ?_) (fun hc => absurd hc (by decide))
        refine g_aload_n X 1 dX0_turnAhead_49 rfl ?_
        refine g_getF X (f := (a0 + 12)) dX0_turnAhead_50 lf_X0_15 ha0 rfl (fn_0_2 ha0) ?_
        refine g_iload_n X 3 dX0_turnAhead_53 rfl ?_
        refine g_lald X dX0_turnAhead_54 (sf_0_2 ha0) q18.1 q18.2 ?_
        refine g_lstore X (lv' := [(4, .long (lI (gL s1 (a0 + 12) v2))), (3, .int (iI 0)), (0, .ref a0), (1, .ref a1), (2, .int (iI v2))]) dX0_turnAhead_55 (by decide) rfl ?_
        refine g_lload X 0 dX0_turnAhead_57 rfl ?_
        refine g_aload_n X 2 dX0_turnAhead_59 rfl ?_
        refine g_aload_n X 3 dX0_turnAhead_60 rfl ?_
        refine g_iload_n X 4 dX0_turnAhead_61 rfl ?_
        refine g_cVL X (K := K_X0_valueBelow) [.ref a1, .int (iI v2)] [.long (lI (gL s1 (a0 + 12) v2))] dX0_turnAhead_62 lv_X0_61 rm_X0_turnAhead_X0_valueBelow ⟨by decide, by decide⟩ adA_id ha0 rfl rfl (Nat.le_of_ble_eq_true rfl) rfl h (fun x23 s22 q24 h => ?_)
        refine g_lsub X dX0_turnAhead_65 ?_
        refine g_lstore X (lv' := [(6, .long (lI ((gL s1 (a0 + 12) v2) - x23))), (4, .long (lI (gL s1 (a0 + 12) v2))), (3, .int (iI 0)), (0, .ref a0), (1, .ref a1), (2, .int (iI v2))]) dX0_turnAhead_66 (by decide) rfl ?_
        refine g_aload_n X 4 dX0_turnAhead_68 rfl ?_
        refine g_iload_n X 5 dX0_turnAhead_69 rfl ?_
        refine g_iald X dX0_turnAhead_70 ha1 q18.1 q18.2 ?_
        obtain ⟨q25, h⟩ := h
        refine g_if_ne X (tgt := 104) dX0_turnAhead_71 (by decide) q25 (fun c26 => ?_) (fun c26 => ?_)
        · have h := h.1 c26
          refine g_iconst X dX0_turnAhead_104 ?_
          refine g_istore X (lv' := [(8, .int (iI 0)), (6, .long (lI ((gL s1 (a0 + 12) v2) - x23))), (4, .long (lI (gL s1 (a0 + 12) v2))), (3, .int (iI 0)), (0, .ref a0), (1, .ref a1), (2, .int (iI v2))]) dX0_turnAhead_105 (by decide) rfl ?_
          refine g_iload X 0 dX0_turnAhead_107 rfl ?_
          refine g_if_eq X (tgt := 124) dX0_turnAhead_109 (by decide) (by omega) (fun _ => ?_) (fun hc => absurd hc (by decide))
          refine g_lload X 1 dX0_turnAhead_124 rfl ?_
          obtain ⟨q27, h⟩ := h
          exact g_lret X hr hlk dX0_turnAhead_126 ⟨_, rfl, q27, h⟩
        · have h := h.2 c26
          refine g_aload_n X 3 dX0_turnAhead_74 rfl ?_
          refine g_iload_n X 5 dX0_turnAhead_75 rfl ?_
          refine g_iconst X dX0_turnAhead_76 ?_
          refine g_iadd X dX0_turnAhead_77 ?_
          refine g_cVZ X (K := K_X0_hasPlace) [.int (iI (v2 + 1))] [] dX0_turnAhead_78 lv_X0_65 rm_X0_turnAhead_X0_hasPlace ⟨by decide, by decide⟩ adA_id ha0 rfl rfl (Nat.le_of_ble_eq_true rfl) rfl h (fun s28 h => ?_) (fun s28 h => ?_)
          · skip
            refine g_if_eq X (tgt := 104) dX0_turnAhead_81 (by decide) (by omega) (fun hc => absurd hc (by decide)) (fun _ => ?_)
            refine g_aload_n X 4 dX0_turnAhead_84 rfl ?_
            refine g_iload_n X 5 dX0_turnAhead_85 rfl ?_
            refine g_iconst X dX0_turnAhead_86 ?_
            refine g_iadd X dX0_turnAhead_87 ?_
            obtain ⟨q29, h⟩ := h
            refine g_iald X dX0_turnAhead_88 ha1 q29.1 q29.2 ?_
            refine g_aload_n X 3 dX0_turnAhead_89 rfl ?_
            refine g_getF X (f := (a0 + 6)) dX0_turnAhead_90 lf_X0_9 ha0 rfl (fn_0_1 ha0) ?_
            refine g_iload_n X 5 dX0_turnAhead_93 rfl ?_
            refine g_iconst X dX0_turnAhead_94 ?_
            refine g_iadd X dX0_turnAhead_95 ?_
            refine g_iald X dX0_turnAhead_96 (sf_0_1 ha0) q29.1 q29.2 ?_
            obtain ⟨q30, h⟩ := h
            obtain ⟨q31, h⟩ := h
            refine g_icmp_ne X (tgt := 104) dX0_turnAhead_97 (by decide) q30 q31 (fun c32 => ?_) (fun c32 => ?_)
            · have h := h.1 c32
              refine g_iconst X dX0_turnAhead_104 ?_
              refine g_istore X (lv' := [(8, .int (iI 0)), (6, .long (lI ((gL s1 (a0 + 12) v2) - x23))), (4, .long (lI (gL s1 (a0 + 12) v2))), (3, .int (iI 0)), (0, .ref a0), (1, .ref a1), (2, .int (iI v2))]) dX0_turnAhead_105 (by decide) rfl ?_
              refine g_iload X 0 dX0_turnAhead_107 rfl ?_
              refine g_if_eq X (tgt := 124) dX0_turnAhead_109 (by decide) (by omega) (fun _ => ?_) (fun hc => absurd hc (by decide))
              refine g_lload X 1 dX0_turnAhead_124 rfl ?_
              obtain ⟨q33, h⟩ := h
              exact g_lret X hr hlk dX0_turnAhead_126 ⟨_, rfl, q33, h⟩
            · have h := h.2 c32
              refine g_iconst X dX0_turnAhead_100 ?_
              refine g_goto X (tgt := 105) dX0_turnAhead_101 (by decide) ?_
              refine g_istore X (lv' := [(8, .int (iI 1)), (6, .long (lI ((gL s1 (a0 + 12) v2) - x23))), (4, .long (lI (gL s1 (a0 + 12) v2))), (3, .int (iI 0)), (0, .ref a0), (1, .ref a1), (2, .int (iI v2))]) dX0_turnAhead_105 (by decide) rfl ?_
              refine g_iload X 0 dX0_turnAhead_107 rfl ?_
              refine g_if_eq X (tgt := 124) dX0_turnAhead_109 (by decide) (by omega) (fun hc => absurd hc (by decide)) (fun _ => ?_)
              refine g_lload X 1 dX0_turnAhead_112 rfl ?_
              refine g_aload_n X 4 dX0_turnAhead_114 rfl ?_
              refine g_getF X (f := (a0 + 12)) dX0_turnAhead_115 lf_X0_15 ha0 rfl (fn_0_2 ha0) ?_
              refine g_iload_n X 6 dX0_turnAhead_118 rfl ?_
              refine g_lald X dX0_turnAhead_119 (sf_0_2 ha0) q18.1 q18.2 ?_
              refine g_ladd X dX0_turnAhead_120 ?_
              refine g_goto X (tgt := 126) dX0_turnAhead_121 (by decide) ?_
              obtain ⟨q34, h⟩ := h
              exact g_lret X hr hlk dX0_turnAhead_126 ⟨_, rfl, q34, h⟩
          · skip
            refine g_if_eq X (tgt := 104) dX0_turnAhead_81 (by decide) (by omega) (fun _ => ?_) (fun hc => absurd hc (by decide))
            refine g_iconst X dX0_turnAhead_104 ?_
            refine g_istore X (lv' := [(8, .int (iI 0)), (6, .long (lI ((gL s1 (a0 + 12) v2) - x23))), (4, .long (lI (gL s1 (a0 + 12) v2))), (3, .int (iI 0)), (0, .ref a0), (1, .ref a1), (2, .int (iI v2))]) dX0_turnAhead_105 (by decide) rfl ?_
            refine g_iload X 0 dX0_turnAhead_107 rfl ?_
            refine g_if_eq X (tgt := 124) dX0_turnAhead_109 (by decide) (by omega) (fun _ => ?_) (fun hc => absurd hc (by decide))
            refine g_lload X 1 dX0_turnAhead_124 rfl ?_
            obtain ⟨q35, h⟩ := h
            exact g_lret X hr hlk dX0_turnAhead_126 ⟨_, rfl, q35, h⟩
      · have h := h.2 c21
        refine g_iconst X dX0_turnAhead_28 ?_
        refine g_goto X (tgt := 33) dX0_turnAhead_29 (by decide) ?_
        refine g_istore_n X (lv' := [(3, .int (iI 1)), (0, .ref a0), (1, .ref a1), (2, .int (iI v2))]) dX0_turnAhead_33 (by decide) rfl ?_
        refine g_iload_n X 0 dX0_turnAhead_34 rfl ?_
        refine g_if_eq X (tgt := 49) dX0_turnAhead_35 (by decide) (by omega) (fun hc => absurd hc (by decide)) (fun _ => ?_)
        refine g_aload_n X 1 dX0_turnAhead_38 rfl ?_
        refine g_getF X (f := (a0 + 12)) dX0_turnAhead_39 lf_X0_15 ha0 rfl (fn_0_2 ha0) ?_
        refine g_iload_n X 3 dX0_turnAhead_42 rfl ?_
        refine g_iconst X dX0_turnAhead_43 ?_
        refine g_isub X dX0_turnAhead_44 ?_
        obtain ⟨q36, h⟩ := h
        refine g_lald X dX0_turnAhead_45 (sf_0_2 ha0) q36.1 q36.2 ?_
        refine g_goto X (tgt := 55) dX0_turnAhead_46 (by decide) ?_
        refine g_lstore X (lv' := [(4, .long (lI (gL s1 (a0 + 12) (v2 - 1)))), (3, .int (iI 1)), (0, .ref a0), (1, .ref a1), (2, .int (iI v2))]) dX0_turnAhead_55 (by decide) rfl ?_
        refine g_lload X 0 dX0_turnAhead_57 rfl ?_
        refine g_aload_n X 2 dX0_turnAhead_59 rfl ?_
        refine g_aload_n X 3 dX0_turnAhead_60 rfl ?_
        refine g_iload_n X 4 dX0_turnAhead_61 rfl ?_
        refine g_cVL X (K := K_X0_valueBelow) [.ref a1, .int (iI v2)] [.long (lI (gL s1 (a0 + 12) (v2 - 1)))] dX0_turnAhead_62 lv_X0_61 rm_X0_turnAhead_X0_valueBelow ⟨by decide, by decide⟩ adA_id ha0 rfl rfl (Nat.le_of_ble_eq_true rfl) rfl h (fun x38 s37 q39 h => ?_)
        refine g_lsub X dX0_turnAhead_65 ?_
        refine g_lstore X (lv' := [(6, .long (lI ((gL s1 (a0 + 12) (v2 - 1)) - x38))), (4, .long (lI (gL s1 (a0 + 12) (v2 - 1)))), (3, .int (iI 1)), (0, .ref a0), (1, .ref a1), (2, .int (iI v2))]) dX0_turnAhead_66 (by decide) rfl ?_
        refine g_aload_n X 4 dX0_turnAhead_68 rfl ?_
        refine g_iload_n X 5 dX0_turnAhead_69 rfl ?_
        refine g_iald X dX0_turnAhead_70 ha1 q18.1 q18.2 ?_
        obtain ⟨q40, h⟩ := h
        refine g_if_ne X (tgt := 104) dX0_turnAhead_71 (by decide) q40 (fun c41 => ?_) (fun c41 => ?_)
        · have h := h.1 c41
          refine g_iconst X dX0_turnAhead_104 ?_
          refine g_istore X (lv' := [(8, .int (iI 0)), (6, .long (lI ((gL s1 (a0 + 12) (v2 - 1)) - x38))), (4, .long (lI (gL s1 (a0 + 12) (v2 - 1)))), (3, .int (iI 1)), (0, .ref a0), (1, .ref a1), (2, .int (iI v2))]) dX0_turnAhead_105 (by decide) rfl ?_
          refine g_iload X 0 dX0_turnAhead_107 rfl ?_
          refine g_if_eq X (tgt := 124) dX0_turnAhead_109 (by decide) (by omega) (fun _ => ?_) (fun hc => absurd hc (by decide))
          refine g_lload X 1 dX0_turnAhead_124 rfl ?_
          obtain ⟨q42, h⟩ := h
          exact g_lret X hr hlk dX0_turnAhead_126 ⟨_, rfl, q42, h⟩
        · have h := h.2 c41
          refine g_aload_n X 3 dX0_turnAhead_74 rfl ?_
          refine g_iload_n X 5 dX0_turnAhead_75 rfl ?_
          refine g_iconst X dX0_turnAhead_76 ?_
          refine g_iadd X dX0_turnAhead_77 ?_
          refine g_cVZ X (K := K_X0_hasPlace) [.int (iI (v2 + 1))] [] dX0_turnAhead_78 lv_X0_65 rm_X0_turnAhead_X0_hasPlace ⟨by decide, by decide⟩ adA_id ha0 rfl rfl (Nat.le_of_ble_eq_true rfl) rfl h (fun s43 h => ?_) (fun s43 h => ?_)
          · skip
            refine g_if_eq X (tgt := 104) dX0_turnAhead_81 (by decide) (by omega) (fun hc => absurd hc (by decide)) (fun _ => ?_)
            refine g_aload_n X 4 dX0_turnAhead_84 rfl ?_
            refine g_iload_n X 5 dX0_turnAhead_85 rfl ?_
            refine g_iconst X dX0_turnAhead_86 ?_
            refine g_iadd X dX0_turnAhead_87 ?_
            obtain ⟨q44, h⟩ := h
            refine g_iald X dX0_turnAhead_88 ha1 q44.1 q44.2 ?_
            refine g_aload_n X 3 dX0_turnAhead_89 rfl ?_
            refine g_getF X (f := (a0 + 6)) dX0_turnAhead_90 lf_X0_9 ha0 rfl (fn_0_1 ha0) ?_
            refine g_iload_n X 5 dX0_turnAhead_93 rfl ?_
            refine g_iconst X dX0_turnAhead_94 ?_
            refine g_iadd X dX0_turnAhead_95 ?_
            refine g_iald X dX0_turnAhead_96 (sf_0_1 ha0) q44.1 q44.2 ?_
            obtain ⟨q45, h⟩ := h
            obtain ⟨q46, h⟩ := h
            refine g_icmp_ne X (tgt := 104) dX0_turnAhead_97 (by decide) q45 q46 (fun c47 => ?_) (fun c47 => ?_)
            · have h := h.1 c47
              refine g_iconst X dX0_turnAhead_104 ?_
              refine g_istore X (lv' := [(8, .int (iI 0)), (6, .long (lI ((gL s1 (a0 + 12) (v2 - 1)) - x38))), (4, .long (lI (gL s1 (a0 + 12) (v2 - 1)))), (3, .int (iI 1)), (0, .ref a0), (1, .ref a1), (2, .int (iI v2))]) dX0_turnAhead_105 (by decide) rfl ?_
              refine g_iload X 0 dX0_turnAhead_107 rfl ?_
              refine g_if_eq X (tgt := 124) dX0_turnAhead_109 (by decide) (by omega) (fun _ => ?_) (fun hc => absurd hc (by decide))
              refine g_lload X 1 dX0_turnAhead_124 rfl ?_
              obtain ⟨q48, h⟩ := h
              exact g_lret X hr hlk dX0_turnAhead_126 ⟨_, rfl, q48, h⟩
            · have h := h.2 c47
              refine g_iconst X dX0_turnAhead_100 ?_
              refine g_goto X (tgt := 105) dX0_turnAhead_101 (by decide) ?_
              refine g_istore X (lv' := [(8, .int (iI 1)), (6, .long (lI ((gL s1 (a0 + 12) (v2 - 1)) - x38))), (4, .long (lI (gL s1 (a0 + 12) (v2 - 1)))), (3, .int (iI 1)), (0, .ref a0), (1, .ref a1), (2, .int (iI v2))]) dX0_turnAhead_105 (by decide) rfl ?_
              refine g_iload X 0 dX0_turnAhead_107 rfl ?_
              refine g_if_eq X (tgt := 124) dX0_turnAhead_109 (by decide) (by omega) (fun hc => absurd hc (by decide)) (fun _ => ?_)
              refine g_lload X 1 dX0_turnAhead_112 rfl ?_
              refine g_aload_n X 4 dX0_turnAhead_114 rfl ?_
              refine g_getF X (f := (a0 + 12)) dX0_turnAhead_115 lf_X0_15 ha0 rfl (fn_0_2 ha0) ?_
              refine g_iload_n X 6 dX0_turnAhead_118 rfl ?_
              refine g_lald X dX0_turnAhead_119 (sf_0_2 ha0) q18.1 q18.2 ?_
              refine g_ladd X dX0_turnAhead_120 ?_
              refine g_goto X (tgt := 126) dX0_turnAhead_121 (by decide) ?_
              obtain ⟨q49, h⟩ := h
              exact g_lret X hr hlk dX0_turnAhead_126 ⟨_, rfl, q49, h⟩
          · skip
            refine g_if_eq X (tgt := 104) dX0_turnAhead_81 (by decide) (by omega) (fun _ => ?_) (fun hc => absurd hc (by decide))
            refine g_iconst X dX0_turnAhead_104 ?_
            refine g_istore X (lv' := [(8, .int (iI 0)), (6, .long (lI ((gL s1 (a0 + 12) (v2 - 1)) - x38))), (4, .long (lI (gL s1 (a0 + 12) (v2 - 1)))), (3, .int (iI 1)), (0, .ref a0), (1, .ref a1), (2, .int (iI v2))]) dX0_turnAhead_105 (by decide) rfl ?_
            refine g_iload X 0 dX0_turnAhead_107 rfl ?_
            refine g_if_eq X (tgt := 124) dX0_turnAhead_109 (by decide) (by omega) (fun _ => ?_) (fun hc => absurd hc (by decide))
            refine g_lload X 1 dX0_turnAhead_124 rfl ?_
            obtain ⟨q50, h⟩ := h
            exact g_lret X hr hlk dX0_turnAhead_126 ⟨_, rfl, q50, h⟩
  · skip
    refine g_if_ne X (tgt := 12) dX0_turnAhead_5 (by decide) (by omega) (fun hc => absurd hc (by decide)) (fun _ => ?_)
    refine g_ldc2 X (z := (-9223372036854775808)) dX0_turnAhead_8 lc_X0_88 (by decide +kernel) ?_
    exact g_lret X hr hlk dX0_turnAhead_11 ⟨_, rfl, (by omega), h⟩
theorem eX0_turnAhead {a0 : Nat} {a1 : Nat} {v2 : Int} {σ : ASt} {Q : Int → ASt → Prop} (ha0 : shp a0 = (0, 0, 0)) (ha1 : shp a1 = (1, 0, 43)) (h32v2 : i32 v2) (h : EvZ K_X0_hasPlace [.ref a0, .int (iI v2)] σ (fun s1 => ((v2 ≤ 0 → (0 ≤ v2 ∧ v2 < 43) ∧ EvL K_X0_valueBelow [.ref a0, .ref a1, .int (iI v2)] s1 (fun x5 s4 => i32 ((gI s4 a1 v2)) ∧ (((gI s4 a1 v2) ≠ 0 → i64 (((gL s1 (a0 + 12) v2) - x5)) ∧ Q ((gL s1 (a0 + 12) v2) - x5) s4) ∧ ((gI s4 a1 v2) = 0 → EvZ K_X0_hasPlace [.ref a0, .int (iI (v2 + 1))] s4 (fun s10 => (0 ≤ (v2 + 1) ∧ (v2 + 1) < 43) ∧ i32 ((gI s10 a1 (v2 + 1))) ∧ i32 ((gI s10 (a0 + 6) (v2 + 1))) ∧ (((gI s10 a1 (v2 + 1)) ≠ (gI s10 (a0 + 6) (v2 + 1)) → i64 (((gL s1 (a0 + 12) v2) - x5)) ∧ Q ((gL s1 (a0 + 12) v2) - x5) s10) ∧ ((gI s10 a1 (v2 + 1)) = (gI s10 (a0 + 6) (v2 + 1)) → i64 ((((gL s1 (a0 + 12) v2) - x5) + (gL s10 (a0 + 12) v2))) ∧ Q (((gL s1 (a0 + 12) v2) - x5) + (gL s10 (a0 + 12) v2)) s10))) (fun s10 => i64 (((gL s1 (a0 + 12) v2) - x5)) ∧ Q ((gL s1 (a0 + 12) v2) - x5) s10))))) ∧ (0 < v2 → (0 ≤ v2 ∧ v2 < 43) ∧ i32 ((gI s1 a1 v2)) ∧ i32 ((gI s1 (a0 + 6) v2)) ∧ (((gI s1 a1 v2) ≠ (gI s1 (a0 + 6) v2) → EvL K_X0_valueBelow [.ref a0, .ref a1, .int (iI v2)] s1 (fun x23 s22 => i32 ((gI s22 a1 v2)) ∧ (((gI s22 a1 v2) ≠ 0 → i64 (((gL s1 (a0 + 12) v2) - x23)) ∧ Q ((gL s1 (a0 + 12) v2) - x23) s22) ∧ ((gI s22 a1 v2) = 0 → EvZ K_X0_hasPlace [.ref a0, .int (iI (v2 + 1))] s22 (fun s28 => (0 ≤ (v2 + 1) ∧ (v2 + 1) < 43) ∧ i32 ((gI s28 a1 (v2 + 1))) ∧ i32 ((gI s28 (a0 + 6) (v2 + 1))) ∧ (((gI s28 a1 (v2 + 1)) ≠ (gI s28 (a0 + 6) (v2 + 1)) → i64 (((gL s1 (a0 + 12) v2) - x23)) ∧ Q ((gL s1 (a0 + 12) v2) - x23) s28) ∧ ((gI s28 a1 (v2 + 1)) = (gI s28 (a0 + 6) (v2 + 1)) → i64 ((((gL s1 (a0 + 12) v2) - x23) + (gL s28 (a0 + 12) v2))) ∧ Q (((gL s1 (a0 + 12) v2) - x23) + (gL s28 (a0 + 12) v2)) s28))) (fun s28 => i64 (((gL s1 (a0 + 12) v2) - x23)) ∧ Q ((gL s1 (a0 + 12) v2) - x23) s28))))) ∧ ((gI s1 a1 v2) = (gI s1 (a0 + 6) v2) → (0 ≤ (v2 - 1) ∧ (v2 - 1) < 43) ∧ EvL K_X0_valueBelow [.ref a0, .ref a1, .int (iI v2)] s1 (fun x38 s37 => i32 ((gI s37 a1 v2)) ∧ (((gI s37 a1 v2) ≠ 0 → i64 (((gL s1 (a0 + 12) (v2 - 1)) - x38)) ∧ Q ((gL s1 (a0 + 12) (v2 - 1)) - x38) s37) ∧ ((gI s37 a1 v2) = 0 → EvZ K_X0_hasPlace [.ref a0, .int (iI (v2 + 1))] s37 (fun s43 => (0 ≤ (v2 + 1) ∧ (v2 + 1) < 43) ∧ i32 ((gI s43 a1 (v2 + 1))) ∧ i32 ((gI s43 (a0 + 6) (v2 + 1))) ∧ (((gI s43 a1 (v2 + 1)) ≠ (gI s43 (a0 + 6) (v2 + 1)) → i64 (((gL s1 (a0 + 12) (v2 - 1)) - x38)) ∧ Q ((gL s1 (a0 + 12) (v2 - 1)) - x38) s43) ∧ ((gI s43 a1 (v2 + 1)) = (gI s43 (a0 + 6) (v2 + 1)) → i64 ((((gL s1 (a0 + 12) (v2 - 1)) - x38) + (gL s43 (a0 + 12) v2))) ∧ Q (((gL s1 (a0 + 12) (v2 - 1)) - x38) + (gL s43 (a0 + 12) v2)) s43))) (fun s43 => i64 (((gL s1 (a0 + 12) (v2 - 1)) - x38)) ∧ Q ((gL s1 (a0 + 12) (v2 - 1)) - x38) s43))))))))) (fun s1 => Q (-9223372036854775808) s1)) : EvL K_X0_turnAhead [.ref a0, .ref a1, .int (iI v2)] σ Q := Ev.of rfl (Nat.le_of_ble_eq_true rfl) rfl (bX0_turnAhead_0 ha0 ha1 h32v2 h)
theorem bX0_valueOf_0 {a0 : Nat} {a1 : Nat} {σ : ASt} {Q : Int → ASt → Prop} (ha0 : shp a0 = (0, 0, 0)) (ha1 : shp a1 = (1, 0, 43)) (h : EvL K_X0_valueBelow [.ref a0, .ref a1, .int (iI (gI σ a0 4))] σ (fun x2 s1 => Q x2 s1)) : Wx K_X0_valueOf (QL Q) 0 [(0, .ref a0), (1, .ref a1)] [] σ := by
  intro p l e s m args below meth c D cA ad X0 hr hlk
  have X : Cx p s m args c (adA ad) D cA ad RX0 cX0_valueOf 2 := X0
  refine g_aload_n X 0 dX0_valueOf_0 rfl ?_
  refine g_aload_n X 1 dX0_valueOf_1 rfl ?_
  refine g_aload_n X 0 dX0_valueOf_2 rfl ?_
  refine g_getI X (z := 4) dX0_valueOf_3 lf_X0_48 ha0 rfl rfl ?_
  refine g_cVL X (K := K_X0_valueBelow) [.ref a1, .int (iI (gI σ a0 4))] [] dX0_valueOf_6 lv_X0_61 rm_X0_valueOf_X0_valueBelow ⟨by decide, by decide⟩ adA_id ha0 rfl rfl (Nat.le_of_ble_eq_true rfl) rfl h (fun x2 s1 q3 h => ?_)
  exact g_lret X hr hlk dX0_valueOf_9 ⟨_, rfl, q3, h⟩
theorem eX0_valueOf {a0 : Nat} {a1 : Nat} {σ : ASt} {Q : Int → ASt → Prop} (ha0 : shp a0 = (0, 0, 0)) (ha1 : shp a1 = (1, 0, 43)) (h : EvL K_X0_valueBelow [.ref a0, .ref a1, .int (iI (gI σ a0 4))] σ (fun x2 s1 => Q x2 s1)) : EvL K_X0_valueOf [.ref a0, .ref a1] σ Q := Ev.of rfl (Nat.le_of_ble_eq_true rfl) rfl (bX0_valueOf_0 ha0 ha1 h)
end
